section
-- ===== PART A: goes FIRST, ahead of the names: the tables' words, and 'selects' of the private methods out of them =====
/-- a private method of a class that the tables say can be made, by its rows of tables_1 -/
def lw_okq (q : MethodName × Nat) : Prop := (q.1.cls ≠ "java/lang/invoke/MethodHandle" ∧ q.1.cls ≠ "java/lang/invoke/VarHandle") ∧ Cond.instantiable q.1.cls q.2 ∈ tables_1 ∧ Cond.privateMethod q.1 ∈ tables_1 ∧ Cond.instanceMethod q.1 ∈ tables_1
theorem lw_p0 : lw_okq (⟨"OctavianDesk$Text", "follow", "(II)I"⟩, 3) := ⟨⟨by decide +kernel, by decide +kernel⟩, List.mem_of_getElem? (i := 100) (by decide +kernel), List.mem_of_getElem? (i := 195) (by decide +kernel), List.mem_of_getElem? (i := 196) (by decide +kernel)⟩
theorem lw_p1 : lw_okq (⟨"OctavianDesk$Text", "followOperand", "(I)I"⟩, 3) := ⟨⟨by decide +kernel, by decide +kernel⟩, List.mem_of_getElem? (i := 100) (by decide +kernel), List.mem_of_getElem? (i := 205) (by decide +kernel), List.mem_of_getElem? (i := 206) (by decide +kernel)⟩
theorem lw_p2 : lw_okq (⟨"OctavianDesk$Text", "followFactor", "(I)I"⟩, 3) := ⟨⟨by decide +kernel, by decide +kernel⟩, List.mem_of_getElem? (i := 100) (by decide +kernel), List.mem_of_getElem? (i := 209) (by decide +kernel), List.mem_of_getElem? (i := 210) (by decide +kernel)⟩
theorem lw_p3 : lw_okq (⟨"OctavianDesk", "saveState", "()V"⟩, 10) := ⟨⟨by decide +kernel, by decide +kernel⟩, List.mem_of_getElem? (i := 22) (by decide +kernel), List.mem_of_getElem? (i := 213) (by decide +kernel), List.mem_of_getElem? (i := 214) (by decide +kernel)⟩
theorem lw_p4 : lw_okq (⟨"OctavianDesk$Calculator", "carryOutNext", "(LOctavianDesk$State;)Z"⟩, 7) := ⟨⟨by decide +kernel, by decide +kernel⟩, List.mem_of_getElem? (i := 119) (by decide +kernel), List.mem_of_getElem? (i := 228) (by decide +kernel), List.mem_of_getElem? (i := 229) (by decide +kernel)⟩
theorem lw_p5 : lw_okq (⟨"OctavianDesk$Calculator", "workSum", "(LOctavianDesk$State;I)Z"⟩, 7) := ⟨⟨by decide +kernel, by decide +kernel⟩, List.mem_of_getElem? (i := 119) (by decide +kernel), List.mem_of_getElem? (i := 233) (by decide +kernel), List.mem_of_getElem? (i := 234) (by decide +kernel)⟩
theorem lw_p6 : lw_okq (⟨"OctavianDesk$Calculator", "workTerm", "(LOctavianDesk$State;I)Z"⟩, 7) := ⟨⟨by decide +kernel, by decide +kernel⟩, List.mem_of_getElem? (i := 119) (by decide +kernel), List.mem_of_getElem? (i := 237) (by decide +kernel), List.mem_of_getElem? (i := 238) (by decide +kernel)⟩
theorem lw_p7 : lw_okq (⟨"OctavianDesk$Calculator", "workFactor", "(LOctavianDesk$State;I)Z"⟩, 7) := ⟨⟨by decide +kernel, by decide +kernel⟩, List.mem_of_getElem? (i := 119) (by decide +kernel), List.mem_of_getElem? (i := 241) (by decide +kernel), List.mem_of_getElem? (i := 242) (by decide +kernel)⟩
theorem lw_p8 : lw_okq (⟨"OctavianDesk$Calculator", "workOperand", "(LOctavianDesk$State;I)Z"⟩, 7) := ⟨⟨by decide +kernel, by decide +kernel⟩, List.mem_of_getElem? (i := 119) (by decide +kernel), List.mem_of_getElem? (i := 246) (by decide +kernel), List.mem_of_getElem? (i := 247) (by decide +kernel)⟩
theorem lw_p9 : lw_okq (⟨"OctavianDesk", "registersInOrder", "()I"⟩, 10) := ⟨⟨by decide +kernel, by decide +kernel⟩, List.mem_of_getElem? (i := 22) (by decide +kernel), List.mem_of_getElem? (i := 284) (by decide +kernel), List.mem_of_getElem? (i := 285) (by decide +kernel)⟩
theorem lw_p10 : lw_okq (⟨"OctavianDesk", "isInOrder", "(I)Z"⟩, 10) := ⟨⟨by decide +kernel, by decide +kernel⟩, List.mem_of_getElem? (i := 22) (by decide +kernel), List.mem_of_getElem? (i := 288) (by decide +kernel), List.mem_of_getElem? (i := 289) (by decide +kernel)⟩
theorem lw_p11 : lw_okq (⟨"OctavianDesk", "zeroRegisters", "()I"⟩, 10) := ⟨⟨by decide +kernel, by decide +kernel⟩, List.mem_of_getElem? (i := 22) (by decide +kernel), List.mem_of_getElem? (i := 309) (by decide +kernel), List.mem_of_getElem? (i := 310) (by decide +kernel)⟩
theorem lw_p12 : lw_okq (⟨"java/lang/Throwable", "fillInStackTrace", "(I)Ljava/lang/Throwable;"⟩, 6) := ⟨⟨by decide +kernel, by decide +kernel⟩, List.mem_of_getElem? (i := 359) (by decide +kernel), List.mem_of_getElem? (i := 357) (by decide +kernel), List.mem_of_getElem? (i := 358) (by decide +kernel)⟩
theorem lw_p13 : lw_okq (⟨"OctavianDesk", "presentUnits", "()LOctavianDesk$Units;"⟩, 10) := ⟨⟨by decide +kernel, by decide +kernel⟩, List.mem_of_getElem? (i := 22) (by decide +kernel), List.mem_of_getElem? (i := 423) (by decide +kernel), List.mem_of_getElem? (i := 424) (by decide +kernel)⟩
theorem lw_p14 : lw_okq (⟨"OctavianDesk$Units", "insert", "(I)V"⟩, 2) := ⟨⟨by decide +kernel, by decide +kernel⟩, List.mem_of_getElem? (i := 426) (by decide +kernel), List.mem_of_getElem? (i := 437) (by decide +kernel), List.mem_of_getElem? (i := 438) (by decide +kernel)⟩
theorem lw_p15 : lw_okq (⟨"OctavianDesk", "put", "(I)J"⟩, 10) := ⟨⟨by decide +kernel, by decide +kernel⟩, List.mem_of_getElem? (i := 22) (by decide +kernel), List.mem_of_getElem? (i := 557) (by decide +kernel), List.mem_of_getElem? (i := 558) (by decide +kernel)⟩
def lw_privs_1 : List (MethodName × Nat) := [(⟨"OctavianDesk$Text", "follow", "(II)I"⟩, 3), (⟨"OctavianDesk$Text", "followOperand", "(I)I"⟩, 3), (⟨"OctavianDesk$Text", "followFactor", "(I)I"⟩, 3), (⟨"OctavianDesk", "saveState", "()V"⟩, 10), (⟨"OctavianDesk$Calculator", "carryOutNext", "(LOctavianDesk$State;)Z"⟩, 7), (⟨"OctavianDesk$Calculator", "workSum", "(LOctavianDesk$State;I)Z"⟩, 7), (⟨"OctavianDesk$Calculator", "workTerm", "(LOctavianDesk$State;I)Z"⟩, 7), (⟨"OctavianDesk$Calculator", "workFactor", "(LOctavianDesk$State;I)Z"⟩, 7), (⟨"OctavianDesk$Calculator", "workOperand", "(LOctavianDesk$State;I)Z"⟩, 7), (⟨"OctavianDesk", "registersInOrder", "()I"⟩, 10), (⟨"OctavianDesk", "isInOrder", "(I)Z"⟩, 10), (⟨"OctavianDesk", "zeroRegisters", "()I"⟩, 10), (⟨"java/lang/Throwable", "fillInStackTrace", "(I)Ljava/lang/Throwable;"⟩, 6), (⟨"OctavianDesk", "presentUnits", "()LOctavianDesk$Units;"⟩, 10), (⟨"OctavianDesk$Units", "insert", "(I)V"⟩, 2), (⟨"OctavianDesk", "put", "(I)J"⟩, 10)]
theorem lw_r1 : ∀ q ∈ lw_privs_1, lw_okq q := List.forall_mem_cons.mpr ⟨lw_p0, List.forall_mem_cons.mpr ⟨lw_p1, List.forall_mem_cons.mpr ⟨lw_p2, List.forall_mem_cons.mpr ⟨lw_p3, List.forall_mem_cons.mpr ⟨lw_p4, List.forall_mem_cons.mpr ⟨lw_p5, List.forall_mem_cons.mpr ⟨lw_p6, List.forall_mem_cons.mpr ⟨lw_p7, List.forall_mem_cons.mpr ⟨lw_p8, List.forall_mem_cons.mpr ⟨lw_p9, List.forall_mem_cons.mpr ⟨lw_p10, List.forall_mem_cons.mpr ⟨lw_p11, List.forall_mem_cons.mpr ⟨lw_p12, List.forall_mem_cons.mpr ⟨lw_p13, List.forall_mem_cons.mpr ⟨lw_p14, List.forall_mem_cons.mpr ⟨lw_p15, fun _ h => absurd h List.not_mem_nil⟩⟩⟩⟩⟩⟩⟩⟩⟩⟩⟩⟩⟩⟩⟩⟩
theorem lw_p16 : lw_okq (⟨"OctavianDesk", "workAssociator", "(III)V"⟩, 10) := ⟨⟨by decide +kernel, by decide +kernel⟩, List.mem_of_getElem? (i := 22) (by decide +kernel), List.mem_of_getElem? (i := 592) (by decide +kernel), List.mem_of_getElem? (i := 593) (by decide +kernel)⟩
theorem lw_p17 : lw_okq (⟨"OctavianDesk", "needDivisible", "(II)V"⟩, 10) := ⟨⟨by decide +kernel, by decide +kernel⟩, List.mem_of_getElem? (i := 22) (by decide +kernel), List.mem_of_getElem? (i := 605) (by decide +kernel), List.mem_of_getElem? (i := 606) (by decide +kernel)⟩
theorem lw_p18 : lw_okq (⟨"OctavianDesk$Division", "findNearest", "(J)V"⟩, 9) := ⟨⟨by decide +kernel, by decide +kernel⟩, List.mem_of_getElem? (i := 62) (by decide +kernel), List.mem_of_getElem? (i := 633) (by decide +kernel), List.mem_of_getElem? (i := 634) (by decide +kernel)⟩
theorem lw_p19 : lw_okq (⟨"OctavianDesk$Division", "chooseQuotient", "(I)V"⟩, 9) := ⟨⟨by decide +kernel, by decide +kernel⟩, List.mem_of_getElem? (i := 62) (by decide +kernel), List.mem_of_getElem? (i := 641) (by decide +kernel), List.mem_of_getElem? (i := 642) (by decide +kernel)⟩
theorem lw_p20 : lw_okq (⟨"OctavianDesk", "associates", "(III)Z"⟩, 10) := ⟨⟨by decide +kernel, by decide +kernel⟩, List.mem_of_getElem? (i := 22) (by decide +kernel), List.mem_of_getElem? (i := 705) (by decide +kernel), List.mem_of_getElem? (i := 706) (by decide +kernel)⟩
theorem lw_p21 : lw_okq (⟨"OctavianDeskModel", "lays", "(III)V"⟩, 30) := ⟨⟨by decide +kernel, by decide +kernel⟩, List.mem_of_getElem? (i := 786) (by decide +kernel), List.mem_of_getElem? (i := 792) (by decide +kernel), List.mem_of_getElem? (i := 793) (by decide +kernel)⟩
theorem lw_p22 : lw_okq (⟨"OctavianDeskModel", "throwsAt", "(I)Z"⟩, 30) := ⟨⟨by decide +kernel, by decide +kernel⟩, List.mem_of_getElem? (i := 786) (by decide +kernel), List.mem_of_getElem? (i := 902) (by decide +kernel), List.mem_of_getElem? (i := 903) (by decide +kernel)⟩
theorem lw_p23 : lw_okq (⟨"OctavianDeskModel", "saves", "()V"⟩, 30) := ⟨⟨by decide +kernel, by decide +kernel⟩, List.mem_of_getElem? (i := 786) (by decide +kernel), List.mem_of_getElem? (i := 906) (by decide +kernel), List.mem_of_getElem? (i := 907) (by decide +kernel)⟩
theorem lw_p24 : lw_okq (⟨"OctavianDeskModel", "normOf", "(I)J"⟩, 30) := ⟨⟨by decide +kernel, by decide +kernel⟩, List.mem_of_getElem? (i := 786) (by decide +kernel), List.mem_of_getElem? (i := 914) (by decide +kernel), List.mem_of_getElem? (i := 915) (by decide +kernel)⟩
theorem lw_p25 : lw_okq (⟨"OctavianDeskModel", "takes", "([JI)V"⟩, 30) := ⟨⟨by decide +kernel, by decide +kernel⟩, List.mem_of_getElem? (i := 786) (by decide +kernel), List.mem_of_getElem? (i := 918) (by decide +kernel), List.mem_of_getElem? (i := 919) (by decide +kernel)⟩
theorem lw_p26 : lw_okq (⟨"OctavianDeskModel", "laysUnits", "()V"⟩, 30) := ⟨⟨by decide +kernel, by decide +kernel⟩, List.mem_of_getElem? (i := 786) (by decide +kernel), List.mem_of_getElem? (i := 933) (by decide +kernel), List.mem_of_getElem? (i := 934) (by decide +kernel)⟩
theorem lw_p27 : lw_okq (⟨"OctavianDeskModel", "isIn", "([JI)Z"⟩, 30) := ⟨⟨by decide +kernel, by decide +kernel⟩, List.mem_of_getElem? (i := 786) (by decide +kernel), List.mem_of_getElem? (i := 940) (by decide +kernel), List.mem_of_getElem? (i := 941) (by decide +kernel)⟩
theorem lw_p28 : lw_okq (⟨"OctavianDeskModel", "isSet", "(II)Z"⟩, 30) := ⟨⟨by decide +kernel, by decide +kernel⟩, List.mem_of_getElem? (i := 786) (by decide +kernel), List.mem_of_getElem? (i := 944) (by decide +kernel), List.mem_of_getElem? (i := 945) (by decide +kernel)⟩
theorem lw_p29 : lw_okq (⟨"OctavianDeskModel", "gives", "(I)J"⟩, 30) := ⟨⟨by decide +kernel, by decide +kernel⟩, List.mem_of_getElem? (i := 786) (by decide +kernel), List.mem_of_getElem? (i := 957) (by decide +kernel), List.mem_of_getElem? (i := 958) (by decide +kernel)⟩
theorem lw_p30 : lw_okq (⟨"OctavianDeskModel", "puts", "([JI)V"⟩, 30) := ⟨⟨by decide +kernel, by decide +kernel⟩, List.mem_of_getElem? (i := 786) (by decide +kernel), List.mem_of_getElem? (i := 961) (by decide +kernel), List.mem_of_getElem? (i := 962) (by decide +kernel)⟩
theorem lw_p31 : lw_okq (⟨"OctavianDeskModel", "times", "([J[J[J)V"⟩, 30) := ⟨⟨by decide +kernel, by decide +kernel⟩, List.mem_of_getElem? (i := 786) (by decide +kernel), List.mem_of_getElem? (i := 969) (by decide +kernel), List.mem_of_getElem? (i := 970) (by decide +kernel)⟩
def lw_privs_2 : List (MethodName × Nat) := [(⟨"OctavianDesk", "workAssociator", "(III)V"⟩, 10), (⟨"OctavianDesk", "needDivisible", "(II)V"⟩, 10), (⟨"OctavianDesk$Division", "findNearest", "(J)V"⟩, 9), (⟨"OctavianDesk$Division", "chooseQuotient", "(I)V"⟩, 9), (⟨"OctavianDesk", "associates", "(III)Z"⟩, 10), (⟨"OctavianDeskModel", "lays", "(III)V"⟩, 30), (⟨"OctavianDeskModel", "throwsAt", "(I)Z"⟩, 30), (⟨"OctavianDeskModel", "saves", "()V"⟩, 30), (⟨"OctavianDeskModel", "normOf", "(I)J"⟩, 30), (⟨"OctavianDeskModel", "takes", "([JI)V"⟩, 30), (⟨"OctavianDeskModel", "laysUnits", "()V"⟩, 30), (⟨"OctavianDeskModel", "isIn", "([JI)Z"⟩, 30), (⟨"OctavianDeskModel", "isSet", "(II)Z"⟩, 30), (⟨"OctavianDeskModel", "gives", "(I)J"⟩, 30), (⟨"OctavianDeskModel", "puts", "([JI)V"⟩, 30), (⟨"OctavianDeskModel", "times", "([J[J[J)V"⟩, 30)]
theorem lw_r2 : ∀ q ∈ lw_privs_2, lw_okq q := List.forall_mem_cons.mpr ⟨lw_p16, List.forall_mem_cons.mpr ⟨lw_p17, List.forall_mem_cons.mpr ⟨lw_p18, List.forall_mem_cons.mpr ⟨lw_p19, List.forall_mem_cons.mpr ⟨lw_p20, List.forall_mem_cons.mpr ⟨lw_p21, List.forall_mem_cons.mpr ⟨lw_p22, List.forall_mem_cons.mpr ⟨lw_p23, List.forall_mem_cons.mpr ⟨lw_p24, List.forall_mem_cons.mpr ⟨lw_p25, List.forall_mem_cons.mpr ⟨lw_p26, List.forall_mem_cons.mpr ⟨lw_p27, List.forall_mem_cons.mpr ⟨lw_p28, List.forall_mem_cons.mpr ⟨lw_p29, List.forall_mem_cons.mpr ⟨lw_p30, List.forall_mem_cons.mpr ⟨lw_p31, fun _ h => absurd h List.not_mem_nil⟩⟩⟩⟩⟩⟩⟩⟩⟩⟩⟩⟩⟩⟩⟩⟩
theorem lw_p32 : lw_okq (⟨"OctavianDeskModel", "commutes", "(II)V"⟩, 30) := ⟨⟨by decide +kernel, by decide +kernel⟩, List.mem_of_getElem? (i := 786) (by decide +kernel), List.mem_of_getElem? (i := 981) (by decide +kernel), List.mem_of_getElem? (i := 982) (by decide +kernel)⟩
theorem lw_p33 : lw_okq (⟨"OctavianDeskModel", "associates", "(III)V"⟩, 30) := ⟨⟨by decide +kernel, by decide +kernel⟩, List.mem_of_getElem? (i := 786) (by decide +kernel), List.mem_of_getElem? (i := 989) (by decide +kernel), List.mem_of_getElem? (i := 990) (by decide +kernel)⟩
theorem lw_p34 : lw_okq (⟨"OctavianDeskModel", "cannotDivide", "(II)Z"⟩, 30) := ⟨⟨by decide +kernel, by decide +kernel⟩, List.mem_of_getElem? (i := 786) (by decide +kernel), List.mem_of_getElem? (i := 997) (by decide +kernel), List.mem_of_getElem? (i := 998) (by decide +kernel)⟩
theorem lw_p35 : lw_okq (⟨"OctavianDeskModel", "divides", "()V"⟩, 30) := ⟨⟨by decide +kernel, by decide +kernel⟩, List.mem_of_getElem? (i := 786) (by decide +kernel), List.mem_of_getElem? (i := 1004) (by decide +kernel), List.mem_of_getElem? (i := 1005) (by decide +kernel)⟩
theorem lw_p36 : lw_okq (⟨"OctavianDeskModel", "isLower", "()Z"⟩, 30) := ⟨⟨by decide +kernel, by decide +kernel⟩, List.mem_of_getElem? (i := 786) (by decide +kernel), List.mem_of_getElem? (i := 1015) (by decide +kernel), List.mem_of_getElem? (i := 1016) (by decide +kernel)⟩
theorem lw_p37 : lw_okq (⟨"OctavianDeskModel", "euclid", "(II)I"⟩, 30) := ⟨⟨by decide +kernel, by decide +kernel⟩, List.mem_of_getElem? (i := 786) (by decide +kernel), List.mem_of_getElem? (i := 1023) (by decide +kernel), List.mem_of_getElem? (i := 1024) (by decide +kernel)⟩
theorem lw_p38 : lw_okq (⟨"OctavianDeskModel", "orders", "(I)I"⟩, 30) := ⟨⟨by decide +kernel, by decide +kernel⟩, List.mem_of_getElem? (i := 786) (by decide +kernel), List.mem_of_getElem? (i := 1047) (by decide +kernel), List.mem_of_getElem? (i := 1048) (by decide +kernel)⟩
theorem lw_p39 : lw_okq (⟨"OctavianDeskModel", "unitAt", "(I)I"⟩, 30) := ⟨⟨by decide +kernel, by decide +kernel⟩, List.mem_of_getElem? (i := 786) (by decide +kernel), List.mem_of_getElem? (i := 1059) (by decide +kernel), List.mem_of_getElem? (i := 1060) (by decide +kernel)⟩
theorem lw_p40 : lw_okq (⟨"OctavianDeskModel", "valueOf", "(I)I"⟩, 30) := ⟨⟨by decide +kernel, by decide +kernel⟩, List.mem_of_getElem? (i := 786) (by decide +kernel), List.mem_of_getElem? (i := 1067) (by decide +kernel), List.mem_of_getElem? (i := 1068) (by decide +kernel)⟩
theorem lw_p41 : lw_okq (⟨"OctavianDeskModel", "doCommute", "(II)Z"⟩, 30) := ⟨⟨by decide +kernel, by decide +kernel⟩, List.mem_of_getElem? (i := 786) (by decide +kernel), List.mem_of_getElem? (i := 1075) (by decide +kernel), List.mem_of_getElem? (i := 1076) (by decide +kernel)⟩
theorem lw_p42 : lw_okq (⟨"OctavianDeskModel", "isFlat", "()Z"⟩, 30) := ⟨⟨by decide +kernel, by decide +kernel⟩, List.mem_of_getElem? (i := 786) (by decide +kernel), List.mem_of_getElem? (i := 1079) (by decide +kernel), List.mem_of_getElem? (i := 1080) (by decide +kernel)⟩
theorem lw_p43 : lw_okq (⟨"OctavianDeskModel", "fault", "()I"⟩, 30) := ⟨⟨by decide +kernel, by decide +kernel⟩, List.mem_of_getElem? (i := 786) (by decide +kernel), List.mem_of_getElem? (i := 1113) (by decide +kernel), List.mem_of_getElem? (i := 1114) (by decide +kernel)⟩
theorem lw_p44 : lw_okq (⟨"OctavianDeskModel", "behind", "(II)I"⟩, 30) := ⟨⟨by decide +kernel, by decide +kernel⟩, List.mem_of_getElem? (i := 786) (by decide +kernel), List.mem_of_getElem? (i := 1117) (by decide +kernel), List.mem_of_getElem? (i := 1118) (by decide +kernel)⟩
theorem lw_p45 : lw_okq (⟨"OctavianDeskModel", "opens", "()V"⟩, 30) := ⟨⟨by decide +kernel, by decide +kernel⟩, List.mem_of_getElem? (i := 786) (by decide +kernel), List.mem_of_getElem? (i := 1121) (by decide +kernel), List.mem_of_getElem? (i := 1122) (by decide +kernel)⟩
theorem lw_p46 : lw_okq (⟨"OctavianDeskModel", "reads", "(I)V"⟩, 30) := ⟨⟨by decide +kernel, by decide +kernel⟩, List.mem_of_getElem? (i := 786) (by decide +kernel), List.mem_of_getElem? (i := 1125) (by decide +kernel), List.mem_of_getElem? (i := 1126) (by decide +kernel)⟩
theorem lw_p47 : lw_okq (⟨"OctavianDeskModel", "ends", "()V"⟩, 30) := ⟨⟨by decide +kernel, by decide +kernel⟩, List.mem_of_getElem? (i := 786) (by decide +kernel), List.mem_of_getElem? (i := 1129) (by decide +kernel), List.mem_of_getElem? (i := 1130) (by decide +kernel)⟩
def lw_privs_3 : List (MethodName × Nat) := [(⟨"OctavianDeskModel", "commutes", "(II)V"⟩, 30), (⟨"OctavianDeskModel", "associates", "(III)V"⟩, 30), (⟨"OctavianDeskModel", "cannotDivide", "(II)Z"⟩, 30), (⟨"OctavianDeskModel", "divides", "()V"⟩, 30), (⟨"OctavianDeskModel", "isLower", "()Z"⟩, 30), (⟨"OctavianDeskModel", "euclid", "(II)I"⟩, 30), (⟨"OctavianDeskModel", "orders", "(I)I"⟩, 30), (⟨"OctavianDeskModel", "unitAt", "(I)I"⟩, 30), (⟨"OctavianDeskModel", "valueOf", "(I)I"⟩, 30), (⟨"OctavianDeskModel", "doCommute", "(II)Z"⟩, 30), (⟨"OctavianDeskModel", "isFlat", "()Z"⟩, 30), (⟨"OctavianDeskModel", "fault", "()I"⟩, 30), (⟨"OctavianDeskModel", "behind", "(II)I"⟩, 30), (⟨"OctavianDeskModel", "opens", "()V"⟩, 30), (⟨"OctavianDeskModel", "reads", "(I)V"⟩, 30), (⟨"OctavianDeskModel", "ends", "()V"⟩, 30)]
theorem lw_r3 : ∀ q ∈ lw_privs_3, lw_okq q := List.forall_mem_cons.mpr ⟨lw_p32, List.forall_mem_cons.mpr ⟨lw_p33, List.forall_mem_cons.mpr ⟨lw_p34, List.forall_mem_cons.mpr ⟨lw_p35, List.forall_mem_cons.mpr ⟨lw_p36, List.forall_mem_cons.mpr ⟨lw_p37, List.forall_mem_cons.mpr ⟨lw_p38, List.forall_mem_cons.mpr ⟨lw_p39, List.forall_mem_cons.mpr ⟨lw_p40, List.forall_mem_cons.mpr ⟨lw_p41, List.forall_mem_cons.mpr ⟨lw_p42, List.forall_mem_cons.mpr ⟨lw_p43, List.forall_mem_cons.mpr ⟨lw_p44, List.forall_mem_cons.mpr ⟨lw_p45, List.forall_mem_cons.mpr ⟨lw_p46, List.forall_mem_cons.mpr ⟨lw_p47, fun _ h => absurd h List.not_mem_nil⟩⟩⟩⟩⟩⟩⟩⟩⟩⟩⟩⟩⟩⟩⟩⟩
theorem lw_p48 : lw_okq (⟨"OctavianDeskModel", "endsTerm", "(I)V"⟩, 30) := ⟨⟨by decide +kernel, by decide +kernel⟩, List.mem_of_getElem? (i := 786) (by decide +kernel), List.mem_of_getElem? (i := 1133) (by decide +kernel), List.mem_of_getElem? (i := 1134) (by decide +kernel)⟩
def lw_privs_4 : List (MethodName × Nat) := [(⟨"OctavianDeskModel", "endsTerm", "(I)V"⟩, 30)]
theorem lw_r4 : ∀ q ∈ lw_privs_4, lw_okq q := List.forall_mem_cons.mpr ⟨lw_p48, fun _ h => absurd h List.not_mem_nil⟩
def lw_privs : List (MethodName × Nat) := lw_privs_1 ++ (lw_privs_2 ++ (lw_privs_3 ++ (lw_privs_4)))
def lw_tbl : List Cond := k2_sels lw_privs ++ tables_1
theorem lw_privs_ok : ∀ q ∈ lw_privs, lw_okq q := by
  show ∀ q ∈ lw_privs_1 ++ (lw_privs_2 ++ (lw_privs_3 ++ (lw_privs_4))), lw_okq q
  exact List.forall_mem_append.mpr ⟨lw_r1, List.forall_mem_append.mpr ⟨lw_r2, List.forall_mem_append.mpr ⟨lw_r3, lw_r4⟩⟩⟩
end
section
/-! names, fields, codes: printed of the program by TURN -/
def RX0 : String := "OctavianDesk$Calculator"
def TX0 : u_T := fun k => match k with
  | 0 => ("OctavianDesk$Calculator", "text", "LOctavianDesk$Text;", true)
  | 1 => ("OctavianDesk$Calculator", "sums", "[[J", true)
  | 2 => ("OctavianDesk$Calculator", "terms", "[[J", true)
  | 3 => ("OctavianDesk$Calculator", "factors", "[[J", true)
  | 4 => ("OctavianDesk$Calculator", "product", "[J", true)
  | 5 => ("OctavianDesk$Calculator", "cursor", "I", false)
  | _ => ("OctavianDesk$Calculator", "products", "I", false)
def tyX0 : Nat → FieldType := fun k => match k with
  | 0 => .object "OctavianDesk$Text"
  | 1 => .array (.array .long)
  | 2 => .array (.array .long)
  | 3 => .array (.array .long)
  | 4 => .array .long
  | 5 => .int
  | _ => .int
abbrev wsX00 : List Cond := u_ws RX0 TX0 7
theorem nmX0 : ∀ a, a < 7 → ∀ b, b < 7 → a ≠ b → (TX0 a).2.1 ≠ (TX0 b).2.1 := by decide +kernel
theorem tyX0_ok : ∀ k, k < 7 → parseFieldDescriptor (TX0 k).2.2.1 = some (tyX0 k) := by decide +kernel
abbrev cX0_init : ByteArray := prog_2_method_1_code
def yX0_init : MethodName := ⟨RX0, "<init>", "(LOctavianDesk$Text;)V"⟩
abbrev cX0_carryOutAll : ByteArray := prog_2_method_2_code
def yX0_carryOutAll : MethodName := ⟨RX0, "carryOutAll", "(LOctavianDesk$State;)I"⟩
abbrev cX0_carryOutNext : ByteArray := prog_2_method_3_code
def yX0_carryOutNext : MethodName := ⟨RX0, "carryOutNext", "(LOctavianDesk$State;)Z"⟩
abbrev cX0_workSum : ByteArray := prog_2_method_4_code
def yX0_workSum : MethodName := ⟨RX0, "workSum", "(LOctavianDesk$State;I)Z"⟩
abbrev cX0_workTerm : ByteArray := prog_2_method_5_code
def yX0_workTerm : MethodName := ⟨RX0, "workTerm", "(LOctavianDesk$State;I)Z"⟩
abbrev cX0_workFactor : ByteArray := prog_2_method_6_code
def yX0_workFactor : MethodName := ⟨RX0, "workFactor", "(LOctavianDesk$State;I)Z"⟩
abbrev cX0_workOperand : ByteArray := prog_2_method_7_code
def yX0_workOperand : MethodName := ⟨RX0, "workOperand", "(LOctavianDesk$State;I)Z"⟩
def RX1 : String := "OctavianDesk$Division"
def TX1 : u_T := fun k => match k with
  | 0 => ("OctavianDesk$Division", "quotient", "[J", true)
  | 1 => ("OctavianDesk$Division", "remainder", "[J", true)
  | 2 => ("OctavianDesk$Division", "dividend", "[J", true)
  | 3 => ("OctavianDesk$Division", "divisor", "[J", true)
  | 4 => ("OctavianDesk$Division", "product", "[J", true)
  | 5 => ("OctavianDesk$Division", "mirrored", "[J", true)
  | 6 => ("OctavianDesk$Division", "trial", "[J", true)
  | 7 => ("OctavianDesk$Division", "nearest", "[[J", true)
  | _ => ("OctavianDesk$Division", "distance", "[[J", true)
def tyX1 : Nat → FieldType := fun k => match k with
  | 0 => .array .long
  | 1 => .array .long
  | 2 => .array .long
  | 3 => .array .long
  | 4 => .array .long
  | 5 => .array .long
  | 6 => .array .long
  | 7 => .array (.array .long)
  | _ => .array (.array .long)
abbrev wsX10 : List Cond := u_ws RX1 TX1 9
theorem nmX1 : ∀ a, a < 9 → ∀ b, b < 9 → a ≠ b → (TX1 a).2.1 ≠ (TX1 b).2.1 := by decide +kernel
theorem tyX1_ok : ∀ k, k < 9 → parseFieldDescriptor (TX1 k).2.2.1 = some (tyX1 k) := by decide +kernel
abbrev cX1_init : ByteArray := prog_3_method_1_code
def yX1_init : MethodName := ⟨RX1, "<init>", "()V"⟩
abbrev cX1_work : ByteArray := prog_3_method_2_code
def yX1_work : MethodName := ⟨RX1, "work", "([J[JI)V"⟩
abbrev cX1_findNearest : ByteArray := prog_3_method_3_code
def yX1_findNearest : MethodName := ⟨RX1, "findNearest", "(J)V"⟩
abbrev cX1_chooseQuotient : ByteArray := prog_3_method_4_code
def yX1_chooseQuotient : MethodName := ⟨RX1, "chooseQuotient", "(I)V"⟩
abbrev cX1_comesFirst : ByteArray := prog_3_method_5_code
def yX1_comesFirst : MethodName := ⟨RX1, "comesFirst", "([J[J)Z"⟩
abbrev cX1_euclid : ByteArray := prog_3_method_6_code
def yX1_euclid : MethodName := ⟨RX1, "euclid", "([J[JII)I"⟩
def RX2 : String := "OctavianDesk$Orders"
def TX2 : u_T := fun k => match k with
  | _ => ("", "", "", false)
def tyX2 : Nat → FieldType := fun k => match k with
  | _ => .int
abbrev wsX20 : List Cond := u_ws RX2 TX2 0
theorem nmX2 : ∀ a, a < 0 → ∀ b, b < 0 → a ≠ b → (TX2 a).2.1 ≠ (TX2 b).2.1 := by decide +kernel
theorem tyX2_ok : ∀ k, k < 0 → parseFieldDescriptor (TX2 k).2.2.1 = some (tyX2 k) := by decide +kernel
abbrev cX2_sets : ByteArray := prog_4_method_2_code
def yX2_sets : MethodName := ⟨RX2, "sets", "(I)I"⟩
abbrev cX2_oddSet : ByteArray := prog_4_method_3_code
def yX2_oddSet : MethodName := ⟨RX2, "oddSet", "(II)I"⟩
abbrev cX2_exchanged : ByteArray := prog_4_method_4_code
def yX2_exchanged : MethodName := ⟨RX2, "exchanged", "(II)I"⟩
abbrev cX2_allows : ByteArray := prog_4_method_5_code
def yX2_allows : MethodName := ⟨RX2, "allows", "(II)Z"⟩
abbrev cX2_elementsOfNorm : ByteArray := prog_4_method_6_code
def yX2_elementsOfNorm : MethodName := ⟨RX2, "elementsOfNorm", "(II)J"⟩
def RX3 : String := "OctavianDesk$Rows"
def TX3 : u_T := fun k => match k with
  | _ => ("", "", "", false)
def tyX3 : Nat → FieldType := fun k => match k with
  | _ => .int
abbrev wsX30 : List Cond := u_ws RX3 TX3 0
theorem nmX3 : ∀ a, a < 0 → ∀ b, b < 0 → a ≠ b → (TX3 a).2.1 ≠ (TX3 b).2.1 := by decide +kernel
theorem tyX3_ok : ∀ k, k < 0 → parseFieldDescriptor (TX3 k).2.2.1 = some (tyX3 k) := by decide +kernel
abbrev cX3_product : ByteArray := prog_5_method_2_code
def yX3_product : MethodName := ⟨RX3, "product", "([J[J[J)V"⟩
abbrev cX3_total : ByteArray := prog_5_method_3_code
def yX3_total : MethodName := ⟨RX3, "total", "([J[JZ[J)V"⟩
abbrev cX3_mirror : ByteArray := prog_5_method_4_code
def yX3_mirror : MethodName := ⟨RX3, "mirror", "([J)V"⟩
abbrev cX3_scale : ByteArray := prog_5_method_5_code
def yX3_scale : MethodName := ⟨RX3, "scale", "([JI)V"⟩
abbrev cX3_copy : ByteArray := prog_5_method_6_code
def yX3_copy : MethodName := ⟨RX3, "copy", "([J[J)V"⟩
abbrev cX3_clear : ByteArray := prog_5_method_7_code
def yX3_clear : MethodName := ⟨RX3, "clear", "([J)V"⟩
abbrev cX3_fit : ByteArray := prog_5_method_8_code
def yX3_fit : MethodName := ⟨RX3, "fit", "([JI)Z"⟩
abbrev cX3_inner : ByteArray := prog_5_method_9_code
def yX3_inner : MethodName := ⟨RX3, "inner", "([J[J)J"⟩
abbrev cX3_quarters : ByteArray := prog_5_method_10_code
def yX3_quarters : MethodName := ⟨RX3, "quarters", "([J)J"⟩
abbrev cX3_oddSet : ByteArray := prog_5_method_11_code
def yX3_oddSet : MethodName := ⟨RX3, "oddSet", "([J)I"⟩
abbrev cX3_isReal : ByteArray := prog_5_method_12_code
def yX3_isReal : MethodName := ⟨RX3, "isReal", "([J)Z"⟩
abbrev cX3_parallel : ByteArray := prog_5_method_13_code
def yX3_parallel : MethodName := ⟨RX3, "parallel", "([J[J)Z"⟩
def RX4 : String := "OctavianDesk$State"
def TX4 : u_T := fun k => match k with
  | 0 => ("OctavianDesk$State", "registers", "[[J", true)
  | 1 => ("OctavianDesk$State", "order", "I", false)
  | 2 => ("OctavianDesk$State", "multiplications", "I", false)
  | _ => ("OctavianDesk$State", "divisions", "I", false)
def tyX4 : Nat → FieldType := fun k => match k with
  | 0 => .array (.array .long)
  | 1 => .int
  | 2 => .int
  | _ => .int
abbrev wsX40 : List Cond := u_ws RX4 TX4 4
theorem nmX4 : ∀ a, a < 4 → ∀ b, b < 4 → a ≠ b → (TX4 a).2.1 ≠ (TX4 b).2.1 := by decide +kernel
theorem tyX4_ok : ∀ k, k < 4 → parseFieldDescriptor (TX4 k).2.2.1 = some (tyX4 k) := by decide +kernel
abbrev cX4_init : ByteArray := prog_6_method_1_code
def yX4_init : MethodName := ⟨RX4, "<init>", "()V"⟩
abbrev cX4_takeFrom : ByteArray := prog_6_method_2_code
def yX4_takeFrom : MethodName := ⟨RX4, "takeFrom", "(LOctavianDesk$State;)V"⟩
def RX5 : String := "OctavianDesk$Text"
def TX5 : u_T := fun k => match k with
  | 0 => ("OctavianDesk$Text", "bytes", "[B", true)
  | 1 => ("OctavianDesk$Text", "length", "I", false)
  | _ => ("OctavianDesk$Text", "depth", "I", false)
def tyX5 : Nat → FieldType := fun k => match k with
  | 0 => .array .byte
  | 1 => .int
  | _ => .int
abbrev wsX50 : List Cond := u_ws RX5 TX5 3
theorem nmX5 : ∀ a, a < 3 → ∀ b, b < 3 → a ≠ b → (TX5 a).2.1 ≠ (TX5 b).2.1 := by decide +kernel
theorem tyX5_ok : ∀ k, k < 3 → parseFieldDescriptor (TX5 k).2.2.1 = some (tyX5 k) := by decide +kernel
abbrev cX5_init : ByteArray := prog_7_method_1_code
def yX5_init : MethodName := ⟨RX5, "<init>", "()V"⟩
abbrev cX5_isFull : ByteArray := prog_7_method_2_code
def yX5_isFull : MethodName := ⟨RX5, "isFull", "()Z"⟩
abbrev cX5_put : ByteArray := prog_7_method_3_code
def yX5_put : MethodName := ⟨RX5, "put", "(I)V"⟩
abbrev cX5_at : ByteArray := prog_7_method_4_code
def yX5_at : MethodName := ⟨RX5, "at", "(I)I"⟩
abbrev cX5_isLetter : ByteArray := prog_7_method_5_code
def yX5_isLetter : MethodName := ⟨RX5, "isLetter", "(I)Z"⟩
abbrev cX5_isDigit : ByteArray := prog_7_method_6_code
def yX5_isDigit : MethodName := ⟨RX5, "isDigit", "(I)Z"⟩
abbrev cX5_syntaxError : ByteArray := prog_7_method_7_code
def yX5_syntaxError : MethodName := ⟨RX5, "syntaxError", "()I"⟩
abbrev cX5_follow : ByteArray := prog_7_method_8_code
def yX5_follow : MethodName := ⟨RX5, "follow", "(II)I"⟩
abbrev cX5_followOperand : ByteArray := prog_7_method_9_code
def yX5_followOperand : MethodName := ⟨RX5, "followOperand", "(I)I"⟩
abbrev cX5_followFactor : ByteArray := prog_7_method_10_code
def yX5_followFactor : MethodName := ⟨RX5, "followFactor", "(I)I"⟩
def RX6 : String := "OctavianDesk$Units"
def TX6 : u_T := fun k => match k with
  | 0 => ("OctavianDesk$Units", "codes", "[I", true)
  | _ => ("OctavianDesk$Units", "filled", "I", false)
def tyX6 : Nat → FieldType := fun k => match k with
  | 0 => .array .int
  | _ => .int
abbrev wsX60 : List Cond := u_ws RX6 TX6 2
theorem nmX6 : ∀ a, a < 2 → ∀ b, b < 2 → a ≠ b → (TX6 a).2.1 ≠ (TX6 b).2.1 := by decide +kernel
theorem tyX6_ok : ∀ k, k < 2 → parseFieldDescriptor (TX6 k).2.2.1 = some (tyX6 k) := by decide +kernel
abbrev cX6_init : ByteArray := prog_8_method_1_code
def yX6_init : MethodName := ⟨RX6, "<init>", "(I)V"⟩
abbrev cX6_count : ByteArray := prog_8_method_2_code
def yX6_count : MethodName := ⟨RX6, "count", "(I)I"⟩
abbrev cX6_read : ByteArray := prog_8_method_3_code
def yX6_read : MethodName := ⟨RX6, "read", "(I[J)V"⟩
abbrev cX6_numberOf : ByteArray := prog_8_method_4_code
def yX6_numberOf : MethodName := ⟨RX6, "numberOf", "([J)I"⟩
abbrev cX6_code : ByteArray := prog_8_method_5_code
def yX6_code : MethodName := ⟨RX6, "code", "([J)I"⟩
abbrev cX6_spread : ByteArray := prog_8_method_6_code
def yX6_spread : MethodName := ⟨RX6, "spread", "(II[J)V"⟩
abbrev cX6_insert : ByteArray := prog_8_method_7_code
def yX6_insert : MethodName := ⟨RX6, "insert", "(I)V"⟩
def RX7 : String := "OctavianDesk"
def TX7 : u_T := fun k => match k with
  | 0 => ("OctavianDesk", "now", "LOctavianDesk$State;", true)
  | 1 => ("OctavianDesk", "saved", "[LOctavianDesk$State;", true)
  | 2 => ("OctavianDesk", "savedCount", "I", false)
  | 3 => ("OctavianDesk", "units", "[LOctavianDesk$Units;", true)
  | 4 => ("OctavianDesk", "division", "LOctavianDesk$Division;", true)
  | 5 => ("OctavianDesk", "text", "LOctavianDesk$Text;", true)
  | 6 => ("OctavianDesk", "calculator", "LOctavianDesk$Calculator;", true)
  | 7 => ("OctavianDesk", "result", "[J", true)
  | 8 => ("OctavianDesk", "other", "[J", true)
  | _ => ("OctavianDesk", "inner", "[J", true)
def tyX7 : Nat → FieldType := fun k => match k with
  | 0 => .object "OctavianDesk$State"
  | 1 => .array (.object "OctavianDesk$State")
  | 2 => .int
  | 3 => .array (.object "OctavianDesk$Units")
  | 4 => .object "OctavianDesk$Division"
  | 5 => .object "OctavianDesk$Text"
  | 6 => .object "OctavianDesk$Calculator"
  | 7 => .array .long
  | 8 => .array .long
  | _ => .array .long
abbrev wsX70 : List Cond := u_ws RX7 TX7 10
theorem nmX7 : ∀ a, a < 10 → ∀ b, b < 10 → a ≠ b → (TX7 a).2.1 ≠ (TX7 b).2.1 := by decide +kernel
theorem tyX7_ok : ∀ k, k < 10 → parseFieldDescriptor (TX7 k).2.2.1 = some (tyX7 k) := by decide +kernel
abbrev cX7_init : ByteArray := prog_1_method_1_code
def yX7_init : MethodName := ⟨RX7, "<init>", "()V"⟩
abbrev cX7_set : ByteArray := prog_1_method_2_code
def yX7_set : MethodName := ⟨RX7, "set", "(III)I"⟩
abbrev cX7_setFour : ByteArray := prog_1_method_3_code
def yX7_setFour : MethodName := ⟨RX7, "setFour", "(IZIIII)J"⟩
abbrev cX7_setOrder : ByteArray := prog_1_method_4_code
def yX7_setOrder : MethodName := ⟨RX7, "setOrder", "(I)I"⟩
abbrev cX7_load : ByteArray := prog_1_method_5_code
def yX7_load : MethodName := ⟨RX7, "load", "(II)I"⟩
abbrev cX7_add : ByteArray := prog_1_method_6_code
def yX7_add : MethodName := ⟨RX7, "add", "(IIIZ)J"⟩
abbrev cX7_multiply : ByteArray := prog_1_method_7_code
def yX7_multiply : MethodName := ⟨RX7, "multiply", "(III)J"⟩
abbrev cX7_conjugate : ByteArray := prog_1_method_8_code
def yX7_conjugate : MethodName := ⟨RX7, "conjugate", "(I)I"⟩
abbrev cX7_commutator : ByteArray := prog_1_method_9_code
def yX7_commutator : MethodName := ⟨RX7, "commutator", "(III)J"⟩
abbrev cX7_associator : ByteArray := prog_1_method_10_code
def yX7_associator : MethodName := ⟨RX7, "associator", "(IIII)J"⟩
abbrev cX7_divide : ByteArray := prog_1_method_11_code
def yX7_divide : MethodName := ⟨RX7, "divide", "(IIII)J"⟩
abbrev cX7_coordinate : ByteArray := prog_1_method_12_code
def yX7_coordinate : MethodName := ⟨RX7, "coordinate", "(II)I"⟩
abbrev cX7_norm : ByteArray := prog_1_method_13_code
def yX7_norm : MethodName := ⟨RX7, "norm", "(I)J"⟩
abbrev cX7_dot : ByteArray := prog_1_method_14_code
def yX7_dot : MethodName := ⟨RX7, "dot", "(II)J"⟩
abbrev cX7_ordersOf : ByteArray := prog_1_method_15_code
def yX7_ordersOf : MethodName := ⟨RX7, "ordersOf", "(I)I"⟩
abbrev cX7_left : ByteArray := prog_1_method_16_code
def yX7_left : MethodName := ⟨RX7, "left", "(III)I"⟩
abbrev cX7_unitOf : ByteArray := prog_1_method_17_code
def yX7_unitOf : MethodName := ⟨RX7, "unitOf", "(I)I"⟩
abbrev cX7_value : ByteArray := prog_1_method_18_code
def yX7_value : MethodName := ⟨RX7, "value", "(I)I"⟩
abbrev cX7_dimension : ByteArray := prog_1_method_19_code
def yX7_dimension : MethodName := ⟨RX7, "dimension", "(I)I"⟩
abbrev cX7_commute : ByteArray := prog_1_method_20_code
def yX7_commute : MethodName := ⟨RX7, "commute", "(II)Z"⟩
abbrev cX7_associate : ByteArray := prog_1_method_21_code
def yX7_associate : MethodName := ⟨RX7, "associate", "(III)Z"⟩
abbrev cX7_elements : ByteArray := prog_1_method_22_code
def yX7_elements : MethodName := ⟨RX7, "elements", "(I)J"⟩
abbrev cX7_steps : ByteArray := prog_1_method_23_code
def yX7_steps : MethodName := ⟨RX7, "steps", "(II)I"⟩
abbrev cX7_lastNorm : ByteArray := prog_1_method_24_code
def yX7_lastNorm : MethodName := ⟨RX7, "lastNorm", "(II)J"⟩
abbrev cX7_commuting : ByteArray := prog_1_method_25_code
def yX7_commuting : MethodName := ⟨RX7, "commuting", "(I)I"⟩
abbrev cX7_append : ByteArray := prog_1_method_26_code
def yX7_append : MethodName := ⟨RX7, "append", "(I)I"⟩
abbrev cX7_clearText : ByteArray := prog_1_method_27_code
def yX7_clearText : MethodName := ⟨RX7, "clearText", "()I"⟩
abbrev cX7_carryOut : ByteArray := prog_1_method_28_code
def yX7_carryOut : MethodName := ⟨RX7, "carryOut", "()I"⟩
abbrev cX7_undo : ByteArray := prog_1_method_29_code
def yX7_undo : MethodName := ⟨RX7, "undo", "()I"⟩
abbrev cX7_digest : ByteArray := prog_1_method_30_code
def yX7_digest : MethodName := ⟨RX7, "digest", "()J"⟩
abbrev cX7_needRegister : ByteArray := prog_1_method_31_code
def yX7_needRegister : MethodName := ⟨RX7, "needRegister", "(I)V"⟩
abbrev cX7_needIndex : ByteArray := prog_1_method_32_code
def yX7_needIndex : MethodName := ⟨RX7, "needIndex", "(I)V"⟩
abbrev cX7_needHalves : ByteArray := prog_1_method_33_code
def yX7_needHalves : MethodName := ⟨RX7, "needHalves", "(I)V"⟩
abbrev cX7_needFit : ByteArray := prog_1_method_34_code
def yX7_needFit : MethodName := ⟨RX7, "needFit", "(Z)V"⟩
abbrev cX7_needDivisible : ByteArray := prog_1_method_35_code
def yX7_needDivisible : MethodName := ⟨RX7, "needDivisible", "(II)V"⟩
abbrev cX7_presentUnits : ByteArray := prog_1_method_36_code
def yX7_presentUnits : MethodName := ⟨RX7, "presentUnits", "()LOctavianDesk$Units;"⟩
abbrev cX7_isInOrder : ByteArray := prog_1_method_37_code
def yX7_isInOrder : MethodName := ⟨RX7, "isInOrder", "(I)Z"⟩
abbrev cX7_registersInOrder : ByteArray := prog_1_method_38_code
def yX7_registersInOrder : MethodName := ⟨RX7, "registersInOrder", "()I"⟩
abbrev cX7_zeroRegisters : ByteArray := prog_1_method_39_code
def yX7_zeroRegisters : MethodName := ⟨RX7, "zeroRegisters", "()I"⟩
abbrev cX7_workAssociator : ByteArray := prog_1_method_40_code
def yX7_workAssociator : MethodName := ⟨RX7, "workAssociator", "(III)V"⟩
abbrev cX7_associates : ByteArray := prog_1_method_41_code
def yX7_associates : MethodName := ⟨RX7, "associates", "(III)Z"⟩
abbrev cX7_put : ByteArray := prog_1_method_42_code
def yX7_put : MethodName := ⟨RX7, "put", "(I)J"⟩
abbrev cX7_saveState : ByteArray := prog_1_method_43_code
def yX7_saveState : MethodName := ⟨RX7, "saveState", "()V"⟩
def RX8 : String := "OctavianDeskModel"
def TX8 : u_T := fun k => match k with
  | 0 => ("OctavianDeskModel", "s", "[I", true)
  | 1 => ("OctavianDeskModel", "past", "[I", true)
  | 2 => ("OctavianDeskModel", "pasts", "I", false)
  | 3 => ("OctavianDeskModel", "text", "[I", true)
  | 4 => ("OctavianDeskModel", "typed", "I", false)
  | 5 => ("OctavianDeskModel", "refused", "I", false)
  | 6 => ("OctavianDeskModel", "to", "[I", true)
  | 7 => ("OctavianDeskModel", "sign", "[I", true)
  | 8 => ("OctavianDeskModel", "one", "[J", true)
  | 9 => ("OctavianDeskModel", "other", "[J", true)
  | 10 => ("OctavianDeskModel", "third", "[J", true)
  | 11 => ("OctavianDeskModel", "result", "[J", true)
  | 12 => ("OctavianDeskModel", "wide", "[J", true)
  | 13 => ("OctavianDeskModel", "kept", "[J", true)
  | 14 => ("OctavianDeskModel", "laid", "I", false)
  | 15 => ("OctavianDeskModel", "units", "I", false)
  | 16 => ("OctavianDeskModel", "unit", "[I", true)
  | 17 => ("OctavianDeskModel", "quotient", "[J", true)
  | 18 => ("OctavianDeskModel", "rest", "[J", true)
  | 19 => ("OctavianDeskModel", "near", "[J", true)
  | 20 => ("OctavianDeskModel", "last", "J", false)
  | 21 => ("OctavianDeskModel", "deep", "I", false)
  | 22 => ("OctavianDeskModel", "sums", "[J", true)
  | 23 => ("OctavianDeskModel", "products", "[J", true)
  | 24 => ("OctavianDeskModel", "signs", "[I", true)
  | 25 => ("OctavianDeskModel", "hasProduct", "[Z", true)
  | 26 => ("OctavianDeskModel", "digits", "[I", true)
  | 27 => ("OctavianDeskModel", "now", "[J", true)
  | 28 => ("OctavianDeskModel", "isWell", "Z", false)
  | _ => ("OctavianDeskModel", "counted", "I", false)
def tyX8 : Nat → FieldType := fun k => match k with
  | 0 => .array .int
  | 1 => .array .int
  | 2 => .int
  | 3 => .array .int
  | 4 => .int
  | 5 => .int
  | 6 => .array .int
  | 7 => .array .int
  | 8 => .array .long
  | 9 => .array .long
  | 10 => .array .long
  | 11 => .array .long
  | 12 => .array .long
  | 13 => .array .long
  | 14 => .int
  | 15 => .int
  | 16 => .array .int
  | 17 => .array .long
  | 18 => .array .long
  | 19 => .array .long
  | 20 => .long
  | 21 => .int
  | 22 => .array .long
  | 23 => .array .long
  | 24 => .array .int
  | 25 => .array .boolean
  | 26 => .array .int
  | 27 => .array .long
  | 28 => .boolean
  | _ => .int
abbrev wsX80 : List Cond := u_ws RX8 TX8 30
theorem nmX8 : ∀ a, a < 30 → ∀ b, b < 30 → a ≠ b → (TX8 a).2.1 ≠ (TX8 b).2.1 := by decide +kernel
theorem tyX8_ok : ∀ k, k < 30 → parseFieldDescriptor (TX8 k).2.2.1 = some (tyX8 k) := by decide +kernel
abbrev cX8_init : ByteArray := prog_10_method_1_code
def yX8_init : MethodName := ⟨RX8, "<init>", "()V"⟩
abbrev cX8_lays : ByteArray := prog_10_method_2_code
def yX8_lays : MethodName := ⟨RX8, "lays", "(III)V"⟩
abbrev cX8_thrown : ByteArray := prog_10_method_3_code
def yX8_thrown : MethodName := ⟨RX8, "thrown", "()I"⟩
abbrev cX8_in : ByteArray := prog_10_method_4_code
def yX8_in : MethodName := ⟨RX8, "in", "(III)Z"⟩
abbrev cX8_isEight : ByteArray := prog_10_method_5_code
def yX8_isEight : MethodName := ⟨RX8, "isEight", "(I)Z"⟩
abbrev cX8_throwsAt : ByteArray := prog_10_method_6_code
def yX8_throwsAt : MethodName := ⟨RX8, "throwsAt", "(I)Z"⟩
abbrev cX8_saves : ByteArray := prog_10_method_7_code
def yX8_saves : MethodName := ⟨RX8, "saves", "()V"⟩
abbrev cX8_takes : ByteArray := prog_10_method_8_code
def yX8_takes : MethodName := ⟨RX8, "takes", "([JI)V"⟩
abbrev cX8_times : ByteArray := prog_10_method_9_code
def yX8_times : MethodName := ⟨RX8, "times", "([J[J[J)V"⟩
abbrev cX8_halves : ByteArray := prog_10_method_10_code
def yX8_halves : MethodName := ⟨RX8, "halves", "([JI)Z"⟩
abbrev cX8_puts : ByteArray := prog_10_method_11_code
def yX8_puts : MethodName := ⟨RX8, "puts", "([JI)V"⟩
abbrev cX8_square : ByteArray := prog_10_method_12_code
def yX8_square : MethodName := ⟨RX8, "square", "([J)J"⟩
abbrev cX8_isNought : ByteArray := prog_10_method_13_code
def yX8_isNought : MethodName := ⟨RX8, "isNought", "([J)Z"⟩
abbrev cX8_isSet : ByteArray := prog_10_method_14_code
def yX8_isSet : MethodName := ⟨RX8, "isSet", "(II)Z"⟩
abbrev cX8_isIn : ByteArray := prog_10_method_15_code
def yX8_isIn : MethodName := ⟨RX8, "isIn", "([JI)Z"⟩
abbrev cX8_laysUnits : ByteArray := prog_10_method_16_code
def yX8_laysUnits : MethodName := ⟨RX8, "laysUnits", "()V"⟩
abbrev cX8_unitAt : ByteArray := prog_10_method_17_code
def yX8_unitAt : MethodName := ⟨RX8, "unitAt", "(I)I"⟩
abbrev cX8_set : ByteArray := prog_10_method_18_code
def yX8_set : MethodName := ⟨RX8, "set", "(III)I"⟩
abbrev cX8_normOf : ByteArray := prog_10_method_19_code
def yX8_normOf : MethodName := ⟨RX8, "normOf", "(I)J"⟩
abbrev cX8_setFour : ByteArray := prog_10_method_20_code
def yX8_setFour : MethodName := ⟨RX8, "setFour", "(IZIIII)J"⟩
abbrev cX8_setOrder : ByteArray := prog_10_method_21_code
def yX8_setOrder : MethodName := ⟨RX8, "setOrder", "(I)I"⟩
abbrev cX8_load : ByteArray := prog_10_method_22_code
def yX8_load : MethodName := ⟨RX8, "load", "(II)I"⟩
abbrev cX8_gives : ByteArray := prog_10_method_23_code
def yX8_gives : MethodName := ⟨RX8, "gives", "(I)J"⟩
abbrev cX8_add : ByteArray := prog_10_method_24_code
def yX8_add : MethodName := ⟨RX8, "add", "(IIIZ)J"⟩
abbrev cX8_multiply : ByteArray := prog_10_method_25_code
def yX8_multiply : MethodName := ⟨RX8, "multiply", "(III)J"⟩
abbrev cX8_conjugate : ByteArray := prog_10_method_26_code
def yX8_conjugate : MethodName := ⟨RX8, "conjugate", "(I)I"⟩
abbrev cX8_commutes : ByteArray := prog_10_method_27_code
def yX8_commutes : MethodName := ⟨RX8, "commutes", "(II)V"⟩
abbrev cX8_commutator : ByteArray := prog_10_method_28_code
def yX8_commutator : MethodName := ⟨RX8, "commutator", "(III)J"⟩
abbrev cX8_associates : ByteArray := prog_10_method_29_code
def yX8_associates : MethodName := ⟨RX8, "associates", "(III)V"⟩
abbrev cX8_associator : ByteArray := prog_10_method_30_code
def yX8_associator : MethodName := ⟨RX8, "associator", "(IIII)J"⟩
abbrev cX8_cut : ByteArray := prog_10_method_31_code
def yX8_cut : MethodName := ⟨RX8, "cut", "(JJ)J"⟩
abbrev cX8_nearest : ByteArray := prog_10_method_32_code
def yX8_nearest : MethodName := ⟨RX8, "nearest", "(JJI)J"⟩
abbrev cX8_isLower : ByteArray := prog_10_method_33_code
def yX8_isLower : MethodName := ⟨RX8, "isLower", "()Z"⟩
abbrev cX8_divides : ByteArray := prog_10_method_34_code
def yX8_divides : MethodName := ⟨RX8, "divides", "()V"⟩
abbrev cX8_cannotDivide : ByteArray := prog_10_method_35_code
def yX8_cannotDivide : MethodName := ⟨RX8, "cannotDivide", "(II)Z"⟩
abbrev cX8_divide : ByteArray := prog_10_method_36_code
def yX8_divide : MethodName := ⟨RX8, "divide", "(IIII)J"⟩
abbrev cX8_euclid : ByteArray := prog_10_method_37_code
def yX8_euclid : MethodName := ⟨RX8, "euclid", "(II)I"⟩
abbrev cX8_steps : ByteArray := prog_10_method_38_code
def yX8_steps : MethodName := ⟨RX8, "steps", "(II)I"⟩
abbrev cX8_lastNorm : ByteArray := prog_10_method_39_code
def yX8_lastNorm : MethodName := ⟨RX8, "lastNorm", "(II)J"⟩
abbrev cX8_coordinate : ByteArray := prog_10_method_40_code
def yX8_coordinate : MethodName := ⟨RX8, "coordinate", "(II)I"⟩
abbrev cX8_norm : ByteArray := prog_10_method_41_code
def yX8_norm : MethodName := ⟨RX8, "norm", "(I)J"⟩
abbrev cX8_dot : ByteArray := prog_10_method_42_code
def yX8_dot : MethodName := ⟨RX8, "dot", "(II)J"⟩
abbrev cX8_orders : ByteArray := prog_10_method_43_code
def yX8_orders : MethodName := ⟨RX8, "orders", "(I)I"⟩
abbrev cX8_ordersOf : ByteArray := prog_10_method_44_code
def yX8_ordersOf : MethodName := ⟨RX8, "ordersOf", "(I)I"⟩
abbrev cX8_left : ByteArray := prog_10_method_45_code
def yX8_left : MethodName := ⟨RX8, "left", "(III)I"⟩
abbrev cX8_unitOf : ByteArray := prog_10_method_46_code
def yX8_unitOf : MethodName := ⟨RX8, "unitOf", "(I)I"⟩
abbrev cX8_valueOf : ByteArray := prog_10_method_47_code
def yX8_valueOf : MethodName := ⟨RX8, "valueOf", "(I)I"⟩
abbrev cX8_value : ByteArray := prog_10_method_48_code
def yX8_value : MethodName := ⟨RX8, "value", "(I)I"⟩
abbrev cX8_doCommute : ByteArray := prog_10_method_49_code
def yX8_doCommute : MethodName := ⟨RX8, "doCommute", "(II)Z"⟩
abbrev cX8_isFlat : ByteArray := prog_10_method_50_code
def yX8_isFlat : MethodName := ⟨RX8, "isFlat", "()Z"⟩
abbrev cX8_dimension : ByteArray := prog_10_method_51_code
def yX8_dimension : MethodName := ⟨RX8, "dimension", "(I)I"⟩
abbrev cX8_commute : ByteArray := prog_10_method_52_code
def yX8_commute : MethodName := ⟨RX8, "commute", "(II)Z"⟩
abbrev cX8_associate : ByteArray := prog_10_method_53_code
def yX8_associate : MethodName := ⟨RX8, "associate", "(III)Z"⟩
abbrev cX8_elements : ByteArray := prog_10_method_54_code
def yX8_elements : MethodName := ⟨RX8, "elements", "(I)J"⟩
abbrev cX8_commuting : ByteArray := prog_10_method_55_code
def yX8_commuting : MethodName := ⟨RX8, "commuting", "(I)I"⟩
abbrev cX8_append : ByteArray := prog_10_method_56_code
def yX8_append : MethodName := ⟨RX8, "append", "(I)I"⟩
abbrev cX8_clearText : ByteArray := prog_10_method_57_code
def yX8_clearText : MethodName := ⟨RX8, "clearText", "()I"⟩
abbrev cX8_behind : ByteArray := prog_10_method_58_code
def yX8_behind : MethodName := ⟨RX8, "behind", "(II)I"⟩
abbrev cX8_fault : ByteArray := prog_10_method_59_code
def yX8_fault : MethodName := ⟨RX8, "fault", "()I"⟩
abbrev cX8_opens : ByteArray := prog_10_method_60_code
def yX8_opens : MethodName := ⟨RX8, "opens", "()V"⟩
abbrev cX8_ends : ByteArray := prog_10_method_61_code
def yX8_ends : MethodName := ⟨RX8, "ends", "()V"⟩
abbrev cX8_endsTerm : ByteArray := prog_10_method_62_code
def yX8_endsTerm : MethodName := ⟨RX8, "endsTerm", "(I)V"⟩
abbrev cX8_reads : ByteArray := prog_10_method_63_code
def yX8_reads : MethodName := ⟨RX8, "reads", "(I)V"⟩
abbrev cX8_carryOut : ByteArray := prog_10_method_64_code
def yX8_carryOut : MethodName := ⟨RX8, "carryOut", "()I"⟩
abbrev cX8_undo : ByteArray := prog_10_method_65_code
def yX8_undo : MethodName := ⟨RX8, "undo", "()I"⟩
abbrev cX8_digest : ByteArray := prog_10_method_66_code
def yX8_digest : MethodName := ⟨RX8, "digest", "()J"⟩
def RJx00060 : String := "java/lang/ArrayIndexOutOfBoundsException"
def TJx00060 : u_T := fun k => match k with
  | 0 => ("java/lang/Throwable", "backtrace", "Ljava/lang/Object;", false)
  | 1 => ("java/lang/Throwable", "detailMessage", "Ljava/lang/String;", false)
  | 2 => ("java/lang/Throwable", "cause", "Ljava/lang/Throwable;", false)
  | 3 => ("java/lang/Throwable", "stackTrace", "[Ljava/lang/StackTraceElement;", false)
  | 4 => ("java/lang/Throwable", "depth", "I", false)
  | _ => ("java/lang/Throwable", "suppressedExceptions", "Ljava/util/List;", false)
def tyJx00060 : Nat → FieldType := fun k => match k with
  | 0 => .object "java/lang/Object"
  | 1 => .object "java/lang/String"
  | 2 => .object "java/lang/Throwable"
  | 3 => .array (.object "java/lang/StackTraceElement")
  | 4 => .int
  | _ => .object "java/util/List"
abbrev cJx00060_init_a7421 : ByteArray := prog_12_method_2_code
def yJx00060_init_a7421 : MethodName := ⟨RJx00060, "<init>", "(Ljava/lang/String;)V"⟩
def RJ6 : String := "java/lang/Integer"
def TJ6 : u_T := fun k => match k with
  | _ => ("", "", "", false)
def tyJ6 : Nat → FieldType := fun k => match k with
  | _ => .int
abbrev cJ6_bitCount_0f7a4 : ByteArray := prog_17_method_49_code
def yJ6_bitCount_0f7a4 : MethodName := ⟨RJ6, "bitCount", "(I)I"⟩
def RJ9 : String := "java/lang/Math"
def TJ9 : u_T := fun k => match k with
  | _ => ("", "", "", false)
def tyJ9 : Nat → FieldType := fun k => match k with
  | _ => .int
abbrev cJ9_floorDiv_f86c9 : ByteArray := prog_18_method_49_code
def yJ9_floorDiv_f86c9 : MethodName := ⟨RJ9, "floorDiv", "(JJ)J"⟩
def RJ0 : String := "java/lang/String"
def TJ0 : u_T := fun k => match k with
  | 0 => ("java/lang/String", "value", "[B", true)
  | _ => ("java/lang/String", "coder", "B", true)
def tyJ0 : Nat → FieldType := fun k => match k with
  | 0 => .array .byte
  | _ => .byte
def RL : String := "OctavianDeskLaw"
abbrev cL_set : ByteArray := method_3_code
def yL_set : MethodName := ⟨RL, "set", "(LOctavianDesk;III[J)I"⟩
abbrev cL_setFour : ByteArray := method_4_code
def yL_setFour : MethodName := ⟨RL, "setFour", "(LOctavianDesk;IZIIII[J)I"⟩
abbrev cL_setOrder : ByteArray := method_5_code
def yL_setOrder : MethodName := ⟨RL, "setOrder", "(LOctavianDesk;I[J)I"⟩
abbrev cL_load : ByteArray := method_6_code
def yL_load : MethodName := ⟨RL, "load", "(LOctavianDesk;II[J)I"⟩
abbrev cL_add : ByteArray := method_7_code
def yL_add : MethodName := ⟨RL, "add", "(LOctavianDesk;IIIZ[J)I"⟩
abbrev cL_multiply : ByteArray := method_8_code
def yL_multiply : MethodName := ⟨RL, "multiply", "(LOctavianDesk;III[J)I"⟩
abbrev cL_conjugate : ByteArray := method_9_code
def yL_conjugate : MethodName := ⟨RL, "conjugate", "(LOctavianDesk;I[J)I"⟩
abbrev cL_commutator : ByteArray := method_10_code
def yL_commutator : MethodName := ⟨RL, "commutator", "(LOctavianDesk;III[J)I"⟩
abbrev cL_associator : ByteArray := method_11_code
def yL_associator : MethodName := ⟨RL, "associator", "(LOctavianDesk;IIII[J)I"⟩
abbrev cL_divide : ByteArray := method_12_code
def yL_divide : MethodName := ⟨RL, "divide", "(LOctavianDesk;IIII[J)I"⟩
abbrev cL_coordinate : ByteArray := method_13_code
def yL_coordinate : MethodName := ⟨RL, "coordinate", "(LOctavianDesk;II[J)I"⟩
abbrev cL_norm : ByteArray := method_14_code
def yL_norm : MethodName := ⟨RL, "norm", "(LOctavianDesk;I[J)I"⟩
abbrev cL_dot : ByteArray := method_15_code
def yL_dot : MethodName := ⟨RL, "dot", "(LOctavianDesk;II[J)I"⟩
abbrev cL_ordersOf : ByteArray := method_16_code
def yL_ordersOf : MethodName := ⟨RL, "ordersOf", "(LOctavianDesk;I[J)I"⟩
abbrev cL_left : ByteArray := method_17_code
def yL_left : MethodName := ⟨RL, "left", "(LOctavianDesk;III[J)I"⟩
abbrev cL_unitOf : ByteArray := method_18_code
def yL_unitOf : MethodName := ⟨RL, "unitOf", "(LOctavianDesk;I[J)I"⟩
abbrev cL_value : ByteArray := method_19_code
def yL_value : MethodName := ⟨RL, "value", "(LOctavianDesk;I[J)I"⟩
abbrev cL_dimension : ByteArray := method_20_code
def yL_dimension : MethodName := ⟨RL, "dimension", "(LOctavianDesk;I[J)I"⟩
abbrev cL_commute : ByteArray := method_21_code
def yL_commute : MethodName := ⟨RL, "commute", "(LOctavianDesk;II[J)I"⟩
abbrev cL_associate : ByteArray := method_22_code
def yL_associate : MethodName := ⟨RL, "associate", "(LOctavianDesk;III[J)I"⟩
abbrev cL_elements : ByteArray := method_23_code
def yL_elements : MethodName := ⟨RL, "elements", "(LOctavianDesk;I[J)I"⟩
abbrev cL_steps : ByteArray := method_24_code
def yL_steps : MethodName := ⟨RL, "steps", "(LOctavianDesk;II[J)I"⟩
abbrev cL_lastNorm : ByteArray := method_25_code
def yL_lastNorm : MethodName := ⟨RL, "lastNorm", "(LOctavianDesk;II[J)I"⟩
abbrev cL_commuting : ByteArray := method_26_code
def yL_commuting : MethodName := ⟨RL, "commuting", "(LOctavianDesk;I[J)I"⟩
abbrev cL_append : ByteArray := method_27_code
def yL_append : MethodName := ⟨RL, "append", "(LOctavianDesk;I[J)I"⟩
abbrev cL_undo : ByteArray := method_28_code
def yL_undo : MethodName := ⟨RL, "undo", "(LOctavianDesk;[J)I"⟩
abbrev cL_law : ByteArray := code
def yL_law : MethodName := ⟨RL, "law", "([I)Z"⟩
end
section
theorem dX0_init_0 : decode cX0_init 0 = .ok (.aload_n 0, 1) := by decide +kernel
theorem dX0_init_1 : decode cX0_init 1 = .ok (.invokespecial 3, 3) := by decide +kernel
theorem dX0_init_4 : decode cX0_init 4 = .ok (.aload_n 0, 1) := by decide +kernel
theorem dX0_init_5 : decode cX0_init 5 = .ok (.bipush 7, 2) := by decide +kernel
theorem dX0_init_7 : decode cX0_init 7 = .ok (.bipush 8, 2) := by decide +kernel
theorem dX0_init_9 : decode cX0_init 9 = .ok (.multianewarray 13 2, 4) := by decide +kernel
theorem dX0_init_13 : decode cX0_init 13 = .ok (.putfield 15, 3) := by decide +kernel
theorem dX0_init_16 : decode cX0_init 16 = .ok (.aload_n 0, 1) := by decide +kernel
theorem dX0_init_17 : decode cX0_init 17 = .ok (.bipush 7, 2) := by decide +kernel
theorem dX0_init_19 : decode cX0_init 19 = .ok (.bipush 8, 2) := by decide +kernel
theorem dX0_init_21 : decode cX0_init 21 = .ok (.multianewarray 13 2, 4) := by decide +kernel
theorem dX0_init_25 : decode cX0_init 25 = .ok (.putfield 20, 3) := by decide +kernel
theorem dX0_init_28 : decode cX0_init 28 = .ok (.aload_n 0, 1) := by decide +kernel
theorem dX0_init_29 : decode cX0_init 29 = .ok (.bipush 7, 2) := by decide +kernel
theorem dX0_init_31 : decode cX0_init 31 = .ok (.bipush 8, 2) := by decide +kernel
theorem dX0_init_33 : decode cX0_init 33 = .ok (.multianewarray 13 2, 4) := by decide +kernel
theorem dX0_init_37 : decode cX0_init 37 = .ok (.putfield 23, 3) := by decide +kernel
theorem dX0_init_40 : decode cX0_init 40 = .ok (.aload_n 0, 1) := by decide +kernel
theorem dX0_init_41 : decode cX0_init 41 = .ok (.bipush 8, 2) := by decide +kernel
theorem dX0_init_43 : decode cX0_init 43 = .ok (.newarray .long, 2) := by decide +kernel
theorem dX0_init_45 : decode cX0_init 45 = .ok (.putfield 26, 3) := by decide +kernel
theorem dX0_init_48 : decode cX0_init 48 = .ok (.aload_n 0, 1) := by decide +kernel
theorem dX0_init_49 : decode cX0_init 49 = .ok (.iconst 0, 1) := by decide +kernel
theorem dX0_init_50 : decode cX0_init 50 = .ok (.putfield 30, 3) := by decide +kernel
theorem dX0_init_53 : decode cX0_init 53 = .ok (.aload_n 0, 1) := by decide +kernel
theorem dX0_init_54 : decode cX0_init 54 = .ok (.iconst 0, 1) := by decide +kernel
theorem dX0_init_55 : decode cX0_init 55 = .ok (.putfield 34, 3) := by decide +kernel
theorem dX0_init_58 : decode cX0_init 58 = .ok (.aload_n 0, 1) := by decide +kernel
theorem dX0_init_59 : decode cX0_init 59 = .ok (.aload_n 1, 1) := by decide +kernel
theorem dX0_init_60 : decode cX0_init 60 = .ok (.putfield 37, 3) := by decide +kernel
theorem dX0_init_63 : decode cX0_init 63 = .ok (.return_, 1) := by decide +kernel
theorem dX0_carryOutAll_0 : decode cX0_carryOutAll 0 = .ok (.aload_n 0, 1) := by decide +kernel
theorem dX0_carryOutAll_1 : decode cX0_carryOutAll 1 = .ok (.iconst 0, 1) := by decide +kernel
theorem dX0_carryOutAll_2 : decode cX0_carryOutAll 2 = .ok (.putfield 30, 3) := by decide +kernel
theorem dX0_carryOutAll_5 : decode cX0_carryOutAll 5 = .ok (.iconst 0, 1) := by decide +kernel
theorem dX0_carryOutAll_6 : decode cX0_carryOutAll 6 = .ok (.istore_n 2, 1) := by decide +kernel
theorem dX0_carryOutAll_7 : decode cX0_carryOutAll 7 = .ok (.iload_n 2, 1) := by decide +kernel
theorem dX0_carryOutAll_8 : decode cX0_carryOutAll 8 = .ok (.bipush 100, 2) := by decide +kernel
theorem dX0_carryOutAll_10 : decode cX0_carryOutAll 10 = .ok (.if_icmp .ge 33, 3) := by decide +kernel
theorem dX0_carryOutAll_13 : decode cX0_carryOutAll 13 = .ok (.aload_n 0, 1) := by decide +kernel
theorem dX0_carryOutAll_14 : decode cX0_carryOutAll 14 = .ok (.getfield 30, 3) := by decide +kernel
theorem dX0_carryOutAll_17 : decode cX0_carryOutAll 17 = .ok (.aload_n 0, 1) := by decide +kernel
theorem dX0_carryOutAll_18 : decode cX0_carryOutAll 18 = .ok (.getfield 37, 3) := by decide +kernel
theorem dX0_carryOutAll_21 : decode cX0_carryOutAll 21 = .ok (.getfield 41, 3) := by decide +kernel
theorem dX0_carryOutAll_24 : decode cX0_carryOutAll 24 = .ok (.if_icmp .ge 19, 3) := by decide +kernel
theorem dX0_carryOutAll_27 : decode cX0_carryOutAll 27 = .ok (.aload_n 0, 1) := by decide +kernel
theorem dX0_carryOutAll_28 : decode cX0_carryOutAll 28 = .ok (.aload_n 1, 1) := by decide +kernel
theorem dX0_carryOutAll_29 : decode cX0_carryOutAll 29 = .ok (.invokevirtual 44, 3) := by decide +kernel
theorem dX0_carryOutAll_32 : decode cX0_carryOutAll 32 = .ok (.ifCond .ne 5, 3) := by decide +kernel
theorem dX0_carryOutAll_35 : decode cX0_carryOutAll 35 = .ok (.iload_n 2, 1) := by decide +kernel
theorem dX0_carryOutAll_36 : decode cX0_carryOutAll 36 = .ok (.ireturn, 1) := by decide +kernel
theorem dX0_carryOutAll_37 : decode cX0_carryOutAll 37 = .ok (.iinc 2 1, 3) := by decide +kernel
theorem dX0_carryOutAll_40 : decode cX0_carryOutAll 40 = .ok (.goto (-33), 3) := by decide +kernel
theorem dX0_carryOutAll_43 : decode cX0_carryOutAll 43 = .ok (.iload_n 2, 1) := by decide +kernel
theorem dX0_carryOutAll_44 : decode cX0_carryOutAll 44 = .ok (.ireturn, 1) := by decide +kernel
theorem dX0_carryOutNext_0 : decode cX0_carryOutNext 0 = .ok (.aload_n 0, 1) := by decide +kernel
theorem dX0_carryOutNext_1 : decode cX0_carryOutNext 1 = .ok (.getfield 37, 3) := by decide +kernel
theorem dX0_carryOutNext_4 : decode cX0_carryOutNext 4 = .ok (.aload_n 0, 1) := by decide +kernel
theorem dX0_carryOutNext_5 : decode cX0_carryOutNext 5 = .ok (.getfield 30, 3) := by decide +kernel
theorem dX0_carryOutNext_8 : decode cX0_carryOutNext 8 = .ok (.invokevirtual 48, 3) := by decide +kernel
theorem dX0_carryOutNext_11 : decode cX0_carryOutNext 11 = .ok (.bipush 97, 2) := by decide +kernel
theorem dX0_carryOutNext_13 : decode cX0_carryOutNext 13 = .ok (.isub, 1) := by decide +kernel
theorem dX0_carryOutNext_14 : decode cX0_carryOutNext 14 = .ok (.istore_n 2, 1) := by decide +kernel
theorem dX0_carryOutNext_15 : decode cX0_carryOutNext 15 = .ok (.aload_n 0, 1) := by decide +kernel
theorem dX0_carryOutNext_16 : decode cX0_carryOutNext 16 = .ok (.dup, 1) := by decide +kernel
theorem dX0_carryOutNext_17 : decode cX0_carryOutNext 17 = .ok (.getfield 30, 3) := by decide +kernel
theorem dX0_carryOutNext_20 : decode cX0_carryOutNext 20 = .ok (.iconst 2, 1) := by decide +kernel
theorem dX0_carryOutNext_21 : decode cX0_carryOutNext 21 = .ok (.iadd, 1) := by decide +kernel
theorem dX0_carryOutNext_22 : decode cX0_carryOutNext 22 = .ok (.putfield 30, 3) := by decide +kernel
theorem dX0_carryOutNext_25 : decode cX0_carryOutNext 25 = .ok (.aload_n 0, 1) := by decide +kernel
theorem dX0_carryOutNext_26 : decode cX0_carryOutNext 26 = .ok (.iconst 0, 1) := by decide +kernel
theorem dX0_carryOutNext_27 : decode cX0_carryOutNext 27 = .ok (.putfield 34, 3) := by decide +kernel
theorem dX0_carryOutNext_30 : decode cX0_carryOutNext 30 = .ok (.iload_n 2, 1) := by decide +kernel
theorem dX0_carryOutNext_31 : decode cX0_carryOutNext 31 = .ok (.ifCond .lt 18, 3) := by decide +kernel
theorem dX0_carryOutNext_34 : decode cX0_carryOutNext 34 = .ok (.iload_n 2, 1) := by decide +kernel
theorem dX0_carryOutNext_35 : decode cX0_carryOutNext 35 = .ok (.bipush 8, 2) := by decide +kernel
theorem dX0_carryOutNext_37 : decode cX0_carryOutNext 37 = .ok (.if_icmp .ge 12, 3) := by decide +kernel
theorem dX0_carryOutNext_40 : decode cX0_carryOutNext 40 = .ok (.aload_n 0, 1) := by decide +kernel
theorem dX0_carryOutNext_41 : decode cX0_carryOutNext 41 = .ok (.aload_n 1, 1) := by decide +kernel
theorem dX0_carryOutNext_42 : decode cX0_carryOutNext 42 = .ok (.iconst 0, 1) := by decide +kernel
theorem dX0_carryOutNext_43 : decode cX0_carryOutNext 43 = .ok (.invokevirtual 52, 3) := by decide +kernel
theorem dX0_carryOutNext_46 : decode cX0_carryOutNext 46 = .ok (.ifCond .ne 5, 3) := by decide +kernel
theorem dX0_carryOutNext_49 : decode cX0_carryOutNext 49 = .ok (.iconst 0, 1) := by decide +kernel
theorem dX0_carryOutNext_50 : decode cX0_carryOutNext 50 = .ok (.ireturn, 1) := by decide +kernel
theorem dX0_carryOutNext_51 : decode cX0_carryOutNext 51 = .ok (.aload_n 0, 1) := by decide +kernel
theorem dX0_carryOutNext_52 : decode cX0_carryOutNext 52 = .ok (.dup, 1) := by decide +kernel
theorem dX0_carryOutNext_53 : decode cX0_carryOutNext 53 = .ok (.getfield 30, 3) := by decide +kernel
theorem dX0_carryOutNext_56 : decode cX0_carryOutNext 56 = .ok (.iconst 1, 1) := by decide +kernel
theorem dX0_carryOutNext_57 : decode cX0_carryOutNext 57 = .ok (.iadd, 1) := by decide +kernel
theorem dX0_carryOutNext_58 : decode cX0_carryOutNext 58 = .ok (.putfield 30, 3) := by decide +kernel
theorem dX0_carryOutNext_61 : decode cX0_carryOutNext 61 = .ok (.aload_n 0, 1) := by decide +kernel
theorem dX0_carryOutNext_62 : decode cX0_carryOutNext 62 = .ok (.getfield 15, 3) := by decide +kernel
theorem dX0_carryOutNext_65 : decode cX0_carryOutNext 65 = .ok (.iconst 0, 1) := by decide +kernel
theorem dX0_carryOutNext_66 : decode cX0_carryOutNext 66 = .ok (.aaload, 1) := by decide +kernel
theorem dX0_carryOutNext_67 : decode cX0_carryOutNext 67 = .ok (.aload_n 1, 1) := by decide +kernel
theorem dX0_carryOutNext_68 : decode cX0_carryOutNext 68 = .ok (.getfield 56, 3) := by decide +kernel
theorem dX0_carryOutNext_71 : decode cX0_carryOutNext 71 = .ok (.iload_n 2, 1) := by decide +kernel
theorem dX0_carryOutNext_72 : decode cX0_carryOutNext 72 = .ok (.aaload, 1) := by decide +kernel
theorem dX0_carryOutNext_73 : decode cX0_carryOutNext 73 = .ok (.invokestatic 61, 3) := by decide +kernel
theorem dX0_carryOutNext_76 : decode cX0_carryOutNext 76 = .ok (.aload_n 1, 1) := by decide +kernel
theorem dX0_carryOutNext_77 : decode cX0_carryOutNext 77 = .ok (.dup, 1) := by decide +kernel
theorem dX0_carryOutNext_78 : decode cX0_carryOutNext 78 = .ok (.getfield 65, 3) := by decide +kernel
theorem dX0_carryOutNext_81 : decode cX0_carryOutNext 81 = .ok (.aload_n 0, 1) := by decide +kernel
theorem dX0_carryOutNext_82 : decode cX0_carryOutNext 82 = .ok (.getfield 34, 3) := by decide +kernel
theorem dX0_carryOutNext_85 : decode cX0_carryOutNext 85 = .ok (.iadd, 1) := by decide +kernel
theorem dX0_carryOutNext_86 : decode cX0_carryOutNext 86 = .ok (.putfield 65, 3) := by decide +kernel
theorem dX0_carryOutNext_89 : decode cX0_carryOutNext 89 = .ok (.iconst 1, 1) := by decide +kernel
theorem dX0_carryOutNext_90 : decode cX0_carryOutNext 90 = .ok (.ireturn, 1) := by decide +kernel
theorem dX0_workSum_0 : decode cX0_workSum 0 = .ok (.iload_n 2, 1) := by decide +kernel
theorem dX0_workSum_1 : decode cX0_workSum 1 = .ok (.ifCond .lt 18, 3) := by decide +kernel
theorem dX0_workSum_4 : decode cX0_workSum 4 = .ok (.iload_n 2, 1) := by decide +kernel
theorem dX0_workSum_5 : decode cX0_workSum 5 = .ok (.bipush 6, 2) := by decide +kernel
theorem dX0_workSum_7 : decode cX0_workSum 7 = .ok (.if_icmp .gt 12, 3) := by decide +kernel
theorem dX0_workSum_10 : decode cX0_workSum 10 = .ok (.aload_n 0, 1) := by decide +kernel
theorem dX0_workSum_11 : decode cX0_workSum 11 = .ok (.aload_n 1, 1) := by decide +kernel
theorem dX0_workSum_12 : decode cX0_workSum 12 = .ok (.iload_n 2, 1) := by decide +kernel
theorem dX0_workSum_13 : decode cX0_workSum 13 = .ok (.invokevirtual 68, 3) := by decide +kernel
theorem dX0_workSum_16 : decode cX0_workSum 16 = .ok (.ifCond .ne 5, 3) := by decide +kernel
theorem dX0_workSum_19 : decode cX0_workSum 19 = .ok (.iconst 0, 1) := by decide +kernel
theorem dX0_workSum_20 : decode cX0_workSum 20 = .ok (.ireturn, 1) := by decide +kernel
theorem dX0_workSum_21 : decode cX0_workSum 21 = .ok (.aload_n 0, 1) := by decide +kernel
theorem dX0_workSum_22 : decode cX0_workSum 22 = .ok (.getfield 20, 3) := by decide +kernel
theorem dX0_workSum_25 : decode cX0_workSum 25 = .ok (.iload_n 2, 1) := by decide +kernel
theorem dX0_workSum_26 : decode cX0_workSum 26 = .ok (.aaload, 1) := by decide +kernel
theorem dX0_workSum_27 : decode cX0_workSum 27 = .ok (.aload_n 0, 1) := by decide +kernel
theorem dX0_workSum_28 : decode cX0_workSum 28 = .ok (.getfield 15, 3) := by decide +kernel
theorem dX0_workSum_31 : decode cX0_workSum 31 = .ok (.iload_n 2, 1) := by decide +kernel
theorem dX0_workSum_32 : decode cX0_workSum 32 = .ok (.aaload, 1) := by decide +kernel
theorem dX0_workSum_33 : decode cX0_workSum 33 = .ok (.invokestatic 61, 3) := by decide +kernel
theorem dX0_workSum_36 : decode cX0_workSum 36 = .ok (.iconst 0, 1) := by decide +kernel
theorem dX0_workSum_37 : decode cX0_workSum 37 = .ok (.istore_n 3, 1) := by decide +kernel
theorem dX0_workSum_38 : decode cX0_workSum 38 = .ok (.iload_n 3, 1) := by decide +kernel
theorem dX0_workSum_39 : decode cX0_workSum 39 = .ok (.bipush 100, 2) := by decide +kernel
theorem dX0_workSum_41 : decode cX0_workSum 41 = .ok (.if_icmp .ge 123, 3) := by decide +kernel
theorem dX0_workSum_44 : decode cX0_workSum 44 = .ok (.aload_n 0, 1) := by decide +kernel
theorem dX0_workSum_45 : decode cX0_workSum 45 = .ok (.getfield 37, 3) := by decide +kernel
theorem dX0_workSum_48 : decode cX0_workSum 48 = .ok (.aload_n 0, 1) := by decide +kernel
theorem dX0_workSum_49 : decode cX0_workSum 49 = .ok (.getfield 30, 3) := by decide +kernel
theorem dX0_workSum_52 : decode cX0_workSum 52 = .ok (.invokevirtual 48, 3) := by decide +kernel
theorem dX0_workSum_55 : decode cX0_workSum 55 = .ok (.bipush 43, 2) := by decide +kernel
theorem dX0_workSum_57 : decode cX0_workSum 57 = .ok (.if_icmp .eq 19, 3) := by decide +kernel
theorem dX0_workSum_60 : decode cX0_workSum 60 = .ok (.aload_n 0, 1) := by decide +kernel
theorem dX0_workSum_61 : decode cX0_workSum 61 = .ok (.getfield 37, 3) := by decide +kernel
theorem dX0_workSum_64 : decode cX0_workSum 64 = .ok (.aload_n 0, 1) := by decide +kernel
theorem dX0_workSum_65 : decode cX0_workSum 65 = .ok (.getfield 30, 3) := by decide +kernel
theorem dX0_workSum_68 : decode cX0_workSum 68 = .ok (.invokevirtual 48, 3) := by decide +kernel
theorem dX0_workSum_71 : decode cX0_workSum 71 = .ok (.bipush 45, 2) := by decide +kernel
theorem dX0_workSum_73 : decode cX0_workSum 73 = .ok (.if_icmp .ne 91, 3) := by decide +kernel
theorem dX0_workSum_76 : decode cX0_workSum 76 = .ok (.aload_n 0, 1) := by decide +kernel
theorem dX0_workSum_77 : decode cX0_workSum 77 = .ok (.getfield 37, 3) := by decide +kernel
theorem dX0_workSum_80 : decode cX0_workSum 80 = .ok (.aload_n 0, 1) := by decide +kernel
theorem dX0_workSum_81 : decode cX0_workSum 81 = .ok (.getfield 30, 3) := by decide +kernel
theorem dX0_workSum_84 : decode cX0_workSum 84 = .ok (.invokevirtual 48, 3) := by decide +kernel
theorem dX0_workSum_87 : decode cX0_workSum 87 = .ok (.bipush 45, 2) := by decide +kernel
theorem dX0_workSum_89 : decode cX0_workSum 89 = .ok (.if_icmp .ne 7, 3) := by decide +kernel
theorem dX0_workSum_92 : decode cX0_workSum 92 = .ok (.iconst 1, 1) := by decide +kernel
theorem dX0_workSum_93 : decode cX0_workSum 93 = .ok (.goto 4, 3) := by decide +kernel
theorem dX0_workSum_96 : decode cX0_workSum 96 = .ok (.iconst 0, 1) := by decide +kernel
theorem dX0_workSum_97 : decode cX0_workSum 97 = .ok (.istore 4, 2) := by decide +kernel
theorem dX0_workSum_99 : decode cX0_workSum 99 = .ok (.aload_n 0, 1) := by decide +kernel
theorem dX0_workSum_100 : decode cX0_workSum 100 = .ok (.dup, 1) := by decide +kernel
theorem dX0_workSum_101 : decode cX0_workSum 101 = .ok (.getfield 30, 3) := by decide +kernel
theorem dX0_workSum_104 : decode cX0_workSum 104 = .ok (.iconst 1, 1) := by decide +kernel
theorem dX0_workSum_105 : decode cX0_workSum 105 = .ok (.iadd, 1) := by decide +kernel
theorem dX0_workSum_106 : decode cX0_workSum 106 = .ok (.putfield 30, 3) := by decide +kernel
theorem dX0_workSum_109 : decode cX0_workSum 109 = .ok (.aload_n 0, 1) := by decide +kernel
theorem dX0_workSum_110 : decode cX0_workSum 110 = .ok (.aload_n 1, 1) := by decide +kernel
theorem dX0_workSum_111 : decode cX0_workSum 111 = .ok (.iload_n 2, 1) := by decide +kernel
theorem dX0_workSum_112 : decode cX0_workSum 112 = .ok (.invokevirtual 68, 3) := by decide +kernel
theorem dX0_workSum_115 : decode cX0_workSum 115 = .ok (.ifCond .ne 5, 3) := by decide +kernel
theorem dX0_workSum_118 : decode cX0_workSum 118 = .ok (.iconst 0, 1) := by decide +kernel
theorem dX0_workSum_119 : decode cX0_workSum 119 = .ok (.ireturn, 1) := by decide +kernel
theorem dX0_workSum_120 : decode cX0_workSum 120 = .ok (.aload_n 0, 1) := by decide +kernel
theorem dX0_workSum_121 : decode cX0_workSum 121 = .ok (.getfield 15, 3) := by decide +kernel
theorem dX0_workSum_124 : decode cX0_workSum 124 = .ok (.iload_n 2, 1) := by decide +kernel
theorem dX0_workSum_125 : decode cX0_workSum 125 = .ok (.aaload, 1) := by decide +kernel
theorem dX0_workSum_126 : decode cX0_workSum 126 = .ok (.aload_n 0, 1) := by decide +kernel
theorem dX0_workSum_127 : decode cX0_workSum 127 = .ok (.getfield 20, 3) := by decide +kernel
theorem dX0_workSum_130 : decode cX0_workSum 130 = .ok (.iload_n 2, 1) := by decide +kernel
theorem dX0_workSum_131 : decode cX0_workSum 131 = .ok (.aaload, 1) := by decide +kernel
theorem dX0_workSum_132 : decode cX0_workSum 132 = .ok (.iload 4, 2) := by decide +kernel
theorem dX0_workSum_134 : decode cX0_workSum 134 = .ok (.aload_n 0, 1) := by decide +kernel
theorem dX0_workSum_135 : decode cX0_workSum 135 = .ok (.getfield 15, 3) := by decide +kernel
theorem dX0_workSum_138 : decode cX0_workSum 138 = .ok (.iload_n 2, 1) := by decide +kernel
theorem dX0_workSum_139 : decode cX0_workSum 139 = .ok (.aaload, 1) := by decide +kernel
theorem dX0_workSum_140 : decode cX0_workSum 140 = .ok (.invokestatic 71, 3) := by decide +kernel
theorem dX0_workSum_143 : decode cX0_workSum 143 = .ok (.aload_n 0, 1) := by decide +kernel
theorem dX0_workSum_144 : decode cX0_workSum 144 = .ok (.getfield 15, 3) := by decide +kernel
theorem dX0_workSum_147 : decode cX0_workSum 147 = .ok (.iload_n 2, 1) := by decide +kernel
theorem dX0_workSum_148 : decode cX0_workSum 148 = .ok (.aaload, 1) := by decide +kernel
theorem dX0_workSum_149 : decode cX0_workSum 149 = .ok (.iconst 0, 1) := by decide +kernel
theorem dX0_workSum_150 : decode cX0_workSum 150 = .ok (.invokestatic 75, 3) := by decide +kernel
theorem dX0_workSum_153 : decode cX0_workSum 153 = .ok (.ifCond .ne 5, 3) := by decide +kernel
theorem dX0_workSum_156 : decode cX0_workSum 156 = .ok (.iconst 0, 1) := by decide +kernel
theorem dX0_workSum_157 : decode cX0_workSum 157 = .ok (.ireturn, 1) := by decide +kernel
theorem dX0_workSum_158 : decode cX0_workSum 158 = .ok (.iinc 3 1, 3) := by decide +kernel
theorem dX0_workSum_161 : decode cX0_workSum 161 = .ok (.goto (-123), 3) := by decide +kernel
theorem dX0_workSum_164 : decode cX0_workSum 164 = .ok (.iconst 1, 1) := by decide +kernel
theorem dX0_workSum_165 : decode cX0_workSum 165 = .ok (.ireturn, 1) := by decide +kernel
theorem dX0_workTerm_0 : decode cX0_workTerm 0 = .ok (.aload_n 0, 1) := by decide +kernel
theorem dX0_workTerm_1 : decode cX0_workTerm 1 = .ok (.aload_n 1, 1) := by decide +kernel
theorem dX0_workTerm_2 : decode cX0_workTerm 2 = .ok (.iload_n 2, 1) := by decide +kernel
theorem dX0_workTerm_3 : decode cX0_workTerm 3 = .ok (.invokevirtual 79, 3) := by decide +kernel
theorem dX0_workTerm_6 : decode cX0_workTerm 6 = .ok (.ifCond .ne 5, 3) := by decide +kernel
theorem dX0_workTerm_9 : decode cX0_workTerm 9 = .ok (.iconst 0, 1) := by decide +kernel
theorem dX0_workTerm_10 : decode cX0_workTerm 10 = .ok (.ireturn, 1) := by decide +kernel
theorem dX0_workTerm_11 : decode cX0_workTerm 11 = .ok (.aload_n 0, 1) := by decide +kernel
theorem dX0_workTerm_12 : decode cX0_workTerm 12 = .ok (.getfield 23, 3) := by decide +kernel
theorem dX0_workTerm_15 : decode cX0_workTerm 15 = .ok (.iload_n 2, 1) := by decide +kernel
theorem dX0_workTerm_16 : decode cX0_workTerm 16 = .ok (.aaload, 1) := by decide +kernel
theorem dX0_workTerm_17 : decode cX0_workTerm 17 = .ok (.aload_n 0, 1) := by decide +kernel
theorem dX0_workTerm_18 : decode cX0_workTerm 18 = .ok (.getfield 20, 3) := by decide +kernel
theorem dX0_workTerm_21 : decode cX0_workTerm 21 = .ok (.iload_n 2, 1) := by decide +kernel
theorem dX0_workTerm_22 : decode cX0_workTerm 22 = .ok (.aaload, 1) := by decide +kernel
theorem dX0_workTerm_23 : decode cX0_workTerm 23 = .ok (.invokestatic 61, 3) := by decide +kernel
theorem dX0_workTerm_26 : decode cX0_workTerm 26 = .ok (.iconst 0, 1) := by decide +kernel
theorem dX0_workTerm_27 : decode cX0_workTerm 27 = .ok (.istore_n 3, 1) := by decide +kernel
theorem dX0_workTerm_28 : decode cX0_workTerm 28 = .ok (.iload_n 3, 1) := by decide +kernel
theorem dX0_workTerm_29 : decode cX0_workTerm 29 = .ok (.bipush 100, 2) := by decide +kernel
theorem dX0_workTerm_31 : decode cX0_workTerm 31 = .ok (.if_icmp .ge 101, 3) := by decide +kernel
theorem dX0_workTerm_34 : decode cX0_workTerm 34 = .ok (.aload_n 0, 1) := by decide +kernel
theorem dX0_workTerm_35 : decode cX0_workTerm 35 = .ok (.getfield 37, 3) := by decide +kernel
theorem dX0_workTerm_38 : decode cX0_workTerm 38 = .ok (.aload_n 0, 1) := by decide +kernel
theorem dX0_workTerm_39 : decode cX0_workTerm 39 = .ok (.getfield 30, 3) := by decide +kernel
theorem dX0_workTerm_42 : decode cX0_workTerm 42 = .ok (.invokevirtual 48, 3) := by decide +kernel
theorem dX0_workTerm_45 : decode cX0_workTerm 45 = .ok (.bipush 42, 2) := by decide +kernel
theorem dX0_workTerm_47 : decode cX0_workTerm 47 = .ok (.if_icmp .ne 85, 3) := by decide +kernel
theorem dX0_workTerm_50 : decode cX0_workTerm 50 = .ok (.aload_n 0, 1) := by decide +kernel
theorem dX0_workTerm_51 : decode cX0_workTerm 51 = .ok (.dup, 1) := by decide +kernel
theorem dX0_workTerm_52 : decode cX0_workTerm 52 = .ok (.getfield 30, 3) := by decide +kernel
theorem dX0_workTerm_55 : decode cX0_workTerm 55 = .ok (.iconst 1, 1) := by decide +kernel
theorem dX0_workTerm_56 : decode cX0_workTerm 56 = .ok (.iadd, 1) := by decide +kernel
theorem dX0_workTerm_57 : decode cX0_workTerm 57 = .ok (.putfield 30, 3) := by decide +kernel
theorem dX0_workTerm_60 : decode cX0_workTerm 60 = .ok (.aload_n 0, 1) := by decide +kernel
theorem dX0_workTerm_61 : decode cX0_workTerm 61 = .ok (.aload_n 1, 1) := by decide +kernel
theorem dX0_workTerm_62 : decode cX0_workTerm 62 = .ok (.iload_n 2, 1) := by decide +kernel
theorem dX0_workTerm_63 : decode cX0_workTerm 63 = .ok (.invokevirtual 79, 3) := by decide +kernel
theorem dX0_workTerm_66 : decode cX0_workTerm 66 = .ok (.ifCond .ne 5, 3) := by decide +kernel
theorem dX0_workTerm_69 : decode cX0_workTerm 69 = .ok (.iconst 0, 1) := by decide +kernel
theorem dX0_workTerm_70 : decode cX0_workTerm 70 = .ok (.ireturn, 1) := by decide +kernel
theorem dX0_workTerm_71 : decode cX0_workTerm 71 = .ok (.aload_n 0, 1) := by decide +kernel
theorem dX0_workTerm_72 : decode cX0_workTerm 72 = .ok (.getfield 20, 3) := by decide +kernel
theorem dX0_workTerm_75 : decode cX0_workTerm 75 = .ok (.iload_n 2, 1) := by decide +kernel
theorem dX0_workTerm_76 : decode cX0_workTerm 76 = .ok (.aaload, 1) := by decide +kernel
theorem dX0_workTerm_77 : decode cX0_workTerm 77 = .ok (.aload_n 0, 1) := by decide +kernel
theorem dX0_workTerm_78 : decode cX0_workTerm 78 = .ok (.getfield 23, 3) := by decide +kernel
theorem dX0_workTerm_81 : decode cX0_workTerm 81 = .ok (.iload_n 2, 1) := by decide +kernel
theorem dX0_workTerm_82 : decode cX0_workTerm 82 = .ok (.aaload, 1) := by decide +kernel
theorem dX0_workTerm_83 : decode cX0_workTerm 83 = .ok (.aload_n 0, 1) := by decide +kernel
theorem dX0_workTerm_84 : decode cX0_workTerm 84 = .ok (.getfield 26, 3) := by decide +kernel
theorem dX0_workTerm_87 : decode cX0_workTerm 87 = .ok (.invokestatic 82, 3) := by decide +kernel
theorem dX0_workTerm_90 : decode cX0_workTerm 90 = .ok (.aload_n 0, 1) := by decide +kernel
theorem dX0_workTerm_91 : decode cX0_workTerm 91 = .ok (.getfield 26, 3) := by decide +kernel
theorem dX0_workTerm_94 : decode cX0_workTerm 94 = .ok (.iconst 1, 1) := by decide +kernel
theorem dX0_workTerm_95 : decode cX0_workTerm 95 = .ok (.invokestatic 75, 3) := by decide +kernel
theorem dX0_workTerm_98 : decode cX0_workTerm 98 = .ok (.ifCond .ne 5, 3) := by decide +kernel
theorem dX0_workTerm_101 : decode cX0_workTerm 101 = .ok (.iconst 0, 1) := by decide +kernel
theorem dX0_workTerm_102 : decode cX0_workTerm 102 = .ok (.ireturn, 1) := by decide +kernel
theorem dX0_workTerm_103 : decode cX0_workTerm 103 = .ok (.aload_n 0, 1) := by decide +kernel
theorem dX0_workTerm_104 : decode cX0_workTerm 104 = .ok (.getfield 26, 3) := by decide +kernel
theorem dX0_workTerm_107 : decode cX0_workTerm 107 = .ok (.aload_n 0, 1) := by decide +kernel
theorem dX0_workTerm_108 : decode cX0_workTerm 108 = .ok (.getfield 20, 3) := by decide +kernel
theorem dX0_workTerm_111 : decode cX0_workTerm 111 = .ok (.iload_n 2, 1) := by decide +kernel
theorem dX0_workTerm_112 : decode cX0_workTerm 112 = .ok (.aaload, 1) := by decide +kernel
theorem dX0_workTerm_113 : decode cX0_workTerm 113 = .ok (.invokestatic 61, 3) := by decide +kernel
theorem dX0_workTerm_116 : decode cX0_workTerm 116 = .ok (.aload_n 0, 1) := by decide +kernel
theorem dX0_workTerm_117 : decode cX0_workTerm 117 = .ok (.dup, 1) := by decide +kernel
theorem dX0_workTerm_118 : decode cX0_workTerm 118 = .ok (.getfield 34, 3) := by decide +kernel
theorem dX0_workTerm_121 : decode cX0_workTerm 121 = .ok (.iconst 1, 1) := by decide +kernel
theorem dX0_workTerm_122 : decode cX0_workTerm 122 = .ok (.iadd, 1) := by decide +kernel
theorem dX0_workTerm_123 : decode cX0_workTerm 123 = .ok (.putfield 34, 3) := by decide +kernel
theorem dX0_workTerm_126 : decode cX0_workTerm 126 = .ok (.iinc 3 1, 3) := by decide +kernel
theorem dX0_workTerm_129 : decode cX0_workTerm 129 = .ok (.goto (-101), 3) := by decide +kernel
theorem dX0_workTerm_132 : decode cX0_workTerm 132 = .ok (.iconst 1, 1) := by decide +kernel
theorem dX0_workTerm_133 : decode cX0_workTerm 133 = .ok (.ireturn, 1) := by decide +kernel
theorem dX0_workFactor_0 : decode cX0_workFactor 0 = .ok (.iconst 1, 1) := by decide +kernel
theorem dX0_workFactor_1 : decode cX0_workFactor 1 = .ok (.istore_n 3, 1) := by decide +kernel
theorem dX0_workFactor_2 : decode cX0_workFactor 2 = .ok (.aload_n 0, 1) := by decide +kernel
theorem dX0_workFactor_3 : decode cX0_workFactor 3 = .ok (.getfield 37, 3) := by decide +kernel
theorem dX0_workFactor_6 : decode cX0_workFactor 6 = .ok (.aload_n 0, 1) := by decide +kernel
theorem dX0_workFactor_7 : decode cX0_workFactor 7 = .ok (.getfield 30, 3) := by decide +kernel
theorem dX0_workFactor_10 : decode cX0_workFactor 10 = .ok (.invokevirtual 48, 3) := by decide +kernel
theorem dX0_workFactor_13 : decode cX0_workFactor 13 = .ok (.invokestatic 85, 3) := by decide +kernel
theorem dX0_workFactor_16 : decode cX0_workFactor 16 = .ok (.ifCond .eq 28, 3) := by decide +kernel
theorem dX0_workFactor_19 : decode cX0_workFactor 19 = .ok (.aload_n 0, 1) := by decide +kernel
theorem dX0_workFactor_20 : decode cX0_workFactor 20 = .ok (.getfield 37, 3) := by decide +kernel
theorem dX0_workFactor_23 : decode cX0_workFactor 23 = .ok (.aload_n 0, 1) := by decide +kernel
theorem dX0_workFactor_24 : decode cX0_workFactor 24 = .ok (.getfield 30, 3) := by decide +kernel
theorem dX0_workFactor_27 : decode cX0_workFactor 27 = .ok (.invokevirtual 48, 3) := by decide +kernel
theorem dX0_workFactor_30 : decode cX0_workFactor 30 = .ok (.bipush 48, 2) := by decide +kernel
theorem dX0_workFactor_32 : decode cX0_workFactor 32 = .ok (.isub, 1) := by decide +kernel
theorem dX0_workFactor_33 : decode cX0_workFactor 33 = .ok (.istore_n 3, 1) := by decide +kernel
theorem dX0_workFactor_34 : decode cX0_workFactor 34 = .ok (.aload_n 0, 1) := by decide +kernel
theorem dX0_workFactor_35 : decode cX0_workFactor 35 = .ok (.dup, 1) := by decide +kernel
theorem dX0_workFactor_36 : decode cX0_workFactor 36 = .ok (.getfield 30, 3) := by decide +kernel
theorem dX0_workFactor_39 : decode cX0_workFactor 39 = .ok (.iconst 1, 1) := by decide +kernel
theorem dX0_workFactor_40 : decode cX0_workFactor 40 = .ok (.iadd, 1) := by decide +kernel
theorem dX0_workFactor_41 : decode cX0_workFactor 41 = .ok (.putfield 30, 3) := by decide +kernel
theorem dX0_workFactor_44 : decode cX0_workFactor 44 = .ok (.aload_n 0, 1) := by decide +kernel
theorem dX0_workFactor_45 : decode cX0_workFactor 45 = .ok (.aload_n 1, 1) := by decide +kernel
theorem dX0_workFactor_46 : decode cX0_workFactor 46 = .ok (.iload_n 2, 1) := by decide +kernel
theorem dX0_workFactor_47 : decode cX0_workFactor 47 = .ok (.invokevirtual 89, 3) := by decide +kernel
theorem dX0_workFactor_50 : decode cX0_workFactor 50 = .ok (.ifCond .ne 5, 3) := by decide +kernel
theorem dX0_workFactor_53 : decode cX0_workFactor 53 = .ok (.iconst 0, 1) := by decide +kernel
theorem dX0_workFactor_54 : decode cX0_workFactor 54 = .ok (.ireturn, 1) := by decide +kernel
theorem dX0_workFactor_55 : decode cX0_workFactor 55 = .ok (.iconst 0, 1) := by decide +kernel
theorem dX0_workFactor_56 : decode cX0_workFactor 56 = .ok (.istore 4, 2) := by decide +kernel
theorem dX0_workFactor_58 : decode cX0_workFactor 58 = .ok (.iload 4, 2) := by decide +kernel
theorem dX0_workFactor_60 : decode cX0_workFactor 60 = .ok (.bipush 100, 2) := by decide +kernel
theorem dX0_workFactor_62 : decode cX0_workFactor 62 = .ok (.if_icmp .ge 44, 3) := by decide +kernel
theorem dX0_workFactor_65 : decode cX0_workFactor 65 = .ok (.aload_n 0, 1) := by decide +kernel
theorem dX0_workFactor_66 : decode cX0_workFactor 66 = .ok (.getfield 37, 3) := by decide +kernel
theorem dX0_workFactor_69 : decode cX0_workFactor 69 = .ok (.aload_n 0, 1) := by decide +kernel
theorem dX0_workFactor_70 : decode cX0_workFactor 70 = .ok (.getfield 30, 3) := by decide +kernel
theorem dX0_workFactor_73 : decode cX0_workFactor 73 = .ok (.invokevirtual 48, 3) := by decide +kernel
theorem dX0_workFactor_76 : decode cX0_workFactor 76 = .ok (.bipush 39, 2) := by decide +kernel
theorem dX0_workFactor_78 : decode cX0_workFactor 78 = .ok (.if_icmp .ne 28, 3) := by decide +kernel
theorem dX0_workFactor_81 : decode cX0_workFactor 81 = .ok (.aload_n 0, 1) := by decide +kernel
theorem dX0_workFactor_82 : decode cX0_workFactor 82 = .ok (.getfield 23, 3) := by decide +kernel
theorem dX0_workFactor_85 : decode cX0_workFactor 85 = .ok (.iload_n 2, 1) := by decide +kernel
theorem dX0_workFactor_86 : decode cX0_workFactor 86 = .ok (.aaload, 1) := by decide +kernel
theorem dX0_workFactor_87 : decode cX0_workFactor 87 = .ok (.invokestatic 92, 3) := by decide +kernel
theorem dX0_workFactor_90 : decode cX0_workFactor 90 = .ok (.aload_n 0, 1) := by decide +kernel
theorem dX0_workFactor_91 : decode cX0_workFactor 91 = .ok (.dup, 1) := by decide +kernel
theorem dX0_workFactor_92 : decode cX0_workFactor 92 = .ok (.getfield 30, 3) := by decide +kernel
theorem dX0_workFactor_95 : decode cX0_workFactor 95 = .ok (.iconst 1, 1) := by decide +kernel
theorem dX0_workFactor_96 : decode cX0_workFactor 96 = .ok (.iadd, 1) := by decide +kernel
theorem dX0_workFactor_97 : decode cX0_workFactor 97 = .ok (.putfield 30, 3) := by decide +kernel
theorem dX0_workFactor_100 : decode cX0_workFactor 100 = .ok (.iinc 4 1, 3) := by decide +kernel
theorem dX0_workFactor_103 : decode cX0_workFactor 103 = .ok (.goto (-45), 3) := by decide +kernel
theorem dX0_workFactor_106 : decode cX0_workFactor 106 = .ok (.aload_n 0, 1) := by decide +kernel
theorem dX0_workFactor_107 : decode cX0_workFactor 107 = .ok (.getfield 23, 3) := by decide +kernel
theorem dX0_workFactor_110 : decode cX0_workFactor 110 = .ok (.iload_n 2, 1) := by decide +kernel
theorem dX0_workFactor_111 : decode cX0_workFactor 111 = .ok (.aaload, 1) := by decide +kernel
theorem dX0_workFactor_112 : decode cX0_workFactor 112 = .ok (.iload_n 3, 1) := by decide +kernel
theorem dX0_workFactor_113 : decode cX0_workFactor 113 = .ok (.invokestatic 96, 3) := by decide +kernel
theorem dX0_workFactor_116 : decode cX0_workFactor 116 = .ok (.aload_n 0, 1) := by decide +kernel
theorem dX0_workFactor_117 : decode cX0_workFactor 117 = .ok (.getfield 23, 3) := by decide +kernel
theorem dX0_workFactor_120 : decode cX0_workFactor 120 = .ok (.iload_n 2, 1) := by decide +kernel
theorem dX0_workFactor_121 : decode cX0_workFactor 121 = .ok (.aaload, 1) := by decide +kernel
theorem dX0_workFactor_122 : decode cX0_workFactor 122 = .ok (.iconst 0, 1) := by decide +kernel
theorem dX0_workFactor_123 : decode cX0_workFactor 123 = .ok (.invokestatic 75, 3) := by decide +kernel
theorem dX0_workFactor_126 : decode cX0_workFactor 126 = .ok (.ireturn, 1) := by decide +kernel
theorem dX0_workOperand_0 : decode cX0_workOperand 0 = .ok (.aload_n 0, 1) := by decide +kernel
theorem dX0_workOperand_1 : decode cX0_workOperand 1 = .ok (.getfield 37, 3) := by decide +kernel
theorem dX0_workOperand_4 : decode cX0_workOperand 4 = .ok (.aload_n 0, 1) := by decide +kernel
theorem dX0_workOperand_5 : decode cX0_workOperand 5 = .ok (.getfield 30, 3) := by decide +kernel
theorem dX0_workOperand_8 : decode cX0_workOperand 8 = .ok (.invokevirtual 48, 3) := by decide +kernel
theorem dX0_workOperand_11 : decode cX0_workOperand 11 = .ok (.istore_n 3, 1) := by decide +kernel
theorem dX0_workOperand_12 : decode cX0_workOperand 12 = .ok (.aload_n 0, 1) := by decide +kernel
theorem dX0_workOperand_13 : decode cX0_workOperand 13 = .ok (.dup, 1) := by decide +kernel
theorem dX0_workOperand_14 : decode cX0_workOperand 14 = .ok (.getfield 30, 3) := by decide +kernel
theorem dX0_workOperand_17 : decode cX0_workOperand 17 = .ok (.iconst 1, 1) := by decide +kernel
theorem dX0_workOperand_18 : decode cX0_workOperand 18 = .ok (.iadd, 1) := by decide +kernel
theorem dX0_workOperand_19 : decode cX0_workOperand 19 = .ok (.putfield 30, 3) := by decide +kernel
theorem dX0_workOperand_22 : decode cX0_workOperand 22 = .ok (.iload_n 3, 1) := by decide +kernel
theorem dX0_workOperand_23 : decode cX0_workOperand 23 = .ok (.invokestatic 100, 3) := by decide +kernel
theorem dX0_workOperand_26 : decode cX0_workOperand 26 = .ok (.ifCond .eq 23, 3) := by decide +kernel
theorem dX0_workOperand_29 : decode cX0_workOperand 29 = .ok (.aload_n 1, 1) := by decide +kernel
theorem dX0_workOperand_30 : decode cX0_workOperand 30 = .ok (.getfield 56, 3) := by decide +kernel
theorem dX0_workOperand_33 : decode cX0_workOperand 33 = .ok (.iload_n 3, 1) := by decide +kernel
theorem dX0_workOperand_34 : decode cX0_workOperand 34 = .ok (.bipush 97, 2) := by decide +kernel
theorem dX0_workOperand_36 : decode cX0_workOperand 36 = .ok (.isub, 1) := by decide +kernel
theorem dX0_workOperand_37 : decode cX0_workOperand 37 = .ok (.aaload, 1) := by decide +kernel
theorem dX0_workOperand_38 : decode cX0_workOperand 38 = .ok (.aload_n 0, 1) := by decide +kernel
theorem dX0_workOperand_39 : decode cX0_workOperand 39 = .ok (.getfield 23, 3) := by decide +kernel
theorem dX0_workOperand_42 : decode cX0_workOperand 42 = .ok (.iload_n 2, 1) := by decide +kernel
theorem dX0_workOperand_43 : decode cX0_workOperand 43 = .ok (.aaload, 1) := by decide +kernel
theorem dX0_workOperand_44 : decode cX0_workOperand 44 = .ok (.invokestatic 61, 3) := by decide +kernel
theorem dX0_workOperand_47 : decode cX0_workOperand 47 = .ok (.iconst 1, 1) := by decide +kernel
theorem dX0_workOperand_48 : decode cX0_workOperand 48 = .ok (.ireturn, 1) := by decide +kernel
theorem dX0_workOperand_49 : decode cX0_workOperand 49 = .ok (.iload_n 3, 1) := by decide +kernel
theorem dX0_workOperand_50 : decode cX0_workOperand 50 = .ok (.bipush 40, 2) := by decide +kernel
theorem dX0_workOperand_52 : decode cX0_workOperand 52 = .ok (.if_icmp .ne 20, 3) := by decide +kernel
theorem dX0_workOperand_55 : decode cX0_workOperand 55 = .ok (.iload_n 2, 1) := by decide +kernel
theorem dX0_workOperand_56 : decode cX0_workOperand 56 = .ok (.bipush 6, 2) := by decide +kernel
theorem dX0_workOperand_58 : decode cX0_workOperand 58 = .ok (.if_icmp .ge 14, 3) := by decide +kernel
theorem dX0_workOperand_61 : decode cX0_workOperand 61 = .ok (.aload_n 0, 1) := by decide +kernel
theorem dX0_workOperand_62 : decode cX0_workOperand 62 = .ok (.aload_n 1, 1) := by decide +kernel
theorem dX0_workOperand_63 : decode cX0_workOperand 63 = .ok (.iload_n 2, 1) := by decide +kernel
theorem dX0_workOperand_64 : decode cX0_workOperand 64 = .ok (.iconst 1, 1) := by decide +kernel
theorem dX0_workOperand_65 : decode cX0_workOperand 65 = .ok (.iadd, 1) := by decide +kernel
theorem dX0_workOperand_66 : decode cX0_workOperand 66 = .ok (.invokevirtual 52, 3) := by decide +kernel
theorem dX0_workOperand_69 : decode cX0_workOperand 69 = .ok (.ifCond .ne 5, 3) := by decide +kernel
theorem dX0_workOperand_72 : decode cX0_workOperand 72 = .ok (.iconst 0, 1) := by decide +kernel
theorem dX0_workOperand_73 : decode cX0_workOperand 73 = .ok (.ireturn, 1) := by decide +kernel
theorem dX0_workOperand_74 : decode cX0_workOperand 74 = .ok (.aload_n 0, 1) := by decide +kernel
theorem dX0_workOperand_75 : decode cX0_workOperand 75 = .ok (.getfield 15, 3) := by decide +kernel
theorem dX0_workOperand_78 : decode cX0_workOperand 78 = .ok (.iload_n 2, 1) := by decide +kernel
theorem dX0_workOperand_79 : decode cX0_workOperand 79 = .ok (.iconst 1, 1) := by decide +kernel
theorem dX0_workOperand_80 : decode cX0_workOperand 80 = .ok (.iadd, 1) := by decide +kernel
theorem dX0_workOperand_81 : decode cX0_workOperand 81 = .ok (.aaload, 1) := by decide +kernel
theorem dX0_workOperand_82 : decode cX0_workOperand 82 = .ok (.aload_n 0, 1) := by decide +kernel
theorem dX0_workOperand_83 : decode cX0_workOperand 83 = .ok (.getfield 23, 3) := by decide +kernel
theorem dX0_workOperand_86 : decode cX0_workOperand 86 = .ok (.iload_n 2, 1) := by decide +kernel
theorem dX0_workOperand_87 : decode cX0_workOperand 87 = .ok (.aaload, 1) := by decide +kernel
theorem dX0_workOperand_88 : decode cX0_workOperand 88 = .ok (.invokestatic 61, 3) := by decide +kernel
theorem dX0_workOperand_91 : decode cX0_workOperand 91 = .ok (.aload_n 0, 1) := by decide +kernel
theorem dX0_workOperand_92 : decode cX0_workOperand 92 = .ok (.dup, 1) := by decide +kernel
theorem dX0_workOperand_93 : decode cX0_workOperand 93 = .ok (.getfield 30, 3) := by decide +kernel
theorem dX0_workOperand_96 : decode cX0_workOperand 96 = .ok (.iconst 1, 1) := by decide +kernel
theorem dX0_workOperand_97 : decode cX0_workOperand 97 = .ok (.iadd, 1) := by decide +kernel
theorem dX0_workOperand_98 : decode cX0_workOperand 98 = .ok (.putfield 30, 3) := by decide +kernel
theorem dX0_workOperand_101 : decode cX0_workOperand 101 = .ok (.iconst 1, 1) := by decide +kernel
theorem dX0_workOperand_102 : decode cX0_workOperand 102 = .ok (.ireturn, 1) := by decide +kernel
theorem dX1_init_0 : decode cX1_init 0 = .ok (.aload_n 0, 1) := by decide +kernel
theorem dX1_init_1 : decode cX1_init 1 = .ok (.invokespecial 3, 3) := by decide +kernel
theorem dX1_init_4 : decode cX1_init 4 = .ok (.aload_n 0, 1) := by decide +kernel
theorem dX1_init_5 : decode cX1_init 5 = .ok (.bipush 8, 2) := by decide +kernel
theorem dX1_init_7 : decode cX1_init 7 = .ok (.newarray .long, 2) := by decide +kernel
theorem dX1_init_9 : decode cX1_init 9 = .ok (.putfield 11, 3) := by decide +kernel
theorem dX1_init_12 : decode cX1_init 12 = .ok (.aload_n 0, 1) := by decide +kernel
theorem dX1_init_13 : decode cX1_init 13 = .ok (.bipush 8, 2) := by decide +kernel
theorem dX1_init_15 : decode cX1_init 15 = .ok (.newarray .long, 2) := by decide +kernel
theorem dX1_init_17 : decode cX1_init 17 = .ok (.putfield 17, 3) := by decide +kernel
theorem dX1_init_20 : decode cX1_init 20 = .ok (.aload_n 0, 1) := by decide +kernel
theorem dX1_init_21 : decode cX1_init 21 = .ok (.bipush 8, 2) := by decide +kernel
theorem dX1_init_23 : decode cX1_init 23 = .ok (.newarray .long, 2) := by decide +kernel
theorem dX1_init_25 : decode cX1_init 25 = .ok (.putfield 20, 3) := by decide +kernel
theorem dX1_init_28 : decode cX1_init 28 = .ok (.aload_n 0, 1) := by decide +kernel
theorem dX1_init_29 : decode cX1_init 29 = .ok (.bipush 8, 2) := by decide +kernel
theorem dX1_init_31 : decode cX1_init 31 = .ok (.newarray .long, 2) := by decide +kernel
theorem dX1_init_33 : decode cX1_init 33 = .ok (.putfield 23, 3) := by decide +kernel
theorem dX1_init_36 : decode cX1_init 36 = .ok (.aload_n 0, 1) := by decide +kernel
theorem dX1_init_37 : decode cX1_init 37 = .ok (.bipush 8, 2) := by decide +kernel
theorem dX1_init_39 : decode cX1_init 39 = .ok (.newarray .long, 2) := by decide +kernel
theorem dX1_init_41 : decode cX1_init 41 = .ok (.putfield 26, 3) := by decide +kernel
theorem dX1_init_44 : decode cX1_init 44 = .ok (.aload_n 0, 1) := by decide +kernel
theorem dX1_init_45 : decode cX1_init 45 = .ok (.bipush 8, 2) := by decide +kernel
theorem dX1_init_47 : decode cX1_init 47 = .ok (.newarray .long, 2) := by decide +kernel
theorem dX1_init_49 : decode cX1_init 49 = .ok (.putfield 29, 3) := by decide +kernel
theorem dX1_init_52 : decode cX1_init 52 = .ok (.aload_n 0, 1) := by decide +kernel
theorem dX1_init_53 : decode cX1_init 53 = .ok (.bipush 8, 2) := by decide +kernel
theorem dX1_init_55 : decode cX1_init 55 = .ok (.newarray .long, 2) := by decide +kernel
theorem dX1_init_57 : decode cX1_init 57 = .ok (.putfield 32, 3) := by decide +kernel
theorem dX1_init_60 : decode cX1_init 60 = .ok (.aload_n 0, 1) := by decide +kernel
theorem dX1_init_61 : decode cX1_init 61 = .ok (.iconst 2, 1) := by decide +kernel
theorem dX1_init_62 : decode cX1_init 62 = .ok (.bipush 8, 2) := by decide +kernel
theorem dX1_init_64 : decode cX1_init 64 = .ok (.multianewarray 35 2, 4) := by decide +kernel
theorem dX1_init_68 : decode cX1_init 68 = .ok (.putfield 37, 3) := by decide +kernel
theorem dX1_init_71 : decode cX1_init 71 = .ok (.aload_n 0, 1) := by decide +kernel
theorem dX1_init_72 : decode cX1_init 72 = .ok (.iconst 2, 1) := by decide +kernel
theorem dX1_init_73 : decode cX1_init 73 = .ok (.bipush 8, 2) := by decide +kernel
theorem dX1_init_75 : decode cX1_init 75 = .ok (.multianewarray 35 2, 4) := by decide +kernel
theorem dX1_init_79 : decode cX1_init 79 = .ok (.putfield 40, 3) := by decide +kernel
theorem dX1_init_82 : decode cX1_init 82 = .ok (.return_, 1) := by decide +kernel
theorem dX1_work_0 : decode cX1_work 0 = .ok (.aload_n 2, 1) := by decide +kernel
theorem dX1_work_1 : decode cX1_work 1 = .ok (.aload_n 0, 1) := by decide +kernel
theorem dX1_work_2 : decode cX1_work 2 = .ok (.getfield 29, 3) := by decide +kernel
theorem dX1_work_5 : decode cX1_work 5 = .ok (.invokestatic 43, 3) := by decide +kernel
theorem dX1_work_8 : decode cX1_work 8 = .ok (.aload_n 0, 1) := by decide +kernel
theorem dX1_work_9 : decode cX1_work 9 = .ok (.getfield 29, 3) := by decide +kernel
theorem dX1_work_12 : decode cX1_work 12 = .ok (.invokestatic 47, 3) := by decide +kernel
theorem dX1_work_15 : decode cX1_work 15 = .ok (.aload_n 1, 1) := by decide +kernel
theorem dX1_work_16 : decode cX1_work 16 = .ok (.aload_n 0, 1) := by decide +kernel
theorem dX1_work_17 : decode cX1_work 17 = .ok (.getfield 29, 3) := by decide +kernel
theorem dX1_work_20 : decode cX1_work 20 = .ok (.aload_n 0, 1) := by decide +kernel
theorem dX1_work_21 : decode cX1_work 21 = .ok (.getfield 26, 3) := by decide +kernel
theorem dX1_work_24 : decode cX1_work 24 = .ok (.invokestatic 51, 3) := by decide +kernel
theorem dX1_work_27 : decode cX1_work 27 = .ok (.aload_n 0, 1) := by decide +kernel
theorem dX1_work_28 : decode cX1_work 28 = .ok (.aload_n 2, 1) := by decide +kernel
theorem dX1_work_29 : decode cX1_work 29 = .ok (.invokestatic 54, 3) := by decide +kernel
theorem dX1_work_32 : decode cX1_work 32 = .ok (.invokevirtual 58, 3) := by decide +kernel
theorem dX1_work_35 : decode cX1_work 35 = .ok (.aload_n 0, 1) := by decide +kernel
theorem dX1_work_36 : decode cX1_work 36 = .ok (.iload_n 3, 1) := by decide +kernel
theorem dX1_work_37 : decode cX1_work 37 = .ok (.invokevirtual 62, 3) := by decide +kernel
theorem dX1_work_40 : decode cX1_work 40 = .ok (.aload_n 0, 1) := by decide +kernel
theorem dX1_work_41 : decode cX1_work 41 = .ok (.getfield 11, 3) := by decide +kernel
theorem dX1_work_44 : decode cX1_work 44 = .ok (.aload_n 2, 1) := by decide +kernel
theorem dX1_work_45 : decode cX1_work 45 = .ok (.aload_n 0, 1) := by decide +kernel
theorem dX1_work_46 : decode cX1_work 46 = .ok (.getfield 26, 3) := by decide +kernel
theorem dX1_work_49 : decode cX1_work 49 = .ok (.invokestatic 51, 3) := by decide +kernel
theorem dX1_work_52 : decode cX1_work 52 = .ok (.iconst 0, 1) := by decide +kernel
theorem dX1_work_53 : decode cX1_work 53 = .ok (.istore 4, 2) := by decide +kernel
theorem dX1_work_55 : decode cX1_work 55 = .ok (.iload 4, 2) := by decide +kernel
theorem dX1_work_57 : decode cX1_work 57 = .ok (.bipush 8, 2) := by decide +kernel
theorem dX1_work_59 : decode cX1_work 59 = .ok (.if_icmp .ge 30, 3) := by decide +kernel
theorem dX1_work_62 : decode cX1_work 62 = .ok (.aload_n 0, 1) := by decide +kernel
theorem dX1_work_63 : decode cX1_work 63 = .ok (.getfield 17, 3) := by decide +kernel
theorem dX1_work_66 : decode cX1_work 66 = .ok (.iload 4, 2) := by decide +kernel
theorem dX1_work_68 : decode cX1_work 68 = .ok (.aload_n 1, 1) := by decide +kernel
theorem dX1_work_69 : decode cX1_work 69 = .ok (.iload 4, 2) := by decide +kernel
theorem dX1_work_71 : decode cX1_work 71 = .ok (.laload, 1) := by decide +kernel
theorem dX1_work_72 : decode cX1_work 72 = .ok (.aload_n 0, 1) := by decide +kernel
theorem dX1_work_73 : decode cX1_work 73 = .ok (.getfield 26, 3) := by decide +kernel
theorem dX1_work_76 : decode cX1_work 76 = .ok (.iload 4, 2) := by decide +kernel
theorem dX1_work_78 : decode cX1_work 78 = .ok (.laload, 1) := by decide +kernel
theorem dX1_work_79 : decode cX1_work 79 = .ok (.iconst 1, 1) := by decide +kernel
theorem dX1_work_80 : decode cX1_work 80 = .ok (.lshr, 1) := by decide +kernel
theorem dX1_work_81 : decode cX1_work 81 = .ok (.lsub, 1) := by decide +kernel
theorem dX1_work_82 : decode cX1_work 82 = .ok (.lastore, 1) := by decide +kernel
theorem dX1_work_83 : decode cX1_work 83 = .ok (.iinc 4 1, 3) := by decide +kernel
theorem dX1_work_86 : decode cX1_work 86 = .ok (.goto (-31), 3) := by decide +kernel
theorem dX1_work_89 : decode cX1_work 89 = .ok (.return_, 1) := by decide +kernel
theorem dX1_findNearest_0 : decode cX1_findNearest 0 = .ok (.lload_n 1, 1) := by decide +kernel
theorem dX1_findNearest_1 : decode cX1_findNearest 1 = .ok (.lconst 0, 1) := by decide +kernel
theorem dX1_findNearest_2 : decode cX1_findNearest 2 = .ok (.lcmp, 1) := by decide +kernel
theorem dX1_findNearest_3 : decode cX1_findNearest 3 = .ok (.ifCond .gt 4, 3) := by decide +kernel
theorem dX1_findNearest_6 : decode cX1_findNearest 6 = .ok (.return_, 1) := by decide +kernel
theorem dX1_findNearest_7 : decode cX1_findNearest 7 = .ok (.iconst 0, 1) := by decide +kernel
theorem dX1_findNearest_8 : decode cX1_findNearest 8 = .ok (.istore_n 3, 1) := by decide +kernel
theorem dX1_findNearest_9 : decode cX1_findNearest 9 = .ok (.iload_n 3, 1) := by decide +kernel
theorem dX1_findNearest_10 : decode cX1_findNearest 10 = .ok (.iconst 2, 1) := by decide +kernel
theorem dX1_findNearest_11 : decode cX1_findNearest 11 = .ok (.if_icmp .ge 103, 3) := by decide +kernel
theorem dX1_findNearest_14 : decode cX1_findNearest 14 = .ok (.iconst 0, 1) := by decide +kernel
theorem dX1_findNearest_15 : decode cX1_findNearest 15 = .ok (.istore 4, 2) := by decide +kernel
theorem dX1_findNearest_17 : decode cX1_findNearest 17 = .ok (.iload 4, 2) := by decide +kernel
theorem dX1_findNearest_19 : decode cX1_findNearest 19 = .ok (.bipush 8, 2) := by decide +kernel
theorem dX1_findNearest_21 : decode cX1_findNearest 21 = .ok (.if_icmp .ge 87, 3) := by decide +kernel
theorem dX1_findNearest_24 : decode cX1_findNearest 24 = .ok (.ldc2_w 66, 3) := by decide +kernel
theorem dX1_findNearest_27 : decode cX1_findNearest 27 = .ok (.aload_n 0, 1) := by decide +kernel
theorem dX1_findNearest_28 : decode cX1_findNearest 28 = .ok (.getfield 26, 3) := by decide +kernel
theorem dX1_findNearest_31 : decode cX1_findNearest 31 = .ok (.iload 4, 2) := by decide +kernel
theorem dX1_findNearest_33 : decode cX1_findNearest 33 = .ok (.laload, 1) := by decide +kernel
theorem dX1_findNearest_34 : decode cX1_findNearest 34 = .ok (.lmul, 1) := by decide +kernel
theorem dX1_findNearest_35 : decode cX1_findNearest 35 = .ok (.lstore 5, 2) := by decide +kernel
theorem dX1_findNearest_37 : decode cX1_findNearest 37 = .ok (.lload_n 1, 1) := by decide +kernel
theorem dX1_findNearest_38 : decode cX1_findNearest 38 = .ok (.iload_n 3, 1) := by decide +kernel
theorem dX1_findNearest_39 : decode cX1_findNearest 39 = .ok (.i2l, 1) := by decide +kernel
theorem dX1_findNearest_40 : decode cX1_findNearest 40 = .ok (.lload_n 1, 1) := by decide +kernel
theorem dX1_findNearest_41 : decode cX1_findNearest 41 = .ok (.lmul, 1) := by decide +kernel
theorem dX1_findNearest_42 : decode cX1_findNearest 42 = .ok (.ladd, 1) := by decide +kernel
theorem dX1_findNearest_43 : decode cX1_findNearest 43 = .ok (.lload 5, 2) := by decide +kernel
theorem dX1_findNearest_45 : decode cX1_findNearest 45 = .ok (.lsub, 1) := by decide +kernel
theorem dX1_findNearest_46 : decode cX1_findNearest 46 = .ok (.ldc2_w 66, 3) := by decide +kernel
theorem dX1_findNearest_49 : decode cX1_findNearest 49 = .ok (.lload_n 1, 1) := by decide +kernel
theorem dX1_findNearest_50 : decode cX1_findNearest 50 = .ok (.lmul, 1) := by decide +kernel
theorem dX1_findNearest_51 : decode cX1_findNearest 51 = .ok (.invokestatic 68, 3) := by decide +kernel
theorem dX1_findNearest_54 : decode cX1_findNearest 54 = .ok (.lneg, 1) := by decide +kernel
theorem dX1_findNearest_55 : decode cX1_findNearest 55 = .ok (.lstore 7, 2) := by decide +kernel
theorem dX1_findNearest_57 : decode cX1_findNearest 57 = .ok (.ldc2_w 66, 3) := by decide +kernel
theorem dX1_findNearest_60 : decode cX1_findNearest 60 = .ok (.lload 7, 2) := by decide +kernel
theorem dX1_findNearest_62 : decode cX1_findNearest 62 = .ok (.lmul, 1) := by decide +kernel
theorem dX1_findNearest_63 : decode cX1_findNearest 63 = .ok (.iload_n 3, 1) := by decide +kernel
theorem dX1_findNearest_64 : decode cX1_findNearest 64 = .ok (.i2l, 1) := by decide +kernel
theorem dX1_findNearest_65 : decode cX1_findNearest 65 = .ok (.ladd, 1) := by decide +kernel
theorem dX1_findNearest_66 : decode cX1_findNearest 66 = .ok (.lstore 9, 2) := by decide +kernel
theorem dX1_findNearest_68 : decode cX1_findNearest 68 = .ok (.lload_n 1, 1) := by decide +kernel
theorem dX1_findNearest_69 : decode cX1_findNearest 69 = .ok (.lload 9, 2) := by decide +kernel
theorem dX1_findNearest_71 : decode cX1_findNearest 71 = .ok (.lmul, 1) := by decide +kernel
theorem dX1_findNearest_72 : decode cX1_findNearest 72 = .ok (.lload 5, 2) := by decide +kernel
theorem dX1_findNearest_74 : decode cX1_findNearest 74 = .ok (.lsub, 1) := by decide +kernel
theorem dX1_findNearest_75 : decode cX1_findNearest 75 = .ok (.lstore 11, 2) := by decide +kernel
theorem dX1_findNearest_77 : decode cX1_findNearest 77 = .ok (.aload_n 0, 1) := by decide +kernel
theorem dX1_findNearest_78 : decode cX1_findNearest 78 = .ok (.getfield 37, 3) := by decide +kernel
theorem dX1_findNearest_81 : decode cX1_findNearest 81 = .ok (.iload_n 3, 1) := by decide +kernel
theorem dX1_findNearest_82 : decode cX1_findNearest 82 = .ok (.aaload, 1) := by decide +kernel
theorem dX1_findNearest_83 : decode cX1_findNearest 83 = .ok (.iload 4, 2) := by decide +kernel
theorem dX1_findNearest_85 : decode cX1_findNearest 85 = .ok (.lload 9, 2) := by decide +kernel
theorem dX1_findNearest_87 : decode cX1_findNearest 87 = .ok (.lastore, 1) := by decide +kernel
theorem dX1_findNearest_88 : decode cX1_findNearest 88 = .ok (.aload_n 0, 1) := by decide +kernel
theorem dX1_findNearest_89 : decode cX1_findNearest 89 = .ok (.getfield 40, 3) := by decide +kernel
theorem dX1_findNearest_92 : decode cX1_findNearest 92 = .ok (.iload_n 3, 1) := by decide +kernel
theorem dX1_findNearest_93 : decode cX1_findNearest 93 = .ok (.aaload, 1) := by decide +kernel
theorem dX1_findNearest_94 : decode cX1_findNearest 94 = .ok (.iload 4, 2) := by decide +kernel
theorem dX1_findNearest_96 : decode cX1_findNearest 96 = .ok (.lload 11, 2) := by decide +kernel
theorem dX1_findNearest_98 : decode cX1_findNearest 98 = .ok (.lload 11, 2) := by decide +kernel
theorem dX1_findNearest_100 : decode cX1_findNearest 100 = .ok (.lmul, 1) := by decide +kernel
theorem dX1_findNearest_101 : decode cX1_findNearest 101 = .ok (.lastore, 1) := by decide +kernel
theorem dX1_findNearest_102 : decode cX1_findNearest 102 = .ok (.iinc 4 1, 3) := by decide +kernel
theorem dX1_findNearest_105 : decode cX1_findNearest 105 = .ok (.goto (-88), 3) := by decide +kernel
theorem dX1_findNearest_108 : decode cX1_findNearest 108 = .ok (.iinc 3 1, 3) := by decide +kernel
theorem dX1_findNearest_111 : decode cX1_findNearest 111 = .ok (.goto (-102), 3) := by decide +kernel
theorem dX1_findNearest_114 : decode cX1_findNearest 114 = .ok (.return_, 1) := by decide +kernel
theorem dX1_chooseQuotient_0 : decode cX1_chooseQuotient 0 = .ok (.iload_n 1, 1) := by decide +kernel
theorem dX1_chooseQuotient_1 : decode cX1_chooseQuotient 1 = .ok (.invokestatic 74, 3) := by decide +kernel
theorem dX1_chooseQuotient_4 : decode cX1_chooseQuotient 4 = .ok (.istore_n 2, 1) := by decide +kernel
theorem dX1_chooseQuotient_5 : decode cX1_chooseQuotient 5 = .ok (.lconst 0, 1) := by decide +kernel
theorem dX1_chooseQuotient_6 : decode cX1_chooseQuotient 6 = .ok (.lstore_n 3, 1) := by decide +kernel
theorem dX1_chooseQuotient_7 : decode cX1_chooseQuotient 7 = .ok (.iconst 0, 1) := by decide +kernel
theorem dX1_chooseQuotient_8 : decode cX1_chooseQuotient 8 = .ok (.istore 5, 2) := by decide +kernel
theorem dX1_chooseQuotient_10 : decode cX1_chooseQuotient 10 = .ok (.iload 5, 2) := by decide +kernel
theorem dX1_chooseQuotient_12 : decode cX1_chooseQuotient 12 = .ok (.iload_n 2, 1) := by decide +kernel
theorem dX1_chooseQuotient_13 : decode cX1_chooseQuotient 13 = .ok (.if_icmp .ge 124, 3) := by decide +kernel
theorem dX1_chooseQuotient_16 : decode cX1_chooseQuotient 16 = .ok (.iload_n 1, 1) := by decide +kernel
theorem dX1_chooseQuotient_17 : decode cX1_chooseQuotient 17 = .ok (.iload 5, 2) := by decide +kernel
theorem dX1_chooseQuotient_19 : decode cX1_chooseQuotient 19 = .ok (.invokestatic 80, 3) := by decide +kernel
theorem dX1_chooseQuotient_22 : decode cX1_chooseQuotient 22 = .ok (.istore 6, 2) := by decide +kernel
theorem dX1_chooseQuotient_24 : decode cX1_chooseQuotient 24 = .ok (.lconst 0, 1) := by decide +kernel
theorem dX1_chooseQuotient_25 : decode cX1_chooseQuotient 25 = .ok (.lstore 7, 2) := by decide +kernel
theorem dX1_chooseQuotient_27 : decode cX1_chooseQuotient 27 = .ok (.iconst 0, 1) := by decide +kernel
theorem dX1_chooseQuotient_28 : decode cX1_chooseQuotient 28 = .ok (.istore 9, 2) := by decide +kernel
theorem dX1_chooseQuotient_30 : decode cX1_chooseQuotient 30 = .ok (.iload 9, 2) := by decide +kernel
theorem dX1_chooseQuotient_32 : decode cX1_chooseQuotient 32 = .ok (.bipush 8, 2) := by decide +kernel
theorem dX1_chooseQuotient_34 : decode cX1_chooseQuotient 34 = .ok (.if_icmp .ge 50, 3) := by decide +kernel
theorem dX1_chooseQuotient_37 : decode cX1_chooseQuotient 37 = .ok (.iload 6, 2) := by decide +kernel
theorem dX1_chooseQuotient_39 : decode cX1_chooseQuotient 39 = .ok (.iload 9, 2) := by decide +kernel
theorem dX1_chooseQuotient_41 : decode cX1_chooseQuotient 41 = .ok (.ishr, 1) := by decide +kernel
theorem dX1_chooseQuotient_42 : decode cX1_chooseQuotient 42 = .ok (.iconst 1, 1) := by decide +kernel
theorem dX1_chooseQuotient_43 : decode cX1_chooseQuotient 43 = .ok (.iand, 1) := by decide +kernel
theorem dX1_chooseQuotient_44 : decode cX1_chooseQuotient 44 = .ok (.istore 10, 2) := by decide +kernel
theorem dX1_chooseQuotient_46 : decode cX1_chooseQuotient 46 = .ok (.aload_n 0, 1) := by decide +kernel
theorem dX1_chooseQuotient_47 : decode cX1_chooseQuotient 47 = .ok (.getfield 32, 3) := by decide +kernel
theorem dX1_chooseQuotient_50 : decode cX1_chooseQuotient 50 = .ok (.iload 9, 2) := by decide +kernel
theorem dX1_chooseQuotient_52 : decode cX1_chooseQuotient 52 = .ok (.aload_n 0, 1) := by decide +kernel
theorem dX1_chooseQuotient_53 : decode cX1_chooseQuotient 53 = .ok (.getfield 37, 3) := by decide +kernel
theorem dX1_chooseQuotient_56 : decode cX1_chooseQuotient 56 = .ok (.iload 10, 2) := by decide +kernel
theorem dX1_chooseQuotient_58 : decode cX1_chooseQuotient 58 = .ok (.aaload, 1) := by decide +kernel
theorem dX1_chooseQuotient_59 : decode cX1_chooseQuotient 59 = .ok (.iload 9, 2) := by decide +kernel
theorem dX1_chooseQuotient_61 : decode cX1_chooseQuotient 61 = .ok (.laload, 1) := by decide +kernel
theorem dX1_chooseQuotient_62 : decode cX1_chooseQuotient 62 = .ok (.lastore, 1) := by decide +kernel
theorem dX1_chooseQuotient_63 : decode cX1_chooseQuotient 63 = .ok (.lload 7, 2) := by decide +kernel
theorem dX1_chooseQuotient_65 : decode cX1_chooseQuotient 65 = .ok (.aload_n 0, 1) := by decide +kernel
theorem dX1_chooseQuotient_66 : decode cX1_chooseQuotient 66 = .ok (.getfield 40, 3) := by decide +kernel
theorem dX1_chooseQuotient_69 : decode cX1_chooseQuotient 69 = .ok (.iload 10, 2) := by decide +kernel
theorem dX1_chooseQuotient_71 : decode cX1_chooseQuotient 71 = .ok (.aaload, 1) := by decide +kernel
theorem dX1_chooseQuotient_72 : decode cX1_chooseQuotient 72 = .ok (.iload 9, 2) := by decide +kernel
theorem dX1_chooseQuotient_74 : decode cX1_chooseQuotient 74 = .ok (.laload, 1) := by decide +kernel
theorem dX1_chooseQuotient_75 : decode cX1_chooseQuotient 75 = .ok (.ladd, 1) := by decide +kernel
theorem dX1_chooseQuotient_76 : decode cX1_chooseQuotient 76 = .ok (.lstore 7, 2) := by decide +kernel
theorem dX1_chooseQuotient_78 : decode cX1_chooseQuotient 78 = .ok (.iinc 9 1, 3) := by decide +kernel
theorem dX1_chooseQuotient_81 : decode cX1_chooseQuotient 81 = .ok (.goto (-51), 3) := by decide +kernel
theorem dX1_chooseQuotient_84 : decode cX1_chooseQuotient 84 = .ok (.iload 5, 2) := by decide +kernel
theorem dX1_chooseQuotient_86 : decode cX1_chooseQuotient 86 = .ok (.ifCond .eq 31, 3) := by decide +kernel
theorem dX1_chooseQuotient_89 : decode cX1_chooseQuotient 89 = .ok (.lload 7, 2) := by decide +kernel
theorem dX1_chooseQuotient_91 : decode cX1_chooseQuotient 91 = .ok (.lload_n 3, 1) := by decide +kernel
theorem dX1_chooseQuotient_92 : decode cX1_chooseQuotient 92 = .ok (.lcmp, 1) := by decide +kernel
theorem dX1_chooseQuotient_93 : decode cX1_chooseQuotient 93 = .ok (.ifCond .lt 24, 3) := by decide +kernel
theorem dX1_chooseQuotient_96 : decode cX1_chooseQuotient 96 = .ok (.lload 7, 2) := by decide +kernel
theorem dX1_chooseQuotient_98 : decode cX1_chooseQuotient 98 = .ok (.lload_n 3, 1) := by decide +kernel
theorem dX1_chooseQuotient_99 : decode cX1_chooseQuotient 99 = .ok (.lcmp, 1) := by decide +kernel
theorem dX1_chooseQuotient_100 : decode cX1_chooseQuotient 100 = .ok (.ifCond .ne 31, 3) := by decide +kernel
theorem dX1_chooseQuotient_103 : decode cX1_chooseQuotient 103 = .ok (.aload_n 0, 1) := by decide +kernel
theorem dX1_chooseQuotient_104 : decode cX1_chooseQuotient 104 = .ok (.getfield 32, 3) := by decide +kernel
theorem dX1_chooseQuotient_107 : decode cX1_chooseQuotient 107 = .ok (.aload_n 0, 1) := by decide +kernel
theorem dX1_chooseQuotient_108 : decode cX1_chooseQuotient 108 = .ok (.getfield 11, 3) := by decide +kernel
theorem dX1_chooseQuotient_111 : decode cX1_chooseQuotient 111 = .ok (.invokestatic 84, 3) := by decide +kernel
theorem dX1_chooseQuotient_114 : decode cX1_chooseQuotient 114 = .ok (.ifCond .eq 17, 3) := by decide +kernel
theorem dX1_chooseQuotient_117 : decode cX1_chooseQuotient 117 = .ok (.lload 7, 2) := by decide +kernel
theorem dX1_chooseQuotient_119 : decode cX1_chooseQuotient 119 = .ok (.lstore_n 3, 1) := by decide +kernel
theorem dX1_chooseQuotient_120 : decode cX1_chooseQuotient 120 = .ok (.aload_n 0, 1) := by decide +kernel
theorem dX1_chooseQuotient_121 : decode cX1_chooseQuotient 121 = .ok (.getfield 32, 3) := by decide +kernel
theorem dX1_chooseQuotient_124 : decode cX1_chooseQuotient 124 = .ok (.aload_n 0, 1) := by decide +kernel
theorem dX1_chooseQuotient_125 : decode cX1_chooseQuotient 125 = .ok (.getfield 11, 3) := by decide +kernel
theorem dX1_chooseQuotient_128 : decode cX1_chooseQuotient 128 = .ok (.invokestatic 43, 3) := by decide +kernel
theorem dX1_chooseQuotient_131 : decode cX1_chooseQuotient 131 = .ok (.iinc 5 1, 3) := by decide +kernel
theorem dX1_chooseQuotient_134 : decode cX1_chooseQuotient 134 = .ok (.goto (-124), 3) := by decide +kernel
theorem dX1_chooseQuotient_137 : decode cX1_chooseQuotient 137 = .ok (.return_, 1) := by decide +kernel
theorem dX1_comesFirst_0 : decode cX1_comesFirst 0 = .ok (.iconst 0, 1) := by decide +kernel
theorem dX1_comesFirst_1 : decode cX1_comesFirst 1 = .ok (.istore_n 2, 1) := by decide +kernel
theorem dX1_comesFirst_2 : decode cX1_comesFirst 2 = .ok (.iload_n 2, 1) := by decide +kernel
theorem dX1_comesFirst_3 : decode cX1_comesFirst 3 = .ok (.bipush 8, 2) := by decide +kernel
theorem dX1_comesFirst_5 : decode cX1_comesFirst 5 = .ok (.if_icmp .ge 35, 3) := by decide +kernel
theorem dX1_comesFirst_8 : decode cX1_comesFirst 8 = .ok (.aload_n 0, 1) := by decide +kernel
theorem dX1_comesFirst_9 : decode cX1_comesFirst 9 = .ok (.iload_n 2, 1) := by decide +kernel
theorem dX1_comesFirst_10 : decode cX1_comesFirst 10 = .ok (.laload, 1) := by decide +kernel
theorem dX1_comesFirst_11 : decode cX1_comesFirst 11 = .ok (.aload_n 1, 1) := by decide +kernel
theorem dX1_comesFirst_12 : decode cX1_comesFirst 12 = .ok (.iload_n 2, 1) := by decide +kernel
theorem dX1_comesFirst_13 : decode cX1_comesFirst 13 = .ok (.laload, 1) := by decide +kernel
theorem dX1_comesFirst_14 : decode cX1_comesFirst 14 = .ok (.lcmp, 1) := by decide +kernel
theorem dX1_comesFirst_15 : decode cX1_comesFirst 15 = .ok (.ifCond .eq 19, 3) := by decide +kernel
theorem dX1_comesFirst_18 : decode cX1_comesFirst 18 = .ok (.aload_n 0, 1) := by decide +kernel
theorem dX1_comesFirst_19 : decode cX1_comesFirst 19 = .ok (.iload_n 2, 1) := by decide +kernel
theorem dX1_comesFirst_20 : decode cX1_comesFirst 20 = .ok (.laload, 1) := by decide +kernel
theorem dX1_comesFirst_21 : decode cX1_comesFirst 21 = .ok (.aload_n 1, 1) := by decide +kernel
theorem dX1_comesFirst_22 : decode cX1_comesFirst 22 = .ok (.iload_n 2, 1) := by decide +kernel
theorem dX1_comesFirst_23 : decode cX1_comesFirst 23 = .ok (.laload, 1) := by decide +kernel
theorem dX1_comesFirst_24 : decode cX1_comesFirst 24 = .ok (.lcmp, 1) := by decide +kernel
theorem dX1_comesFirst_25 : decode cX1_comesFirst 25 = .ok (.ifCond .ge 7, 3) := by decide +kernel
theorem dX1_comesFirst_28 : decode cX1_comesFirst 28 = .ok (.iconst 1, 1) := by decide +kernel
theorem dX1_comesFirst_29 : decode cX1_comesFirst 29 = .ok (.goto 4, 3) := by decide +kernel
theorem dX1_comesFirst_32 : decode cX1_comesFirst 32 = .ok (.iconst 0, 1) := by decide +kernel
theorem dX1_comesFirst_33 : decode cX1_comesFirst 33 = .ok (.ireturn, 1) := by decide +kernel
theorem dX1_comesFirst_34 : decode cX1_comesFirst 34 = .ok (.iinc 2 1, 3) := by decide +kernel
theorem dX1_comesFirst_37 : decode cX1_comesFirst 37 = .ok (.goto (-35), 3) := by decide +kernel
theorem dX1_comesFirst_40 : decode cX1_comesFirst 40 = .ok (.iconst 0, 1) := by decide +kernel
theorem dX1_comesFirst_41 : decode cX1_comesFirst 41 = .ok (.ireturn, 1) := by decide +kernel
theorem dX1_euclid_0 : decode cX1_euclid 0 = .ok (.aload_n 1, 1) := by decide +kernel
theorem dX1_euclid_1 : decode cX1_euclid 1 = .ok (.aload_n 0, 1) := by decide +kernel
theorem dX1_euclid_2 : decode cX1_euclid 2 = .ok (.getfield 20, 3) := by decide +kernel
theorem dX1_euclid_5 : decode cX1_euclid 5 = .ok (.invokestatic 43, 3) := by decide +kernel
theorem dX1_euclid_8 : decode cX1_euclid 8 = .ok (.aload_n 2, 1) := by decide +kernel
theorem dX1_euclid_9 : decode cX1_euclid 9 = .ok (.aload_n 0, 1) := by decide +kernel
theorem dX1_euclid_10 : decode cX1_euclid 10 = .ok (.getfield 23, 3) := by decide +kernel
theorem dX1_euclid_13 : decode cX1_euclid 13 = .ok (.invokestatic 43, 3) := by decide +kernel
theorem dX1_euclid_16 : decode cX1_euclid 16 = .ok (.iconst 1, 1) := by decide +kernel
theorem dX1_euclid_17 : decode cX1_euclid 17 = .ok (.istore 5, 2) := by decide +kernel
theorem dX1_euclid_19 : decode cX1_euclid 19 = .ok (.iload 5, 2) := by decide +kernel
theorem dX1_euclid_21 : decode cX1_euclid 21 = .ok (.iload 4, 2) := by decide +kernel
theorem dX1_euclid_23 : decode cX1_euclid 23 = .ok (.if_icmp .gt 59, 3) := by decide +kernel
theorem dX1_euclid_26 : decode cX1_euclid 26 = .ok (.aload_n 0, 1) := by decide +kernel
theorem dX1_euclid_27 : decode cX1_euclid 27 = .ok (.aload_n 0, 1) := by decide +kernel
theorem dX1_euclid_28 : decode cX1_euclid 28 = .ok (.getfield 20, 3) := by decide +kernel
theorem dX1_euclid_31 : decode cX1_euclid 31 = .ok (.aload_n 0, 1) := by decide +kernel
theorem dX1_euclid_32 : decode cX1_euclid 32 = .ok (.getfield 23, 3) := by decide +kernel
theorem dX1_euclid_35 : decode cX1_euclid 35 = .ok (.iload_n 3, 1) := by decide +kernel
theorem dX1_euclid_36 : decode cX1_euclid 36 = .ok (.invokevirtual 88, 3) := by decide +kernel
theorem dX1_euclid_39 : decode cX1_euclid 39 = .ok (.aload_n 0, 1) := by decide +kernel
theorem dX1_euclid_40 : decode cX1_euclid 40 = .ok (.getfield 17, 3) := by decide +kernel
theorem dX1_euclid_43 : decode cX1_euclid 43 = .ok (.invokestatic 54, 3) := by decide +kernel
theorem dX1_euclid_46 : decode cX1_euclid 46 = .ok (.lconst 0, 1) := by decide +kernel
theorem dX1_euclid_47 : decode cX1_euclid 47 = .ok (.lcmp, 1) := by decide +kernel
theorem dX1_euclid_48 : decode cX1_euclid 48 = .ok (.ifCond .ne 6, 3) := by decide +kernel
theorem dX1_euclid_51 : decode cX1_euclid 51 = .ok (.iload 5, 2) := by decide +kernel
theorem dX1_euclid_53 : decode cX1_euclid 53 = .ok (.ireturn, 1) := by decide +kernel
theorem dX1_euclid_54 : decode cX1_euclid 54 = .ok (.aload_n 0, 1) := by decide +kernel
theorem dX1_euclid_55 : decode cX1_euclid 55 = .ok (.getfield 23, 3) := by decide +kernel
theorem dX1_euclid_58 : decode cX1_euclid 58 = .ok (.aload_n 0, 1) := by decide +kernel
theorem dX1_euclid_59 : decode cX1_euclid 59 = .ok (.getfield 20, 3) := by decide +kernel
theorem dX1_euclid_62 : decode cX1_euclid 62 = .ok (.invokestatic 43, 3) := by decide +kernel
theorem dX1_euclid_65 : decode cX1_euclid 65 = .ok (.aload_n 0, 1) := by decide +kernel
theorem dX1_euclid_66 : decode cX1_euclid 66 = .ok (.getfield 17, 3) := by decide +kernel
theorem dX1_euclid_69 : decode cX1_euclid 69 = .ok (.aload_n 0, 1) := by decide +kernel
theorem dX1_euclid_70 : decode cX1_euclid 70 = .ok (.getfield 23, 3) := by decide +kernel
theorem dX1_euclid_73 : decode cX1_euclid 73 = .ok (.invokestatic 43, 3) := by decide +kernel
theorem dX1_euclid_76 : decode cX1_euclid 76 = .ok (.iinc 5 1, 3) := by decide +kernel
theorem dX1_euclid_79 : decode cX1_euclid 79 = .ok (.goto (-60), 3) := by decide +kernel
theorem dX1_euclid_82 : decode cX1_euclid 82 = .ok (.iconst (-1), 1) := by decide +kernel
theorem dX1_euclid_83 : decode cX1_euclid 83 = .ok (.ireturn, 1) := by decide +kernel
theorem dX2_sets_0 : decode cX2_sets 0 = .ok (.iload_n 0, 1) := by decide +kernel
theorem dX2_sets_1 : decode cX2_sets 1 = .ok (.ifCond .ne 7, 3) := by decide +kernel
theorem dX2_sets_4 : decode cX2_sets 4 = .ok (.iconst 1, 1) := by decide +kernel
theorem dX2_sets_5 : decode cX2_sets 5 = .ok (.goto 9, 3) := by decide +kernel
theorem dX2_sets_8 : decode cX2_sets 8 = .ok (.iconst 2, 1) := by decide +kernel
theorem dX2_sets_9 : decode cX2_sets 9 = .ok (.getstatic 7, 3) := by decide +kernel
theorem dX2_sets_12 : decode cX2_sets 12 = .ok (.arraylength, 1) := by decide +kernel
theorem dX2_sets_13 : decode cX2_sets 13 = .ok (.imul, 1) := by decide +kernel
theorem dX2_sets_14 : decode cX2_sets 14 = .ok (.ireturn, 1) := by decide +kernel
theorem dX2_oddSet_0 : decode cX2_oddSet 0 = .ok (.getstatic 7, 3) := by decide +kernel
theorem dX2_oddSet_3 : decode cX2_oddSet 3 = .ok (.iload_n 1, 1) := by decide +kernel
theorem dX2_oddSet_4 : decode cX2_oddSet 4 = .ok (.bipush 7, 2) := by decide +kernel
theorem dX2_oddSet_6 : decode cX2_oddSet 6 = .ok (.iand, 1) := by decide +kernel
theorem dX2_oddSet_7 : decode cX2_oddSet 7 = .ok (.iaload, 1) := by decide +kernel
theorem dX2_oddSet_8 : decode cX2_oddSet 8 = .ok (.istore_n 2, 1) := by decide +kernel
theorem dX2_oddSet_9 : decode cX2_oddSet 9 = .ok (.iload_n 1, 1) := by decide +kernel
theorem dX2_oddSet_10 : decode cX2_oddSet 10 = .ok (.getstatic 7, 3) := by decide +kernel
theorem dX2_oddSet_13 : decode cX2_oddSet 13 = .ok (.arraylength, 1) := by decide +kernel
theorem dX2_oddSet_14 : decode cX2_oddSet 14 = .ok (.if_icmp .ge 7, 3) := by decide +kernel
theorem dX2_oddSet_17 : decode cX2_oddSet 17 = .ok (.iload_n 2, 1) := by decide +kernel
theorem dX2_oddSet_18 : decode cX2_oddSet 18 = .ok (.goto 8, 3) := by decide +kernel
theorem dX2_oddSet_21 : decode cX2_oddSet 21 = .ok (.sipush 255, 3) := by decide +kernel
theorem dX2_oddSet_24 : decode cX2_oddSet 24 = .ok (.iload_n 2, 1) := by decide +kernel
theorem dX2_oddSet_25 : decode cX2_oddSet 25 = .ok (.ixor, 1) := by decide +kernel
theorem dX2_oddSet_26 : decode cX2_oddSet 26 = .ok (.iload_n 0, 1) := by decide +kernel
theorem dX2_oddSet_27 : decode cX2_oddSet 27 = .ok (.invokestatic 13, 3) := by decide +kernel
theorem dX2_oddSet_30 : decode cX2_oddSet 30 = .ok (.ireturn, 1) := by decide +kernel
theorem dX2_exchanged_0 : decode cX2_exchanged 0 = .ok (.iload_n 0, 1) := by decide +kernel
theorem dX2_exchanged_1 : decode cX2_exchanged 1 = .ok (.iload_n 0, 1) := by decide +kernel
theorem dX2_exchanged_2 : decode cX2_exchanged 2 = .ok (.iload_n 1, 1) := by decide +kernel
theorem dX2_exchanged_3 : decode cX2_exchanged 3 = .ok (.ishr, 1) := by decide +kernel
theorem dX2_exchanged_4 : decode cX2_exchanged 4 = .ok (.ixor, 1) := by decide +kernel
theorem dX2_exchanged_5 : decode cX2_exchanged 5 = .ok (.iconst 1, 1) := by decide +kernel
theorem dX2_exchanged_6 : decode cX2_exchanged 6 = .ok (.iand, 1) := by decide +kernel
theorem dX2_exchanged_7 : decode cX2_exchanged 7 = .ok (.istore_n 2, 1) := by decide +kernel
theorem dX2_exchanged_8 : decode cX2_exchanged 8 = .ok (.iload_n 0, 1) := by decide +kernel
theorem dX2_exchanged_9 : decode cX2_exchanged 9 = .ok (.iload_n 2, 1) := by decide +kernel
theorem dX2_exchanged_10 : decode cX2_exchanged 10 = .ok (.iload_n 2, 1) := by decide +kernel
theorem dX2_exchanged_11 : decode cX2_exchanged 11 = .ok (.iload_n 1, 1) := by decide +kernel
theorem dX2_exchanged_12 : decode cX2_exchanged 12 = .ok (.ishl, 1) := by decide +kernel
theorem dX2_exchanged_13 : decode cX2_exchanged 13 = .ok (.ior, 1) := by decide +kernel
theorem dX2_exchanged_14 : decode cX2_exchanged 14 = .ok (.ixor, 1) := by decide +kernel
theorem dX2_exchanged_15 : decode cX2_exchanged 15 = .ok (.ireturn, 1) := by decide +kernel
theorem dX2_allows_0 : decode cX2_allows 0 = .ok (.iload_n 0, 1) := by decide +kernel
theorem dX2_allows_1 : decode cX2_allows 1 = .ok (.invokestatic 17, 3) := by decide +kernel
theorem dX2_allows_4 : decode cX2_allows 4 = .ok (.istore_n 2, 1) := by decide +kernel
theorem dX2_allows_5 : decode cX2_allows 5 = .ok (.iconst 0, 1) := by decide +kernel
theorem dX2_allows_6 : decode cX2_allows 6 = .ok (.istore_n 3, 1) := by decide +kernel
theorem dX2_allows_7 : decode cX2_allows 7 = .ok (.iload_n 3, 1) := by decide +kernel
theorem dX2_allows_8 : decode cX2_allows 8 = .ok (.iload_n 2, 1) := by decide +kernel
theorem dX2_allows_9 : decode cX2_allows 9 = .ok (.if_icmp .ge 20, 3) := by decide +kernel
theorem dX2_allows_12 : decode cX2_allows 12 = .ok (.iload_n 0, 1) := by decide +kernel
theorem dX2_allows_13 : decode cX2_allows 13 = .ok (.iload_n 3, 1) := by decide +kernel
theorem dX2_allows_14 : decode cX2_allows 14 = .ok (.invokestatic 21, 3) := by decide +kernel
theorem dX2_allows_17 : decode cX2_allows 17 = .ok (.iload_n 1, 1) := by decide +kernel
theorem dX2_allows_18 : decode cX2_allows 18 = .ok (.if_icmp .ne 5, 3) := by decide +kernel
theorem dX2_allows_21 : decode cX2_allows 21 = .ok (.iconst 1, 1) := by decide +kernel
theorem dX2_allows_22 : decode cX2_allows 22 = .ok (.ireturn, 1) := by decide +kernel
theorem dX2_allows_23 : decode cX2_allows 23 = .ok (.iinc 3 1, 3) := by decide +kernel
theorem dX2_allows_26 : decode cX2_allows 26 = .ok (.goto (-19), 3) := by decide +kernel
theorem dX2_allows_29 : decode cX2_allows 29 = .ok (.iconst 0, 1) := by decide +kernel
theorem dX2_allows_30 : decode cX2_allows 30 = .ok (.ireturn, 1) := by decide +kernel
theorem dX2_elementsOfNorm_0 : decode cX2_elementsOfNorm 0 = .ok (.iload_n 1, 1) := by decide +kernel
theorem dX2_elementsOfNorm_1 : decode cX2_elementsOfNorm 1 = .ok (.ifCond .ne 5, 3) := by decide +kernel
theorem dX2_elementsOfNorm_4 : decode cX2_elementsOfNorm 4 = .ok (.lconst 1, 1) := by decide +kernel
theorem dX2_elementsOfNorm_5 : decode cX2_elementsOfNorm 5 = .ok (.lreturn, 1) := by decide +kernel
theorem dX2_elementsOfNorm_6 : decode cX2_elementsOfNorm 6 = .ok (.lconst 0, 1) := by decide +kernel
theorem dX2_elementsOfNorm_7 : decode cX2_elementsOfNorm 7 = .ok (.lstore_n 2, 1) := by decide +kernel
theorem dX2_elementsOfNorm_8 : decode cX2_elementsOfNorm 8 = .ok (.iconst 1, 1) := by decide +kernel
theorem dX2_elementsOfNorm_9 : decode cX2_elementsOfNorm 9 = .ok (.istore 4, 2) := by decide +kernel
theorem dX2_elementsOfNorm_11 : decode cX2_elementsOfNorm 11 = .ok (.iload 4, 2) := by decide +kernel
theorem dX2_elementsOfNorm_13 : decode cX2_elementsOfNorm 13 = .ok (.iload_n 1, 1) := by decide +kernel
theorem dX2_elementsOfNorm_14 : decode cX2_elementsOfNorm 14 = .ok (.if_icmp .gt 53, 3) := by decide +kernel
theorem dX2_elementsOfNorm_17 : decode cX2_elementsOfNorm 17 = .ok (.iload_n 1, 1) := by decide +kernel
theorem dX2_elementsOfNorm_18 : decode cX2_elementsOfNorm 18 = .ok (.iload 4, 2) := by decide +kernel
theorem dX2_elementsOfNorm_20 : decode cX2_elementsOfNorm 20 = .ok (.irem, 1) := by decide +kernel
theorem dX2_elementsOfNorm_21 : decode cX2_elementsOfNorm 21 = .ok (.ifCond .ne 40, 3) := by decide +kernel
theorem dX2_elementsOfNorm_24 : decode cX2_elementsOfNorm 24 = .ok (.iload 4, 2) := by decide +kernel
theorem dX2_elementsOfNorm_26 : decode cX2_elementsOfNorm 26 = .ok (.i2l, 1) := by decide +kernel
theorem dX2_elementsOfNorm_27 : decode cX2_elementsOfNorm 27 = .ok (.iload 4, 2) := by decide +kernel
theorem dX2_elementsOfNorm_29 : decode cX2_elementsOfNorm 29 = .ok (.i2l, 1) := by decide +kernel
theorem dX2_elementsOfNorm_30 : decode cX2_elementsOfNorm 30 = .ok (.lmul, 1) := by decide +kernel
theorem dX2_elementsOfNorm_31 : decode cX2_elementsOfNorm 31 = .ok (.iload 4, 2) := by decide +kernel
theorem dX2_elementsOfNorm_33 : decode cX2_elementsOfNorm 33 = .ok (.i2l, 1) := by decide +kernel
theorem dX2_elementsOfNorm_34 : decode cX2_elementsOfNorm 34 = .ok (.lmul, 1) := by decide +kernel
theorem dX2_elementsOfNorm_35 : decode cX2_elementsOfNorm 35 = .ok (.lstore 5, 2) := by decide +kernel
theorem dX2_elementsOfNorm_37 : decode cX2_elementsOfNorm 37 = .ok (.lload_n 2, 1) := by decide +kernel
theorem dX2_elementsOfNorm_38 : decode cX2_elementsOfNorm 38 = .ok (.iload_n 0, 1) := by decide +kernel
theorem dX2_elementsOfNorm_39 : decode cX2_elementsOfNorm 39 = .ok (.ifCond .ne 18, 3) := by decide +kernel
theorem dX2_elementsOfNorm_42 : decode cX2_elementsOfNorm 42 = .ok (.iload_n 1, 1) := by decide +kernel
theorem dX2_elementsOfNorm_43 : decode cX2_elementsOfNorm 43 = .ok (.iload 4, 2) := by decide +kernel
theorem dX2_elementsOfNorm_45 : decode cX2_elementsOfNorm 45 = .ok (.iadd, 1) := by decide +kernel
theorem dX2_elementsOfNorm_46 : decode cX2_elementsOfNorm 46 = .ok (.iconst 2, 1) := by decide +kernel
theorem dX2_elementsOfNorm_47 : decode cX2_elementsOfNorm 47 = .ok (.irem, 1) := by decide +kernel
theorem dX2_elementsOfNorm_48 : decode cX2_elementsOfNorm 48 = .ok (.ifCond .eq 9, 3) := by decide +kernel
theorem dX2_elementsOfNorm_51 : decode cX2_elementsOfNorm 51 = .ok (.lload 5, 2) := by decide +kernel
theorem dX2_elementsOfNorm_53 : decode cX2_elementsOfNorm 53 = .ok (.lneg, 1) := by decide +kernel
theorem dX2_elementsOfNorm_54 : decode cX2_elementsOfNorm 54 = .ok (.goto 5, 3) := by decide +kernel
theorem dX2_elementsOfNorm_57 : decode cX2_elementsOfNorm 57 = .ok (.lload 5, 2) := by decide +kernel
theorem dX2_elementsOfNorm_59 : decode cX2_elementsOfNorm 59 = .ok (.ladd, 1) := by decide +kernel
theorem dX2_elementsOfNorm_60 : decode cX2_elementsOfNorm 60 = .ok (.lstore_n 2, 1) := by decide +kernel
theorem dX2_elementsOfNorm_61 : decode cX2_elementsOfNorm 61 = .ok (.iinc 4 1, 3) := by decide +kernel
theorem dX2_elementsOfNorm_64 : decode cX2_elementsOfNorm 64 = .ok (.goto (-53), 3) := by decide +kernel
theorem dX2_elementsOfNorm_67 : decode cX2_elementsOfNorm 67 = .ok (.iload_n 0, 1) := by decide +kernel
theorem dX2_elementsOfNorm_68 : decode cX2_elementsOfNorm 68 = .ok (.ifCond .ne 8, 3) := by decide +kernel
theorem dX2_elementsOfNorm_71 : decode cX2_elementsOfNorm 71 = .ok (.bipush 16, 2) := by decide +kernel
theorem dX2_elementsOfNorm_73 : decode cX2_elementsOfNorm 73 = .ok (.goto 6, 3) := by decide +kernel
theorem dX2_elementsOfNorm_76 : decode cX2_elementsOfNorm 76 = .ok (.sipush 240, 3) := by decide +kernel
theorem dX2_elementsOfNorm_79 : decode cX2_elementsOfNorm 79 = .ok (.i2l, 1) := by decide +kernel
theorem dX2_elementsOfNorm_80 : decode cX2_elementsOfNorm 80 = .ok (.lload_n 2, 1) := by decide +kernel
theorem dX2_elementsOfNorm_81 : decode cX2_elementsOfNorm 81 = .ok (.lmul, 1) := by decide +kernel
theorem dX2_elementsOfNorm_82 : decode cX2_elementsOfNorm 82 = .ok (.lreturn, 1) := by decide +kernel
theorem dX3_product_0 : decode cX3_product 0 = .ok (.aload_n 2, 1) := by decide +kernel
theorem dX3_product_1 : decode cX3_product 1 = .ok (.iconst 0, 1) := by decide +kernel
theorem dX3_product_2 : decode cX3_product 2 = .ok (.aload_n 0, 1) := by decide +kernel
theorem dX3_product_3 : decode cX3_product 3 = .ok (.iconst 0, 1) := by decide +kernel
theorem dX3_product_4 : decode cX3_product 4 = .ok (.laload, 1) := by decide +kernel
theorem dX3_product_5 : decode cX3_product 5 = .ok (.aload_n 1, 1) := by decide +kernel
theorem dX3_product_6 : decode cX3_product 6 = .ok (.iconst 0, 1) := by decide +kernel
theorem dX3_product_7 : decode cX3_product 7 = .ok (.laload, 1) := by decide +kernel
theorem dX3_product_8 : decode cX3_product 8 = .ok (.lmul, 1) := by decide +kernel
theorem dX3_product_9 : decode cX3_product 9 = .ok (.lastore, 1) := by decide +kernel
theorem dX3_product_10 : decode cX3_product 10 = .ok (.iconst 1, 1) := by decide +kernel
theorem dX3_product_11 : decode cX3_product 11 = .ok (.istore_n 3, 1) := by decide +kernel
theorem dX3_product_12 : decode cX3_product 12 = .ok (.iload_n 3, 1) := by decide +kernel
theorem dX3_product_13 : decode cX3_product 13 = .ok (.bipush 8, 2) := by decide +kernel
theorem dX3_product_15 : decode cX3_product 15 = .ok (.if_icmp .ge 40, 3) := by decide +kernel
theorem dX3_product_18 : decode cX3_product 18 = .ok (.aload_n 2, 1) := by decide +kernel
theorem dX3_product_19 : decode cX3_product 19 = .ok (.iconst 0, 1) := by decide +kernel
theorem dX3_product_20 : decode cX3_product 20 = .ok (.dup2, 1) := by decide +kernel
theorem dX3_product_21 : decode cX3_product 21 = .ok (.laload, 1) := by decide +kernel
theorem dX3_product_22 : decode cX3_product 22 = .ok (.aload_n 0, 1) := by decide +kernel
theorem dX3_product_23 : decode cX3_product 23 = .ok (.iload_n 3, 1) := by decide +kernel
theorem dX3_product_24 : decode cX3_product 24 = .ok (.laload, 1) := by decide +kernel
theorem dX3_product_25 : decode cX3_product 25 = .ok (.aload_n 1, 1) := by decide +kernel
theorem dX3_product_26 : decode cX3_product 26 = .ok (.iload_n 3, 1) := by decide +kernel
theorem dX3_product_27 : decode cX3_product 27 = .ok (.laload, 1) := by decide +kernel
theorem dX3_product_28 : decode cX3_product 28 = .ok (.lmul, 1) := by decide +kernel
theorem dX3_product_29 : decode cX3_product 29 = .ok (.lsub, 1) := by decide +kernel
theorem dX3_product_30 : decode cX3_product 30 = .ok (.lastore, 1) := by decide +kernel
theorem dX3_product_31 : decode cX3_product 31 = .ok (.aload_n 2, 1) := by decide +kernel
theorem dX3_product_32 : decode cX3_product 32 = .ok (.iload_n 3, 1) := by decide +kernel
theorem dX3_product_33 : decode cX3_product 33 = .ok (.aload_n 0, 1) := by decide +kernel
theorem dX3_product_34 : decode cX3_product 34 = .ok (.iconst 0, 1) := by decide +kernel
theorem dX3_product_35 : decode cX3_product 35 = .ok (.laload, 1) := by decide +kernel
theorem dX3_product_36 : decode cX3_product 36 = .ok (.aload_n 1, 1) := by decide +kernel
theorem dX3_product_37 : decode cX3_product 37 = .ok (.iload_n 3, 1) := by decide +kernel
theorem dX3_product_38 : decode cX3_product 38 = .ok (.laload, 1) := by decide +kernel
theorem dX3_product_39 : decode cX3_product 39 = .ok (.lmul, 1) := by decide +kernel
theorem dX3_product_40 : decode cX3_product 40 = .ok (.aload_n 0, 1) := by decide +kernel
theorem dX3_product_41 : decode cX3_product 41 = .ok (.iload_n 3, 1) := by decide +kernel
theorem dX3_product_42 : decode cX3_product 42 = .ok (.laload, 1) := by decide +kernel
theorem dX3_product_43 : decode cX3_product 43 = .ok (.aload_n 1, 1) := by decide +kernel
theorem dX3_product_44 : decode cX3_product 44 = .ok (.iconst 0, 1) := by decide +kernel
theorem dX3_product_45 : decode cX3_product 45 = .ok (.laload, 1) := by decide +kernel
theorem dX3_product_46 : decode cX3_product 46 = .ok (.lmul, 1) := by decide +kernel
theorem dX3_product_47 : decode cX3_product 47 = .ok (.ladd, 1) := by decide +kernel
theorem dX3_product_48 : decode cX3_product 48 = .ok (.lastore, 1) := by decide +kernel
theorem dX3_product_49 : decode cX3_product 49 = .ok (.iinc 3 1, 3) := by decide +kernel
theorem dX3_product_52 : decode cX3_product 52 = .ok (.goto (-40), 3) := by decide +kernel
theorem dX3_product_55 : decode cX3_product 55 = .ok (.iconst 0, 1) := by decide +kernel
theorem dX3_product_56 : decode cX3_product 56 = .ok (.istore_n 3, 1) := by decide +kernel
theorem dX3_product_57 : decode cX3_product 57 = .ok (.iload_n 3, 1) := by decide +kernel
theorem dX3_product_58 : decode cX3_product 58 = .ok (.iconst 2, 1) := by decide +kernel
theorem dX3_product_59 : decode cX3_product 59 = .ok (.iadd, 1) := by decide +kernel
theorem dX3_product_60 : decode cX3_product 60 = .ok (.getstatic 9, 3) := by decide +kernel
theorem dX3_product_63 : decode cX3_product 63 = .ok (.arraylength, 1) := by decide +kernel
theorem dX3_product_64 : decode cX3_product 64 = .ok (.if_icmp .ge 112, 3) := by decide +kernel
theorem dX3_product_67 : decode cX3_product 67 = .ok (.getstatic 9, 3) := by decide +kernel
theorem dX3_product_70 : decode cX3_product 70 = .ok (.iload_n 3, 1) := by decide +kernel
theorem dX3_product_71 : decode cX3_product 71 = .ok (.iaload, 1) := by decide +kernel
theorem dX3_product_72 : decode cX3_product 72 = .ok (.istore 4, 2) := by decide +kernel
theorem dX3_product_74 : decode cX3_product 74 = .ok (.getstatic 9, 3) := by decide +kernel
theorem dX3_product_77 : decode cX3_product 77 = .ok (.iload_n 3, 1) := by decide +kernel
theorem dX3_product_78 : decode cX3_product 78 = .ok (.iconst 1, 1) := by decide +kernel
theorem dX3_product_79 : decode cX3_product 79 = .ok (.iadd, 1) := by decide +kernel
theorem dX3_product_80 : decode cX3_product 80 = .ok (.iaload, 1) := by decide +kernel
theorem dX3_product_81 : decode cX3_product 81 = .ok (.istore 5, 2) := by decide +kernel
theorem dX3_product_83 : decode cX3_product 83 = .ok (.getstatic 9, 3) := by decide +kernel
theorem dX3_product_86 : decode cX3_product 86 = .ok (.iload_n 3, 1) := by decide +kernel
theorem dX3_product_87 : decode cX3_product 87 = .ok (.iconst 2, 1) := by decide +kernel
theorem dX3_product_88 : decode cX3_product 88 = .ok (.iadd, 1) := by decide +kernel
theorem dX3_product_89 : decode cX3_product 89 = .ok (.iaload, 1) := by decide +kernel
theorem dX3_product_90 : decode cX3_product 90 = .ok (.istore 6, 2) := by decide +kernel
theorem dX3_product_92 : decode cX3_product 92 = .ok (.aload_n 2, 1) := by decide +kernel
theorem dX3_product_93 : decode cX3_product 93 = .ok (.iload 6, 2) := by decide +kernel
theorem dX3_product_95 : decode cX3_product 95 = .ok (.dup2, 1) := by decide +kernel
theorem dX3_product_96 : decode cX3_product 96 = .ok (.laload, 1) := by decide +kernel
theorem dX3_product_97 : decode cX3_product 97 = .ok (.aload_n 0, 1) := by decide +kernel
theorem dX3_product_98 : decode cX3_product 98 = .ok (.iload 4, 2) := by decide +kernel
theorem dX3_product_100 : decode cX3_product 100 = .ok (.laload, 1) := by decide +kernel
theorem dX3_product_101 : decode cX3_product 101 = .ok (.aload_n 1, 1) := by decide +kernel
theorem dX3_product_102 : decode cX3_product 102 = .ok (.iload 5, 2) := by decide +kernel
theorem dX3_product_104 : decode cX3_product 104 = .ok (.laload, 1) := by decide +kernel
theorem dX3_product_105 : decode cX3_product 105 = .ok (.lmul, 1) := by decide +kernel
theorem dX3_product_106 : decode cX3_product 106 = .ok (.aload_n 0, 1) := by decide +kernel
theorem dX3_product_107 : decode cX3_product 107 = .ok (.iload 5, 2) := by decide +kernel
theorem dX3_product_109 : decode cX3_product 109 = .ok (.laload, 1) := by decide +kernel
theorem dX3_product_110 : decode cX3_product 110 = .ok (.aload_n 1, 1) := by decide +kernel
theorem dX3_product_111 : decode cX3_product 111 = .ok (.iload 4, 2) := by decide +kernel
theorem dX3_product_113 : decode cX3_product 113 = .ok (.laload, 1) := by decide +kernel
theorem dX3_product_114 : decode cX3_product 114 = .ok (.lmul, 1) := by decide +kernel
theorem dX3_product_115 : decode cX3_product 115 = .ok (.lsub, 1) := by decide +kernel
theorem dX3_product_116 : decode cX3_product 116 = .ok (.ladd, 1) := by decide +kernel
theorem dX3_product_117 : decode cX3_product 117 = .ok (.lastore, 1) := by decide +kernel
theorem dX3_product_118 : decode cX3_product 118 = .ok (.aload_n 2, 1) := by decide +kernel
theorem dX3_product_119 : decode cX3_product 119 = .ok (.iload 4, 2) := by decide +kernel
theorem dX3_product_121 : decode cX3_product 121 = .ok (.dup2, 1) := by decide +kernel
theorem dX3_product_122 : decode cX3_product 122 = .ok (.laload, 1) := by decide +kernel
theorem dX3_product_123 : decode cX3_product 123 = .ok (.aload_n 0, 1) := by decide +kernel
theorem dX3_product_124 : decode cX3_product 124 = .ok (.iload 5, 2) := by decide +kernel
theorem dX3_product_126 : decode cX3_product 126 = .ok (.laload, 1) := by decide +kernel
theorem dX3_product_127 : decode cX3_product 127 = .ok (.aload_n 1, 1) := by decide +kernel
theorem dX3_product_128 : decode cX3_product 128 = .ok (.iload 6, 2) := by decide +kernel
theorem dX3_product_130 : decode cX3_product 130 = .ok (.laload, 1) := by decide +kernel
theorem dX3_product_131 : decode cX3_product 131 = .ok (.lmul, 1) := by decide +kernel
theorem dX3_product_132 : decode cX3_product 132 = .ok (.aload_n 0, 1) := by decide +kernel
theorem dX3_product_133 : decode cX3_product 133 = .ok (.iload 6, 2) := by decide +kernel
theorem dX3_product_135 : decode cX3_product 135 = .ok (.laload, 1) := by decide +kernel
theorem dX3_product_136 : decode cX3_product 136 = .ok (.aload_n 1, 1) := by decide +kernel
theorem dX3_product_137 : decode cX3_product 137 = .ok (.iload 5, 2) := by decide +kernel
theorem dX3_product_139 : decode cX3_product 139 = .ok (.laload, 1) := by decide +kernel
theorem dX3_product_140 : decode cX3_product 140 = .ok (.lmul, 1) := by decide +kernel
theorem dX3_product_141 : decode cX3_product 141 = .ok (.lsub, 1) := by decide +kernel
theorem dX3_product_142 : decode cX3_product 142 = .ok (.ladd, 1) := by decide +kernel
theorem dX3_product_143 : decode cX3_product 143 = .ok (.lastore, 1) := by decide +kernel
theorem dX3_product_144 : decode cX3_product 144 = .ok (.aload_n 2, 1) := by decide +kernel
theorem dX3_product_145 : decode cX3_product 145 = .ok (.iload 5, 2) := by decide +kernel
theorem dX3_product_147 : decode cX3_product 147 = .ok (.dup2, 1) := by decide +kernel
theorem dX3_product_148 : decode cX3_product 148 = .ok (.laload, 1) := by decide +kernel
theorem dX3_product_149 : decode cX3_product 149 = .ok (.aload_n 0, 1) := by decide +kernel
theorem dX3_product_150 : decode cX3_product 150 = .ok (.iload 6, 2) := by decide +kernel
theorem dX3_product_152 : decode cX3_product 152 = .ok (.laload, 1) := by decide +kernel
theorem dX3_product_153 : decode cX3_product 153 = .ok (.aload_n 1, 1) := by decide +kernel
theorem dX3_product_154 : decode cX3_product 154 = .ok (.iload 4, 2) := by decide +kernel
theorem dX3_product_156 : decode cX3_product 156 = .ok (.laload, 1) := by decide +kernel
theorem dX3_product_157 : decode cX3_product 157 = .ok (.lmul, 1) := by decide +kernel
theorem dX3_product_158 : decode cX3_product 158 = .ok (.aload_n 0, 1) := by decide +kernel
theorem dX3_product_159 : decode cX3_product 159 = .ok (.iload 4, 2) := by decide +kernel
theorem dX3_product_161 : decode cX3_product 161 = .ok (.laload, 1) := by decide +kernel
theorem dX3_product_162 : decode cX3_product 162 = .ok (.aload_n 1, 1) := by decide +kernel
theorem dX3_product_163 : decode cX3_product 163 = .ok (.iload 6, 2) := by decide +kernel
theorem dX3_product_165 : decode cX3_product 165 = .ok (.laload, 1) := by decide +kernel
theorem dX3_product_166 : decode cX3_product 166 = .ok (.lmul, 1) := by decide +kernel
theorem dX3_product_167 : decode cX3_product 167 = .ok (.lsub, 1) := by decide +kernel
theorem dX3_product_168 : decode cX3_product 168 = .ok (.ladd, 1) := by decide +kernel
theorem dX3_product_169 : decode cX3_product 169 = .ok (.lastore, 1) := by decide +kernel
theorem dX3_product_170 : decode cX3_product 170 = .ok (.iinc 3 3, 3) := by decide +kernel
theorem dX3_product_173 : decode cX3_product 173 = .ok (.goto (-116), 3) := by decide +kernel
theorem dX3_product_176 : decode cX3_product 176 = .ok (.return_, 1) := by decide +kernel
theorem dX3_total_0 : decode cX3_total 0 = .ok (.iconst 0, 1) := by decide +kernel
theorem dX3_total_1 : decode cX3_total 1 = .ok (.istore 4, 2) := by decide +kernel
theorem dX3_total_3 : decode cX3_total 3 = .ok (.iload 4, 2) := by decide +kernel
theorem dX3_total_5 : decode cX3_total 5 = .ok (.bipush 8, 2) := by decide +kernel
theorem dX3_total_7 : decode cX3_total 7 = .ok (.if_icmp .ge 38, 3) := by decide +kernel
theorem dX3_total_10 : decode cX3_total 10 = .ok (.aload_n 3, 1) := by decide +kernel
theorem dX3_total_11 : decode cX3_total 11 = .ok (.iload 4, 2) := by decide +kernel
theorem dX3_total_13 : decode cX3_total 13 = .ok (.iload_n 2, 1) := by decide +kernel
theorem dX3_total_14 : decode cX3_total 14 = .ok (.ifCond .eq 15, 3) := by decide +kernel
theorem dX3_total_17 : decode cX3_total 17 = .ok (.aload_n 0, 1) := by decide +kernel
theorem dX3_total_18 : decode cX3_total 18 = .ok (.iload 4, 2) := by decide +kernel
theorem dX3_total_20 : decode cX3_total 20 = .ok (.laload, 1) := by decide +kernel
theorem dX3_total_21 : decode cX3_total 21 = .ok (.aload_n 1, 1) := by decide +kernel
theorem dX3_total_22 : decode cX3_total 22 = .ok (.iload 4, 2) := by decide +kernel
theorem dX3_total_24 : decode cX3_total 24 = .ok (.laload, 1) := by decide +kernel
theorem dX3_total_25 : decode cX3_total 25 = .ok (.lsub, 1) := by decide +kernel
theorem dX3_total_26 : decode cX3_total 26 = .ok (.goto 12, 3) := by decide +kernel
theorem dX3_total_29 : decode cX3_total 29 = .ok (.aload_n 0, 1) := by decide +kernel
theorem dX3_total_30 : decode cX3_total 30 = .ok (.iload 4, 2) := by decide +kernel
theorem dX3_total_32 : decode cX3_total 32 = .ok (.laload, 1) := by decide +kernel
theorem dX3_total_33 : decode cX3_total 33 = .ok (.aload_n 1, 1) := by decide +kernel
theorem dX3_total_34 : decode cX3_total 34 = .ok (.iload 4, 2) := by decide +kernel
theorem dX3_total_36 : decode cX3_total 36 = .ok (.laload, 1) := by decide +kernel
theorem dX3_total_37 : decode cX3_total 37 = .ok (.ladd, 1) := by decide +kernel
theorem dX3_total_38 : decode cX3_total 38 = .ok (.lastore, 1) := by decide +kernel
theorem dX3_total_39 : decode cX3_total 39 = .ok (.iinc 4 1, 3) := by decide +kernel
theorem dX3_total_42 : decode cX3_total 42 = .ok (.goto (-39), 3) := by decide +kernel
theorem dX3_total_45 : decode cX3_total 45 = .ok (.return_, 1) := by decide +kernel
theorem dX3_mirror_0 : decode cX3_mirror 0 = .ok (.iconst 1, 1) := by decide +kernel
theorem dX3_mirror_1 : decode cX3_mirror 1 = .ok (.istore_n 1, 1) := by decide +kernel
theorem dX3_mirror_2 : decode cX3_mirror 2 = .ok (.iload_n 1, 1) := by decide +kernel
theorem dX3_mirror_3 : decode cX3_mirror 3 = .ok (.bipush 8, 2) := by decide +kernel
theorem dX3_mirror_5 : decode cX3_mirror 5 = .ok (.if_icmp .ge 16, 3) := by decide +kernel
theorem dX3_mirror_8 : decode cX3_mirror 8 = .ok (.aload_n 0, 1) := by decide +kernel
theorem dX3_mirror_9 : decode cX3_mirror 9 = .ok (.iload_n 1, 1) := by decide +kernel
theorem dX3_mirror_10 : decode cX3_mirror 10 = .ok (.aload_n 0, 1) := by decide +kernel
theorem dX3_mirror_11 : decode cX3_mirror 11 = .ok (.iload_n 1, 1) := by decide +kernel
theorem dX3_mirror_12 : decode cX3_mirror 12 = .ok (.laload, 1) := by decide +kernel
theorem dX3_mirror_13 : decode cX3_mirror 13 = .ok (.lneg, 1) := by decide +kernel
theorem dX3_mirror_14 : decode cX3_mirror 14 = .ok (.lastore, 1) := by decide +kernel
theorem dX3_mirror_15 : decode cX3_mirror 15 = .ok (.iinc 1 1, 3) := by decide +kernel
theorem dX3_mirror_18 : decode cX3_mirror 18 = .ok (.goto (-16), 3) := by decide +kernel
theorem dX3_mirror_21 : decode cX3_mirror 21 = .ok (.return_, 1) := by decide +kernel
theorem dX3_scale_0 : decode cX3_scale 0 = .ok (.iconst 0, 1) := by decide +kernel
theorem dX3_scale_1 : decode cX3_scale 1 = .ok (.istore_n 2, 1) := by decide +kernel
theorem dX3_scale_2 : decode cX3_scale 2 = .ok (.iload_n 2, 1) := by decide +kernel
theorem dX3_scale_3 : decode cX3_scale 3 = .ok (.bipush 8, 2) := by decide +kernel
theorem dX3_scale_5 : decode cX3_scale 5 = .ok (.if_icmp .ge 17, 3) := by decide +kernel
theorem dX3_scale_8 : decode cX3_scale 8 = .ok (.aload_n 0, 1) := by decide +kernel
theorem dX3_scale_9 : decode cX3_scale 9 = .ok (.iload_n 2, 1) := by decide +kernel
theorem dX3_scale_10 : decode cX3_scale 10 = .ok (.dup2, 1) := by decide +kernel
theorem dX3_scale_11 : decode cX3_scale 11 = .ok (.laload, 1) := by decide +kernel
theorem dX3_scale_12 : decode cX3_scale 12 = .ok (.iload_n 1, 1) := by decide +kernel
theorem dX3_scale_13 : decode cX3_scale 13 = .ok (.i2l, 1) := by decide +kernel
theorem dX3_scale_14 : decode cX3_scale 14 = .ok (.lmul, 1) := by decide +kernel
theorem dX3_scale_15 : decode cX3_scale 15 = .ok (.lastore, 1) := by decide +kernel
theorem dX3_scale_16 : decode cX3_scale 16 = .ok (.iinc 2 1, 3) := by decide +kernel
theorem dX3_scale_19 : decode cX3_scale 19 = .ok (.goto (-17), 3) := by decide +kernel
theorem dX3_scale_22 : decode cX3_scale 22 = .ok (.return_, 1) := by decide +kernel
theorem dX3_copy_0 : decode cX3_copy 0 = .ok (.iconst 0, 1) := by decide +kernel
theorem dX3_copy_1 : decode cX3_copy 1 = .ok (.istore_n 2, 1) := by decide +kernel
theorem dX3_copy_2 : decode cX3_copy 2 = .ok (.iload_n 2, 1) := by decide +kernel
theorem dX3_copy_3 : decode cX3_copy 3 = .ok (.bipush 8, 2) := by decide +kernel
theorem dX3_copy_5 : decode cX3_copy 5 = .ok (.if_icmp .ge 15, 3) := by decide +kernel
theorem dX3_copy_8 : decode cX3_copy 8 = .ok (.aload_n 1, 1) := by decide +kernel
theorem dX3_copy_9 : decode cX3_copy 9 = .ok (.iload_n 2, 1) := by decide +kernel
theorem dX3_copy_10 : decode cX3_copy 10 = .ok (.aload_n 0, 1) := by decide +kernel
theorem dX3_copy_11 : decode cX3_copy 11 = .ok (.iload_n 2, 1) := by decide +kernel
theorem dX3_copy_12 : decode cX3_copy 12 = .ok (.laload, 1) := by decide +kernel
theorem dX3_copy_13 : decode cX3_copy 13 = .ok (.lastore, 1) := by decide +kernel
theorem dX3_copy_14 : decode cX3_copy 14 = .ok (.iinc 2 1, 3) := by decide +kernel
theorem dX3_copy_17 : decode cX3_copy 17 = .ok (.goto (-15), 3) := by decide +kernel
theorem dX3_copy_20 : decode cX3_copy 20 = .ok (.return_, 1) := by decide +kernel
theorem dX3_clear_0 : decode cX3_clear 0 = .ok (.iconst 0, 1) := by decide +kernel
theorem dX3_clear_1 : decode cX3_clear 1 = .ok (.istore_n 1, 1) := by decide +kernel
theorem dX3_clear_2 : decode cX3_clear 2 = .ok (.iload_n 1, 1) := by decide +kernel
theorem dX3_clear_3 : decode cX3_clear 3 = .ok (.bipush 8, 2) := by decide +kernel
theorem dX3_clear_5 : decode cX3_clear 5 = .ok (.if_icmp .ge 13, 3) := by decide +kernel
theorem dX3_clear_8 : decode cX3_clear 8 = .ok (.aload_n 0, 1) := by decide +kernel
theorem dX3_clear_9 : decode cX3_clear 9 = .ok (.iload_n 1, 1) := by decide +kernel
theorem dX3_clear_10 : decode cX3_clear 10 = .ok (.lconst 0, 1) := by decide +kernel
theorem dX3_clear_11 : decode cX3_clear 11 = .ok (.lastore, 1) := by decide +kernel
theorem dX3_clear_12 : decode cX3_clear 12 = .ok (.iinc 1 1, 3) := by decide +kernel
theorem dX3_clear_15 : decode cX3_clear 15 = .ok (.goto (-13), 3) := by decide +kernel
theorem dX3_clear_18 : decode cX3_clear 18 = .ok (.return_, 1) := by decide +kernel
theorem dX3_fit_0 : decode cX3_fit 0 = .ok (.lconst 1, 1) := by decide +kernel
theorem dX3_fit_1 : decode cX3_fit 1 = .ok (.iload_n 1, 1) := by decide +kernel
theorem dX3_fit_2 : decode cX3_fit 2 = .ok (.lshl, 1) := by decide +kernel
theorem dX3_fit_3 : decode cX3_fit 3 = .ok (.lstore_n 2, 1) := by decide +kernel
theorem dX3_fit_4 : decode cX3_fit 4 = .ok (.iconst 0, 1) := by decide +kernel
theorem dX3_fit_5 : decode cX3_fit 5 = .ok (.istore 4, 2) := by decide +kernel
theorem dX3_fit_7 : decode cX3_fit 7 = .ok (.iload 4, 2) := by decide +kernel
theorem dX3_fit_9 : decode cX3_fit 9 = .ok (.bipush 8, 2) := by decide +kernel
theorem dX3_fit_11 : decode cX3_fit 11 = .ok (.if_icmp .ge 56, 3) := by decide +kernel
theorem dX3_fit_14 : decode cX3_fit 14 = .ok (.aload_n 0, 1) := by decide +kernel
theorem dX3_fit_15 : decode cX3_fit 15 = .ok (.iload 4, 2) := by decide +kernel
theorem dX3_fit_17 : decode cX3_fit 17 = .ok (.laload, 1) := by decide +kernel
theorem dX3_fit_18 : decode cX3_fit 18 = .ok (.lload_n 2, 1) := by decide +kernel
theorem dX3_fit_19 : decode cX3_fit 19 = .ok (.lconst 1, 1) := by decide +kernel
theorem dX3_fit_20 : decode cX3_fit 20 = .ok (.lsub, 1) := by decide +kernel
theorem dX3_fit_21 : decode cX3_fit 21 = .ok (.land, 1) := by decide +kernel
theorem dX3_fit_22 : decode cX3_fit 22 = .ok (.lconst 0, 1) := by decide +kernel
theorem dX3_fit_23 : decode cX3_fit 23 = .ok (.lcmp, 1) := by decide +kernel
theorem dX3_fit_24 : decode cX3_fit 24 = .ok (.ifCond .eq 5, 3) := by decide +kernel
theorem dX3_fit_27 : decode cX3_fit 27 = .ok (.iconst 0, 1) := by decide +kernel
theorem dX3_fit_28 : decode cX3_fit 28 = .ok (.ireturn, 1) := by decide +kernel
theorem dX3_fit_29 : decode cX3_fit 29 = .ok (.aload_n 0, 1) := by decide +kernel
theorem dX3_fit_30 : decode cX3_fit 30 = .ok (.iload 4, 2) := by decide +kernel
theorem dX3_fit_32 : decode cX3_fit 32 = .ok (.dup2, 1) := by decide +kernel
theorem dX3_fit_33 : decode cX3_fit 33 = .ok (.laload, 1) := by decide +kernel
theorem dX3_fit_34 : decode cX3_fit 34 = .ok (.iload_n 1, 1) := by decide +kernel
theorem dX3_fit_35 : decode cX3_fit 35 = .ok (.lshr, 1) := by decide +kernel
theorem dX3_fit_36 : decode cX3_fit 36 = .ok (.lastore, 1) := by decide +kernel
theorem dX3_fit_37 : decode cX3_fit 37 = .ok (.aload_n 0, 1) := by decide +kernel
theorem dX3_fit_38 : decode cX3_fit 38 = .ok (.iload 4, 2) := by decide +kernel
theorem dX3_fit_40 : decode cX3_fit 40 = .ok (.laload, 1) := by decide +kernel
theorem dX3_fit_41 : decode cX3_fit 41 = .ok (.ldc2_w 13, 3) := by decide +kernel
theorem dX3_fit_44 : decode cX3_fit 44 = .ok (.lcmp, 1) := by decide +kernel
theorem dX3_fit_45 : decode cX3_fit 45 = .ok (.ifCond .lt 14, 3) := by decide +kernel
theorem dX3_fit_48 : decode cX3_fit 48 = .ok (.aload_n 0, 1) := by decide +kernel
theorem dX3_fit_49 : decode cX3_fit 49 = .ok (.iload 4, 2) := by decide +kernel
theorem dX3_fit_51 : decode cX3_fit 51 = .ok (.laload, 1) := by decide +kernel
theorem dX3_fit_52 : decode cX3_fit 52 = .ok (.ldc2_w 15, 3) := by decide +kernel
theorem dX3_fit_55 : decode cX3_fit 55 = .ok (.lcmp, 1) := by decide +kernel
theorem dX3_fit_56 : decode cX3_fit 56 = .ok (.ifCond .le 5, 3) := by decide +kernel
theorem dX3_fit_59 : decode cX3_fit 59 = .ok (.iconst 0, 1) := by decide +kernel
theorem dX3_fit_60 : decode cX3_fit 60 = .ok (.ireturn, 1) := by decide +kernel
theorem dX3_fit_61 : decode cX3_fit 61 = .ok (.iinc 4 1, 3) := by decide +kernel
theorem dX3_fit_64 : decode cX3_fit 64 = .ok (.goto (-57), 3) := by decide +kernel
theorem dX3_fit_67 : decode cX3_fit 67 = .ok (.iconst 1, 1) := by decide +kernel
theorem dX3_fit_68 : decode cX3_fit 68 = .ok (.ireturn, 1) := by decide +kernel
theorem dX3_inner_0 : decode cX3_inner 0 = .ok (.lconst 0, 1) := by decide +kernel
theorem dX3_inner_1 : decode cX3_inner 1 = .ok (.lstore_n 2, 1) := by decide +kernel
theorem dX3_inner_2 : decode cX3_inner 2 = .ok (.iconst 0, 1) := by decide +kernel
theorem dX3_inner_3 : decode cX3_inner 3 = .ok (.istore 4, 2) := by decide +kernel
theorem dX3_inner_5 : decode cX3_inner 5 = .ok (.iload 4, 2) := by decide +kernel
theorem dX3_inner_7 : decode cX3_inner 7 = .ok (.bipush 8, 2) := by decide +kernel
theorem dX3_inner_9 : decode cX3_inner 9 = .ok (.if_icmp .ge 21, 3) := by decide +kernel
theorem dX3_inner_12 : decode cX3_inner 12 = .ok (.lload_n 2, 1) := by decide +kernel
theorem dX3_inner_13 : decode cX3_inner 13 = .ok (.aload_n 0, 1) := by decide +kernel
theorem dX3_inner_14 : decode cX3_inner 14 = .ok (.iload 4, 2) := by decide +kernel
theorem dX3_inner_16 : decode cX3_inner 16 = .ok (.laload, 1) := by decide +kernel
theorem dX3_inner_17 : decode cX3_inner 17 = .ok (.aload_n 1, 1) := by decide +kernel
theorem dX3_inner_18 : decode cX3_inner 18 = .ok (.iload 4, 2) := by decide +kernel
theorem dX3_inner_20 : decode cX3_inner 20 = .ok (.laload, 1) := by decide +kernel
theorem dX3_inner_21 : decode cX3_inner 21 = .ok (.lmul, 1) := by decide +kernel
theorem dX3_inner_22 : decode cX3_inner 22 = .ok (.ladd, 1) := by decide +kernel
theorem dX3_inner_23 : decode cX3_inner 23 = .ok (.lstore_n 2, 1) := by decide +kernel
theorem dX3_inner_24 : decode cX3_inner 24 = .ok (.iinc 4 1, 3) := by decide +kernel
theorem dX3_inner_27 : decode cX3_inner 27 = .ok (.goto (-22), 3) := by decide +kernel
theorem dX3_inner_30 : decode cX3_inner 30 = .ok (.lload_n 2, 1) := by decide +kernel
theorem dX3_inner_31 : decode cX3_inner 31 = .ok (.lreturn, 1) := by decide +kernel
theorem dX3_quarters_0 : decode cX3_quarters 0 = .ok (.aload_n 0, 1) := by decide +kernel
theorem dX3_quarters_1 : decode cX3_quarters 1 = .ok (.aload_n 0, 1) := by decide +kernel
theorem dX3_quarters_2 : decode cX3_quarters 2 = .ok (.invokestatic 17, 3) := by decide +kernel
theorem dX3_quarters_5 : decode cX3_quarters 5 = .ok (.lreturn, 1) := by decide +kernel
theorem dX3_oddSet_0 : decode cX3_oddSet 0 = .ok (.iconst 0, 1) := by decide +kernel
theorem dX3_oddSet_1 : decode cX3_oddSet 1 = .ok (.istore_n 1, 1) := by decide +kernel
theorem dX3_oddSet_2 : decode cX3_oddSet 2 = .ok (.iconst 0, 1) := by decide +kernel
theorem dX3_oddSet_3 : decode cX3_oddSet 3 = .ok (.istore_n 2, 1) := by decide +kernel
theorem dX3_oddSet_4 : decode cX3_oddSet 4 = .ok (.iload_n 2, 1) := by decide +kernel
theorem dX3_oddSet_5 : decode cX3_oddSet 5 = .ok (.bipush 8, 2) := by decide +kernel
theorem dX3_oddSet_7 : decode cX3_oddSet 7 = .ok (.if_icmp .ge 25, 3) := by decide +kernel
theorem dX3_oddSet_10 : decode cX3_oddSet 10 = .ok (.aload_n 0, 1) := by decide +kernel
theorem dX3_oddSet_11 : decode cX3_oddSet 11 = .ok (.iload_n 2, 1) := by decide +kernel
theorem dX3_oddSet_12 : decode cX3_oddSet 12 = .ok (.laload, 1) := by decide +kernel
theorem dX3_oddSet_13 : decode cX3_oddSet 13 = .ok (.lconst 1, 1) := by decide +kernel
theorem dX3_oddSet_14 : decode cX3_oddSet 14 = .ok (.land, 1) := by decide +kernel
theorem dX3_oddSet_15 : decode cX3_oddSet 15 = .ok (.lconst 0, 1) := by decide +kernel
theorem dX3_oddSet_16 : decode cX3_oddSet 16 = .ok (.lcmp, 1) := by decide +kernel
theorem dX3_oddSet_17 : decode cX3_oddSet 17 = .ok (.ifCond .eq 9, 3) := by decide +kernel
theorem dX3_oddSet_20 : decode cX3_oddSet 20 = .ok (.iload_n 1, 1) := by decide +kernel
theorem dX3_oddSet_21 : decode cX3_oddSet 21 = .ok (.iconst 1, 1) := by decide +kernel
theorem dX3_oddSet_22 : decode cX3_oddSet 22 = .ok (.iload_n 2, 1) := by decide +kernel
theorem dX3_oddSet_23 : decode cX3_oddSet 23 = .ok (.ishl, 1) := by decide +kernel
theorem dX3_oddSet_24 : decode cX3_oddSet 24 = .ok (.ior, 1) := by decide +kernel
theorem dX3_oddSet_25 : decode cX3_oddSet 25 = .ok (.istore_n 1, 1) := by decide +kernel
theorem dX3_oddSet_26 : decode cX3_oddSet 26 = .ok (.iinc 2 1, 3) := by decide +kernel
theorem dX3_oddSet_29 : decode cX3_oddSet 29 = .ok (.goto (-25), 3) := by decide +kernel
theorem dX3_oddSet_32 : decode cX3_oddSet 32 = .ok (.iload_n 1, 1) := by decide +kernel
theorem dX3_oddSet_33 : decode cX3_oddSet 33 = .ok (.ireturn, 1) := by decide +kernel
theorem dX3_isReal_0 : decode cX3_isReal 0 = .ok (.iconst 1, 1) := by decide +kernel
theorem dX3_isReal_1 : decode cX3_isReal 1 = .ok (.istore_n 1, 1) := by decide +kernel
theorem dX3_isReal_2 : decode cX3_isReal 2 = .ok (.iload_n 1, 1) := by decide +kernel
theorem dX3_isReal_3 : decode cX3_isReal 3 = .ok (.bipush 8, 2) := by decide +kernel
theorem dX3_isReal_5 : decode cX3_isReal 5 = .ok (.if_icmp .ge 19, 3) := by decide +kernel
theorem dX3_isReal_8 : decode cX3_isReal 8 = .ok (.aload_n 0, 1) := by decide +kernel
theorem dX3_isReal_9 : decode cX3_isReal 9 = .ok (.iload_n 1, 1) := by decide +kernel
theorem dX3_isReal_10 : decode cX3_isReal 10 = .ok (.laload, 1) := by decide +kernel
theorem dX3_isReal_11 : decode cX3_isReal 11 = .ok (.lconst 0, 1) := by decide +kernel
theorem dX3_isReal_12 : decode cX3_isReal 12 = .ok (.lcmp, 1) := by decide +kernel
theorem dX3_isReal_13 : decode cX3_isReal 13 = .ok (.ifCond .eq 5, 3) := by decide +kernel
theorem dX3_isReal_16 : decode cX3_isReal 16 = .ok (.iconst 0, 1) := by decide +kernel
theorem dX3_isReal_17 : decode cX3_isReal 17 = .ok (.ireturn, 1) := by decide +kernel
theorem dX3_isReal_18 : decode cX3_isReal 18 = .ok (.iinc 1 1, 3) := by decide +kernel
theorem dX3_isReal_21 : decode cX3_isReal 21 = .ok (.goto (-19), 3) := by decide +kernel
theorem dX3_isReal_24 : decode cX3_isReal 24 = .ok (.iconst 1, 1) := by decide +kernel
theorem dX3_isReal_25 : decode cX3_isReal 25 = .ok (.ireturn, 1) := by decide +kernel
theorem dX3_parallel_0 : decode cX3_parallel 0 = .ok (.iconst 1, 1) := by decide +kernel
theorem dX3_parallel_1 : decode cX3_parallel 1 = .ok (.istore_n 2, 1) := by decide +kernel
theorem dX3_parallel_2 : decode cX3_parallel 2 = .ok (.iload_n 2, 1) := by decide +kernel
theorem dX3_parallel_3 : decode cX3_parallel 3 = .ok (.bipush 8, 2) := by decide +kernel
theorem dX3_parallel_5 : decode cX3_parallel 5 = .ok (.if_icmp .ge 45, 3) := by decide +kernel
theorem dX3_parallel_8 : decode cX3_parallel 8 = .ok (.iload_n 2, 1) := by decide +kernel
theorem dX3_parallel_9 : decode cX3_parallel 9 = .ok (.iconst 1, 1) := by decide +kernel
theorem dX3_parallel_10 : decode cX3_parallel 10 = .ok (.iadd, 1) := by decide +kernel
theorem dX3_parallel_11 : decode cX3_parallel 11 = .ok (.istore_n 3, 1) := by decide +kernel
theorem dX3_parallel_12 : decode cX3_parallel 12 = .ok (.iload_n 3, 1) := by decide +kernel
theorem dX3_parallel_13 : decode cX3_parallel 13 = .ok (.bipush 8, 2) := by decide +kernel
theorem dX3_parallel_15 : decode cX3_parallel 15 = .ok (.if_icmp .ge 29, 3) := by decide +kernel
theorem dX3_parallel_18 : decode cX3_parallel 18 = .ok (.aload_n 0, 1) := by decide +kernel
theorem dX3_parallel_19 : decode cX3_parallel 19 = .ok (.iload_n 2, 1) := by decide +kernel
theorem dX3_parallel_20 : decode cX3_parallel 20 = .ok (.laload, 1) := by decide +kernel
theorem dX3_parallel_21 : decode cX3_parallel 21 = .ok (.aload_n 1, 1) := by decide +kernel
theorem dX3_parallel_22 : decode cX3_parallel 22 = .ok (.iload_n 3, 1) := by decide +kernel
theorem dX3_parallel_23 : decode cX3_parallel 23 = .ok (.laload, 1) := by decide +kernel
theorem dX3_parallel_24 : decode cX3_parallel 24 = .ok (.lmul, 1) := by decide +kernel
theorem dX3_parallel_25 : decode cX3_parallel 25 = .ok (.aload_n 0, 1) := by decide +kernel
theorem dX3_parallel_26 : decode cX3_parallel 26 = .ok (.iload_n 3, 1) := by decide +kernel
theorem dX3_parallel_27 : decode cX3_parallel 27 = .ok (.laload, 1) := by decide +kernel
theorem dX3_parallel_28 : decode cX3_parallel 28 = .ok (.aload_n 1, 1) := by decide +kernel
theorem dX3_parallel_29 : decode cX3_parallel 29 = .ok (.iload_n 2, 1) := by decide +kernel
theorem dX3_parallel_30 : decode cX3_parallel 30 = .ok (.laload, 1) := by decide +kernel
theorem dX3_parallel_31 : decode cX3_parallel 31 = .ok (.lmul, 1) := by decide +kernel
theorem dX3_parallel_32 : decode cX3_parallel 32 = .ok (.lcmp, 1) := by decide +kernel
theorem dX3_parallel_33 : decode cX3_parallel 33 = .ok (.ifCond .eq 5, 3) := by decide +kernel
theorem dX3_parallel_36 : decode cX3_parallel 36 = .ok (.iconst 0, 1) := by decide +kernel
theorem dX3_parallel_37 : decode cX3_parallel 37 = .ok (.ireturn, 1) := by decide +kernel
theorem dX3_parallel_38 : decode cX3_parallel 38 = .ok (.iinc 3 1, 3) := by decide +kernel
theorem dX3_parallel_41 : decode cX3_parallel 41 = .ok (.goto (-29), 3) := by decide +kernel
theorem dX3_parallel_44 : decode cX3_parallel 44 = .ok (.iinc 2 1, 3) := by decide +kernel
theorem dX3_parallel_47 : decode cX3_parallel 47 = .ok (.goto (-45), 3) := by decide +kernel
theorem dX3_parallel_50 : decode cX3_parallel 50 = .ok (.iconst 1, 1) := by decide +kernel
theorem dX3_parallel_51 : decode cX3_parallel 51 = .ok (.ireturn, 1) := by decide +kernel
theorem dX4_init_0 : decode cX4_init 0 = .ok (.aload_n 0, 1) := by decide +kernel
theorem dX4_init_1 : decode cX4_init 1 = .ok (.invokespecial 3, 3) := by decide +kernel
theorem dX4_init_4 : decode cX4_init 4 = .ok (.aload_n 0, 1) := by decide +kernel
theorem dX4_init_5 : decode cX4_init 5 = .ok (.bipush 8, 2) := by decide +kernel
theorem dX4_init_7 : decode cX4_init 7 = .ok (.bipush 8, 2) := by decide +kernel
theorem dX4_init_9 : decode cX4_init 9 = .ok (.multianewarray 11 2, 4) := by decide +kernel
theorem dX4_init_13 : decode cX4_init 13 = .ok (.putfield 13, 3) := by decide +kernel
theorem dX4_init_16 : decode cX4_init 16 = .ok (.aload_n 0, 1) := by decide +kernel
theorem dX4_init_17 : decode cX4_init 17 = .ok (.iconst 1, 1) := by decide +kernel
theorem dX4_init_18 : decode cX4_init 18 = .ok (.putfield 18, 3) := by decide +kernel
theorem dX4_init_21 : decode cX4_init 21 = .ok (.aload_n 0, 1) := by decide +kernel
theorem dX4_init_22 : decode cX4_init 22 = .ok (.iconst 0, 1) := by decide +kernel
theorem dX4_init_23 : decode cX4_init 23 = .ok (.putfield 22, 3) := by decide +kernel
theorem dX4_init_26 : decode cX4_init 26 = .ok (.aload_n 0, 1) := by decide +kernel
theorem dX4_init_27 : decode cX4_init 27 = .ok (.iconst 0, 1) := by decide +kernel
theorem dX4_init_28 : decode cX4_init 28 = .ok (.putfield 25, 3) := by decide +kernel
theorem dX4_init_31 : decode cX4_init 31 = .ok (.iconst 0, 1) := by decide +kernel
theorem dX4_init_32 : decode cX4_init 32 = .ok (.istore_n 1, 1) := by decide +kernel
theorem dX4_init_33 : decode cX4_init 33 = .ok (.iload_n 1, 1) := by decide +kernel
theorem dX4_init_34 : decode cX4_init 34 = .ok (.bipush 8, 2) := by decide +kernel
theorem dX4_init_36 : decode cX4_init 36 = .ok (.if_icmp .ge 20, 3) := by decide +kernel
theorem dX4_init_39 : decode cX4_init 39 = .ok (.aload_n 0, 1) := by decide +kernel
theorem dX4_init_40 : decode cX4_init 40 = .ok (.getfield 13, 3) := by decide +kernel
theorem dX4_init_43 : decode cX4_init 43 = .ok (.iload_n 1, 1) := by decide +kernel
theorem dX4_init_44 : decode cX4_init 44 = .ok (.aaload, 1) := by decide +kernel
theorem dX4_init_45 : decode cX4_init 45 = .ok (.iload_n 1, 1) := by decide +kernel
theorem dX4_init_46 : decode cX4_init 46 = .ok (.ldc2_w 28, 3) := by decide +kernel
theorem dX4_init_49 : decode cX4_init 49 = .ok (.lastore, 1) := by decide +kernel
theorem dX4_init_50 : decode cX4_init 50 = .ok (.iinc 1 1, 3) := by decide +kernel
theorem dX4_init_53 : decode cX4_init 53 = .ok (.goto (-20), 3) := by decide +kernel
theorem dX4_init_56 : decode cX4_init 56 = .ok (.return_, 1) := by decide +kernel
theorem dX4_takeFrom_0 : decode cX4_takeFrom 0 = .ok (.iconst 0, 1) := by decide +kernel
theorem dX4_takeFrom_1 : decode cX4_takeFrom 1 = .ok (.istore_n 2, 1) := by decide +kernel
theorem dX4_takeFrom_2 : decode cX4_takeFrom 2 = .ok (.iload_n 2, 1) := by decide +kernel
theorem dX4_takeFrom_3 : decode cX4_takeFrom 3 = .ok (.bipush 8, 2) := by decide +kernel
theorem dX4_takeFrom_5 : decode cX4_takeFrom 5 = .ok (.if_icmp .ge 24, 3) := by decide +kernel
theorem dX4_takeFrom_8 : decode cX4_takeFrom 8 = .ok (.aload_n 1, 1) := by decide +kernel
theorem dX4_takeFrom_9 : decode cX4_takeFrom 9 = .ok (.getfield 13, 3) := by decide +kernel
theorem dX4_takeFrom_12 : decode cX4_takeFrom 12 = .ok (.iload_n 2, 1) := by decide +kernel
theorem dX4_takeFrom_13 : decode cX4_takeFrom 13 = .ok (.aaload, 1) := by decide +kernel
theorem dX4_takeFrom_14 : decode cX4_takeFrom 14 = .ok (.aload_n 0, 1) := by decide +kernel
theorem dX4_takeFrom_15 : decode cX4_takeFrom 15 = .ok (.getfield 13, 3) := by decide +kernel
theorem dX4_takeFrom_18 : decode cX4_takeFrom 18 = .ok (.iload_n 2, 1) := by decide +kernel
theorem dX4_takeFrom_19 : decode cX4_takeFrom 19 = .ok (.aaload, 1) := by decide +kernel
theorem dX4_takeFrom_20 : decode cX4_takeFrom 20 = .ok (.invokestatic 30, 3) := by decide +kernel
theorem dX4_takeFrom_23 : decode cX4_takeFrom 23 = .ok (.iinc 2 1, 3) := by decide +kernel
theorem dX4_takeFrom_26 : decode cX4_takeFrom 26 = .ok (.goto (-24), 3) := by decide +kernel
theorem dX4_takeFrom_29 : decode cX4_takeFrom 29 = .ok (.aload_n 0, 1) := by decide +kernel
theorem dX4_takeFrom_30 : decode cX4_takeFrom 30 = .ok (.aload_n 1, 1) := by decide +kernel
theorem dX4_takeFrom_31 : decode cX4_takeFrom 31 = .ok (.getfield 18, 3) := by decide +kernel
theorem dX4_takeFrom_34 : decode cX4_takeFrom 34 = .ok (.putfield 18, 3) := by decide +kernel
theorem dX4_takeFrom_37 : decode cX4_takeFrom 37 = .ok (.aload_n 0, 1) := by decide +kernel
theorem dX4_takeFrom_38 : decode cX4_takeFrom 38 = .ok (.aload_n 1, 1) := by decide +kernel
theorem dX4_takeFrom_39 : decode cX4_takeFrom 39 = .ok (.getfield 22, 3) := by decide +kernel
theorem dX4_takeFrom_42 : decode cX4_takeFrom 42 = .ok (.putfield 22, 3) := by decide +kernel
theorem dX4_takeFrom_45 : decode cX4_takeFrom 45 = .ok (.aload_n 0, 1) := by decide +kernel
theorem dX4_takeFrom_46 : decode cX4_takeFrom 46 = .ok (.aload_n 1, 1) := by decide +kernel
theorem dX4_takeFrom_47 : decode cX4_takeFrom 47 = .ok (.getfield 25, 3) := by decide +kernel
theorem dX4_takeFrom_50 : decode cX4_takeFrom 50 = .ok (.putfield 25, 3) := by decide +kernel
theorem dX4_takeFrom_53 : decode cX4_takeFrom 53 = .ok (.return_, 1) := by decide +kernel
theorem dX5_init_0 : decode cX5_init 0 = .ok (.aload_n 0, 1) := by decide +kernel
theorem dX5_init_1 : decode cX5_init 1 = .ok (.invokespecial 3, 3) := by decide +kernel
theorem dX5_init_4 : decode cX5_init 4 = .ok (.aload_n 0, 1) := by decide +kernel
theorem dX5_init_5 : decode cX5_init 5 = .ok (.bipush 100, 2) := by decide +kernel
theorem dX5_init_7 : decode cX5_init 7 = .ok (.newarray .byte, 2) := by decide +kernel
theorem dX5_init_9 : decode cX5_init 9 = .ok (.putfield 11, 3) := by decide +kernel
theorem dX5_init_12 : decode cX5_init 12 = .ok (.aload_n 0, 1) := by decide +kernel
theorem dX5_init_13 : decode cX5_init 13 = .ok (.iconst 0, 1) := by decide +kernel
theorem dX5_init_14 : decode cX5_init 14 = .ok (.putfield 15, 3) := by decide +kernel
theorem dX5_init_17 : decode cX5_init 17 = .ok (.aload_n 0, 1) := by decide +kernel
theorem dX5_init_18 : decode cX5_init 18 = .ok (.iconst 0, 1) := by decide +kernel
theorem dX5_init_19 : decode cX5_init 19 = .ok (.putfield 19, 3) := by decide +kernel
theorem dX5_init_22 : decode cX5_init 22 = .ok (.return_, 1) := by decide +kernel
theorem dX5_isFull_0 : decode cX5_isFull 0 = .ok (.aload_n 0, 1) := by decide +kernel
theorem dX5_isFull_1 : decode cX5_isFull 1 = .ok (.getfield 15, 3) := by decide +kernel
theorem dX5_isFull_4 : decode cX5_isFull 4 = .ok (.bipush 100, 2) := by decide +kernel
theorem dX5_isFull_6 : decode cX5_isFull 6 = .ok (.if_icmp .lt 7, 3) := by decide +kernel
theorem dX5_isFull_9 : decode cX5_isFull 9 = .ok (.iconst 1, 1) := by decide +kernel
theorem dX5_isFull_10 : decode cX5_isFull 10 = .ok (.goto 4, 3) := by decide +kernel
theorem dX5_isFull_13 : decode cX5_isFull 13 = .ok (.iconst 0, 1) := by decide +kernel
theorem dX5_isFull_14 : decode cX5_isFull 14 = .ok (.ireturn, 1) := by decide +kernel
theorem dX5_put_0 : decode cX5_put 0 = .ok (.aload_n 0, 1) := by decide +kernel
theorem dX5_put_1 : decode cX5_put 1 = .ok (.getfield 15, 3) := by decide +kernel
theorem dX5_put_4 : decode cX5_put 4 = .ok (.ifCond .lt 33, 3) := by decide +kernel
theorem dX5_put_7 : decode cX5_put 7 = .ok (.aload_n 0, 1) := by decide +kernel
theorem dX5_put_8 : decode cX5_put 8 = .ok (.getfield 15, 3) := by decide +kernel
theorem dX5_put_11 : decode cX5_put 11 = .ok (.bipush 100, 2) := by decide +kernel
theorem dX5_put_13 : decode cX5_put 13 = .ok (.if_icmp .ge 24, 3) := by decide +kernel
theorem dX5_put_16 : decode cX5_put 16 = .ok (.aload_n 0, 1) := by decide +kernel
theorem dX5_put_17 : decode cX5_put 17 = .ok (.getfield 11, 3) := by decide +kernel
theorem dX5_put_20 : decode cX5_put 20 = .ok (.aload_n 0, 1) := by decide +kernel
theorem dX5_put_21 : decode cX5_put 21 = .ok (.getfield 15, 3) := by decide +kernel
theorem dX5_put_24 : decode cX5_put 24 = .ok (.iload_n 1, 1) := by decide +kernel
theorem dX5_put_25 : decode cX5_put 25 = .ok (.i2b, 1) := by decide +kernel
theorem dX5_put_26 : decode cX5_put 26 = .ok (.bastore, 1) := by decide +kernel
theorem dX5_put_27 : decode cX5_put 27 = .ok (.aload_n 0, 1) := by decide +kernel
theorem dX5_put_28 : decode cX5_put 28 = .ok (.dup, 1) := by decide +kernel
theorem dX5_put_29 : decode cX5_put 29 = .ok (.getfield 15, 3) := by decide +kernel
theorem dX5_put_32 : decode cX5_put 32 = .ok (.iconst 1, 1) := by decide +kernel
theorem dX5_put_33 : decode cX5_put 33 = .ok (.iadd, 1) := by decide +kernel
theorem dX5_put_34 : decode cX5_put 34 = .ok (.putfield 15, 3) := by decide +kernel
theorem dX5_put_37 : decode cX5_put 37 = .ok (.return_, 1) := by decide +kernel
theorem dX5_at_0 : decode cX5_at 0 = .ok (.iload_n 1, 1) := by decide +kernel
theorem dX5_at_1 : decode cX5_at 1 = .ok (.ifCond .lt 26, 3) := by decide +kernel
theorem dX5_at_4 : decode cX5_at 4 = .ok (.iload_n 1, 1) := by decide +kernel
theorem dX5_at_5 : decode cX5_at 5 = .ok (.aload_n 0, 1) := by decide +kernel
theorem dX5_at_6 : decode cX5_at 6 = .ok (.getfield 15, 3) := by decide +kernel
theorem dX5_at_9 : decode cX5_at 9 = .ok (.if_icmp .ge 18, 3) := by decide +kernel
theorem dX5_at_12 : decode cX5_at 12 = .ok (.iload_n 1, 1) := by decide +kernel
theorem dX5_at_13 : decode cX5_at 13 = .ok (.bipush 100, 2) := by decide +kernel
theorem dX5_at_15 : decode cX5_at 15 = .ok (.if_icmp .ge 12, 3) := by decide +kernel
theorem dX5_at_18 : decode cX5_at 18 = .ok (.aload_n 0, 1) := by decide +kernel
theorem dX5_at_19 : decode cX5_at 19 = .ok (.getfield 11, 3) := by decide +kernel
theorem dX5_at_22 : decode cX5_at 22 = .ok (.iload_n 1, 1) := by decide +kernel
theorem dX5_at_23 : decode cX5_at 23 = .ok (.baload, 1) := by decide +kernel
theorem dX5_at_24 : decode cX5_at 24 = .ok (.goto 4, 3) := by decide +kernel
theorem dX5_at_27 : decode cX5_at 27 = .ok (.iconst 0, 1) := by decide +kernel
theorem dX5_at_28 : decode cX5_at 28 = .ok (.ireturn, 1) := by decide +kernel
theorem dX5_isLetter_0 : decode cX5_isLetter 0 = .ok (.iload_n 0, 1) := by decide +kernel
theorem dX5_isLetter_1 : decode cX5_isLetter 1 = .ok (.bipush 97, 2) := by decide +kernel
theorem dX5_isLetter_3 : decode cX5_isLetter 3 = .ok (.if_icmp .lt 13, 3) := by decide +kernel
theorem dX5_isLetter_6 : decode cX5_isLetter 6 = .ok (.iload_n 0, 1) := by decide +kernel
theorem dX5_isLetter_7 : decode cX5_isLetter 7 = .ok (.bipush 104, 2) := by decide +kernel
theorem dX5_isLetter_9 : decode cX5_isLetter 9 = .ok (.if_icmp .gt 7, 3) := by decide +kernel
theorem dX5_isLetter_12 : decode cX5_isLetter 12 = .ok (.iconst 1, 1) := by decide +kernel
theorem dX5_isLetter_13 : decode cX5_isLetter 13 = .ok (.goto 4, 3) := by decide +kernel
theorem dX5_isLetter_16 : decode cX5_isLetter 16 = .ok (.iconst 0, 1) := by decide +kernel
theorem dX5_isLetter_17 : decode cX5_isLetter 17 = .ok (.ireturn, 1) := by decide +kernel
theorem dX5_isDigit_0 : decode cX5_isDigit 0 = .ok (.iload_n 0, 1) := by decide +kernel
theorem dX5_isDigit_1 : decode cX5_isDigit 1 = .ok (.bipush 49, 2) := by decide +kernel
theorem dX5_isDigit_3 : decode cX5_isDigit 3 = .ok (.if_icmp .lt 13, 3) := by decide +kernel
theorem dX5_isDigit_6 : decode cX5_isDigit 6 = .ok (.iload_n 0, 1) := by decide +kernel
theorem dX5_isDigit_7 : decode cX5_isDigit 7 = .ok (.bipush 57, 2) := by decide +kernel
theorem dX5_isDigit_9 : decode cX5_isDigit 9 = .ok (.if_icmp .gt 7, 3) := by decide +kernel
theorem dX5_isDigit_12 : decode cX5_isDigit 12 = .ok (.iconst 1, 1) := by decide +kernel
theorem dX5_isDigit_13 : decode cX5_isDigit 13 = .ok (.goto 4, 3) := by decide +kernel
theorem dX5_isDigit_16 : decode cX5_isDigit 16 = .ok (.iconst 0, 1) := by decide +kernel
theorem dX5_isDigit_17 : decode cX5_isDigit 17 = .ok (.ireturn, 1) := by decide +kernel
theorem dX5_syntaxError_0 : decode cX5_syntaxError 0 = .ok (.iconst 0, 1) := by decide +kernel
theorem dX5_syntaxError_1 : decode cX5_syntaxError 1 = .ok (.istore_n 1, 1) := by decide +kernel
theorem dX5_syntaxError_2 : decode cX5_syntaxError 2 = .ok (.aload_n 0, 1) := by decide +kernel
theorem dX5_syntaxError_3 : decode cX5_syntaxError 3 = .ok (.iconst 0, 1) := by decide +kernel
theorem dX5_syntaxError_4 : decode cX5_syntaxError 4 = .ok (.putfield 19, 3) := by decide +kernel
theorem dX5_syntaxError_7 : decode cX5_syntaxError 7 = .ok (.iconst 0, 1) := by decide +kernel
theorem dX5_syntaxError_8 : decode cX5_syntaxError 8 = .ok (.istore_n 2, 1) := by decide +kernel
theorem dX5_syntaxError_9 : decode cX5_syntaxError 9 = .ok (.iload_n 2, 1) := by decide +kernel
theorem dX5_syntaxError_10 : decode cX5_syntaxError 10 = .ok (.aload_n 0, 1) := by decide +kernel
theorem dX5_syntaxError_11 : decode cX5_syntaxError 11 = .ok (.getfield 15, 3) := by decide +kernel
theorem dX5_syntaxError_14 : decode cX5_syntaxError 14 = .ok (.if_icmp .ge 27, 3) := by decide +kernel
theorem dX5_syntaxError_17 : decode cX5_syntaxError 17 = .ok (.aload_n 0, 1) := by decide +kernel
theorem dX5_syntaxError_18 : decode cX5_syntaxError 18 = .ok (.iload_n 1, 1) := by decide +kernel
theorem dX5_syntaxError_19 : decode cX5_syntaxError 19 = .ok (.aload_n 0, 1) := by decide +kernel
theorem dX5_syntaxError_20 : decode cX5_syntaxError 20 = .ok (.iload_n 2, 1) := by decide +kernel
theorem dX5_syntaxError_21 : decode cX5_syntaxError 21 = .ok (.invokevirtual 22, 3) := by decide +kernel
theorem dX5_syntaxError_24 : decode cX5_syntaxError 24 = .ok (.invokevirtual 26, 3) := by decide +kernel
theorem dX5_syntaxError_27 : decode cX5_syntaxError 27 = .ok (.istore_n 1, 1) := by decide +kernel
theorem dX5_syntaxError_28 : decode cX5_syntaxError 28 = .ok (.iload_n 1, 1) := by decide +kernel
theorem dX5_syntaxError_29 : decode cX5_syntaxError 29 = .ok (.iconst (-1), 1) := by decide +kernel
theorem dX5_syntaxError_30 : decode cX5_syntaxError 30 = .ok (.if_icmp .ne 5, 3) := by decide +kernel
theorem dX5_syntaxError_33 : decode cX5_syntaxError 33 = .ok (.iload_n 2, 1) := by decide +kernel
theorem dX5_syntaxError_34 : decode cX5_syntaxError 34 = .ok (.ireturn, 1) := by decide +kernel
theorem dX5_syntaxError_35 : decode cX5_syntaxError 35 = .ok (.iinc 2 1, 3) := by decide +kernel
theorem dX5_syntaxError_38 : decode cX5_syntaxError 38 = .ok (.goto (-29), 3) := by decide +kernel
theorem dX5_syntaxError_41 : decode cX5_syntaxError 41 = .ok (.iload_n 1, 1) := by decide +kernel
theorem dX5_syntaxError_42 : decode cX5_syntaxError 42 = .ok (.ifCond .ne 7, 3) := by decide +kernel
theorem dX5_syntaxError_45 : decode cX5_syntaxError 45 = .ok (.iconst (-1), 1) := by decide +kernel
theorem dX5_syntaxError_46 : decode cX5_syntaxError 46 = .ok (.goto 7, 3) := by decide +kernel
theorem dX5_syntaxError_49 : decode cX5_syntaxError 49 = .ok (.aload_n 0, 1) := by decide +kernel
theorem dX5_syntaxError_50 : decode cX5_syntaxError 50 = .ok (.getfield 15, 3) := by decide +kernel
theorem dX5_syntaxError_53 : decode cX5_syntaxError 53 = .ok (.ireturn, 1) := by decide +kernel
theorem dX5_follow_0 : decode cX5_follow 0 = .ok (.iload_n 1, 1) := by decide +kernel
theorem dX5_follow_1 : decode cX5_follow 1 = .ok (.tableswitch 79 0 3 #[31, 44, 56, 73], 31) := by decide +kernel
theorem dX5_follow_32 : decode cX5_follow 32 = .ok (.iload_n 2, 1) := by decide +kernel
theorem dX5_follow_33 : decode cX5_follow 33 = .ok (.invokestatic 30, 3) := by decide +kernel
theorem dX5_follow_36 : decode cX5_follow 36 = .ok (.ifCond .eq 7, 3) := by decide +kernel
theorem dX5_follow_39 : decode cX5_follow 39 = .ok (.iconst 1, 1) := by decide +kernel
theorem dX5_follow_40 : decode cX5_follow 40 = .ok (.goto 4, 3) := by decide +kernel
theorem dX5_follow_43 : decode cX5_follow 43 = .ok (.iconst (-1), 1) := by decide +kernel
theorem dX5_follow_44 : decode cX5_follow 44 = .ok (.ireturn, 1) := by decide +kernel
theorem dX5_follow_45 : decode cX5_follow 45 = .ok (.iload_n 2, 1) := by decide +kernel
theorem dX5_follow_46 : decode cX5_follow 46 = .ok (.bipush 61, 2) := by decide +kernel
theorem dX5_follow_48 : decode cX5_follow 48 = .ok (.if_icmp .ne 7, 3) := by decide +kernel
theorem dX5_follow_51 : decode cX5_follow 51 = .ok (.iconst 2, 1) := by decide +kernel
theorem dX5_follow_52 : decode cX5_follow 52 = .ok (.goto 4, 3) := by decide +kernel
theorem dX5_follow_55 : decode cX5_follow 55 = .ok (.iconst (-1), 1) := by decide +kernel
theorem dX5_follow_56 : decode cX5_follow 56 = .ok (.ireturn, 1) := by decide +kernel
theorem dX5_follow_57 : decode cX5_follow 57 = .ok (.iload_n 2, 1) := by decide +kernel
theorem dX5_follow_58 : decode cX5_follow 58 = .ok (.invokestatic 34, 3) := by decide +kernel
theorem dX5_follow_61 : decode cX5_follow 61 = .ok (.ifCond .eq 7, 3) := by decide +kernel
theorem dX5_follow_64 : decode cX5_follow 64 = .ok (.iconst 3, 1) := by decide +kernel
theorem dX5_follow_65 : decode cX5_follow 65 = .ok (.goto 8, 3) := by decide +kernel
theorem dX5_follow_68 : decode cX5_follow 68 = .ok (.aload_n 0, 1) := by decide +kernel
theorem dX5_follow_69 : decode cX5_follow 69 = .ok (.iload_n 2, 1) := by decide +kernel
theorem dX5_follow_70 : decode cX5_follow 70 = .ok (.invokevirtual 37, 3) := by decide +kernel
theorem dX5_follow_73 : decode cX5_follow 73 = .ok (.ireturn, 1) := by decide +kernel
theorem dX5_follow_74 : decode cX5_follow 74 = .ok (.aload_n 0, 1) := by decide +kernel
theorem dX5_follow_75 : decode cX5_follow 75 = .ok (.iload_n 2, 1) := by decide +kernel
theorem dX5_follow_76 : decode cX5_follow 76 = .ok (.invokevirtual 37, 3) := by decide +kernel
theorem dX5_follow_79 : decode cX5_follow 79 = .ok (.ireturn, 1) := by decide +kernel
theorem dX5_follow_80 : decode cX5_follow 80 = .ok (.aload_n 0, 1) := by decide +kernel
theorem dX5_follow_81 : decode cX5_follow 81 = .ok (.iload_n 2, 1) := by decide +kernel
theorem dX5_follow_82 : decode cX5_follow 82 = .ok (.invokevirtual 40, 3) := by decide +kernel
theorem dX5_follow_85 : decode cX5_follow 85 = .ok (.ireturn, 1) := by decide +kernel
theorem dX5_followOperand_0 : decode cX5_followOperand 0 = .ok (.iload_n 1, 1) := by decide +kernel
theorem dX5_followOperand_1 : decode cX5_followOperand 1 = .ok (.bipush 40, 2) := by decide +kernel
theorem dX5_followOperand_3 : decode cX5_followOperand 3 = .ok (.if_icmp .ne 24, 3) := by decide +kernel
theorem dX5_followOperand_6 : decode cX5_followOperand 6 = .ok (.aload_n 0, 1) := by decide +kernel
theorem dX5_followOperand_7 : decode cX5_followOperand 7 = .ok (.getfield 19, 3) := by decide +kernel
theorem dX5_followOperand_10 : decode cX5_followOperand 10 = .ok (.bipush 6, 2) := by decide +kernel
theorem dX5_followOperand_12 : decode cX5_followOperand 12 = .ok (.if_icmp .ge 15, 3) := by decide +kernel
theorem dX5_followOperand_15 : decode cX5_followOperand 15 = .ok (.aload_n 0, 1) := by decide +kernel
theorem dX5_followOperand_16 : decode cX5_followOperand 16 = .ok (.dup, 1) := by decide +kernel
theorem dX5_followOperand_17 : decode cX5_followOperand 17 = .ok (.getfield 19, 3) := by decide +kernel
theorem dX5_followOperand_20 : decode cX5_followOperand 20 = .ok (.iconst 1, 1) := by decide +kernel
theorem dX5_followOperand_21 : decode cX5_followOperand 21 = .ok (.iadd, 1) := by decide +kernel
theorem dX5_followOperand_22 : decode cX5_followOperand 22 = .ok (.putfield 19, 3) := by decide +kernel
theorem dX5_followOperand_25 : decode cX5_followOperand 25 = .ok (.iconst 2, 1) := by decide +kernel
theorem dX5_followOperand_26 : decode cX5_followOperand 26 = .ok (.ireturn, 1) := by decide +kernel
theorem dX5_followOperand_27 : decode cX5_followOperand 27 = .ok (.iload_n 1, 1) := by decide +kernel
theorem dX5_followOperand_28 : decode cX5_followOperand 28 = .ok (.invokestatic 30, 3) := by decide +kernel
theorem dX5_followOperand_31 : decode cX5_followOperand 31 = .ok (.ifCond .eq 7, 3) := by decide +kernel
theorem dX5_followOperand_34 : decode cX5_followOperand 34 = .ok (.iconst 4, 1) := by decide +kernel
theorem dX5_followOperand_35 : decode cX5_followOperand 35 = .ok (.goto 4, 3) := by decide +kernel
theorem dX5_followOperand_38 : decode cX5_followOperand 38 = .ok (.iconst (-1), 1) := by decide +kernel
theorem dX5_followOperand_39 : decode cX5_followOperand 39 = .ok (.ireturn, 1) := by decide +kernel
theorem dX5_followFactor_0 : decode cX5_followFactor 0 = .ok (.iload_n 1, 1) := by decide +kernel
theorem dX5_followFactor_1 : decode cX5_followFactor 1 = .ok (.bipush 39, 2) := by decide +kernel
theorem dX5_followFactor_3 : decode cX5_followFactor 3 = .ok (.if_icmp .ne 5, 3) := by decide +kernel
theorem dX5_followFactor_6 : decode cX5_followFactor 6 = .ok (.iconst 4, 1) := by decide +kernel
theorem dX5_followFactor_7 : decode cX5_followFactor 7 = .ok (.ireturn, 1) := by decide +kernel
theorem dX5_followFactor_8 : decode cX5_followFactor 8 = .ok (.iload_n 1, 1) := by decide +kernel
theorem dX5_followFactor_9 : decode cX5_followFactor 9 = .ok (.bipush 42, 2) := by decide +kernel
theorem dX5_followFactor_11 : decode cX5_followFactor 11 = .ok (.if_icmp .eq 15, 3) := by decide +kernel
theorem dX5_followFactor_14 : decode cX5_followFactor 14 = .ok (.iload_n 1, 1) := by decide +kernel
theorem dX5_followFactor_15 : decode cX5_followFactor 15 = .ok (.bipush 43, 2) := by decide +kernel
theorem dX5_followFactor_17 : decode cX5_followFactor 17 = .ok (.if_icmp .eq 9, 3) := by decide +kernel
theorem dX5_followFactor_20 : decode cX5_followFactor 20 = .ok (.iload_n 1, 1) := by decide +kernel
theorem dX5_followFactor_21 : decode cX5_followFactor 21 = .ok (.bipush 45, 2) := by decide +kernel
theorem dX5_followFactor_23 : decode cX5_followFactor 23 = .ok (.if_icmp .ne 5, 3) := by decide +kernel
theorem dX5_followFactor_26 : decode cX5_followFactor 26 = .ok (.iconst 2, 1) := by decide +kernel
theorem dX5_followFactor_27 : decode cX5_followFactor 27 = .ok (.ireturn, 1) := by decide +kernel
theorem dX5_followFactor_28 : decode cX5_followFactor 28 = .ok (.iload_n 1, 1) := by decide +kernel
theorem dX5_followFactor_29 : decode cX5_followFactor 29 = .ok (.bipush 41, 2) := by decide +kernel
theorem dX5_followFactor_31 : decode cX5_followFactor 31 = .ok (.if_icmp .ne 22, 3) := by decide +kernel
theorem dX5_followFactor_34 : decode cX5_followFactor 34 = .ok (.aload_n 0, 1) := by decide +kernel
theorem dX5_followFactor_35 : decode cX5_followFactor 35 = .ok (.getfield 19, 3) := by decide +kernel
theorem dX5_followFactor_38 : decode cX5_followFactor 38 = .ok (.ifCond .le 15, 3) := by decide +kernel
theorem dX5_followFactor_41 : decode cX5_followFactor 41 = .ok (.aload_n 0, 1) := by decide +kernel
theorem dX5_followFactor_42 : decode cX5_followFactor 42 = .ok (.dup, 1) := by decide +kernel
theorem dX5_followFactor_43 : decode cX5_followFactor 43 = .ok (.getfield 19, 3) := by decide +kernel
theorem dX5_followFactor_46 : decode cX5_followFactor 46 = .ok (.iconst 1, 1) := by decide +kernel
theorem dX5_followFactor_47 : decode cX5_followFactor 47 = .ok (.isub, 1) := by decide +kernel
theorem dX5_followFactor_48 : decode cX5_followFactor 48 = .ok (.putfield 19, 3) := by decide +kernel
theorem dX5_followFactor_51 : decode cX5_followFactor 51 = .ok (.iconst 4, 1) := by decide +kernel
theorem dX5_followFactor_52 : decode cX5_followFactor 52 = .ok (.ireturn, 1) := by decide +kernel
theorem dX5_followFactor_53 : decode cX5_followFactor 53 = .ok (.iload_n 1, 1) := by decide +kernel
theorem dX5_followFactor_54 : decode cX5_followFactor 54 = .ok (.bipush 59, 2) := by decide +kernel
theorem dX5_followFactor_56 : decode cX5_followFactor 56 = .ok (.if_icmp .ne 14, 3) := by decide +kernel
theorem dX5_followFactor_59 : decode cX5_followFactor 59 = .ok (.aload_n 0, 1) := by decide +kernel
theorem dX5_followFactor_60 : decode cX5_followFactor 60 = .ok (.getfield 19, 3) := by decide +kernel
theorem dX5_followFactor_63 : decode cX5_followFactor 63 = .ok (.ifCond .ne 7, 3) := by decide +kernel
theorem dX5_followFactor_66 : decode cX5_followFactor 66 = .ok (.iconst 0, 1) := by decide +kernel
theorem dX5_followFactor_67 : decode cX5_followFactor 67 = .ok (.goto 4, 3) := by decide +kernel
theorem dX5_followFactor_70 : decode cX5_followFactor 70 = .ok (.iconst (-1), 1) := by decide +kernel
theorem dX5_followFactor_71 : decode cX5_followFactor 71 = .ok (.ireturn, 1) := by decide +kernel
theorem dX6_init_0 : decode cX6_init 0 = .ok (.aload_n 0, 1) := by decide +kernel
theorem dX6_init_1 : decode cX6_init 1 = .ok (.invokespecial 3, 3) := by decide +kernel
theorem dX6_init_4 : decode cX6_init 4 = .ok (.aload_n 0, 1) := by decide +kernel
theorem dX6_init_5 : decode cX6_init 5 = .ok (.iload_n 1, 1) := by decide +kernel
theorem dX6_init_6 : decode cX6_init 6 = .ok (.invokestatic 9, 3) := by decide +kernel
theorem dX6_init_9 : decode cX6_init 9 = .ok (.newarray .int, 2) := by decide +kernel
theorem dX6_init_11 : decode cX6_init 11 = .ok (.putfield 15, 3) := by decide +kernel
theorem dX6_init_14 : decode cX6_init 14 = .ok (.aload_n 0, 1) := by decide +kernel
theorem dX6_init_15 : decode cX6_init 15 = .ok (.iconst 0, 1) := by decide +kernel
theorem dX6_init_16 : decode cX6_init 16 = .ok (.putfield 19, 3) := by decide +kernel
theorem dX6_init_19 : decode cX6_init 19 = .ok (.bipush 8, 2) := by decide +kernel
theorem dX6_init_21 : decode cX6_init 21 = .ok (.newarray .long, 2) := by decide +kernel
theorem dX6_init_23 : decode cX6_init 23 = .ok (.astore_n 2, 1) := by decide +kernel
theorem dX6_init_24 : decode cX6_init 24 = .ok (.iconst 0, 1) := by decide +kernel
theorem dX6_init_25 : decode cX6_init 25 = .ok (.istore_n 3, 1) := by decide +kernel
theorem dX6_init_26 : decode cX6_init 26 = .ok (.iload_n 3, 1) := by decide +kernel
theorem dX6_init_27 : decode cX6_init 27 = .ok (.bipush 8, 2) := by decide +kernel
theorem dX6_init_29 : decode cX6_init 29 = .ok (.if_icmp .ge 41, 3) := by decide +kernel
theorem dX6_init_32 : decode cX6_init 32 = .ok (.aload_n 2, 1) := by decide +kernel
theorem dX6_init_33 : decode cX6_init 33 = .ok (.iload_n 3, 1) := by decide +kernel
theorem dX6_init_34 : decode cX6_init 34 = .ok (.ldc2_w 25, 3) := by decide +kernel
theorem dX6_init_37 : decode cX6_init 37 = .ok (.lastore, 1) := by decide +kernel
theorem dX6_init_38 : decode cX6_init 38 = .ok (.aload_n 0, 1) := by decide +kernel
theorem dX6_init_39 : decode cX6_init 39 = .ok (.aload_n 2, 1) := by decide +kernel
theorem dX6_init_40 : decode cX6_init 40 = .ok (.invokestatic 27, 3) := by decide +kernel
theorem dX6_init_43 : decode cX6_init 43 = .ok (.invokevirtual 31, 3) := by decide +kernel
theorem dX6_init_46 : decode cX6_init 46 = .ok (.aload_n 2, 1) := by decide +kernel
theorem dX6_init_47 : decode cX6_init 47 = .ok (.iload_n 3, 1) := by decide +kernel
theorem dX6_init_48 : decode cX6_init 48 = .ok (.ldc2_w 35, 3) := by decide +kernel
theorem dX6_init_51 : decode cX6_init 51 = .ok (.lastore, 1) := by decide +kernel
theorem dX6_init_52 : decode cX6_init 52 = .ok (.aload_n 0, 1) := by decide +kernel
theorem dX6_init_53 : decode cX6_init 53 = .ok (.aload_n 2, 1) := by decide +kernel
theorem dX6_init_54 : decode cX6_init 54 = .ok (.invokestatic 27, 3) := by decide +kernel
theorem dX6_init_57 : decode cX6_init 57 = .ok (.invokevirtual 31, 3) := by decide +kernel
theorem dX6_init_60 : decode cX6_init 60 = .ok (.aload_n 2, 1) := by decide +kernel
theorem dX6_init_61 : decode cX6_init 61 = .ok (.iload_n 3, 1) := by decide +kernel
theorem dX6_init_62 : decode cX6_init 62 = .ok (.lconst 0, 1) := by decide +kernel
theorem dX6_init_63 : decode cX6_init 63 = .ok (.lastore, 1) := by decide +kernel
theorem dX6_init_64 : decode cX6_init 64 = .ok (.iinc 3 1, 3) := by decide +kernel
theorem dX6_init_67 : decode cX6_init 67 = .ok (.goto (-41), 3) := by decide +kernel
theorem dX6_init_70 : decode cX6_init 70 = .ok (.iload_n 1, 1) := by decide +kernel
theorem dX6_init_71 : decode cX6_init 71 = .ok (.invokestatic 37, 3) := by decide +kernel
theorem dX6_init_74 : decode cX6_init 74 = .ok (.istore_n 3, 1) := by decide +kernel
theorem dX6_init_75 : decode cX6_init 75 = .ok (.iconst 0, 1) := by decide +kernel
theorem dX6_init_76 : decode cX6_init 76 = .ok (.istore 4, 2) := by decide +kernel
theorem dX6_init_78 : decode cX6_init 78 = .ok (.iload 4, 2) := by decide +kernel
theorem dX6_init_80 : decode cX6_init 80 = .ok (.iload_n 3, 1) := by decide +kernel
theorem dX6_init_81 : decode cX6_init 81 = .ok (.if_icmp .ge 58, 3) := by decide +kernel
theorem dX6_init_84 : decode cX6_init 84 = .ok (.iload_n 1, 1) := by decide +kernel
theorem dX6_init_85 : decode cX6_init 85 = .ok (.iload 4, 2) := by decide +kernel
theorem dX6_init_87 : decode cX6_init 87 = .ok (.invokestatic 42, 3) := by decide +kernel
theorem dX6_init_90 : decode cX6_init 90 = .ok (.istore 5, 2) := by decide +kernel
theorem dX6_init_92 : decode cX6_init 92 = .ok (.iconst 0, 1) := by decide +kernel
theorem dX6_init_93 : decode cX6_init 93 = .ok (.istore 6, 2) := by decide +kernel
theorem dX6_init_95 : decode cX6_init 95 = .ok (.iload 6, 2) := by decide +kernel
theorem dX6_init_97 : decode cX6_init 97 = .ok (.bipush 16, 2) := by decide +kernel
theorem dX6_init_99 : decode cX6_init 99 = .ok (.if_icmp .ge 34, 3) := by decide +kernel
theorem dX6_init_102 : decode cX6_init 102 = .ok (.iload 5, 2) := by decide +kernel
theorem dX6_init_104 : decode cX6_init 104 = .ok (.invokestatic 46, 3) := by decide +kernel
theorem dX6_init_107 : decode cX6_init 107 = .ok (.iconst 4, 1) := by decide +kernel
theorem dX6_init_108 : decode cX6_init 108 = .ok (.if_icmp .ne 25, 3) := by decide +kernel
theorem dX6_init_111 : decode cX6_init 111 = .ok (.iload 5, 2) := by decide +kernel
theorem dX6_init_113 : decode cX6_init 113 = .ok (.iload 6, 2) := by decide +kernel
theorem dX6_init_115 : decode cX6_init 115 = .ok (.aload_n 2, 1) := by decide +kernel
theorem dX6_init_116 : decode cX6_init 116 = .ok (.invokestatic 51, 3) := by decide +kernel
theorem dX6_init_119 : decode cX6_init 119 = .ok (.aload_n 0, 1) := by decide +kernel
theorem dX6_init_120 : decode cX6_init 120 = .ok (.aload_n 2, 1) := by decide +kernel
theorem dX6_init_121 : decode cX6_init 121 = .ok (.invokestatic 27, 3) := by decide +kernel
theorem dX6_init_124 : decode cX6_init 124 = .ok (.invokevirtual 31, 3) := by decide +kernel
theorem dX6_init_127 : decode cX6_init 127 = .ok (.iinc 6 1, 3) := by decide +kernel
theorem dX6_init_130 : decode cX6_init 130 = .ok (.goto (-35), 3) := by decide +kernel
theorem dX6_init_133 : decode cX6_init 133 = .ok (.iinc 4 1, 3) := by decide +kernel
theorem dX6_init_136 : decode cX6_init 136 = .ok (.goto (-58), 3) := by decide +kernel
theorem dX6_init_139 : decode cX6_init 139 = .ok (.return_, 1) := by decide +kernel
theorem dX6_count_0 : decode cX6_count 0 = .ok (.iload_n 0, 1) := by decide +kernel
theorem dX6_count_1 : decode cX6_count 1 = .ok (.ifCond .ne 8, 3) := by decide +kernel
theorem dX6_count_4 : decode cX6_count 4 = .ok (.bipush 16, 2) := by decide +kernel
theorem dX6_count_6 : decode cX6_count 6 = .ok (.goto 6, 3) := by decide +kernel
theorem dX6_count_9 : decode cX6_count 9 = .ok (.sipush 240, 3) := by decide +kernel
theorem dX6_count_12 : decode cX6_count 12 = .ok (.ireturn, 1) := by decide +kernel
theorem dX6_read_0 : decode cX6_read 0 = .ok (.iload_n 1, 1) := by decide +kernel
theorem dX6_read_1 : decode cX6_read 1 = .ok (.ifCond .lt 12, 3) := by decide +kernel
theorem dX6_read_4 : decode cX6_read 4 = .ok (.iload_n 1, 1) := by decide +kernel
theorem dX6_read_5 : decode cX6_read 5 = .ok (.aload_n 0, 1) := by decide +kernel
theorem dX6_read_6 : decode cX6_read 6 = .ok (.getfield 15, 3) := by decide +kernel
theorem dX6_read_9 : decode cX6_read 9 = .ok (.arraylength, 1) := by decide +kernel
theorem dX6_read_10 : decode cX6_read 10 = .ok (.if_icmp .lt 4, 3) := by decide +kernel
theorem dX6_read_13 : decode cX6_read 13 = .ok (.return_, 1) := by decide +kernel
theorem dX6_read_14 : decode cX6_read 14 = .ok (.iconst 0, 1) := by decide +kernel
theorem dX6_read_15 : decode cX6_read 15 = .ok (.istore_n 3, 1) := by decide +kernel
theorem dX6_read_16 : decode cX6_read 16 = .ok (.iload_n 3, 1) := by decide +kernel
theorem dX6_read_17 : decode cX6_read 17 = .ok (.bipush 8, 2) := by decide +kernel
theorem dX6_read_19 : decode cX6_read 19 = .ok (.if_icmp .ge 31, 3) := by decide +kernel
theorem dX6_read_22 : decode cX6_read 22 = .ok (.aload_n 2, 1) := by decide +kernel
theorem dX6_read_23 : decode cX6_read 23 = .ok (.iload_n 3, 1) := by decide +kernel
theorem dX6_read_24 : decode cX6_read 24 = .ok (.aload_n 0, 1) := by decide +kernel
theorem dX6_read_25 : decode cX6_read 25 = .ok (.getfield 15, 3) := by decide +kernel
theorem dX6_read_28 : decode cX6_read 28 = .ok (.iload_n 1, 1) := by decide +kernel
theorem dX6_read_29 : decode cX6_read 29 = .ok (.iaload, 1) := by decide +kernel
theorem dX6_read_30 : decode cX6_read 30 = .ok (.iconst 3, 1) := by decide +kernel
theorem dX6_read_31 : decode cX6_read 31 = .ok (.bipush 7, 2) := by decide +kernel
theorem dX6_read_33 : decode cX6_read 33 = .ok (.iload_n 3, 1) := by decide +kernel
theorem dX6_read_34 : decode cX6_read 34 = .ok (.isub, 1) := by decide +kernel
theorem dX6_read_35 : decode cX6_read 35 = .ok (.imul, 1) := by decide +kernel
theorem dX6_read_36 : decode cX6_read 36 = .ok (.ishr, 1) := by decide +kernel
theorem dX6_read_37 : decode cX6_read 37 = .ok (.bipush 7, 2) := by decide +kernel
theorem dX6_read_39 : decode cX6_read 39 = .ok (.iand, 1) := by decide +kernel
theorem dX6_read_40 : decode cX6_read 40 = .ok (.iconst 2, 1) := by decide +kernel
theorem dX6_read_41 : decode cX6_read 41 = .ok (.isub, 1) := by decide +kernel
theorem dX6_read_42 : decode cX6_read 42 = .ok (.i2l, 1) := by decide +kernel
theorem dX6_read_43 : decode cX6_read 43 = .ok (.lastore, 1) := by decide +kernel
theorem dX6_read_44 : decode cX6_read 44 = .ok (.iinc 3 1, 3) := by decide +kernel
theorem dX6_read_47 : decode cX6_read 47 = .ok (.goto (-31), 3) := by decide +kernel
theorem dX6_read_50 : decode cX6_read 50 = .ok (.return_, 1) := by decide +kernel
theorem dX6_numberOf_0 : decode cX6_numberOf 0 = .ok (.aload_n 1, 1) := by decide +kernel
theorem dX6_numberOf_1 : decode cX6_numberOf 1 = .ok (.invokestatic 55, 3) := by decide +kernel
theorem dX6_numberOf_4 : decode cX6_numberOf 4 = .ok (.ldc2_w 59, 3) := by decide +kernel
theorem dX6_numberOf_7 : decode cX6_numberOf 7 = .ok (.lcmp, 1) := by decide +kernel
theorem dX6_numberOf_8 : decode cX6_numberOf 8 = .ok (.ifCond .eq 5, 3) := by decide +kernel
theorem dX6_numberOf_11 : decode cX6_numberOf 11 = .ok (.iconst (-1), 1) := by decide +kernel
theorem dX6_numberOf_12 : decode cX6_numberOf 12 = .ok (.ireturn, 1) := by decide +kernel
theorem dX6_numberOf_13 : decode cX6_numberOf 13 = .ok (.aload_n 1, 1) := by decide +kernel
theorem dX6_numberOf_14 : decode cX6_numberOf 14 = .ok (.invokestatic 27, 3) := by decide +kernel
theorem dX6_numberOf_17 : decode cX6_numberOf 17 = .ok (.istore_n 2, 1) := by decide +kernel
theorem dX6_numberOf_18 : decode cX6_numberOf 18 = .ok (.iconst 0, 1) := by decide +kernel
theorem dX6_numberOf_19 : decode cX6_numberOf 19 = .ok (.istore_n 3, 1) := by decide +kernel
theorem dX6_numberOf_20 : decode cX6_numberOf 20 = .ok (.iload_n 3, 1) := by decide +kernel
theorem dX6_numberOf_21 : decode cX6_numberOf 21 = .ok (.aload_n 0, 1) := by decide +kernel
theorem dX6_numberOf_22 : decode cX6_numberOf 22 = .ok (.getfield 15, 3) := by decide +kernel
theorem dX6_numberOf_25 : decode cX6_numberOf 25 = .ok (.arraylength, 1) := by decide +kernel
theorem dX6_numberOf_26 : decode cX6_numberOf 26 = .ok (.if_icmp .ge 21, 3) := by decide +kernel
theorem dX6_numberOf_29 : decode cX6_numberOf 29 = .ok (.aload_n 0, 1) := by decide +kernel
theorem dX6_numberOf_30 : decode cX6_numberOf 30 = .ok (.getfield 15, 3) := by decide +kernel
theorem dX6_numberOf_33 : decode cX6_numberOf 33 = .ok (.iload_n 3, 1) := by decide +kernel
theorem dX6_numberOf_34 : decode cX6_numberOf 34 = .ok (.iaload, 1) := by decide +kernel
theorem dX6_numberOf_35 : decode cX6_numberOf 35 = .ok (.iload_n 2, 1) := by decide +kernel
theorem dX6_numberOf_36 : decode cX6_numberOf 36 = .ok (.if_icmp .ne 5, 3) := by decide +kernel
theorem dX6_numberOf_39 : decode cX6_numberOf 39 = .ok (.iload_n 3, 1) := by decide +kernel
theorem dX6_numberOf_40 : decode cX6_numberOf 40 = .ok (.ireturn, 1) := by decide +kernel
theorem dX6_numberOf_41 : decode cX6_numberOf 41 = .ok (.iinc 3 1, 3) := by decide +kernel
theorem dX6_numberOf_44 : decode cX6_numberOf 44 = .ok (.goto (-24), 3) := by decide +kernel
theorem dX6_numberOf_47 : decode cX6_numberOf 47 = .ok (.iconst (-1), 1) := by decide +kernel
theorem dX6_numberOf_48 : decode cX6_numberOf 48 = .ok (.ireturn, 1) := by decide +kernel
theorem dX6_code_0 : decode cX6_code 0 = .ok (.iconst 0, 1) := by decide +kernel
theorem dX6_code_1 : decode cX6_code 1 = .ok (.istore_n 1, 1) := by decide +kernel
theorem dX6_code_2 : decode cX6_code 2 = .ok (.iconst 0, 1) := by decide +kernel
theorem dX6_code_3 : decode cX6_code 3 = .ok (.istore_n 2, 1) := by decide +kernel
theorem dX6_code_4 : decode cX6_code 4 = .ok (.iload_n 2, 1) := by decide +kernel
theorem dX6_code_5 : decode cX6_code 5 = .ok (.bipush 8, 2) := by decide +kernel
theorem dX6_code_7 : decode cX6_code 7 = .ok (.if_icmp .ge 20, 3) := by decide +kernel
theorem dX6_code_10 : decode cX6_code 10 = .ok (.iload_n 1, 1) := by decide +kernel
theorem dX6_code_11 : decode cX6_code 11 = .ok (.iconst 3, 1) := by decide +kernel
theorem dX6_code_12 : decode cX6_code 12 = .ok (.ishl, 1) := by decide +kernel
theorem dX6_code_13 : decode cX6_code 13 = .ok (.aload_n 0, 1) := by decide +kernel
theorem dX6_code_14 : decode cX6_code 14 = .ok (.iload_n 2, 1) := by decide +kernel
theorem dX6_code_15 : decode cX6_code 15 = .ok (.laload, 1) := by decide +kernel
theorem dX6_code_16 : decode cX6_code 16 = .ok (.l2i, 1) := by decide +kernel
theorem dX6_code_17 : decode cX6_code 17 = .ok (.iconst 2, 1) := by decide +kernel
theorem dX6_code_18 : decode cX6_code 18 = .ok (.iadd, 1) := by decide +kernel
theorem dX6_code_19 : decode cX6_code 19 = .ok (.ior, 1) := by decide +kernel
theorem dX6_code_20 : decode cX6_code 20 = .ok (.istore_n 1, 1) := by decide +kernel
theorem dX6_code_21 : decode cX6_code 21 = .ok (.iinc 2 1, 3) := by decide +kernel
theorem dX6_code_24 : decode cX6_code 24 = .ok (.goto (-20), 3) := by decide +kernel
theorem dX6_code_27 : decode cX6_code 27 = .ok (.iload_n 1, 1) := by decide +kernel
theorem dX6_code_28 : decode cX6_code 28 = .ok (.ireturn, 1) := by decide +kernel
theorem dX6_spread_0 : decode cX6_spread 0 = .ok (.iload_n 1, 1) := by decide +kernel
theorem dX6_spread_1 : decode cX6_spread 1 = .ok (.istore_n 3, 1) := by decide +kernel
theorem dX6_spread_2 : decode cX6_spread 2 = .ok (.iconst 0, 1) := by decide +kernel
theorem dX6_spread_3 : decode cX6_spread 3 = .ok (.istore 4, 2) := by decide +kernel
theorem dX6_spread_5 : decode cX6_spread 5 = .ok (.iload 4, 2) := by decide +kernel
theorem dX6_spread_7 : decode cX6_spread 7 = .ok (.bipush 8, 2) := by decide +kernel
theorem dX6_spread_9 : decode cX6_spread 9 = .ok (.if_icmp .ge 44, 3) := by decide +kernel
theorem dX6_spread_12 : decode cX6_spread 12 = .ok (.aload_n 2, 1) := by decide +kernel
theorem dX6_spread_13 : decode cX6_spread 13 = .ok (.iload 4, 2) := by decide +kernel
theorem dX6_spread_15 : decode cX6_spread 15 = .ok (.lconst 0, 1) := by decide +kernel
theorem dX6_spread_16 : decode cX6_spread 16 = .ok (.lastore, 1) := by decide +kernel
theorem dX6_spread_17 : decode cX6_spread 17 = .ok (.iload_n 0, 1) := by decide +kernel
theorem dX6_spread_18 : decode cX6_spread 18 = .ok (.iload 4, 2) := by decide +kernel
theorem dX6_spread_20 : decode cX6_spread 20 = .ok (.ishr, 1) := by decide +kernel
theorem dX6_spread_21 : decode cX6_spread 21 = .ok (.iconst 1, 1) := by decide +kernel
theorem dX6_spread_22 : decode cX6_spread 22 = .ok (.iand, 1) := by decide +kernel
theorem dX6_spread_23 : decode cX6_spread 23 = .ok (.ifCond .eq 24, 3) := by decide +kernel
theorem dX6_spread_26 : decode cX6_spread 26 = .ok (.aload_n 2, 1) := by decide +kernel
theorem dX6_spread_27 : decode cX6_spread 27 = .ok (.iload 4, 2) := by decide +kernel
theorem dX6_spread_29 : decode cX6_spread 29 = .ok (.iload_n 3, 1) := by decide +kernel
theorem dX6_spread_30 : decode cX6_spread 30 = .ok (.iconst 1, 1) := by decide +kernel
theorem dX6_spread_31 : decode cX6_spread 31 = .ok (.iand, 1) := by decide +kernel
theorem dX6_spread_32 : decode cX6_spread 32 = .ok (.ifCond .ne 7, 3) := by decide +kernel
theorem dX6_spread_35 : decode cX6_spread 35 = .ok (.lconst 1, 1) := by decide +kernel
theorem dX6_spread_36 : decode cX6_spread 36 = .ok (.goto 6, 3) := by decide +kernel
theorem dX6_spread_39 : decode cX6_spread 39 = .ok (.ldc2_w 61, 3) := by decide +kernel
theorem dX6_spread_42 : decode cX6_spread 42 = .ok (.lastore, 1) := by decide +kernel
theorem dX6_spread_43 : decode cX6_spread 43 = .ok (.iload_n 3, 1) := by decide +kernel
theorem dX6_spread_44 : decode cX6_spread 44 = .ok (.iconst 1, 1) := by decide +kernel
theorem dX6_spread_45 : decode cX6_spread 45 = .ok (.ishr, 1) := by decide +kernel
theorem dX6_spread_46 : decode cX6_spread 46 = .ok (.istore_n 3, 1) := by decide +kernel
theorem dX6_spread_47 : decode cX6_spread 47 = .ok (.iinc 4 1, 3) := by decide +kernel
theorem dX6_spread_50 : decode cX6_spread 50 = .ok (.goto (-45), 3) := by decide +kernel
theorem dX6_spread_53 : decode cX6_spread 53 = .ok (.return_, 1) := by decide +kernel
theorem dX6_insert_0 : decode cX6_insert 0 = .ok (.aload_n 0, 1) := by decide +kernel
theorem dX6_insert_1 : decode cX6_insert 1 = .ok (.getfield 19, 3) := by decide +kernel
theorem dX6_insert_4 : decode cX6_insert 4 = .ok (.ifCond .lt 15, 3) := by decide +kernel
theorem dX6_insert_7 : decode cX6_insert 7 = .ok (.aload_n 0, 1) := by decide +kernel
theorem dX6_insert_8 : decode cX6_insert 8 = .ok (.getfield 19, 3) := by decide +kernel
theorem dX6_insert_11 : decode cX6_insert 11 = .ok (.aload_n 0, 1) := by decide +kernel
theorem dX6_insert_12 : decode cX6_insert 12 = .ok (.getfield 15, 3) := by decide +kernel
theorem dX6_insert_15 : decode cX6_insert 15 = .ok (.arraylength, 1) := by decide +kernel
theorem dX6_insert_16 : decode cX6_insert 16 = .ok (.if_icmp .lt 4, 3) := by decide +kernel
theorem dX6_insert_19 : decode cX6_insert 19 = .ok (.return_, 1) := by decide +kernel
theorem dX6_insert_20 : decode cX6_insert 20 = .ok (.aload_n 0, 1) := by decide +kernel
theorem dX6_insert_21 : decode cX6_insert 21 = .ok (.getfield 19, 3) := by decide +kernel
theorem dX6_insert_24 : decode cX6_insert 24 = .ok (.istore_n 2, 1) := by decide +kernel
theorem dX6_insert_25 : decode cX6_insert 25 = .ok (.iload_n 2, 1) := by decide +kernel
theorem dX6_insert_26 : decode cX6_insert 26 = .ok (.ifCond .le 35, 3) := by decide +kernel
theorem dX6_insert_29 : decode cX6_insert 29 = .ok (.aload_n 0, 1) := by decide +kernel
theorem dX6_insert_30 : decode cX6_insert 30 = .ok (.getfield 15, 3) := by decide +kernel
theorem dX6_insert_33 : decode cX6_insert 33 = .ok (.iload_n 2, 1) := by decide +kernel
theorem dX6_insert_34 : decode cX6_insert 34 = .ok (.iconst 1, 1) := by decide +kernel
theorem dX6_insert_35 : decode cX6_insert 35 = .ok (.isub, 1) := by decide +kernel
theorem dX6_insert_36 : decode cX6_insert 36 = .ok (.iaload, 1) := by decide +kernel
theorem dX6_insert_37 : decode cX6_insert 37 = .ok (.iload_n 1, 1) := by decide +kernel
theorem dX6_insert_38 : decode cX6_insert 38 = .ok (.if_icmp .le 23, 3) := by decide +kernel
theorem dX6_insert_41 : decode cX6_insert 41 = .ok (.aload_n 0, 1) := by decide +kernel
theorem dX6_insert_42 : decode cX6_insert 42 = .ok (.getfield 15, 3) := by decide +kernel
theorem dX6_insert_45 : decode cX6_insert 45 = .ok (.iload_n 2, 1) := by decide +kernel
theorem dX6_insert_46 : decode cX6_insert 46 = .ok (.aload_n 0, 1) := by decide +kernel
theorem dX6_insert_47 : decode cX6_insert 47 = .ok (.getfield 15, 3) := by decide +kernel
theorem dX6_insert_50 : decode cX6_insert 50 = .ok (.iload_n 2, 1) := by decide +kernel
theorem dX6_insert_51 : decode cX6_insert 51 = .ok (.iconst 1, 1) := by decide +kernel
theorem dX6_insert_52 : decode cX6_insert 52 = .ok (.isub, 1) := by decide +kernel
theorem dX6_insert_53 : decode cX6_insert 53 = .ok (.iaload, 1) := by decide +kernel
theorem dX6_insert_54 : decode cX6_insert 54 = .ok (.iastore, 1) := by decide +kernel
theorem dX6_insert_55 : decode cX6_insert 55 = .ok (.iinc 2 (-1), 3) := by decide +kernel
theorem dX6_insert_58 : decode cX6_insert 58 = .ok (.goto (-33), 3) := by decide +kernel
theorem dX6_insert_61 : decode cX6_insert 61 = .ok (.aload_n 0, 1) := by decide +kernel
theorem dX6_insert_62 : decode cX6_insert 62 = .ok (.getfield 15, 3) := by decide +kernel
theorem dX6_insert_65 : decode cX6_insert 65 = .ok (.iload_n 2, 1) := by decide +kernel
theorem dX6_insert_66 : decode cX6_insert 66 = .ok (.iload_n 1, 1) := by decide +kernel
theorem dX6_insert_67 : decode cX6_insert 67 = .ok (.iastore, 1) := by decide +kernel
theorem dX6_insert_68 : decode cX6_insert 68 = .ok (.aload_n 0, 1) := by decide +kernel
theorem dX6_insert_69 : decode cX6_insert 69 = .ok (.dup, 1) := by decide +kernel
theorem dX6_insert_70 : decode cX6_insert 70 = .ok (.getfield 19, 3) := by decide +kernel
theorem dX6_insert_73 : decode cX6_insert 73 = .ok (.iconst 1, 1) := by decide +kernel
theorem dX6_insert_74 : decode cX6_insert 74 = .ok (.iadd, 1) := by decide +kernel
theorem dX6_insert_75 : decode cX6_insert 75 = .ok (.putfield 19, 3) := by decide +kernel
theorem dX6_insert_78 : decode cX6_insert 78 = .ok (.return_, 1) := by decide +kernel
theorem dJx00060_init_a7421_0 : decode cJx00060_init_a7421 0 = .ok (.aload_n 0, 1) := by decide +kernel
theorem dJx00060_init_a7421_1 : decode cJx00060_init_a7421 1 = .ok (.aload_n 1, 1) := by decide +kernel
theorem dJx00060_init_a7421_2 : decode cJx00060_init_a7421 2 = .ok (.invokespecial 7, 3) := by decide +kernel
theorem dJx00060_init_a7421_5 : decode cJx00060_init_a7421 5 = .ok (.return_, 1) := by decide +kernel
theorem dJ6_bitCount_0f7a4_0 : decode cJ6_bitCount_0f7a4 0 = .ok (.iload_n 0, 1) := by decide +kernel
theorem dJ6_bitCount_0f7a4_1 : decode cJ6_bitCount_0f7a4 1 = .ok (.iload_n 0, 1) := by decide +kernel
theorem dJ6_bitCount_0f7a4_2 : decode cJ6_bitCount_0f7a4 2 = .ok (.iconst 1, 1) := by decide +kernel
theorem dJ6_bitCount_0f7a4_3 : decode cJ6_bitCount_0f7a4 3 = .ok (.iushr, 1) := by decide +kernel
theorem dJ6_bitCount_0f7a4_4 : decode cJ6_bitCount_0f7a4 4 = .ok (.ldc_w 265, 3) := by decide +kernel
theorem dJ6_bitCount_0f7a4_7 : decode cJ6_bitCount_0f7a4 7 = .ok (.iand, 1) := by decide +kernel
theorem dJ6_bitCount_0f7a4_8 : decode cJ6_bitCount_0f7a4 8 = .ok (.isub, 1) := by decide +kernel
theorem dJ6_bitCount_0f7a4_9 : decode cJ6_bitCount_0f7a4 9 = .ok (.istore_n 0, 1) := by decide +kernel
theorem dJ6_bitCount_0f7a4_10 : decode cJ6_bitCount_0f7a4 10 = .ok (.iload_n 0, 1) := by decide +kernel
theorem dJ6_bitCount_0f7a4_11 : decode cJ6_bitCount_0f7a4 11 = .ok (.ldc_w 266, 3) := by decide +kernel
theorem dJ6_bitCount_0f7a4_14 : decode cJ6_bitCount_0f7a4 14 = .ok (.iand, 1) := by decide +kernel
theorem dJ6_bitCount_0f7a4_15 : decode cJ6_bitCount_0f7a4 15 = .ok (.iload_n 0, 1) := by decide +kernel
theorem dJ6_bitCount_0f7a4_16 : decode cJ6_bitCount_0f7a4 16 = .ok (.iconst 2, 1) := by decide +kernel
theorem dJ6_bitCount_0f7a4_17 : decode cJ6_bitCount_0f7a4 17 = .ok (.iushr, 1) := by decide +kernel
theorem dJ6_bitCount_0f7a4_18 : decode cJ6_bitCount_0f7a4 18 = .ok (.ldc_w 266, 3) := by decide +kernel
theorem dJ6_bitCount_0f7a4_21 : decode cJ6_bitCount_0f7a4 21 = .ok (.iand, 1) := by decide +kernel
theorem dJ6_bitCount_0f7a4_22 : decode cJ6_bitCount_0f7a4 22 = .ok (.iadd, 1) := by decide +kernel
theorem dJ6_bitCount_0f7a4_23 : decode cJ6_bitCount_0f7a4 23 = .ok (.istore_n 0, 1) := by decide +kernel
theorem dJ6_bitCount_0f7a4_24 : decode cJ6_bitCount_0f7a4 24 = .ok (.iload_n 0, 1) := by decide +kernel
theorem dJ6_bitCount_0f7a4_25 : decode cJ6_bitCount_0f7a4 25 = .ok (.iload_n 0, 1) := by decide +kernel
theorem dJ6_bitCount_0f7a4_26 : decode cJ6_bitCount_0f7a4 26 = .ok (.iconst 4, 1) := by decide +kernel
theorem dJ6_bitCount_0f7a4_27 : decode cJ6_bitCount_0f7a4 27 = .ok (.iushr, 1) := by decide +kernel
theorem dJ6_bitCount_0f7a4_28 : decode cJ6_bitCount_0f7a4 28 = .ok (.iadd, 1) := by decide +kernel
theorem dJ6_bitCount_0f7a4_29 : decode cJ6_bitCount_0f7a4 29 = .ok (.ldc_w 267, 3) := by decide +kernel
theorem dJ6_bitCount_0f7a4_32 : decode cJ6_bitCount_0f7a4 32 = .ok (.iand, 1) := by decide +kernel
theorem dJ6_bitCount_0f7a4_33 : decode cJ6_bitCount_0f7a4 33 = .ok (.istore_n 0, 1) := by decide +kernel
theorem dJ6_bitCount_0f7a4_34 : decode cJ6_bitCount_0f7a4 34 = .ok (.iload_n 0, 1) := by decide +kernel
theorem dJ6_bitCount_0f7a4_35 : decode cJ6_bitCount_0f7a4 35 = .ok (.iload_n 0, 1) := by decide +kernel
theorem dJ6_bitCount_0f7a4_36 : decode cJ6_bitCount_0f7a4 36 = .ok (.bipush 8, 2) := by decide +kernel
theorem dJ6_bitCount_0f7a4_38 : decode cJ6_bitCount_0f7a4 38 = .ok (.iushr, 1) := by decide +kernel
theorem dJ6_bitCount_0f7a4_39 : decode cJ6_bitCount_0f7a4 39 = .ok (.iadd, 1) := by decide +kernel
theorem dJ6_bitCount_0f7a4_40 : decode cJ6_bitCount_0f7a4 40 = .ok (.istore_n 0, 1) := by decide +kernel
theorem dJ6_bitCount_0f7a4_41 : decode cJ6_bitCount_0f7a4 41 = .ok (.iload_n 0, 1) := by decide +kernel
theorem dJ6_bitCount_0f7a4_42 : decode cJ6_bitCount_0f7a4 42 = .ok (.iload_n 0, 1) := by decide +kernel
theorem dJ6_bitCount_0f7a4_43 : decode cJ6_bitCount_0f7a4 43 = .ok (.bipush 16, 2) := by decide +kernel
theorem dJ6_bitCount_0f7a4_45 : decode cJ6_bitCount_0f7a4 45 = .ok (.iushr, 1) := by decide +kernel
theorem dJ6_bitCount_0f7a4_46 : decode cJ6_bitCount_0f7a4 46 = .ok (.iadd, 1) := by decide +kernel
theorem dJ6_bitCount_0f7a4_47 : decode cJ6_bitCount_0f7a4 47 = .ok (.istore_n 0, 1) := by decide +kernel
theorem dJ6_bitCount_0f7a4_48 : decode cJ6_bitCount_0f7a4 48 = .ok (.iload_n 0, 1) := by decide +kernel
theorem dJ6_bitCount_0f7a4_49 : decode cJ6_bitCount_0f7a4 49 = .ok (.bipush 63, 2) := by decide +kernel
theorem dJ6_bitCount_0f7a4_51 : decode cJ6_bitCount_0f7a4 51 = .ok (.iand, 1) := by decide +kernel
theorem dJ6_bitCount_0f7a4_52 : decode cJ6_bitCount_0f7a4 52 = .ok (.ireturn, 1) := by decide +kernel
theorem dJ9_floorDiv_f86c9_0 : decode cJ9_floorDiv_f86c9 0 = .ok (.lload_n 0, 1) := by decide +kernel
theorem dJ9_floorDiv_f86c9_1 : decode cJ9_floorDiv_f86c9 1 = .ok (.lload_n 2, 1) := by decide +kernel
theorem dJ9_floorDiv_f86c9_2 : decode cJ9_floorDiv_f86c9 2 = .ok (.ldiv, 1) := by decide +kernel
theorem dJ9_floorDiv_f86c9_3 : decode cJ9_floorDiv_f86c9 3 = .ok (.lstore 4, 2) := by decide +kernel
theorem dJ9_floorDiv_f86c9_5 : decode cJ9_floorDiv_f86c9 5 = .ok (.lload_n 0, 1) := by decide +kernel
theorem dJ9_floorDiv_f86c9_6 : decode cJ9_floorDiv_f86c9 6 = .ok (.lload_n 2, 1) := by decide +kernel
theorem dJ9_floorDiv_f86c9_7 : decode cJ9_floorDiv_f86c9 7 = .ok (.lxor, 1) := by decide +kernel
theorem dJ9_floorDiv_f86c9_8 : decode cJ9_floorDiv_f86c9 8 = .ok (.lconst 0, 1) := by decide +kernel
theorem dJ9_floorDiv_f86c9_9 : decode cJ9_floorDiv_f86c9 9 = .ok (.lcmp, 1) := by decide +kernel
theorem dJ9_floorDiv_f86c9_10 : decode cJ9_floorDiv_f86c9 10 = .ok (.ifCond .ge 17, 3) := by decide +kernel
theorem dJ9_floorDiv_f86c9_13 : decode cJ9_floorDiv_f86c9 13 = .ok (.lload 4, 2) := by decide +kernel
theorem dJ9_floorDiv_f86c9_15 : decode cJ9_floorDiv_f86c9 15 = .ok (.lload_n 2, 1) := by decide +kernel
theorem dJ9_floorDiv_f86c9_16 : decode cJ9_floorDiv_f86c9 16 = .ok (.lmul, 1) := by decide +kernel
theorem dJ9_floorDiv_f86c9_17 : decode cJ9_floorDiv_f86c9 17 = .ok (.lload_n 0, 1) := by decide +kernel
theorem dJ9_floorDiv_f86c9_18 : decode cJ9_floorDiv_f86c9 18 = .ok (.lcmp, 1) := by decide +kernel
theorem dJ9_floorDiv_f86c9_19 : decode cJ9_floorDiv_f86c9 19 = .ok (.ifCond .eq 8, 3) := by decide +kernel
theorem dJ9_floorDiv_f86c9_22 : decode cJ9_floorDiv_f86c9 22 = .ok (.lload 4, 2) := by decide +kernel
theorem dJ9_floorDiv_f86c9_24 : decode cJ9_floorDiv_f86c9 24 = .ok (.lconst 1, 1) := by decide +kernel
theorem dJ9_floorDiv_f86c9_25 : decode cJ9_floorDiv_f86c9 25 = .ok (.lsub, 1) := by decide +kernel
theorem dJ9_floorDiv_f86c9_26 : decode cJ9_floorDiv_f86c9 26 = .ok (.lreturn, 1) := by decide +kernel
theorem dJ9_floorDiv_f86c9_27 : decode cJ9_floorDiv_f86c9 27 = .ok (.lload 4, 2) := by decide +kernel
theorem dJ9_floorDiv_f86c9_29 : decode cJ9_floorDiv_f86c9 29 = .ok (.lreturn, 1) := by decide +kernel
end
section
theorem dX7_init_0 : decode cX7_init 0 = .ok (.aload_n 0, 1) := by decide +kernel
theorem dX7_init_1 : decode cX7_init 1 = .ok (.invokespecial 1, 3) := by decide +kernel
theorem dX7_init_4 : decode cX7_init 4 = .ok (.aload_n 0, 1) := by decide +kernel
theorem dX7_init_5 : decode cX7_init 5 = .ok (.new 7, 3) := by decide +kernel
theorem dX7_init_8 : decode cX7_init 8 = .ok (.dup, 1) := by decide +kernel
theorem dX7_init_9 : decode cX7_init 9 = .ok (.invokespecial 9, 3) := by decide +kernel
theorem dX7_init_12 : decode cX7_init 12 = .ok (.putfield 10, 3) := by decide +kernel
theorem dX7_init_15 : decode cX7_init 15 = .ok (.aload_n 0, 1) := by decide +kernel
theorem dX7_init_16 : decode cX7_init 16 = .ok (.iconst 4, 1) := by decide +kernel
theorem dX7_init_17 : decode cX7_init 17 = .ok (.anewarray 7, 3) := by decide +kernel
theorem dX7_init_20 : decode cX7_init 20 = .ok (.putfield 16, 3) := by decide +kernel
theorem dX7_init_23 : decode cX7_init 23 = .ok (.iconst 0, 1) := by decide +kernel
theorem dX7_init_24 : decode cX7_init 24 = .ok (.istore_n 1, 1) := by decide +kernel
theorem dX7_init_25 : decode cX7_init 25 = .ok (.iload_n 1, 1) := by decide +kernel
theorem dX7_init_26 : decode cX7_init 26 = .ok (.iconst 4, 1) := by decide +kernel
theorem dX7_init_27 : decode cX7_init 27 = .ok (.if_icmp .ge 22, 3) := by decide +kernel
theorem dX7_init_30 : decode cX7_init 30 = .ok (.aload_n 0, 1) := by decide +kernel
theorem dX7_init_31 : decode cX7_init 31 = .ok (.getfield 16, 3) := by decide +kernel
theorem dX7_init_34 : decode cX7_init 34 = .ok (.iload_n 1, 1) := by decide +kernel
theorem dX7_init_35 : decode cX7_init 35 = .ok (.new 7, 3) := by decide +kernel
theorem dX7_init_38 : decode cX7_init 38 = .ok (.dup, 1) := by decide +kernel
theorem dX7_init_39 : decode cX7_init 39 = .ok (.invokespecial 9, 3) := by decide +kernel
theorem dX7_init_42 : decode cX7_init 42 = .ok (.aastore, 1) := by decide +kernel
theorem dX7_init_43 : decode cX7_init 43 = .ok (.iinc 1 1, 3) := by decide +kernel
theorem dX7_init_46 : decode cX7_init 46 = .ok (.goto (-21), 3) := by decide +kernel
theorem dX7_init_49 : decode cX7_init 49 = .ok (.aload_n 0, 1) := by decide +kernel
theorem dX7_init_50 : decode cX7_init 50 = .ok (.iconst 0, 1) := by decide +kernel
theorem dX7_init_51 : decode cX7_init 51 = .ok (.putfield 20, 3) := by decide +kernel
theorem dX7_init_54 : decode cX7_init 54 = .ok (.aload_n 0, 1) := by decide +kernel
theorem dX7_init_55 : decode cX7_init 55 = .ok (.bipush 8, 2) := by decide +kernel
theorem dX7_init_57 : decode cX7_init 57 = .ok (.anewarray 24, 3) := by decide +kernel
theorem dX7_init_60 : decode cX7_init 60 = .ok (.putfield 26, 3) := by decide +kernel
theorem dX7_init_63 : decode cX7_init 63 = .ok (.aload_n 0, 1) := by decide +kernel
theorem dX7_init_64 : decode cX7_init 64 = .ok (.new 30, 3) := by decide +kernel
theorem dX7_init_67 : decode cX7_init 67 = .ok (.dup, 1) := by decide +kernel
theorem dX7_init_68 : decode cX7_init 68 = .ok (.invokespecial 32, 3) := by decide +kernel
theorem dX7_init_71 : decode cX7_init 71 = .ok (.putfield 33, 3) := by decide +kernel
theorem dX7_init_74 : decode cX7_init 74 = .ok (.aload_n 0, 1) := by decide +kernel
theorem dX7_init_75 : decode cX7_init 75 = .ok (.new 37, 3) := by decide +kernel
theorem dX7_init_78 : decode cX7_init 78 = .ok (.dup, 1) := by decide +kernel
theorem dX7_init_79 : decode cX7_init 79 = .ok (.invokespecial 39, 3) := by decide +kernel
theorem dX7_init_82 : decode cX7_init 82 = .ok (.putfield 40, 3) := by decide +kernel
theorem dX7_init_85 : decode cX7_init 85 = .ok (.aload_n 0, 1) := by decide +kernel
theorem dX7_init_86 : decode cX7_init 86 = .ok (.new 44, 3) := by decide +kernel
theorem dX7_init_89 : decode cX7_init 89 = .ok (.dup, 1) := by decide +kernel
theorem dX7_init_90 : decode cX7_init 90 = .ok (.aload_n 0, 1) := by decide +kernel
theorem dX7_init_91 : decode cX7_init 91 = .ok (.getfield 40, 3) := by decide +kernel
theorem dX7_init_94 : decode cX7_init 94 = .ok (.invokespecial 46, 3) := by decide +kernel
theorem dX7_init_97 : decode cX7_init 97 = .ok (.putfield 49, 3) := by decide +kernel
theorem dX7_init_100 : decode cX7_init 100 = .ok (.aload_n 0, 1) := by decide +kernel
theorem dX7_init_101 : decode cX7_init 101 = .ok (.bipush 8, 2) := by decide +kernel
theorem dX7_init_103 : decode cX7_init 103 = .ok (.newarray .long, 2) := by decide +kernel
theorem dX7_init_105 : decode cX7_init 105 = .ok (.putfield 55, 3) := by decide +kernel
theorem dX7_init_108 : decode cX7_init 108 = .ok (.aload_n 0, 1) := by decide +kernel
theorem dX7_init_109 : decode cX7_init 109 = .ok (.bipush 8, 2) := by decide +kernel
theorem dX7_init_111 : decode cX7_init 111 = .ok (.newarray .long, 2) := by decide +kernel
theorem dX7_init_113 : decode cX7_init 113 = .ok (.putfield 59, 3) := by decide +kernel
theorem dX7_init_116 : decode cX7_init 116 = .ok (.aload_n 0, 1) := by decide +kernel
theorem dX7_init_117 : decode cX7_init 117 = .ok (.bipush 8, 2) := by decide +kernel
theorem dX7_init_119 : decode cX7_init 119 = .ok (.newarray .long, 2) := by decide +kernel
theorem dX7_init_121 : decode cX7_init 121 = .ok (.putfield 62, 3) := by decide +kernel
theorem dX7_init_124 : decode cX7_init 124 = .ok (.return_, 1) := by decide +kernel
theorem dX7_set_0 : decode cX7_set 0 = .ok (.iload_n 1, 1) := by decide +kernel
theorem dX7_set_1 : decode cX7_set 1 = .ok (.invokestatic 65, 3) := by decide +kernel
theorem dX7_set_4 : decode cX7_set 4 = .ok (.iload_n 2, 1) := by decide +kernel
theorem dX7_set_5 : decode cX7_set 5 = .ok (.invokestatic 69, 3) := by decide +kernel
theorem dX7_set_8 : decode cX7_set 8 = .ok (.iload_n 3, 1) := by decide +kernel
theorem dX7_set_9 : decode cX7_set 9 = .ok (.invokestatic 72, 3) := by decide +kernel
theorem dX7_set_12 : decode cX7_set 12 = .ok (.aload_n 0, 1) := by decide +kernel
theorem dX7_set_13 : decode cX7_set 13 = .ok (.invokevirtual 75, 3) := by decide +kernel
theorem dX7_set_16 : decode cX7_set 16 = .ok (.aload_n 0, 1) := by decide +kernel
theorem dX7_set_17 : decode cX7_set 17 = .ok (.getfield 10, 3) := by decide +kernel
theorem dX7_set_20 : decode cX7_set 20 = .ok (.getfield 78, 3) := by decide +kernel
theorem dX7_set_23 : decode cX7_set 23 = .ok (.iload_n 1, 1) := by decide +kernel
theorem dX7_set_24 : decode cX7_set 24 = .ok (.aaload, 1) := by decide +kernel
theorem dX7_set_25 : decode cX7_set 25 = .ok (.astore 4, 2) := by decide +kernel
theorem dX7_set_27 : decode cX7_set 27 = .ok (.aload 4, 2) := by decide +kernel
theorem dX7_set_29 : decode cX7_set 29 = .ok (.iload_n 2, 1) := by decide +kernel
theorem dX7_set_30 : decode cX7_set 30 = .ok (.laload, 1) := by decide +kernel
theorem dX7_set_31 : decode cX7_set 31 = .ok (.l2i, 1) := by decide +kernel
theorem dX7_set_32 : decode cX7_set 32 = .ok (.istore 5, 2) := by decide +kernel
theorem dX7_set_34 : decode cX7_set 34 = .ok (.aload 4, 2) := by decide +kernel
theorem dX7_set_36 : decode cX7_set 36 = .ok (.iload_n 2, 1) := by decide +kernel
theorem dX7_set_37 : decode cX7_set 37 = .ok (.iload_n 3, 1) := by decide +kernel
theorem dX7_set_38 : decode cX7_set 38 = .ok (.i2l, 1) := by decide +kernel
theorem dX7_set_39 : decode cX7_set 39 = .ok (.lastore, 1) := by decide +kernel
theorem dX7_set_40 : decode cX7_set 40 = .ok (.iload 5, 2) := by decide +kernel
theorem dX7_set_42 : decode cX7_set 42 = .ok (.ireturn, 1) := by decide +kernel
theorem dX7_setFour_0 : decode cX7_setFour 0 = .ok (.iload_n 1, 1) := by decide +kernel
theorem dX7_setFour_1 : decode cX7_setFour 1 = .ok (.invokestatic 65, 3) := by decide +kernel
theorem dX7_setFour_4 : decode cX7_setFour 4 = .ok (.iload_n 3, 1) := by decide +kernel
theorem dX7_setFour_5 : decode cX7_setFour 5 = .ok (.invokestatic 72, 3) := by decide +kernel
theorem dX7_setFour_8 : decode cX7_setFour 8 = .ok (.iload 4, 2) := by decide +kernel
theorem dX7_setFour_10 : decode cX7_setFour 10 = .ok (.invokestatic 72, 3) := by decide +kernel
theorem dX7_setFour_13 : decode cX7_setFour 13 = .ok (.iload 5, 2) := by decide +kernel
theorem dX7_setFour_15 : decode cX7_setFour 15 = .ok (.invokestatic 72, 3) := by decide +kernel
theorem dX7_setFour_18 : decode cX7_setFour 18 = .ok (.iload 6, 2) := by decide +kernel
theorem dX7_setFour_20 : decode cX7_setFour 20 = .ok (.invokestatic 72, 3) := by decide +kernel
theorem dX7_setFour_23 : decode cX7_setFour 23 = .ok (.aload_n 0, 1) := by decide +kernel
theorem dX7_setFour_24 : decode cX7_setFour 24 = .ok (.invokevirtual 75, 3) := by decide +kernel
theorem dX7_setFour_27 : decode cX7_setFour 27 = .ok (.aload_n 0, 1) := by decide +kernel
theorem dX7_setFour_28 : decode cX7_setFour 28 = .ok (.getfield 10, 3) := by decide +kernel
theorem dX7_setFour_31 : decode cX7_setFour 31 = .ok (.getfield 78, 3) := by decide +kernel
theorem dX7_setFour_34 : decode cX7_setFour 34 = .ok (.iload_n 1, 1) := by decide +kernel
theorem dX7_setFour_35 : decode cX7_setFour 35 = .ok (.aaload, 1) := by decide +kernel
theorem dX7_setFour_36 : decode cX7_setFour 36 = .ok (.astore 7, 2) := by decide +kernel
theorem dX7_setFour_38 : decode cX7_setFour 38 = .ok (.iload_n 2, 1) := by decide +kernel
theorem dX7_setFour_39 : decode cX7_setFour 39 = .ok (.ifCond .eq 7, 3) := by decide +kernel
theorem dX7_setFour_42 : decode cX7_setFour 42 = .ok (.iconst 4, 1) := by decide +kernel
theorem dX7_setFour_43 : decode cX7_setFour 43 = .ok (.goto 4, 3) := by decide +kernel
theorem dX7_setFour_46 : decode cX7_setFour 46 = .ok (.iconst 0, 1) := by decide +kernel
theorem dX7_setFour_47 : decode cX7_setFour 47 = .ok (.istore 8, 2) := by decide +kernel
theorem dX7_setFour_49 : decode cX7_setFour 49 = .ok (.aload 7, 2) := by decide +kernel
theorem dX7_setFour_51 : decode cX7_setFour 51 = .ok (.iload 8, 2) := by decide +kernel
theorem dX7_setFour_53 : decode cX7_setFour 53 = .ok (.iload_n 3, 1) := by decide +kernel
theorem dX7_setFour_54 : decode cX7_setFour 54 = .ok (.i2l, 1) := by decide +kernel
theorem dX7_setFour_55 : decode cX7_setFour 55 = .ok (.lastore, 1) := by decide +kernel
theorem dX7_setFour_56 : decode cX7_setFour 56 = .ok (.aload 7, 2) := by decide +kernel
theorem dX7_setFour_58 : decode cX7_setFour 58 = .ok (.iload 8, 2) := by decide +kernel
theorem dX7_setFour_60 : decode cX7_setFour 60 = .ok (.iconst 1, 1) := by decide +kernel
theorem dX7_setFour_61 : decode cX7_setFour 61 = .ok (.iadd, 1) := by decide +kernel
theorem dX7_setFour_62 : decode cX7_setFour 62 = .ok (.iload 4, 2) := by decide +kernel
theorem dX7_setFour_64 : decode cX7_setFour 64 = .ok (.i2l, 1) := by decide +kernel
theorem dX7_setFour_65 : decode cX7_setFour 65 = .ok (.lastore, 1) := by decide +kernel
theorem dX7_setFour_66 : decode cX7_setFour 66 = .ok (.aload 7, 2) := by decide +kernel
theorem dX7_setFour_68 : decode cX7_setFour 68 = .ok (.iload 8, 2) := by decide +kernel
theorem dX7_setFour_70 : decode cX7_setFour 70 = .ok (.iconst 2, 1) := by decide +kernel
theorem dX7_setFour_71 : decode cX7_setFour 71 = .ok (.iadd, 1) := by decide +kernel
theorem dX7_setFour_72 : decode cX7_setFour 72 = .ok (.iload 5, 2) := by decide +kernel
theorem dX7_setFour_74 : decode cX7_setFour 74 = .ok (.i2l, 1) := by decide +kernel
theorem dX7_setFour_75 : decode cX7_setFour 75 = .ok (.lastore, 1) := by decide +kernel
theorem dX7_setFour_76 : decode cX7_setFour 76 = .ok (.aload 7, 2) := by decide +kernel
theorem dX7_setFour_78 : decode cX7_setFour 78 = .ok (.iload 8, 2) := by decide +kernel
theorem dX7_setFour_80 : decode cX7_setFour 80 = .ok (.iconst 3, 1) := by decide +kernel
theorem dX7_setFour_81 : decode cX7_setFour 81 = .ok (.iadd, 1) := by decide +kernel
theorem dX7_setFour_82 : decode cX7_setFour 82 = .ok (.iload 6, 2) := by decide +kernel
theorem dX7_setFour_84 : decode cX7_setFour 84 = .ok (.i2l, 1) := by decide +kernel
theorem dX7_setFour_85 : decode cX7_setFour 85 = .ok (.lastore, 1) := by decide +kernel
theorem dX7_setFour_86 : decode cX7_setFour 86 = .ok (.aload 7, 2) := by decide +kernel
theorem dX7_setFour_88 : decode cX7_setFour 88 = .ok (.invokestatic 82, 3) := by decide +kernel
theorem dX7_setFour_91 : decode cX7_setFour 91 = .ok (.lreturn, 1) := by decide +kernel
theorem dX7_setOrder_0 : decode cX7_setOrder 0 = .ok (.iload_n 1, 1) := by decide +kernel
theorem dX7_setOrder_1 : decode cX7_setOrder 1 = .ok (.ifCond .lt 9, 3) := by decide +kernel
theorem dX7_setOrder_4 : decode cX7_setOrder 4 = .ok (.iload_n 1, 1) := by decide +kernel
theorem dX7_setOrder_5 : decode cX7_setOrder 5 = .ok (.bipush 8, 2) := by decide +kernel
theorem dX7_setOrder_7 : decode cX7_setOrder 7 = .ok (.if_icmp .lt 13, 3) := by decide +kernel
theorem dX7_setOrder_10 : decode cX7_setOrder 10 = .ok (.new 86, 3) := by decide +kernel
theorem dX7_setOrder_13 : decode cX7_setOrder 13 = .ok (.dup, 1) := by decide +kernel
theorem dX7_setOrder_14 : decode cX7_setOrder 14 = .ok (.ldc 88, 2) := by decide +kernel
theorem dX7_setOrder_16 : decode cX7_setOrder 16 = .ok (.invokespecial 90, 3) := by decide +kernel
theorem dX7_setOrder_19 : decode cX7_setOrder 19 = .ok (.athrow, 1) := by decide +kernel
theorem dX7_setOrder_20 : decode cX7_setOrder 20 = .ok (.aload_n 0, 1) := by decide +kernel
theorem dX7_setOrder_21 : decode cX7_setOrder 21 = .ok (.invokevirtual 75, 3) := by decide +kernel
theorem dX7_setOrder_24 : decode cX7_setOrder 24 = .ok (.aload_n 0, 1) := by decide +kernel
theorem dX7_setOrder_25 : decode cX7_setOrder 25 = .ok (.getfield 10, 3) := by decide +kernel
theorem dX7_setOrder_28 : decode cX7_setOrder 28 = .ok (.getfield 93, 3) := by decide +kernel
theorem dX7_setOrder_31 : decode cX7_setOrder 31 = .ok (.istore_n 2, 1) := by decide +kernel
theorem dX7_setOrder_32 : decode cX7_setOrder 32 = .ok (.aload_n 0, 1) := by decide +kernel
theorem dX7_setOrder_33 : decode cX7_setOrder 33 = .ok (.getfield 10, 3) := by decide +kernel
theorem dX7_setOrder_36 : decode cX7_setOrder 36 = .ok (.iload_n 1, 1) := by decide +kernel
theorem dX7_setOrder_37 : decode cX7_setOrder 37 = .ok (.putfield 93, 3) := by decide +kernel
theorem dX7_setOrder_40 : decode cX7_setOrder 40 = .ok (.iload_n 2, 1) := by decide +kernel
theorem dX7_setOrder_41 : decode cX7_setOrder 41 = .ok (.ireturn, 1) := by decide +kernel
theorem dX7_load_0 : decode cX7_load 0 = .ok (.iload_n 1, 1) := by decide +kernel
theorem dX7_load_1 : decode cX7_load 1 = .ok (.ifCond .lt 17, 3) := by decide +kernel
theorem dX7_load_4 : decode cX7_load 4 = .ok (.iload_n 1, 1) := by decide +kernel
theorem dX7_load_5 : decode cX7_load 5 = .ok (.aload_n 0, 1) := by decide +kernel
theorem dX7_load_6 : decode cX7_load 6 = .ok (.getfield 10, 3) := by decide +kernel
theorem dX7_load_9 : decode cX7_load 9 = .ok (.getfield 93, 3) := by decide +kernel
theorem dX7_load_12 : decode cX7_load 12 = .ok (.invokestatic 96, 3) := by decide +kernel
theorem dX7_load_15 : decode cX7_load 15 = .ok (.if_icmp .lt 13, 3) := by decide +kernel
theorem dX7_load_18 : decode cX7_load 18 = .ok (.new 100, 3) := by decide +kernel
theorem dX7_load_21 : decode cX7_load 21 = .ok (.dup, 1) := by decide +kernel
theorem dX7_load_22 : decode cX7_load 22 = .ok (.ldc 102, 2) := by decide +kernel
theorem dX7_load_24 : decode cX7_load 24 = .ok (.invokespecial 104, 3) := by decide +kernel
theorem dX7_load_27 : decode cX7_load 27 = .ok (.athrow, 1) := by decide +kernel
theorem dX7_load_28 : decode cX7_load 28 = .ok (.iload_n 2, 1) := by decide +kernel
theorem dX7_load_29 : decode cX7_load 29 = .ok (.invokestatic 65, 3) := by decide +kernel
theorem dX7_load_32 : decode cX7_load 32 = .ok (.aload_n 0, 1) := by decide +kernel
theorem dX7_load_33 : decode cX7_load 33 = .ok (.invokevirtual 75, 3) := by decide +kernel
theorem dX7_load_36 : decode cX7_load 36 = .ok (.aload_n 0, 1) := by decide +kernel
theorem dX7_load_37 : decode cX7_load 37 = .ok (.invokevirtual 105, 3) := by decide +kernel
theorem dX7_load_40 : decode cX7_load 40 = .ok (.iload_n 1, 1) := by decide +kernel
theorem dX7_load_41 : decode cX7_load 41 = .ok (.aload_n 0, 1) := by decide +kernel
theorem dX7_load_42 : decode cX7_load 42 = .ok (.getfield 10, 3) := by decide +kernel
theorem dX7_load_45 : decode cX7_load 45 = .ok (.getfield 78, 3) := by decide +kernel
theorem dX7_load_48 : decode cX7_load 48 = .ok (.iload_n 2, 1) := by decide +kernel
theorem dX7_load_49 : decode cX7_load 49 = .ok (.aaload, 1) := by decide +kernel
theorem dX7_load_50 : decode cX7_load 50 = .ok (.invokevirtual 109, 3) := by decide +kernel
theorem dX7_load_53 : decode cX7_load 53 = .ok (.aload_n 0, 1) := by decide +kernel
theorem dX7_load_54 : decode cX7_load 54 = .ok (.getfield 10, 3) := by decide +kernel
theorem dX7_load_57 : decode cX7_load 57 = .ok (.getfield 78, 3) := by decide +kernel
theorem dX7_load_60 : decode cX7_load 60 = .ok (.iload_n 2, 1) := by decide +kernel
theorem dX7_load_61 : decode cX7_load 61 = .ok (.aaload, 1) := by decide +kernel
theorem dX7_load_62 : decode cX7_load 62 = .ok (.iconst 0, 1) := by decide +kernel
theorem dX7_load_63 : decode cX7_load 63 = .ok (.laload, 1) := by decide +kernel
theorem dX7_load_64 : decode cX7_load 64 = .ok (.l2i, 1) := by decide +kernel
theorem dX7_load_65 : decode cX7_load 65 = .ok (.ireturn, 1) := by decide +kernel
theorem dX7_add_0 : decode cX7_add 0 = .ok (.iload_n 1, 1) := by decide +kernel
theorem dX7_add_1 : decode cX7_add 1 = .ok (.invokestatic 65, 3) := by decide +kernel
theorem dX7_add_4 : decode cX7_add 4 = .ok (.iload_n 2, 1) := by decide +kernel
theorem dX7_add_5 : decode cX7_add 5 = .ok (.invokestatic 65, 3) := by decide +kernel
theorem dX7_add_8 : decode cX7_add 8 = .ok (.iload_n 3, 1) := by decide +kernel
theorem dX7_add_9 : decode cX7_add 9 = .ok (.invokestatic 65, 3) := by decide +kernel
theorem dX7_add_12 : decode cX7_add 12 = .ok (.aload_n 0, 1) := by decide +kernel
theorem dX7_add_13 : decode cX7_add 13 = .ok (.getfield 10, 3) := by decide +kernel
theorem dX7_add_16 : decode cX7_add 16 = .ok (.getfield 78, 3) := by decide +kernel
theorem dX7_add_19 : decode cX7_add 19 = .ok (.iload_n 1, 1) := by decide +kernel
theorem dX7_add_20 : decode cX7_add 20 = .ok (.aaload, 1) := by decide +kernel
theorem dX7_add_21 : decode cX7_add 21 = .ok (.aload_n 0, 1) := by decide +kernel
theorem dX7_add_22 : decode cX7_add 22 = .ok (.getfield 10, 3) := by decide +kernel
theorem dX7_add_25 : decode cX7_add 25 = .ok (.getfield 78, 3) := by decide +kernel
theorem dX7_add_28 : decode cX7_add 28 = .ok (.iload_n 2, 1) := by decide +kernel
theorem dX7_add_29 : decode cX7_add 29 = .ok (.aaload, 1) := by decide +kernel
theorem dX7_add_30 : decode cX7_add 30 = .ok (.iload 4, 2) := by decide +kernel
theorem dX7_add_32 : decode cX7_add 32 = .ok (.aload_n 0, 1) := by decide +kernel
theorem dX7_add_33 : decode cX7_add 33 = .ok (.getfield 55, 3) := by decide +kernel
theorem dX7_add_36 : decode cX7_add 36 = .ok (.invokestatic 113, 3) := by decide +kernel
theorem dX7_add_39 : decode cX7_add 39 = .ok (.aload_n 0, 1) := by decide +kernel
theorem dX7_add_40 : decode cX7_add 40 = .ok (.getfield 55, 3) := by decide +kernel
theorem dX7_add_43 : decode cX7_add 43 = .ok (.iconst 0, 1) := by decide +kernel
theorem dX7_add_44 : decode cX7_add 44 = .ok (.invokestatic 117, 3) := by decide +kernel
theorem dX7_add_47 : decode cX7_add 47 = .ok (.invokestatic 121, 3) := by decide +kernel
theorem dX7_add_50 : decode cX7_add 50 = .ok (.aload_n 0, 1) := by decide +kernel
theorem dX7_add_51 : decode cX7_add 51 = .ok (.invokevirtual 75, 3) := by decide +kernel
theorem dX7_add_54 : decode cX7_add 54 = .ok (.aload_n 0, 1) := by decide +kernel
theorem dX7_add_55 : decode cX7_add 55 = .ok (.iload_n 3, 1) := by decide +kernel
theorem dX7_add_56 : decode cX7_add 56 = .ok (.invokevirtual 125, 3) := by decide +kernel
theorem dX7_add_59 : decode cX7_add 59 = .ok (.lreturn, 1) := by decide +kernel
theorem dX7_multiply_0 : decode cX7_multiply 0 = .ok (.iload_n 1, 1) := by decide +kernel
theorem dX7_multiply_1 : decode cX7_multiply 1 = .ok (.invokestatic 65, 3) := by decide +kernel
theorem dX7_multiply_4 : decode cX7_multiply 4 = .ok (.iload_n 2, 1) := by decide +kernel
theorem dX7_multiply_5 : decode cX7_multiply 5 = .ok (.invokestatic 65, 3) := by decide +kernel
theorem dX7_multiply_8 : decode cX7_multiply 8 = .ok (.iload_n 3, 1) := by decide +kernel
theorem dX7_multiply_9 : decode cX7_multiply 9 = .ok (.invokestatic 65, 3) := by decide +kernel
theorem dX7_multiply_12 : decode cX7_multiply 12 = .ok (.aload_n 0, 1) := by decide +kernel
theorem dX7_multiply_13 : decode cX7_multiply 13 = .ok (.getfield 10, 3) := by decide +kernel
theorem dX7_multiply_16 : decode cX7_multiply 16 = .ok (.getfield 78, 3) := by decide +kernel
theorem dX7_multiply_19 : decode cX7_multiply 19 = .ok (.iload_n 1, 1) := by decide +kernel
theorem dX7_multiply_20 : decode cX7_multiply 20 = .ok (.aaload, 1) := by decide +kernel
theorem dX7_multiply_21 : decode cX7_multiply 21 = .ok (.aload_n 0, 1) := by decide +kernel
theorem dX7_multiply_22 : decode cX7_multiply 22 = .ok (.getfield 10, 3) := by decide +kernel
theorem dX7_multiply_25 : decode cX7_multiply 25 = .ok (.getfield 78, 3) := by decide +kernel
theorem dX7_multiply_28 : decode cX7_multiply 28 = .ok (.iload_n 2, 1) := by decide +kernel
theorem dX7_multiply_29 : decode cX7_multiply 29 = .ok (.aaload, 1) := by decide +kernel
theorem dX7_multiply_30 : decode cX7_multiply 30 = .ok (.aload_n 0, 1) := by decide +kernel
theorem dX7_multiply_31 : decode cX7_multiply 31 = .ok (.getfield 55, 3) := by decide +kernel
theorem dX7_multiply_34 : decode cX7_multiply 34 = .ok (.invokestatic 129, 3) := by decide +kernel
theorem dX7_multiply_37 : decode cX7_multiply 37 = .ok (.aload_n 0, 1) := by decide +kernel
theorem dX7_multiply_38 : decode cX7_multiply 38 = .ok (.getfield 55, 3) := by decide +kernel
theorem dX7_multiply_41 : decode cX7_multiply 41 = .ok (.iconst 1, 1) := by decide +kernel
theorem dX7_multiply_42 : decode cX7_multiply 42 = .ok (.invokestatic 117, 3) := by decide +kernel
theorem dX7_multiply_45 : decode cX7_multiply 45 = .ok (.invokestatic 121, 3) := by decide +kernel
theorem dX7_multiply_48 : decode cX7_multiply 48 = .ok (.aload_n 0, 1) := by decide +kernel
theorem dX7_multiply_49 : decode cX7_multiply 49 = .ok (.invokevirtual 75, 3) := by decide +kernel
theorem dX7_multiply_52 : decode cX7_multiply 52 = .ok (.aload_n 0, 1) := by decide +kernel
theorem dX7_multiply_53 : decode cX7_multiply 53 = .ok (.getfield 10, 3) := by decide +kernel
theorem dX7_multiply_56 : decode cX7_multiply 56 = .ok (.dup, 1) := by decide +kernel
theorem dX7_multiply_57 : decode cX7_multiply 57 = .ok (.getfield 133, 3) := by decide +kernel
theorem dX7_multiply_60 : decode cX7_multiply 60 = .ok (.iconst 1, 1) := by decide +kernel
theorem dX7_multiply_61 : decode cX7_multiply 61 = .ok (.iadd, 1) := by decide +kernel
theorem dX7_multiply_62 : decode cX7_multiply 62 = .ok (.putfield 133, 3) := by decide +kernel
theorem dX7_multiply_65 : decode cX7_multiply 65 = .ok (.aload_n 0, 1) := by decide +kernel
theorem dX7_multiply_66 : decode cX7_multiply 66 = .ok (.iload_n 3, 1) := by decide +kernel
theorem dX7_multiply_67 : decode cX7_multiply 67 = .ok (.invokevirtual 125, 3) := by decide +kernel
theorem dX7_multiply_70 : decode cX7_multiply 70 = .ok (.lreturn, 1) := by decide +kernel
theorem dX7_conjugate_0 : decode cX7_conjugate 0 = .ok (.iload_n 1, 1) := by decide +kernel
theorem dX7_conjugate_1 : decode cX7_conjugate 1 = .ok (.invokestatic 65, 3) := by decide +kernel
theorem dX7_conjugate_4 : decode cX7_conjugate 4 = .ok (.aload_n 0, 1) := by decide +kernel
theorem dX7_conjugate_5 : decode cX7_conjugate 5 = .ok (.invokevirtual 75, 3) := by decide +kernel
theorem dX7_conjugate_8 : decode cX7_conjugate 8 = .ok (.aload_n 0, 1) := by decide +kernel
theorem dX7_conjugate_9 : decode cX7_conjugate 9 = .ok (.getfield 10, 3) := by decide +kernel
theorem dX7_conjugate_12 : decode cX7_conjugate 12 = .ok (.getfield 78, 3) := by decide +kernel
theorem dX7_conjugate_15 : decode cX7_conjugate 15 = .ok (.iload_n 1, 1) := by decide +kernel
theorem dX7_conjugate_16 : decode cX7_conjugate 16 = .ok (.aaload, 1) := by decide +kernel
theorem dX7_conjugate_17 : decode cX7_conjugate 17 = .ok (.invokestatic 136, 3) := by decide +kernel
theorem dX7_conjugate_20 : decode cX7_conjugate 20 = .ok (.aload_n 0, 1) := by decide +kernel
theorem dX7_conjugate_21 : decode cX7_conjugate 21 = .ok (.getfield 10, 3) := by decide +kernel
theorem dX7_conjugate_24 : decode cX7_conjugate 24 = .ok (.getfield 78, 3) := by decide +kernel
theorem dX7_conjugate_27 : decode cX7_conjugate 27 = .ok (.iload_n 1, 1) := by decide +kernel
theorem dX7_conjugate_28 : decode cX7_conjugate 28 = .ok (.aaload, 1) := by decide +kernel
theorem dX7_conjugate_29 : decode cX7_conjugate 29 = .ok (.iconst 0, 1) := by decide +kernel
theorem dX7_conjugate_30 : decode cX7_conjugate 30 = .ok (.laload, 1) := by decide +kernel
theorem dX7_conjugate_31 : decode cX7_conjugate 31 = .ok (.l2i, 1) := by decide +kernel
theorem dX7_conjugate_32 : decode cX7_conjugate 32 = .ok (.ireturn, 1) := by decide +kernel
theorem dX7_commutator_0 : decode cX7_commutator 0 = .ok (.iload_n 1, 1) := by decide +kernel
theorem dX7_commutator_1 : decode cX7_commutator 1 = .ok (.invokestatic 65, 3) := by decide +kernel
theorem dX7_commutator_4 : decode cX7_commutator 4 = .ok (.iload_n 2, 1) := by decide +kernel
theorem dX7_commutator_5 : decode cX7_commutator 5 = .ok (.invokestatic 65, 3) := by decide +kernel
theorem dX7_commutator_8 : decode cX7_commutator 8 = .ok (.iload_n 3, 1) := by decide +kernel
theorem dX7_commutator_9 : decode cX7_commutator 9 = .ok (.invokestatic 65, 3) := by decide +kernel
theorem dX7_commutator_12 : decode cX7_commutator 12 = .ok (.aload_n 0, 1) := by decide +kernel
theorem dX7_commutator_13 : decode cX7_commutator 13 = .ok (.getfield 10, 3) := by decide +kernel
theorem dX7_commutator_16 : decode cX7_commutator 16 = .ok (.getfield 78, 3) := by decide +kernel
theorem dX7_commutator_19 : decode cX7_commutator 19 = .ok (.iload_n 1, 1) := by decide +kernel
theorem dX7_commutator_20 : decode cX7_commutator 20 = .ok (.aaload, 1) := by decide +kernel
theorem dX7_commutator_21 : decode cX7_commutator 21 = .ok (.aload_n 0, 1) := by decide +kernel
theorem dX7_commutator_22 : decode cX7_commutator 22 = .ok (.getfield 10, 3) := by decide +kernel
theorem dX7_commutator_25 : decode cX7_commutator 25 = .ok (.getfield 78, 3) := by decide +kernel
theorem dX7_commutator_28 : decode cX7_commutator 28 = .ok (.iload_n 2, 1) := by decide +kernel
theorem dX7_commutator_29 : decode cX7_commutator 29 = .ok (.aaload, 1) := by decide +kernel
theorem dX7_commutator_30 : decode cX7_commutator 30 = .ok (.aload_n 0, 1) := by decide +kernel
theorem dX7_commutator_31 : decode cX7_commutator 31 = .ok (.getfield 55, 3) := by decide +kernel
theorem dX7_commutator_34 : decode cX7_commutator 34 = .ok (.invokestatic 129, 3) := by decide +kernel
theorem dX7_commutator_37 : decode cX7_commutator 37 = .ok (.aload_n 0, 1) := by decide +kernel
theorem dX7_commutator_38 : decode cX7_commutator 38 = .ok (.getfield 10, 3) := by decide +kernel
theorem dX7_commutator_41 : decode cX7_commutator 41 = .ok (.getfield 78, 3) := by decide +kernel
theorem dX7_commutator_44 : decode cX7_commutator 44 = .ok (.iload_n 2, 1) := by decide +kernel
theorem dX7_commutator_45 : decode cX7_commutator 45 = .ok (.aaload, 1) := by decide +kernel
theorem dX7_commutator_46 : decode cX7_commutator 46 = .ok (.aload_n 0, 1) := by decide +kernel
theorem dX7_commutator_47 : decode cX7_commutator 47 = .ok (.getfield 10, 3) := by decide +kernel
theorem dX7_commutator_50 : decode cX7_commutator 50 = .ok (.getfield 78, 3) := by decide +kernel
theorem dX7_commutator_53 : decode cX7_commutator 53 = .ok (.iload_n 1, 1) := by decide +kernel
theorem dX7_commutator_54 : decode cX7_commutator 54 = .ok (.aaload, 1) := by decide +kernel
theorem dX7_commutator_55 : decode cX7_commutator 55 = .ok (.aload_n 0, 1) := by decide +kernel
theorem dX7_commutator_56 : decode cX7_commutator 56 = .ok (.getfield 59, 3) := by decide +kernel
theorem dX7_commutator_59 : decode cX7_commutator 59 = .ok (.invokestatic 129, 3) := by decide +kernel
theorem dX7_commutator_62 : decode cX7_commutator 62 = .ok (.aload_n 0, 1) := by decide +kernel
theorem dX7_commutator_63 : decode cX7_commutator 63 = .ok (.getfield 55, 3) := by decide +kernel
theorem dX7_commutator_66 : decode cX7_commutator 66 = .ok (.aload_n 0, 1) := by decide +kernel
theorem dX7_commutator_67 : decode cX7_commutator 67 = .ok (.getfield 59, 3) := by decide +kernel
theorem dX7_commutator_70 : decode cX7_commutator 70 = .ok (.iconst 1, 1) := by decide +kernel
theorem dX7_commutator_71 : decode cX7_commutator 71 = .ok (.aload_n 0, 1) := by decide +kernel
theorem dX7_commutator_72 : decode cX7_commutator 72 = .ok (.getfield 55, 3) := by decide +kernel
theorem dX7_commutator_75 : decode cX7_commutator 75 = .ok (.invokestatic 113, 3) := by decide +kernel
theorem dX7_commutator_78 : decode cX7_commutator 78 = .ok (.aload_n 0, 1) := by decide +kernel
theorem dX7_commutator_79 : decode cX7_commutator 79 = .ok (.getfield 55, 3) := by decide +kernel
theorem dX7_commutator_82 : decode cX7_commutator 82 = .ok (.iconst 1, 1) := by decide +kernel
theorem dX7_commutator_83 : decode cX7_commutator 83 = .ok (.invokestatic 117, 3) := by decide +kernel
theorem dX7_commutator_86 : decode cX7_commutator 86 = .ok (.invokestatic 121, 3) := by decide +kernel
theorem dX7_commutator_89 : decode cX7_commutator 89 = .ok (.aload_n 0, 1) := by decide +kernel
theorem dX7_commutator_90 : decode cX7_commutator 90 = .ok (.invokevirtual 75, 3) := by decide +kernel
theorem dX7_commutator_93 : decode cX7_commutator 93 = .ok (.aload_n 0, 1) := by decide +kernel
theorem dX7_commutator_94 : decode cX7_commutator 94 = .ok (.iload_n 3, 1) := by decide +kernel
theorem dX7_commutator_95 : decode cX7_commutator 95 = .ok (.invokevirtual 125, 3) := by decide +kernel
theorem dX7_commutator_98 : decode cX7_commutator 98 = .ok (.lreturn, 1) := by decide +kernel
theorem dX7_associator_0 : decode cX7_associator 0 = .ok (.iload_n 1, 1) := by decide +kernel
theorem dX7_associator_1 : decode cX7_associator 1 = .ok (.invokestatic 65, 3) := by decide +kernel
theorem dX7_associator_4 : decode cX7_associator 4 = .ok (.iload_n 2, 1) := by decide +kernel
theorem dX7_associator_5 : decode cX7_associator 5 = .ok (.invokestatic 65, 3) := by decide +kernel
theorem dX7_associator_8 : decode cX7_associator 8 = .ok (.iload_n 3, 1) := by decide +kernel
theorem dX7_associator_9 : decode cX7_associator 9 = .ok (.invokestatic 65, 3) := by decide +kernel
theorem dX7_associator_12 : decode cX7_associator 12 = .ok (.iload 4, 2) := by decide +kernel
theorem dX7_associator_14 : decode cX7_associator 14 = .ok (.invokestatic 65, 3) := by decide +kernel
theorem dX7_associator_17 : decode cX7_associator 17 = .ok (.aload_n 0, 1) := by decide +kernel
theorem dX7_associator_18 : decode cX7_associator 18 = .ok (.iload_n 1, 1) := by decide +kernel
theorem dX7_associator_19 : decode cX7_associator 19 = .ok (.iload_n 2, 1) := by decide +kernel
theorem dX7_associator_20 : decode cX7_associator 20 = .ok (.iload_n 3, 1) := by decide +kernel
theorem dX7_associator_21 : decode cX7_associator 21 = .ok (.invokevirtual 140, 3) := by decide +kernel
theorem dX7_associator_24 : decode cX7_associator 24 = .ok (.aload_n 0, 1) := by decide +kernel
theorem dX7_associator_25 : decode cX7_associator 25 = .ok (.getfield 55, 3) := by decide +kernel
theorem dX7_associator_28 : decode cX7_associator 28 = .ok (.iconst 2, 1) := by decide +kernel
theorem dX7_associator_29 : decode cX7_associator 29 = .ok (.invokestatic 117, 3) := by decide +kernel
theorem dX7_associator_32 : decode cX7_associator 32 = .ok (.invokestatic 121, 3) := by decide +kernel
theorem dX7_associator_35 : decode cX7_associator 35 = .ok (.aload_n 0, 1) := by decide +kernel
theorem dX7_associator_36 : decode cX7_associator 36 = .ok (.invokevirtual 75, 3) := by decide +kernel
theorem dX7_associator_39 : decode cX7_associator 39 = .ok (.aload_n 0, 1) := by decide +kernel
theorem dX7_associator_40 : decode cX7_associator 40 = .ok (.iload 4, 2) := by decide +kernel
theorem dX7_associator_42 : decode cX7_associator 42 = .ok (.invokevirtual 125, 3) := by decide +kernel
theorem dX7_associator_45 : decode cX7_associator 45 = .ok (.lreturn, 1) := by decide +kernel
theorem dX7_divide_0 : decode cX7_divide 0 = .ok (.iload_n 1, 1) := by decide +kernel
theorem dX7_divide_1 : decode cX7_divide 1 = .ok (.invokestatic 65, 3) := by decide +kernel
theorem dX7_divide_4 : decode cX7_divide 4 = .ok (.iload_n 2, 1) := by decide +kernel
theorem dX7_divide_5 : decode cX7_divide 5 = .ok (.invokestatic 65, 3) := by decide +kernel
theorem dX7_divide_8 : decode cX7_divide 8 = .ok (.iload_n 3, 1) := by decide +kernel
theorem dX7_divide_9 : decode cX7_divide 9 = .ok (.invokestatic 65, 3) := by decide +kernel
theorem dX7_divide_12 : decode cX7_divide 12 = .ok (.iload 4, 2) := by decide +kernel
theorem dX7_divide_14 : decode cX7_divide 14 = .ok (.invokestatic 65, 3) := by decide +kernel
theorem dX7_divide_17 : decode cX7_divide 17 = .ok (.iload_n 3, 1) := by decide +kernel
theorem dX7_divide_18 : decode cX7_divide 18 = .ok (.iload 4, 2) := by decide +kernel
theorem dX7_divide_20 : decode cX7_divide 20 = .ok (.if_icmp .ne 13, 3) := by decide +kernel
theorem dX7_divide_23 : decode cX7_divide 23 = .ok (.new 86, 3) := by decide +kernel
theorem dX7_divide_26 : decode cX7_divide 26 = .ok (.dup, 1) := by decide +kernel
theorem dX7_divide_27 : decode cX7_divide 27 = .ok (.ldc 144, 2) := by decide +kernel
theorem dX7_divide_29 : decode cX7_divide 29 = .ok (.invokespecial 90, 3) := by decide +kernel
theorem dX7_divide_32 : decode cX7_divide 32 = .ok (.athrow, 1) := by decide +kernel
theorem dX7_divide_33 : decode cX7_divide 33 = .ok (.aload_n 0, 1) := by decide +kernel
theorem dX7_divide_34 : decode cX7_divide 34 = .ok (.iload_n 1, 1) := by decide +kernel
theorem dX7_divide_35 : decode cX7_divide 35 = .ok (.iload_n 2, 1) := by decide +kernel
theorem dX7_divide_36 : decode cX7_divide 36 = .ok (.invokevirtual 146, 3) := by decide +kernel
theorem dX7_divide_39 : decode cX7_divide 39 = .ok (.aload_n 0, 1) := by decide +kernel
theorem dX7_divide_40 : decode cX7_divide 40 = .ok (.getfield 33, 3) := by decide +kernel
theorem dX7_divide_43 : decode cX7_divide 43 = .ok (.aload_n 0, 1) := by decide +kernel
theorem dX7_divide_44 : decode cX7_divide 44 = .ok (.getfield 10, 3) := by decide +kernel
theorem dX7_divide_47 : decode cX7_divide 47 = .ok (.getfield 78, 3) := by decide +kernel
theorem dX7_divide_50 : decode cX7_divide 50 = .ok (.iload_n 1, 1) := by decide +kernel
theorem dX7_divide_51 : decode cX7_divide 51 = .ok (.aaload, 1) := by decide +kernel
theorem dX7_divide_52 : decode cX7_divide 52 = .ok (.aload_n 0, 1) := by decide +kernel
theorem dX7_divide_53 : decode cX7_divide 53 = .ok (.getfield 10, 3) := by decide +kernel
theorem dX7_divide_56 : decode cX7_divide 56 = .ok (.getfield 78, 3) := by decide +kernel
theorem dX7_divide_59 : decode cX7_divide 59 = .ok (.iload_n 2, 1) := by decide +kernel
theorem dX7_divide_60 : decode cX7_divide 60 = .ok (.aaload, 1) := by decide +kernel
theorem dX7_divide_61 : decode cX7_divide 61 = .ok (.aload_n 0, 1) := by decide +kernel
theorem dX7_divide_62 : decode cX7_divide 62 = .ok (.getfield 10, 3) := by decide +kernel
theorem dX7_divide_65 : decode cX7_divide 65 = .ok (.getfield 93, 3) := by decide +kernel
theorem dX7_divide_68 : decode cX7_divide 68 = .ok (.invokevirtual 150, 3) := by decide +kernel
theorem dX7_divide_71 : decode cX7_divide 71 = .ok (.aload_n 0, 1) := by decide +kernel
theorem dX7_divide_72 : decode cX7_divide 72 = .ok (.getfield 33, 3) := by decide +kernel
theorem dX7_divide_75 : decode cX7_divide 75 = .ok (.getfield 154, 3) := by decide +kernel
theorem dX7_divide_78 : decode cX7_divide 78 = .ok (.iconst 0, 1) := by decide +kernel
theorem dX7_divide_79 : decode cX7_divide 79 = .ok (.invokestatic 117, 3) := by decide +kernel
theorem dX7_divide_82 : decode cX7_divide 82 = .ok (.invokestatic 121, 3) := by decide +kernel
theorem dX7_divide_85 : decode cX7_divide 85 = .ok (.aload_n 0, 1) := by decide +kernel
theorem dX7_divide_86 : decode cX7_divide 86 = .ok (.getfield 33, 3) := by decide +kernel
theorem dX7_divide_89 : decode cX7_divide 89 = .ok (.getfield 157, 3) := by decide +kernel
theorem dX7_divide_92 : decode cX7_divide 92 = .ok (.iconst 0, 1) := by decide +kernel
theorem dX7_divide_93 : decode cX7_divide 93 = .ok (.invokestatic 117, 3) := by decide +kernel
theorem dX7_divide_96 : decode cX7_divide 96 = .ok (.invokestatic 121, 3) := by decide +kernel
theorem dX7_divide_99 : decode cX7_divide 99 = .ok (.aload_n 0, 1) := by decide +kernel
theorem dX7_divide_100 : decode cX7_divide 100 = .ok (.invokevirtual 75, 3) := by decide +kernel
theorem dX7_divide_103 : decode cX7_divide 103 = .ok (.aload_n 0, 1) := by decide +kernel
theorem dX7_divide_104 : decode cX7_divide 104 = .ok (.getfield 10, 3) := by decide +kernel
theorem dX7_divide_107 : decode cX7_divide 107 = .ok (.dup, 1) := by decide +kernel
theorem dX7_divide_108 : decode cX7_divide 108 = .ok (.getfield 160, 3) := by decide +kernel
theorem dX7_divide_111 : decode cX7_divide 111 = .ok (.iconst 1, 1) := by decide +kernel
theorem dX7_divide_112 : decode cX7_divide 112 = .ok (.iadd, 1) := by decide +kernel
theorem dX7_divide_113 : decode cX7_divide 113 = .ok (.putfield 160, 3) := by decide +kernel
theorem dX7_divide_116 : decode cX7_divide 116 = .ok (.aload_n 0, 1) := by decide +kernel
theorem dX7_divide_117 : decode cX7_divide 117 = .ok (.getfield 33, 3) := by decide +kernel
theorem dX7_divide_120 : decode cX7_divide 120 = .ok (.getfield 154, 3) := by decide +kernel
theorem dX7_divide_123 : decode cX7_divide 123 = .ok (.aload_n 0, 1) := by decide +kernel
theorem dX7_divide_124 : decode cX7_divide 124 = .ok (.getfield 10, 3) := by decide +kernel
theorem dX7_divide_127 : decode cX7_divide 127 = .ok (.getfield 78, 3) := by decide +kernel
theorem dX7_divide_130 : decode cX7_divide 130 = .ok (.iload_n 3, 1) := by decide +kernel
theorem dX7_divide_131 : decode cX7_divide 131 = .ok (.aaload, 1) := by decide +kernel
theorem dX7_divide_132 : decode cX7_divide 132 = .ok (.invokestatic 163, 3) := by decide +kernel
theorem dX7_divide_135 : decode cX7_divide 135 = .ok (.aload_n 0, 1) := by decide +kernel
theorem dX7_divide_136 : decode cX7_divide 136 = .ok (.getfield 33, 3) := by decide +kernel
theorem dX7_divide_139 : decode cX7_divide 139 = .ok (.getfield 157, 3) := by decide +kernel
theorem dX7_divide_142 : decode cX7_divide 142 = .ok (.aload_n 0, 1) := by decide +kernel
theorem dX7_divide_143 : decode cX7_divide 143 = .ok (.getfield 10, 3) := by decide +kernel
theorem dX7_divide_146 : decode cX7_divide 146 = .ok (.getfield 78, 3) := by decide +kernel
theorem dX7_divide_149 : decode cX7_divide 149 = .ok (.iload 4, 2) := by decide +kernel
theorem dX7_divide_151 : decode cX7_divide 151 = .ok (.aaload, 1) := by decide +kernel
theorem dX7_divide_152 : decode cX7_divide 152 = .ok (.invokestatic 163, 3) := by decide +kernel
theorem dX7_divide_155 : decode cX7_divide 155 = .ok (.aload_n 0, 1) := by decide +kernel
theorem dX7_divide_156 : decode cX7_divide 156 = .ok (.getfield 33, 3) := by decide +kernel
theorem dX7_divide_159 : decode cX7_divide 159 = .ok (.getfield 157, 3) := by decide +kernel
theorem dX7_divide_162 : decode cX7_divide 162 = .ok (.invokestatic 82, 3) := by decide +kernel
theorem dX7_divide_165 : decode cX7_divide 165 = .ok (.lreturn, 1) := by decide +kernel
theorem dX7_coordinate_0 : decode cX7_coordinate 0 = .ok (.iload_n 1, 1) := by decide +kernel
theorem dX7_coordinate_1 : decode cX7_coordinate 1 = .ok (.invokestatic 65, 3) := by decide +kernel
theorem dX7_coordinate_4 : decode cX7_coordinate 4 = .ok (.iload_n 2, 1) := by decide +kernel
theorem dX7_coordinate_5 : decode cX7_coordinate 5 = .ok (.invokestatic 69, 3) := by decide +kernel
theorem dX7_coordinate_8 : decode cX7_coordinate 8 = .ok (.aload_n 0, 1) := by decide +kernel
theorem dX7_coordinate_9 : decode cX7_coordinate 9 = .ok (.getfield 10, 3) := by decide +kernel
theorem dX7_coordinate_12 : decode cX7_coordinate 12 = .ok (.getfield 78, 3) := by decide +kernel
theorem dX7_coordinate_15 : decode cX7_coordinate 15 = .ok (.iload_n 1, 1) := by decide +kernel
theorem dX7_coordinate_16 : decode cX7_coordinate 16 = .ok (.aaload, 1) := by decide +kernel
theorem dX7_coordinate_17 : decode cX7_coordinate 17 = .ok (.iload_n 2, 1) := by decide +kernel
theorem dX7_coordinate_18 : decode cX7_coordinate 18 = .ok (.laload, 1) := by decide +kernel
theorem dX7_coordinate_19 : decode cX7_coordinate 19 = .ok (.l2i, 1) := by decide +kernel
theorem dX7_coordinate_20 : decode cX7_coordinate 20 = .ok (.ireturn, 1) := by decide +kernel
theorem dX7_norm_0 : decode cX7_norm 0 = .ok (.iload_n 1, 1) := by decide +kernel
theorem dX7_norm_1 : decode cX7_norm 1 = .ok (.invokestatic 65, 3) := by decide +kernel
theorem dX7_norm_4 : decode cX7_norm 4 = .ok (.aload_n 0, 1) := by decide +kernel
theorem dX7_norm_5 : decode cX7_norm 5 = .ok (.getfield 10, 3) := by decide +kernel
theorem dX7_norm_8 : decode cX7_norm 8 = .ok (.getfield 78, 3) := by decide +kernel
theorem dX7_norm_11 : decode cX7_norm 11 = .ok (.iload_n 1, 1) := by decide +kernel
theorem dX7_norm_12 : decode cX7_norm 12 = .ok (.aaload, 1) := by decide +kernel
theorem dX7_norm_13 : decode cX7_norm 13 = .ok (.invokestatic 82, 3) := by decide +kernel
theorem dX7_norm_16 : decode cX7_norm 16 = .ok (.lreturn, 1) := by decide +kernel
theorem dX7_dot_0 : decode cX7_dot 0 = .ok (.iload_n 1, 1) := by decide +kernel
theorem dX7_dot_1 : decode cX7_dot 1 = .ok (.invokestatic 65, 3) := by decide +kernel
theorem dX7_dot_4 : decode cX7_dot 4 = .ok (.iload_n 2, 1) := by decide +kernel
theorem dX7_dot_5 : decode cX7_dot 5 = .ok (.invokestatic 65, 3) := by decide +kernel
theorem dX7_dot_8 : decode cX7_dot 8 = .ok (.aload_n 0, 1) := by decide +kernel
theorem dX7_dot_9 : decode cX7_dot 9 = .ok (.getfield 10, 3) := by decide +kernel
theorem dX7_dot_12 : decode cX7_dot 12 = .ok (.getfield 78, 3) := by decide +kernel
theorem dX7_dot_15 : decode cX7_dot 15 = .ok (.iload_n 1, 1) := by decide +kernel
theorem dX7_dot_16 : decode cX7_dot 16 = .ok (.aaload, 1) := by decide +kernel
theorem dX7_dot_17 : decode cX7_dot 17 = .ok (.aload_n 0, 1) := by decide +kernel
theorem dX7_dot_18 : decode cX7_dot 18 = .ok (.getfield 10, 3) := by decide +kernel
theorem dX7_dot_21 : decode cX7_dot 21 = .ok (.getfield 78, 3) := by decide +kernel
theorem dX7_dot_24 : decode cX7_dot 24 = .ok (.iload_n 2, 1) := by decide +kernel
theorem dX7_dot_25 : decode cX7_dot 25 = .ok (.aaload, 1) := by decide +kernel
theorem dX7_dot_26 : decode cX7_dot 26 = .ok (.invokestatic 167, 3) := by decide +kernel
theorem dX7_dot_29 : decode cX7_dot 29 = .ok (.lreturn, 1) := by decide +kernel
theorem dX7_ordersOf_0 : decode cX7_ordersOf 0 = .ok (.iload_n 1, 1) := by decide +kernel
theorem dX7_ordersOf_1 : decode cX7_ordersOf 1 = .ok (.invokestatic 65, 3) := by decide +kernel
theorem dX7_ordersOf_4 : decode cX7_ordersOf 4 = .ok (.aload_n 0, 1) := by decide +kernel
theorem dX7_ordersOf_5 : decode cX7_ordersOf 5 = .ok (.getfield 10, 3) := by decide +kernel
theorem dX7_ordersOf_8 : decode cX7_ordersOf 8 = .ok (.getfield 78, 3) := by decide +kernel
theorem dX7_ordersOf_11 : decode cX7_ordersOf 11 = .ok (.iload_n 1, 1) := by decide +kernel
theorem dX7_ordersOf_12 : decode cX7_ordersOf 12 = .ok (.aaload, 1) := by decide +kernel
theorem dX7_ordersOf_13 : decode cX7_ordersOf 13 = .ok (.invokestatic 170, 3) := by decide +kernel
theorem dX7_ordersOf_16 : decode cX7_ordersOf 16 = .ok (.istore_n 2, 1) := by decide +kernel
theorem dX7_ordersOf_17 : decode cX7_ordersOf 17 = .ok (.iconst 0, 1) := by decide +kernel
theorem dX7_ordersOf_18 : decode cX7_ordersOf 18 = .ok (.istore_n 3, 1) := by decide +kernel
theorem dX7_ordersOf_19 : decode cX7_ordersOf 19 = .ok (.iconst 0, 1) := by decide +kernel
theorem dX7_ordersOf_20 : decode cX7_ordersOf 20 = .ok (.istore 4, 2) := by decide +kernel
theorem dX7_ordersOf_22 : decode cX7_ordersOf 22 = .ok (.iload 4, 2) := by decide +kernel
theorem dX7_ordersOf_24 : decode cX7_ordersOf 24 = .ok (.bipush 8, 2) := by decide +kernel
theorem dX7_ordersOf_26 : decode cX7_ordersOf 26 = .ok (.if_icmp .ge 25, 3) := by decide +kernel
theorem dX7_ordersOf_29 : decode cX7_ordersOf 29 = .ok (.iload 4, 2) := by decide +kernel
theorem dX7_ordersOf_31 : decode cX7_ordersOf 31 = .ok (.iload_n 2, 1) := by decide +kernel
theorem dX7_ordersOf_32 : decode cX7_ordersOf 32 = .ok (.invokestatic 174, 3) := by decide +kernel
theorem dX7_ordersOf_35 : decode cX7_ordersOf 35 = .ok (.ifCond .eq 10, 3) := by decide +kernel
theorem dX7_ordersOf_38 : decode cX7_ordersOf 38 = .ok (.iload_n 3, 1) := by decide +kernel
theorem dX7_ordersOf_39 : decode cX7_ordersOf 39 = .ok (.iconst 1, 1) := by decide +kernel
theorem dX7_ordersOf_40 : decode cX7_ordersOf 40 = .ok (.iload 4, 2) := by decide +kernel
theorem dX7_ordersOf_42 : decode cX7_ordersOf 42 = .ok (.ishl, 1) := by decide +kernel
theorem dX7_ordersOf_43 : decode cX7_ordersOf 43 = .ok (.ior, 1) := by decide +kernel
theorem dX7_ordersOf_44 : decode cX7_ordersOf 44 = .ok (.istore_n 3, 1) := by decide +kernel
theorem dX7_ordersOf_45 : decode cX7_ordersOf 45 = .ok (.iinc 4 1, 3) := by decide +kernel
theorem dX7_ordersOf_48 : decode cX7_ordersOf 48 = .ok (.goto (-26), 3) := by decide +kernel
theorem dX7_ordersOf_51 : decode cX7_ordersOf 51 = .ok (.iload_n 3, 1) := by decide +kernel
theorem dX7_ordersOf_52 : decode cX7_ordersOf 52 = .ok (.ireturn, 1) := by decide +kernel
theorem dX7_left_0 : decode cX7_left 0 = .ok (.iload_n 1, 1) := by decide +kernel
theorem dX7_left_1 : decode cX7_left 1 = .ok (.invokestatic 65, 3) := by decide +kernel
theorem dX7_left_4 : decode cX7_left 4 = .ok (.iload_n 2, 1) := by decide +kernel
theorem dX7_left_5 : decode cX7_left 5 = .ok (.invokestatic 69, 3) := by decide +kernel
theorem dX7_left_8 : decode cX7_left 8 = .ok (.iload_n 3, 1) := by decide +kernel
theorem dX7_left_9 : decode cX7_left 9 = .ok (.invokestatic 69, 3) := by decide +kernel
theorem dX7_left_12 : decode cX7_left 12 = .ok (.aload_n 0, 1) := by decide +kernel
theorem dX7_left_13 : decode cX7_left 13 = .ok (.getfield 59, 3) := by decide +kernel
theorem dX7_left_16 : decode cX7_left 16 = .ok (.invokestatic 180, 3) := by decide +kernel
theorem dX7_left_19 : decode cX7_left 19 = .ok (.aload_n 0, 1) := by decide +kernel
theorem dX7_left_20 : decode cX7_left 20 = .ok (.getfield 59, 3) := by decide +kernel
theorem dX7_left_23 : decode cX7_left 23 = .ok (.iload_n 3, 1) := by decide +kernel
theorem dX7_left_24 : decode cX7_left 24 = .ok (.lconst 1, 1) := by decide +kernel
theorem dX7_left_25 : decode cX7_left 25 = .ok (.lastore, 1) := by decide +kernel
theorem dX7_left_26 : decode cX7_left 26 = .ok (.aload_n 0, 1) := by decide +kernel
theorem dX7_left_27 : decode cX7_left 27 = .ok (.getfield 10, 3) := by decide +kernel
theorem dX7_left_30 : decode cX7_left 30 = .ok (.getfield 78, 3) := by decide +kernel
theorem dX7_left_33 : decode cX7_left 33 = .ok (.iload_n 1, 1) := by decide +kernel
theorem dX7_left_34 : decode cX7_left 34 = .ok (.aaload, 1) := by decide +kernel
theorem dX7_left_35 : decode cX7_left 35 = .ok (.aload_n 0, 1) := by decide +kernel
theorem dX7_left_36 : decode cX7_left 36 = .ok (.getfield 59, 3) := by decide +kernel
theorem dX7_left_39 : decode cX7_left 39 = .ok (.aload_n 0, 1) := by decide +kernel
theorem dX7_left_40 : decode cX7_left 40 = .ok (.getfield 55, 3) := by decide +kernel
theorem dX7_left_43 : decode cX7_left 43 = .ok (.invokestatic 129, 3) := by decide +kernel
theorem dX7_left_46 : decode cX7_left 46 = .ok (.aload_n 0, 1) := by decide +kernel
theorem dX7_left_47 : decode cX7_left 47 = .ok (.getfield 55, 3) := by decide +kernel
theorem dX7_left_50 : decode cX7_left 50 = .ok (.iload_n 2, 1) := by decide +kernel
theorem dX7_left_51 : decode cX7_left 51 = .ok (.laload, 1) := by decide +kernel
theorem dX7_left_52 : decode cX7_left 52 = .ok (.l2i, 1) := by decide +kernel
theorem dX7_left_53 : decode cX7_left 53 = .ok (.ireturn, 1) := by decide +kernel
theorem dX7_unitOf_0 : decode cX7_unitOf 0 = .ok (.iload_n 1, 1) := by decide +kernel
theorem dX7_unitOf_1 : decode cX7_unitOf 1 = .ok (.invokestatic 65, 3) := by decide +kernel
theorem dX7_unitOf_4 : decode cX7_unitOf 4 = .ok (.aload_n 0, 1) := by decide +kernel
theorem dX7_unitOf_5 : decode cX7_unitOf 5 = .ok (.invokevirtual 105, 3) := by decide +kernel
theorem dX7_unitOf_8 : decode cX7_unitOf 8 = .ok (.aload_n 0, 1) := by decide +kernel
theorem dX7_unitOf_9 : decode cX7_unitOf 9 = .ok (.getfield 10, 3) := by decide +kernel
theorem dX7_unitOf_12 : decode cX7_unitOf 12 = .ok (.getfield 78, 3) := by decide +kernel
theorem dX7_unitOf_15 : decode cX7_unitOf 15 = .ok (.iload_n 1, 1) := by decide +kernel
theorem dX7_unitOf_16 : decode cX7_unitOf 16 = .ok (.aaload, 1) := by decide +kernel
theorem dX7_unitOf_17 : decode cX7_unitOf 17 = .ok (.invokevirtual 183, 3) := by decide +kernel
theorem dX7_unitOf_20 : decode cX7_unitOf 20 = .ok (.ireturn, 1) := by decide +kernel
theorem dX7_value_0 : decode cX7_value 0 = .ok (.iload_n 1, 1) := by decide +kernel
theorem dX7_value_1 : decode cX7_value 1 = .ok (.tableswitch 84 0 5 #[39, 47, 58, 66, 74, 79], 39) := by decide +kernel
theorem dX7_value_40 : decode cX7_value 40 = .ok (.aload_n 0, 1) := by decide +kernel
theorem dX7_value_41 : decode cX7_value 41 = .ok (.getfield 10, 3) := by decide +kernel
theorem dX7_value_44 : decode cX7_value 44 = .ok (.getfield 93, 3) := by decide +kernel
theorem dX7_value_47 : decode cX7_value 47 = .ok (.ireturn, 1) := by decide +kernel
theorem dX7_value_48 : decode cX7_value 48 = .ok (.aload_n 0, 1) := by decide +kernel
theorem dX7_value_49 : decode cX7_value 49 = .ok (.getfield 10, 3) := by decide +kernel
theorem dX7_value_52 : decode cX7_value 52 = .ok (.getfield 93, 3) := by decide +kernel
theorem dX7_value_55 : decode cX7_value 55 = .ok (.invokestatic 96, 3) := by decide +kernel
theorem dX7_value_58 : decode cX7_value 58 = .ok (.ireturn, 1) := by decide +kernel
theorem dX7_value_59 : decode cX7_value 59 = .ok (.aload_n 0, 1) := by decide +kernel
theorem dX7_value_60 : decode cX7_value 60 = .ok (.getfield 10, 3) := by decide +kernel
theorem dX7_value_63 : decode cX7_value 63 = .ok (.getfield 133, 3) := by decide +kernel
theorem dX7_value_66 : decode cX7_value 66 = .ok (.ireturn, 1) := by decide +kernel
theorem dX7_value_67 : decode cX7_value 67 = .ok (.aload_n 0, 1) := by decide +kernel
theorem dX7_value_68 : decode cX7_value 68 = .ok (.getfield 10, 3) := by decide +kernel
theorem dX7_value_71 : decode cX7_value 71 = .ok (.getfield 160, 3) := by decide +kernel
theorem dX7_value_74 : decode cX7_value 74 = .ok (.ireturn, 1) := by decide +kernel
theorem dX7_value_75 : decode cX7_value 75 = .ok (.aload_n 0, 1) := by decide +kernel
theorem dX7_value_76 : decode cX7_value 76 = .ok (.invokevirtual 186, 3) := by decide +kernel
theorem dX7_value_79 : decode cX7_value 79 = .ok (.ireturn, 1) := by decide +kernel
theorem dX7_value_80 : decode cX7_value 80 = .ok (.aload_n 0, 1) := by decide +kernel
theorem dX7_value_81 : decode cX7_value 81 = .ok (.invokevirtual 190, 3) := by decide +kernel
theorem dX7_value_84 : decode cX7_value 84 = .ok (.ireturn, 1) := by decide +kernel
theorem dX7_value_85 : decode cX7_value 85 = .ok (.new 86, 3) := by decide +kernel
theorem dX7_value_88 : decode cX7_value 88 = .ok (.dup, 1) := by decide +kernel
theorem dX7_value_89 : decode cX7_value 89 = .ok (.ldc 193, 2) := by decide +kernel
theorem dX7_value_91 : decode cX7_value 91 = .ok (.invokespecial 90, 3) := by decide +kernel
theorem dX7_value_94 : decode cX7_value 94 = .ok (.athrow, 1) := by decide +kernel
theorem dX7_dimension_0 : decode cX7_dimension 0 = .ok (.iload_n 1, 1) := by decide +kernel
theorem dX7_dimension_1 : decode cX7_dimension 1 = .ok (.iconst 1, 1) := by decide +kernel
theorem dX7_dimension_2 : decode cX7_dimension 2 = .ok (.if_icmp .lt 10, 3) := by decide +kernel
theorem dX7_dimension_5 : decode cX7_dimension 5 = .ok (.iload_n 1, 1) := by decide +kernel
theorem dX7_dimension_6 : decode cX7_dimension 6 = .ok (.sipush 255, 3) := by decide +kernel
theorem dX7_dimension_9 : decode cX7_dimension 9 = .ok (.if_icmp .le 13, 3) := by decide +kernel
theorem dX7_dimension_12 : decode cX7_dimension 12 = .ok (.new 86, 3) := by decide +kernel
theorem dX7_dimension_15 : decode cX7_dimension 15 = .ok (.dup, 1) := by decide +kernel
theorem dX7_dimension_16 : decode cX7_dimension 16 = .ok (.ldc 195, 2) := by decide +kernel
theorem dX7_dimension_18 : decode cX7_dimension 18 = .ok (.invokespecial 90, 3) := by decide +kernel
theorem dX7_dimension_21 : decode cX7_dimension 21 = .ok (.athrow, 1) := by decide +kernel
theorem dX7_dimension_22 : decode cX7_dimension 22 = .ok (.iconst (-1), 1) := by decide +kernel
theorem dX7_dimension_23 : decode cX7_dimension 23 = .ok (.istore_n 2, 1) := by decide +kernel
theorem dX7_dimension_24 : decode cX7_dimension 24 = .ok (.iconst (-1), 1) := by decide +kernel
theorem dX7_dimension_25 : decode cX7_dimension 25 = .ok (.istore_n 3, 1) := by decide +kernel
theorem dX7_dimension_26 : decode cX7_dimension 26 = .ok (.iconst 0, 1) := by decide +kernel
theorem dX7_dimension_27 : decode cX7_dimension 27 = .ok (.istore 4, 2) := by decide +kernel
theorem dX7_dimension_29 : decode cX7_dimension 29 = .ok (.iload 4, 2) := by decide +kernel
theorem dX7_dimension_31 : decode cX7_dimension 31 = .ok (.bipush 8, 2) := by decide +kernel
theorem dX7_dimension_33 : decode cX7_dimension 33 = .ok (.if_icmp .ge 106, 3) := by decide +kernel
theorem dX7_dimension_36 : decode cX7_dimension 36 = .ok (.iload_n 1, 1) := by decide +kernel
theorem dX7_dimension_37 : decode cX7_dimension 37 = .ok (.iload 4, 2) := by decide +kernel
theorem dX7_dimension_39 : decode cX7_dimension 39 = .ok (.ishr, 1) := by decide +kernel
theorem dX7_dimension_40 : decode cX7_dimension 40 = .ok (.iconst 1, 1) := by decide +kernel
theorem dX7_dimension_41 : decode cX7_dimension 41 = .ok (.iand, 1) := by decide +kernel
theorem dX7_dimension_42 : decode cX7_dimension 42 = .ok (.ifCond .ne 6, 3) := by decide +kernel
theorem dX7_dimension_45 : decode cX7_dimension 45 = .ok (.goto 88, 3) := by decide +kernel
theorem dX7_dimension_48 : decode cX7_dimension 48 = .ok (.iload_n 2, 1) := by decide +kernel
theorem dX7_dimension_49 : decode cX7_dimension 49 = .ok (.iconst (-1), 1) := by decide +kernel
theorem dX7_dimension_50 : decode cX7_dimension 50 = .ok (.if_icmp .ne 29, 3) := by decide +kernel
theorem dX7_dimension_53 : decode cX7_dimension 53 = .ok (.aload_n 0, 1) := by decide +kernel
theorem dX7_dimension_54 : decode cX7_dimension 54 = .ok (.getfield 10, 3) := by decide +kernel
theorem dX7_dimension_57 : decode cX7_dimension 57 = .ok (.getfield 78, 3) := by decide +kernel
theorem dX7_dimension_60 : decode cX7_dimension 60 = .ok (.iload 4, 2) := by decide +kernel
theorem dX7_dimension_62 : decode cX7_dimension 62 = .ok (.aaload, 1) := by decide +kernel
theorem dX7_dimension_63 : decode cX7_dimension 63 = .ok (.invokestatic 197, 3) := by decide +kernel
theorem dX7_dimension_66 : decode cX7_dimension 66 = .ok (.ifCond .eq 7, 3) := by decide +kernel
theorem dX7_dimension_69 : decode cX7_dimension 69 = .ok (.iconst (-1), 1) := by decide +kernel
theorem dX7_dimension_70 : decode cX7_dimension 70 = .ok (.goto 5, 3) := by decide +kernel
theorem dX7_dimension_73 : decode cX7_dimension 73 = .ok (.iload 4, 2) := by decide +kernel
theorem dX7_dimension_75 : decode cX7_dimension 75 = .ok (.istore_n 2, 1) := by decide +kernel
theorem dX7_dimension_76 : decode cX7_dimension 76 = .ok (.goto 57, 3) := by decide +kernel
theorem dX7_dimension_79 : decode cX7_dimension 79 = .ok (.iload_n 3, 1) := by decide +kernel
theorem dX7_dimension_80 : decode cX7_dimension 80 = .ok (.iconst (-1), 1) := by decide +kernel
theorem dX7_dimension_81 : decode cX7_dimension 81 = .ok (.if_icmp .ne 38, 3) := by decide +kernel
theorem dX7_dimension_84 : decode cX7_dimension 84 = .ok (.aload_n 0, 1) := by decide +kernel
theorem dX7_dimension_85 : decode cX7_dimension 85 = .ok (.getfield 10, 3) := by decide +kernel
theorem dX7_dimension_88 : decode cX7_dimension 88 = .ok (.getfield 78, 3) := by decide +kernel
theorem dX7_dimension_91 : decode cX7_dimension 91 = .ok (.iload_n 2, 1) := by decide +kernel
theorem dX7_dimension_92 : decode cX7_dimension 92 = .ok (.aaload, 1) := by decide +kernel
theorem dX7_dimension_93 : decode cX7_dimension 93 = .ok (.aload_n 0, 1) := by decide +kernel
theorem dX7_dimension_94 : decode cX7_dimension 94 = .ok (.getfield 10, 3) := by decide +kernel
theorem dX7_dimension_97 : decode cX7_dimension 97 = .ok (.getfield 78, 3) := by decide +kernel
theorem dX7_dimension_100 : decode cX7_dimension 100 = .ok (.iload 4, 2) := by decide +kernel
theorem dX7_dimension_102 : decode cX7_dimension 102 = .ok (.aaload, 1) := by decide +kernel
theorem dX7_dimension_103 : decode cX7_dimension 103 = .ok (.invokestatic 201, 3) := by decide +kernel
theorem dX7_dimension_106 : decode cX7_dimension 106 = .ok (.ifCond .eq 7, 3) := by decide +kernel
theorem dX7_dimension_109 : decode cX7_dimension 109 = .ok (.iconst (-1), 1) := by decide +kernel
theorem dX7_dimension_110 : decode cX7_dimension 110 = .ok (.goto 5, 3) := by decide +kernel
theorem dX7_dimension_113 : decode cX7_dimension 113 = .ok (.iload 4, 2) := by decide +kernel
theorem dX7_dimension_115 : decode cX7_dimension 115 = .ok (.istore_n 3, 1) := by decide +kernel
theorem dX7_dimension_116 : decode cX7_dimension 116 = .ok (.goto 17, 3) := by decide +kernel
theorem dX7_dimension_119 : decode cX7_dimension 119 = .ok (.aload_n 0, 1) := by decide +kernel
theorem dX7_dimension_120 : decode cX7_dimension 120 = .ok (.iload_n 2, 1) := by decide +kernel
theorem dX7_dimension_121 : decode cX7_dimension 121 = .ok (.iload_n 3, 1) := by decide +kernel
theorem dX7_dimension_122 : decode cX7_dimension 122 = .ok (.iload 4, 2) := by decide +kernel
theorem dX7_dimension_124 : decode cX7_dimension 124 = .ok (.invokevirtual 205, 3) := by decide +kernel
theorem dX7_dimension_127 : decode cX7_dimension 127 = .ok (.ifCond .ne 6, 3) := by decide +kernel
theorem dX7_dimension_130 : decode cX7_dimension 130 = .ok (.bipush 8, 2) := by decide +kernel
theorem dX7_dimension_132 : decode cX7_dimension 132 = .ok (.ireturn, 1) := by decide +kernel
theorem dX7_dimension_133 : decode cX7_dimension 133 = .ok (.iinc 4 1, 3) := by decide +kernel
theorem dX7_dimension_136 : decode cX7_dimension 136 = .ok (.goto (-107), 3) := by decide +kernel
theorem dX7_dimension_139 : decode cX7_dimension 139 = .ok (.iload_n 2, 1) := by decide +kernel
theorem dX7_dimension_140 : decode cX7_dimension 140 = .ok (.iconst (-1), 1) := by decide +kernel
theorem dX7_dimension_141 : decode cX7_dimension 141 = .ok (.if_icmp .ne 5, 3) := by decide +kernel
theorem dX7_dimension_144 : decode cX7_dimension 144 = .ok (.iconst 1, 1) := by decide +kernel
theorem dX7_dimension_145 : decode cX7_dimension 145 = .ok (.ireturn, 1) := by decide +kernel
theorem dX7_dimension_146 : decode cX7_dimension 146 = .ok (.iload_n 3, 1) := by decide +kernel
theorem dX7_dimension_147 : decode cX7_dimension 147 = .ok (.iconst (-1), 1) := by decide +kernel
theorem dX7_dimension_148 : decode cX7_dimension 148 = .ok (.if_icmp .ne 7, 3) := by decide +kernel
theorem dX7_dimension_151 : decode cX7_dimension 151 = .ok (.iconst 2, 1) := by decide +kernel
theorem dX7_dimension_152 : decode cX7_dimension 152 = .ok (.goto 4, 3) := by decide +kernel
theorem dX7_dimension_155 : decode cX7_dimension 155 = .ok (.iconst 4, 1) := by decide +kernel
theorem dX7_dimension_156 : decode cX7_dimension 156 = .ok (.ireturn, 1) := by decide +kernel
theorem dX7_commute_0 : decode cX7_commute 0 = .ok (.iload_n 1, 1) := by decide +kernel
theorem dX7_commute_1 : decode cX7_commute 1 = .ok (.invokestatic 65, 3) := by decide +kernel
theorem dX7_commute_4 : decode cX7_commute 4 = .ok (.iload_n 2, 1) := by decide +kernel
theorem dX7_commute_5 : decode cX7_commute 5 = .ok (.invokestatic 65, 3) := by decide +kernel
theorem dX7_commute_8 : decode cX7_commute 8 = .ok (.aload_n 0, 1) := by decide +kernel
theorem dX7_commute_9 : decode cX7_commute 9 = .ok (.getfield 10, 3) := by decide +kernel
theorem dX7_commute_12 : decode cX7_commute 12 = .ok (.getfield 78, 3) := by decide +kernel
theorem dX7_commute_15 : decode cX7_commute 15 = .ok (.iload_n 1, 1) := by decide +kernel
theorem dX7_commute_16 : decode cX7_commute 16 = .ok (.aaload, 1) := by decide +kernel
theorem dX7_commute_17 : decode cX7_commute 17 = .ok (.aload_n 0, 1) := by decide +kernel
theorem dX7_commute_18 : decode cX7_commute 18 = .ok (.getfield 10, 3) := by decide +kernel
theorem dX7_commute_21 : decode cX7_commute 21 = .ok (.getfield 78, 3) := by decide +kernel
theorem dX7_commute_24 : decode cX7_commute 24 = .ok (.iload_n 2, 1) := by decide +kernel
theorem dX7_commute_25 : decode cX7_commute 25 = .ok (.aaload, 1) := by decide +kernel
theorem dX7_commute_26 : decode cX7_commute 26 = .ok (.invokestatic 201, 3) := by decide +kernel
theorem dX7_commute_29 : decode cX7_commute 29 = .ok (.ireturn, 1) := by decide +kernel
theorem dX7_associate_0 : decode cX7_associate 0 = .ok (.iload_n 1, 1) := by decide +kernel
theorem dX7_associate_1 : decode cX7_associate 1 = .ok (.invokestatic 65, 3) := by decide +kernel
theorem dX7_associate_4 : decode cX7_associate 4 = .ok (.iload_n 2, 1) := by decide +kernel
theorem dX7_associate_5 : decode cX7_associate 5 = .ok (.invokestatic 65, 3) := by decide +kernel
theorem dX7_associate_8 : decode cX7_associate 8 = .ok (.iload_n 3, 1) := by decide +kernel
theorem dX7_associate_9 : decode cX7_associate 9 = .ok (.invokestatic 65, 3) := by decide +kernel
theorem dX7_associate_12 : decode cX7_associate 12 = .ok (.aload_n 0, 1) := by decide +kernel
theorem dX7_associate_13 : decode cX7_associate 13 = .ok (.iload_n 1, 1) := by decide +kernel
theorem dX7_associate_14 : decode cX7_associate 14 = .ok (.iload_n 2, 1) := by decide +kernel
theorem dX7_associate_15 : decode cX7_associate 15 = .ok (.iload_n 3, 1) := by decide +kernel
theorem dX7_associate_16 : decode cX7_associate 16 = .ok (.invokevirtual 205, 3) := by decide +kernel
theorem dX7_associate_19 : decode cX7_associate 19 = .ok (.ireturn, 1) := by decide +kernel
theorem dX7_elements_0 : decode cX7_elements 0 = .ok (.iload_n 1, 1) := by decide +kernel
theorem dX7_elements_1 : decode cX7_elements 1 = .ok (.ifCond .lt 10, 3) := by decide +kernel
theorem dX7_elements_4 : decode cX7_elements 4 = .ok (.iload_n 1, 1) := by decide +kernel
theorem dX7_elements_5 : decode cX7_elements 5 = .ok (.sipush 1000, 3) := by decide +kernel
theorem dX7_elements_8 : decode cX7_elements 8 = .ok (.if_icmp .le 13, 3) := by decide +kernel
theorem dX7_elements_11 : decode cX7_elements 11 = .ok (.new 86, 3) := by decide +kernel
theorem dX7_elements_14 : decode cX7_elements 14 = .ok (.dup, 1) := by decide +kernel
theorem dX7_elements_15 : decode cX7_elements 15 = .ok (.ldc 209, 2) := by decide +kernel
theorem dX7_elements_17 : decode cX7_elements 17 = .ok (.invokespecial 90, 3) := by decide +kernel
theorem dX7_elements_20 : decode cX7_elements 20 = .ok (.athrow, 1) := by decide +kernel
theorem dX7_elements_21 : decode cX7_elements 21 = .ok (.aload_n 0, 1) := by decide +kernel
theorem dX7_elements_22 : decode cX7_elements 22 = .ok (.getfield 10, 3) := by decide +kernel
theorem dX7_elements_25 : decode cX7_elements 25 = .ok (.getfield 93, 3) := by decide +kernel
theorem dX7_elements_28 : decode cX7_elements 28 = .ok (.iload_n 1, 1) := by decide +kernel
theorem dX7_elements_29 : decode cX7_elements 29 = .ok (.invokestatic 211, 3) := by decide +kernel
theorem dX7_elements_32 : decode cX7_elements 32 = .ok (.lreturn, 1) := by decide +kernel
theorem dX7_steps_0 : decode cX7_steps 0 = .ok (.iload_n 1, 1) := by decide +kernel
theorem dX7_steps_1 : decode cX7_steps 1 = .ok (.invokestatic 65, 3) := by decide +kernel
theorem dX7_steps_4 : decode cX7_steps 4 = .ok (.iload_n 2, 1) := by decide +kernel
theorem dX7_steps_5 : decode cX7_steps 5 = .ok (.invokestatic 65, 3) := by decide +kernel
theorem dX7_steps_8 : decode cX7_steps 8 = .ok (.aload_n 0, 1) := by decide +kernel
theorem dX7_steps_9 : decode cX7_steps 9 = .ok (.iload_n 1, 1) := by decide +kernel
theorem dX7_steps_10 : decode cX7_steps 10 = .ok (.iload_n 2, 1) := by decide +kernel
theorem dX7_steps_11 : decode cX7_steps 11 = .ok (.invokevirtual 146, 3) := by decide +kernel
theorem dX7_steps_14 : decode cX7_steps 14 = .ok (.aload_n 0, 1) := by decide +kernel
theorem dX7_steps_15 : decode cX7_steps 15 = .ok (.getfield 33, 3) := by decide +kernel
theorem dX7_steps_18 : decode cX7_steps 18 = .ok (.aload_n 0, 1) := by decide +kernel
theorem dX7_steps_19 : decode cX7_steps 19 = .ok (.getfield 10, 3) := by decide +kernel
theorem dX7_steps_22 : decode cX7_steps 22 = .ok (.getfield 78, 3) := by decide +kernel
theorem dX7_steps_25 : decode cX7_steps 25 = .ok (.iload_n 1, 1) := by decide +kernel
theorem dX7_steps_26 : decode cX7_steps 26 = .ok (.aaload, 1) := by decide +kernel
theorem dX7_steps_27 : decode cX7_steps 27 = .ok (.aload_n 0, 1) := by decide +kernel
theorem dX7_steps_28 : decode cX7_steps 28 = .ok (.getfield 10, 3) := by decide +kernel
theorem dX7_steps_31 : decode cX7_steps 31 = .ok (.getfield 78, 3) := by decide +kernel
theorem dX7_steps_34 : decode cX7_steps 34 = .ok (.iload_n 2, 1) := by decide +kernel
theorem dX7_steps_35 : decode cX7_steps 35 = .ok (.aaload, 1) := by decide +kernel
theorem dX7_steps_36 : decode cX7_steps 36 = .ok (.aload_n 0, 1) := by decide +kernel
theorem dX7_steps_37 : decode cX7_steps 37 = .ok (.getfield 10, 3) := by decide +kernel
theorem dX7_steps_40 : decode cX7_steps 40 = .ok (.getfield 93, 3) := by decide +kernel
theorem dX7_steps_43 : decode cX7_steps 43 = .ok (.bipush 40, 2) := by decide +kernel
theorem dX7_steps_45 : decode cX7_steps 45 = .ok (.invokevirtual 215, 3) := by decide +kernel
theorem dX7_steps_48 : decode cX7_steps 48 = .ok (.ireturn, 1) := by decide +kernel
theorem dX7_lastNorm_0 : decode cX7_lastNorm 0 = .ok (.iload_n 1, 1) := by decide +kernel
theorem dX7_lastNorm_1 : decode cX7_lastNorm 1 = .ok (.invokestatic 65, 3) := by decide +kernel
theorem dX7_lastNorm_4 : decode cX7_lastNorm 4 = .ok (.iload_n 2, 1) := by decide +kernel
theorem dX7_lastNorm_5 : decode cX7_lastNorm 5 = .ok (.invokestatic 65, 3) := by decide +kernel
theorem dX7_lastNorm_8 : decode cX7_lastNorm 8 = .ok (.aload_n 0, 1) := by decide +kernel
theorem dX7_lastNorm_9 : decode cX7_lastNorm 9 = .ok (.iload_n 1, 1) := by decide +kernel
theorem dX7_lastNorm_10 : decode cX7_lastNorm 10 = .ok (.iload_n 2, 1) := by decide +kernel
theorem dX7_lastNorm_11 : decode cX7_lastNorm 11 = .ok (.invokevirtual 146, 3) := by decide +kernel
theorem dX7_lastNorm_14 : decode cX7_lastNorm 14 = .ok (.aload_n 0, 1) := by decide +kernel
theorem dX7_lastNorm_15 : decode cX7_lastNorm 15 = .ok (.getfield 33, 3) := by decide +kernel
theorem dX7_lastNorm_18 : decode cX7_lastNorm 18 = .ok (.aload_n 0, 1) := by decide +kernel
theorem dX7_lastNorm_19 : decode cX7_lastNorm 19 = .ok (.getfield 10, 3) := by decide +kernel
theorem dX7_lastNorm_22 : decode cX7_lastNorm 22 = .ok (.getfield 78, 3) := by decide +kernel
theorem dX7_lastNorm_25 : decode cX7_lastNorm 25 = .ok (.iload_n 1, 1) := by decide +kernel
theorem dX7_lastNorm_26 : decode cX7_lastNorm 26 = .ok (.aaload, 1) := by decide +kernel
theorem dX7_lastNorm_27 : decode cX7_lastNorm 27 = .ok (.aload_n 0, 1) := by decide +kernel
theorem dX7_lastNorm_28 : decode cX7_lastNorm 28 = .ok (.getfield 10, 3) := by decide +kernel
theorem dX7_lastNorm_31 : decode cX7_lastNorm 31 = .ok (.getfield 78, 3) := by decide +kernel
theorem dX7_lastNorm_34 : decode cX7_lastNorm 34 = .ok (.iload_n 2, 1) := by decide +kernel
theorem dX7_lastNorm_35 : decode cX7_lastNorm 35 = .ok (.aaload, 1) := by decide +kernel
theorem dX7_lastNorm_36 : decode cX7_lastNorm 36 = .ok (.aload_n 0, 1) := by decide +kernel
theorem dX7_lastNorm_37 : decode cX7_lastNorm 37 = .ok (.getfield 10, 3) := by decide +kernel
theorem dX7_lastNorm_40 : decode cX7_lastNorm 40 = .ok (.getfield 93, 3) := by decide +kernel
theorem dX7_lastNorm_43 : decode cX7_lastNorm 43 = .ok (.bipush 40, 2) := by decide +kernel
theorem dX7_lastNorm_45 : decode cX7_lastNorm 45 = .ok (.invokevirtual 215, 3) := by decide +kernel
theorem dX7_lastNorm_48 : decode cX7_lastNorm 48 = .ok (.istore_n 3, 1) := by decide +kernel
theorem dX7_lastNorm_49 : decode cX7_lastNorm 49 = .ok (.iload_n 3, 1) := by decide +kernel
theorem dX7_lastNorm_50 : decode cX7_lastNorm 50 = .ok (.iconst (-1), 1) := by decide +kernel
theorem dX7_lastNorm_51 : decode cX7_lastNorm 51 = .ok (.if_icmp .ne 9, 3) := by decide +kernel
theorem dX7_lastNorm_54 : decode cX7_lastNorm 54 = .ok (.ldc2_w 219, 3) := by decide +kernel
theorem dX7_lastNorm_57 : decode cX7_lastNorm 57 = .ok (.goto 13, 3) := by decide +kernel
theorem dX7_lastNorm_60 : decode cX7_lastNorm 60 = .ok (.aload_n 0, 1) := by decide +kernel
theorem dX7_lastNorm_61 : decode cX7_lastNorm 61 = .ok (.getfield 33, 3) := by decide +kernel
theorem dX7_lastNorm_64 : decode cX7_lastNorm 64 = .ok (.getfield 221, 3) := by decide +kernel
theorem dX7_lastNorm_67 : decode cX7_lastNorm 67 = .ok (.invokestatic 82, 3) := by decide +kernel
theorem dX7_lastNorm_70 : decode cX7_lastNorm 70 = .ok (.lreturn, 1) := by decide +kernel
theorem dX7_commuting_0 : decode cX7_commuting 0 = .ok (.iload_n 1, 1) := by decide +kernel
theorem dX7_commuting_1 : decode cX7_commuting 1 = .ok (.invokestatic 65, 3) := by decide +kernel
theorem dX7_commuting_4 : decode cX7_commuting 4 = .ok (.aload_n 0, 1) := by decide +kernel
theorem dX7_commuting_5 : decode cX7_commuting 5 = .ok (.invokevirtual 105, 3) := by decide +kernel
theorem dX7_commuting_8 : decode cX7_commuting 8 = .ok (.astore_n 2, 1) := by decide +kernel
theorem dX7_commuting_9 : decode cX7_commuting 9 = .ok (.aload_n 0, 1) := by decide +kernel
theorem dX7_commuting_10 : decode cX7_commuting 10 = .ok (.getfield 10, 3) := by decide +kernel
theorem dX7_commuting_13 : decode cX7_commuting 13 = .ok (.getfield 93, 3) := by decide +kernel
theorem dX7_commuting_16 : decode cX7_commuting 16 = .ok (.invokestatic 96, 3) := by decide +kernel
theorem dX7_commuting_19 : decode cX7_commuting 19 = .ok (.istore_n 3, 1) := by decide +kernel
theorem dX7_commuting_20 : decode cX7_commuting 20 = .ok (.iconst 0, 1) := by decide +kernel
theorem dX7_commuting_21 : decode cX7_commuting 21 = .ok (.istore 4, 2) := by decide +kernel
theorem dX7_commuting_23 : decode cX7_commuting 23 = .ok (.iconst 0, 1) := by decide +kernel
theorem dX7_commuting_24 : decode cX7_commuting 24 = .ok (.istore 5, 2) := by decide +kernel
theorem dX7_commuting_26 : decode cX7_commuting 26 = .ok (.iload 5, 2) := by decide +kernel
theorem dX7_commuting_28 : decode cX7_commuting 28 = .ok (.iload_n 3, 1) := by decide +kernel
theorem dX7_commuting_29 : decode cX7_commuting 29 = .ok (.if_icmp .ge 41, 3) := by decide +kernel
theorem dX7_commuting_32 : decode cX7_commuting 32 = .ok (.aload_n 2, 1) := by decide +kernel
theorem dX7_commuting_33 : decode cX7_commuting 33 = .ok (.iload 5, 2) := by decide +kernel
theorem dX7_commuting_35 : decode cX7_commuting 35 = .ok (.aload_n 0, 1) := by decide +kernel
theorem dX7_commuting_36 : decode cX7_commuting 36 = .ok (.getfield 59, 3) := by decide +kernel
theorem dX7_commuting_39 : decode cX7_commuting 39 = .ok (.invokevirtual 109, 3) := by decide +kernel
theorem dX7_commuting_42 : decode cX7_commuting 42 = .ok (.aload_n 0, 1) := by decide +kernel
theorem dX7_commuting_43 : decode cX7_commuting 43 = .ok (.getfield 59, 3) := by decide +kernel
theorem dX7_commuting_46 : decode cX7_commuting 46 = .ok (.aload_n 0, 1) := by decide +kernel
theorem dX7_commuting_47 : decode cX7_commuting 47 = .ok (.getfield 10, 3) := by decide +kernel
theorem dX7_commuting_50 : decode cX7_commuting 50 = .ok (.getfield 78, 3) := by decide +kernel
theorem dX7_commuting_53 : decode cX7_commuting 53 = .ok (.iload_n 1, 1) := by decide +kernel
theorem dX7_commuting_54 : decode cX7_commuting 54 = .ok (.aaload, 1) := by decide +kernel
theorem dX7_commuting_55 : decode cX7_commuting 55 = .ok (.invokestatic 201, 3) := by decide +kernel
theorem dX7_commuting_58 : decode cX7_commuting 58 = .ok (.ifCond .eq 6, 3) := by decide +kernel
theorem dX7_commuting_61 : decode cX7_commuting 61 = .ok (.iinc 4 1, 3) := by decide +kernel
theorem dX7_commuting_64 : decode cX7_commuting 64 = .ok (.iinc 5 1, 3) := by decide +kernel
theorem dX7_commuting_67 : decode cX7_commuting 67 = .ok (.goto (-41), 3) := by decide +kernel
theorem dX7_commuting_70 : decode cX7_commuting 70 = .ok (.iload 4, 2) := by decide +kernel
theorem dX7_commuting_72 : decode cX7_commuting 72 = .ok (.ireturn, 1) := by decide +kernel
theorem dX7_append_0 : decode cX7_append 0 = .ok (.iload_n 1, 1) := by decide +kernel
theorem dX7_append_1 : decode cX7_append 1 = .ok (.ifCond .lt 9, 3) := by decide +kernel
theorem dX7_append_4 : decode cX7_append 4 = .ok (.iload_n 1, 1) := by decide +kernel
theorem dX7_append_5 : decode cX7_append 5 = .ok (.bipush 127, 2) := by decide +kernel
theorem dX7_append_7 : decode cX7_append 7 = .ok (.if_icmp .le 13, 3) := by decide +kernel
theorem dX7_append_10 : decode cX7_append 10 = .ok (.new 86, 3) := by decide +kernel
theorem dX7_append_13 : decode cX7_append 13 = .ok (.dup, 1) := by decide +kernel
theorem dX7_append_14 : decode cX7_append 14 = .ok (.ldc 224, 2) := by decide +kernel
theorem dX7_append_16 : decode cX7_append 16 = .ok (.invokespecial 90, 3) := by decide +kernel
theorem dX7_append_19 : decode cX7_append 19 = .ok (.athrow, 1) := by decide +kernel
theorem dX7_append_20 : decode cX7_append 20 = .ok (.aload_n 0, 1) := by decide +kernel
theorem dX7_append_21 : decode cX7_append 21 = .ok (.getfield 40, 3) := by decide +kernel
theorem dX7_append_24 : decode cX7_append 24 = .ok (.invokevirtual 226, 3) := by decide +kernel
theorem dX7_append_27 : decode cX7_append 27 = .ok (.ifCond .eq 13, 3) := by decide +kernel
theorem dX7_append_30 : decode cX7_append 30 = .ok (.new 230, 3) := by decide +kernel
theorem dX7_append_33 : decode cX7_append 33 = .ok (.dup, 1) := by decide +kernel
theorem dX7_append_34 : decode cX7_append 34 = .ok (.ldc 232, 2) := by decide +kernel
theorem dX7_append_36 : decode cX7_append 36 = .ok (.invokespecial 234, 3) := by decide +kernel
theorem dX7_append_39 : decode cX7_append 39 = .ok (.athrow, 1) := by decide +kernel
theorem dX7_append_40 : decode cX7_append 40 = .ok (.aload_n 0, 1) := by decide +kernel
theorem dX7_append_41 : decode cX7_append 41 = .ok (.getfield 40, 3) := by decide +kernel
theorem dX7_append_44 : decode cX7_append 44 = .ok (.iload_n 1, 1) := by decide +kernel
theorem dX7_append_45 : decode cX7_append 45 = .ok (.invokevirtual 235, 3) := by decide +kernel
theorem dX7_append_48 : decode cX7_append 48 = .ok (.aload_n 0, 1) := by decide +kernel
theorem dX7_append_49 : decode cX7_append 49 = .ok (.getfield 40, 3) := by decide +kernel
theorem dX7_append_52 : decode cX7_append 52 = .ok (.getfield 237, 3) := by decide +kernel
theorem dX7_append_55 : decode cX7_append 55 = .ok (.ireturn, 1) := by decide +kernel
theorem dX7_clearText_0 : decode cX7_clearText 0 = .ok (.aload_n 0, 1) := by decide +kernel
theorem dX7_clearText_1 : decode cX7_clearText 1 = .ok (.getfield 40, 3) := by decide +kernel
theorem dX7_clearText_4 : decode cX7_clearText 4 = .ok (.getfield 237, 3) := by decide +kernel
theorem dX7_clearText_7 : decode cX7_clearText 7 = .ok (.istore_n 1, 1) := by decide +kernel
theorem dX7_clearText_8 : decode cX7_clearText 8 = .ok (.aload_n 0, 1) := by decide +kernel
theorem dX7_clearText_9 : decode cX7_clearText 9 = .ok (.getfield 40, 3) := by decide +kernel
theorem dX7_clearText_12 : decode cX7_clearText 12 = .ok (.iconst 0, 1) := by decide +kernel
theorem dX7_clearText_13 : decode cX7_clearText 13 = .ok (.putfield 237, 3) := by decide +kernel
theorem dX7_clearText_16 : decode cX7_clearText 16 = .ok (.iload_n 1, 1) := by decide +kernel
theorem dX7_clearText_17 : decode cX7_clearText 17 = .ok (.ireturn, 1) := by decide +kernel
theorem dX7_carryOut_0 : decode cX7_carryOut 0 = .ok (.aload_n 0, 1) := by decide +kernel
theorem dX7_carryOut_1 : decode cX7_carryOut 1 = .ok (.getfield 40, 3) := by decide +kernel
theorem dX7_carryOut_4 : decode cX7_carryOut 4 = .ok (.invokevirtual 240, 3) := by decide +kernel
theorem dX7_carryOut_7 : decode cX7_carryOut 7 = .ok (.istore_n 1, 1) := by decide +kernel
theorem dX7_carryOut_8 : decode cX7_carryOut 8 = .ok (.iload_n 1, 1) := by decide +kernel
theorem dX7_carryOut_9 : decode cX7_carryOut 9 = .ok (.iconst (-1), 1) := by decide +kernel
theorem dX7_carryOut_10 : decode cX7_carryOut 10 = .ok (.if_icmp .eq 8, 3) := by decide +kernel
theorem dX7_carryOut_13 : decode cX7_carryOut 13 = .ok (.bipush (-10), 2) := by decide +kernel
theorem dX7_carryOut_15 : decode cX7_carryOut 15 = .ok (.iload_n 1, 1) := by decide +kernel
theorem dX7_carryOut_16 : decode cX7_carryOut 16 = .ok (.isub, 1) := by decide +kernel
theorem dX7_carryOut_17 : decode cX7_carryOut 17 = .ok (.ireturn, 1) := by decide +kernel
theorem dX7_carryOut_18 : decode cX7_carryOut 18 = .ok (.aload_n 0, 1) := by decide +kernel
theorem dX7_carryOut_19 : decode cX7_carryOut 19 = .ok (.invokevirtual 75, 3) := by decide +kernel
theorem dX7_carryOut_22 : decode cX7_carryOut 22 = .ok (.aload_n 0, 1) := by decide +kernel
theorem dX7_carryOut_23 : decode cX7_carryOut 23 = .ok (.getfield 49, 3) := by decide +kernel
theorem dX7_carryOut_26 : decode cX7_carryOut 26 = .ok (.aload_n 0, 1) := by decide +kernel
theorem dX7_carryOut_27 : decode cX7_carryOut 27 = .ok (.getfield 10, 3) := by decide +kernel
theorem dX7_carryOut_30 : decode cX7_carryOut 30 = .ok (.invokevirtual 243, 3) := by decide +kernel
theorem dX7_carryOut_33 : decode cX7_carryOut 33 = .ok (.ireturn, 1) := by decide +kernel
theorem dX7_undo_0 : decode cX7_undo 0 = .ok (.aload_n 0, 1) := by decide +kernel
theorem dX7_undo_1 : decode cX7_undo 1 = .ok (.getfield 20, 3) := by decide +kernel
theorem dX7_undo_4 : decode cX7_undo 4 = .ok (.ifCond .gt 13, 3) := by decide +kernel
theorem dX7_undo_7 : decode cX7_undo 7 = .ok (.new 230, 3) := by decide +kernel
theorem dX7_undo_10 : decode cX7_undo 10 = .ok (.dup, 1) := by decide +kernel
theorem dX7_undo_11 : decode cX7_undo 11 = .ok (.ldc 247, 2) := by decide +kernel
theorem dX7_undo_13 : decode cX7_undo 13 = .ok (.invokespecial 234, 3) := by decide +kernel
theorem dX7_undo_16 : decode cX7_undo 16 = .ok (.athrow, 1) := by decide +kernel
theorem dX7_undo_17 : decode cX7_undo 17 = .ok (.aload_n 0, 1) := by decide +kernel
theorem dX7_undo_18 : decode cX7_undo 18 = .ok (.dup, 1) := by decide +kernel
theorem dX7_undo_19 : decode cX7_undo 19 = .ok (.getfield 20, 3) := by decide +kernel
theorem dX7_undo_22 : decode cX7_undo 22 = .ok (.iconst 1, 1) := by decide +kernel
theorem dX7_undo_23 : decode cX7_undo 23 = .ok (.isub, 1) := by decide +kernel
theorem dX7_undo_24 : decode cX7_undo 24 = .ok (.putfield 20, 3) := by decide +kernel
theorem dX7_undo_27 : decode cX7_undo 27 = .ok (.aload_n 0, 1) := by decide +kernel
theorem dX7_undo_28 : decode cX7_undo 28 = .ok (.getfield 10, 3) := by decide +kernel
theorem dX7_undo_31 : decode cX7_undo 31 = .ok (.aload_n 0, 1) := by decide +kernel
theorem dX7_undo_32 : decode cX7_undo 32 = .ok (.getfield 16, 3) := by decide +kernel
theorem dX7_undo_35 : decode cX7_undo 35 = .ok (.aload_n 0, 1) := by decide +kernel
theorem dX7_undo_36 : decode cX7_undo 36 = .ok (.getfield 20, 3) := by decide +kernel
theorem dX7_undo_39 : decode cX7_undo 39 = .ok (.aaload, 1) := by decide +kernel
theorem dX7_undo_40 : decode cX7_undo 40 = .ok (.invokevirtual 249, 3) := by decide +kernel
theorem dX7_undo_43 : decode cX7_undo 43 = .ok (.aload_n 0, 1) := by decide +kernel
theorem dX7_undo_44 : decode cX7_undo 44 = .ok (.getfield 20, 3) := by decide +kernel
theorem dX7_undo_47 : decode cX7_undo 47 = .ok (.ireturn, 1) := by decide +kernel
theorem dX7_digest_0 : decode cX7_digest 0 = .ok (.ldc2_w 253, 3) := by decide +kernel
theorem dX7_digest_3 : decode cX7_digest 3 = .ok (.aload_n 0, 1) := by decide +kernel
theorem dX7_digest_4 : decode cX7_digest 4 = .ok (.getfield 40, 3) := by decide +kernel
theorem dX7_digest_7 : decode cX7_digest 7 = .ok (.getfield 237, 3) := by decide +kernel
theorem dX7_digest_10 : decode cX7_digest 10 = .ok (.i2l, 1) := by decide +kernel
theorem dX7_digest_11 : decode cX7_digest 11 = .ok (.ladd, 1) := by decide +kernel
theorem dX7_digest_12 : decode cX7_digest 12 = .ok (.lstore_n 1, 1) := by decide +kernel
theorem dX7_digest_13 : decode cX7_digest 13 = .ok (.iconst 0, 1) := by decide +kernel
theorem dX7_digest_14 : decode cX7_digest 14 = .ok (.istore_n 3, 1) := by decide +kernel
theorem dX7_digest_15 : decode cX7_digest 15 = .ok (.iload_n 3, 1) := by decide +kernel
theorem dX7_digest_16 : decode cX7_digest 16 = .ok (.iconst 5, 1) := by decide +kernel
theorem dX7_digest_17 : decode cX7_digest 17 = .ok (.if_icmp .gt 22, 3) := by decide +kernel
theorem dX7_digest_20 : decode cX7_digest 20 = .ok (.ldc2_w 255, 3) := by decide +kernel
theorem dX7_digest_23 : decode cX7_digest 23 = .ok (.lload_n 1, 1) := by decide +kernel
theorem dX7_digest_24 : decode cX7_digest 24 = .ok (.lmul, 1) := by decide +kernel
theorem dX7_digest_25 : decode cX7_digest 25 = .ok (.aload_n 0, 1) := by decide +kernel
theorem dX7_digest_26 : decode cX7_digest 26 = .ok (.iload_n 3, 1) := by decide +kernel
theorem dX7_digest_27 : decode cX7_digest 27 = .ok (.invokevirtual 257, 3) := by decide +kernel
theorem dX7_digest_30 : decode cX7_digest 30 = .ok (.i2l, 1) := by decide +kernel
theorem dX7_digest_31 : decode cX7_digest 31 = .ok (.ladd, 1) := by decide +kernel
theorem dX7_digest_32 : decode cX7_digest 32 = .ok (.lstore_n 1, 1) := by decide +kernel
theorem dX7_digest_33 : decode cX7_digest 33 = .ok (.iinc 3 1, 3) := by decide +kernel
theorem dX7_digest_36 : decode cX7_digest 36 = .ok (.goto (-21), 3) := by decide +kernel
theorem dX7_digest_39 : decode cX7_digest 39 = .ok (.iconst 0, 1) := by decide +kernel
theorem dX7_digest_40 : decode cX7_digest 40 = .ok (.istore_n 3, 1) := by decide +kernel
theorem dX7_digest_41 : decode cX7_digest 41 = .ok (.iload_n 3, 1) := by decide +kernel
theorem dX7_digest_42 : decode cX7_digest 42 = .ok (.bipush 8, 2) := by decide +kernel
theorem dX7_digest_44 : decode cX7_digest 44 = .ok (.if_icmp .ge 66, 3) := by decide +kernel
theorem dX7_digest_47 : decode cX7_digest 47 = .ok (.iconst 0, 1) := by decide +kernel
theorem dX7_digest_48 : decode cX7_digest 48 = .ok (.istore 4, 2) := by decide +kernel
theorem dX7_digest_50 : decode cX7_digest 50 = .ok (.iload 4, 2) := by decide +kernel
theorem dX7_digest_52 : decode cX7_digest 52 = .ok (.bipush 8, 2) := by decide +kernel
theorem dX7_digest_54 : decode cX7_digest 54 = .ok (.if_icmp .ge 24, 3) := by decide +kernel
theorem dX7_digest_57 : decode cX7_digest 57 = .ok (.ldc2_w 255, 3) := by decide +kernel
theorem dX7_digest_60 : decode cX7_digest 60 = .ok (.lload_n 1, 1) := by decide +kernel
theorem dX7_digest_61 : decode cX7_digest 61 = .ok (.lmul, 1) := by decide +kernel
theorem dX7_digest_62 : decode cX7_digest 62 = .ok (.aload_n 0, 1) := by decide +kernel
theorem dX7_digest_63 : decode cX7_digest 63 = .ok (.iload_n 3, 1) := by decide +kernel
theorem dX7_digest_64 : decode cX7_digest 64 = .ok (.iload 4, 2) := by decide +kernel
theorem dX7_digest_66 : decode cX7_digest 66 = .ok (.invokevirtual 260, 3) := by decide +kernel
theorem dX7_digest_69 : decode cX7_digest 69 = .ok (.i2l, 1) := by decide +kernel
theorem dX7_digest_70 : decode cX7_digest 70 = .ok (.ladd, 1) := by decide +kernel
theorem dX7_digest_71 : decode cX7_digest 71 = .ok (.lstore_n 1, 1) := by decide +kernel
theorem dX7_digest_72 : decode cX7_digest 72 = .ok (.iinc 4 1, 3) := by decide +kernel
theorem dX7_digest_75 : decode cX7_digest 75 = .ok (.goto (-25), 3) := by decide +kernel
theorem dX7_digest_78 : decode cX7_digest 78 = .ok (.ldc2_w 255, 3) := by decide +kernel
theorem dX7_digest_81 : decode cX7_digest 81 = .ok (.lload_n 1, 1) := by decide +kernel
theorem dX7_digest_82 : decode cX7_digest 82 = .ok (.lmul, 1) := by decide +kernel
theorem dX7_digest_83 : decode cX7_digest 83 = .ok (.aload_n 0, 1) := by decide +kernel
theorem dX7_digest_84 : decode cX7_digest 84 = .ok (.iload_n 3, 1) := by decide +kernel
theorem dX7_digest_85 : decode cX7_digest 85 = .ok (.invokevirtual 264, 3) := by decide +kernel
theorem dX7_digest_88 : decode cX7_digest 88 = .ok (.i2l, 1) := by decide +kernel
theorem dX7_digest_89 : decode cX7_digest 89 = .ok (.ladd, 1) := by decide +kernel
theorem dX7_digest_90 : decode cX7_digest 90 = .ok (.lstore_n 1, 1) := by decide +kernel
theorem dX7_digest_91 : decode cX7_digest 91 = .ok (.ldc2_w 255, 3) := by decide +kernel
theorem dX7_digest_94 : decode cX7_digest 94 = .ok (.lload_n 1, 1) := by decide +kernel
theorem dX7_digest_95 : decode cX7_digest 95 = .ok (.lmul, 1) := by decide +kernel
theorem dX7_digest_96 : decode cX7_digest 96 = .ok (.aload_n 0, 1) := by decide +kernel
theorem dX7_digest_97 : decode cX7_digest 97 = .ok (.iload_n 3, 1) := by decide +kernel
theorem dX7_digest_98 : decode cX7_digest 98 = .ok (.invokevirtual 267, 3) := by decide +kernel
theorem dX7_digest_101 : decode cX7_digest 101 = .ok (.i2l, 1) := by decide +kernel
theorem dX7_digest_102 : decode cX7_digest 102 = .ok (.ladd, 1) := by decide +kernel
theorem dX7_digest_103 : decode cX7_digest 103 = .ok (.lstore_n 1, 1) := by decide +kernel
theorem dX7_digest_104 : decode cX7_digest 104 = .ok (.iinc 3 1, 3) := by decide +kernel
theorem dX7_digest_107 : decode cX7_digest 107 = .ok (.goto (-66), 3) := by decide +kernel
theorem dX7_digest_110 : decode cX7_digest 110 = .ok (.ldc2_w 255, 3) := by decide +kernel
theorem dX7_digest_113 : decode cX7_digest 113 = .ok (.lload_n 1, 1) := by decide +kernel
theorem dX7_digest_114 : decode cX7_digest 114 = .ok (.lmul, 1) := by decide +kernel
theorem dX7_digest_115 : decode cX7_digest 115 = .ok (.aload_n 0, 1) := by decide +kernel
theorem dX7_digest_116 : decode cX7_digest 116 = .ok (.getfield 20, 3) := by decide +kernel
theorem dX7_digest_119 : decode cX7_digest 119 = .ok (.i2l, 1) := by decide +kernel
theorem dX7_digest_120 : decode cX7_digest 120 = .ok (.ladd, 1) := by decide +kernel
theorem dX7_digest_121 : decode cX7_digest 121 = .ok (.lreturn, 1) := by decide +kernel
theorem dX7_needRegister_0 : decode cX7_needRegister 0 = .ok (.iload_n 0, 1) := by decide +kernel
theorem dX7_needRegister_1 : decode cX7_needRegister 1 = .ok (.ifCond .lt 9, 3) := by decide +kernel
theorem dX7_needRegister_4 : decode cX7_needRegister 4 = .ok (.iload_n 0, 1) := by decide +kernel
theorem dX7_needRegister_5 : decode cX7_needRegister 5 = .ok (.bipush 8, 2) := by decide +kernel
theorem dX7_needRegister_7 : decode cX7_needRegister 7 = .ok (.if_icmp .lt 14, 3) := by decide +kernel
theorem dX7_needRegister_10 : decode cX7_needRegister 10 = .ok (.new 100, 3) := by decide +kernel
theorem dX7_needRegister_13 : decode cX7_needRegister 13 = .ok (.dup, 1) := by decide +kernel
theorem dX7_needRegister_14 : decode cX7_needRegister 14 = .ok (.ldc_w 270, 3) := by decide +kernel
theorem dX7_needRegister_17 : decode cX7_needRegister 17 = .ok (.invokespecial 104, 3) := by decide +kernel
theorem dX7_needRegister_20 : decode cX7_needRegister 20 = .ok (.athrow, 1) := by decide +kernel
theorem dX7_needRegister_21 : decode cX7_needRegister 21 = .ok (.return_, 1) := by decide +kernel
theorem dX7_needIndex_0 : decode cX7_needIndex 0 = .ok (.iload_n 0, 1) := by decide +kernel
theorem dX7_needIndex_1 : decode cX7_needIndex 1 = .ok (.ifCond .lt 9, 3) := by decide +kernel
theorem dX7_needIndex_4 : decode cX7_needIndex 4 = .ok (.iload_n 0, 1) := by decide +kernel
theorem dX7_needIndex_5 : decode cX7_needIndex 5 = .ok (.bipush 8, 2) := by decide +kernel
theorem dX7_needIndex_7 : decode cX7_needIndex 7 = .ok (.if_icmp .lt 14, 3) := by decide +kernel
theorem dX7_needIndex_10 : decode cX7_needIndex 10 = .ok (.new 100, 3) := by decide +kernel
theorem dX7_needIndex_13 : decode cX7_needIndex 13 = .ok (.dup, 1) := by decide +kernel
theorem dX7_needIndex_14 : decode cX7_needIndex 14 = .ok (.ldc_w 272, 3) := by decide +kernel
theorem dX7_needIndex_17 : decode cX7_needIndex 17 = .ok (.invokespecial 104, 3) := by decide +kernel
theorem dX7_needIndex_20 : decode cX7_needIndex 20 = .ok (.athrow, 1) := by decide +kernel
theorem dX7_needIndex_21 : decode cX7_needIndex 21 = .ok (.return_, 1) := by decide +kernel
theorem dX7_needHalves_0 : decode cX7_needHalves 0 = .ok (.iload_n 0, 1) := by decide +kernel
theorem dX7_needHalves_1 : decode cX7_needHalves 1 = .ok (.sipush (-2000), 3) := by decide +kernel
theorem dX7_needHalves_4 : decode cX7_needHalves 4 = .ok (.if_icmp .lt 10, 3) := by decide +kernel
theorem dX7_needHalves_7 : decode cX7_needHalves 7 = .ok (.iload_n 0, 1) := by decide +kernel
theorem dX7_needHalves_8 : decode cX7_needHalves 8 = .ok (.sipush 2000, 3) := by decide +kernel
theorem dX7_needHalves_11 : decode cX7_needHalves 11 = .ok (.if_icmp .le 14, 3) := by decide +kernel
theorem dX7_needHalves_14 : decode cX7_needHalves 14 = .ok (.new 86, 3) := by decide +kernel
theorem dX7_needHalves_17 : decode cX7_needHalves 17 = .ok (.dup, 1) := by decide +kernel
theorem dX7_needHalves_18 : decode cX7_needHalves 18 = .ok (.ldc_w 274, 3) := by decide +kernel
theorem dX7_needHalves_21 : decode cX7_needHalves 21 = .ok (.invokespecial 90, 3) := by decide +kernel
theorem dX7_needHalves_24 : decode cX7_needHalves 24 = .ok (.athrow, 1) := by decide +kernel
theorem dX7_needHalves_25 : decode cX7_needHalves 25 = .ok (.return_, 1) := by decide +kernel
theorem dX7_needFit_0 : decode cX7_needFit 0 = .ok (.iload_n 0, 1) := by decide +kernel
theorem dX7_needFit_1 : decode cX7_needFit 1 = .ok (.ifCond .ne 14, 3) := by decide +kernel
theorem dX7_needFit_4 : decode cX7_needFit 4 = .ok (.new 276, 3) := by decide +kernel
theorem dX7_needFit_7 : decode cX7_needFit 7 = .ok (.dup, 1) := by decide +kernel
theorem dX7_needFit_8 : decode cX7_needFit 8 = .ok (.ldc_w 278, 3) := by decide +kernel
theorem dX7_needFit_11 : decode cX7_needFit 11 = .ok (.invokespecial 280, 3) := by decide +kernel
theorem dX7_needFit_14 : decode cX7_needFit 14 = .ok (.athrow, 1) := by decide +kernel
theorem dX7_needFit_15 : decode cX7_needFit 15 = .ok (.return_, 1) := by decide +kernel
theorem dX7_needDivisible_0 : decode cX7_needDivisible 0 = .ok (.aload_n 0, 1) := by decide +kernel
theorem dX7_needDivisible_1 : decode cX7_needDivisible 1 = .ok (.iload_n 1, 1) := by decide +kernel
theorem dX7_needDivisible_2 : decode cX7_needDivisible 2 = .ok (.invokevirtual 281, 3) := by decide +kernel
theorem dX7_needDivisible_5 : decode cX7_needDivisible 5 = .ok (.ifCond .eq 28, 3) := by decide +kernel
theorem dX7_needDivisible_8 : decode cX7_needDivisible 8 = .ok (.aload_n 0, 1) := by decide +kernel
theorem dX7_needDivisible_9 : decode cX7_needDivisible 9 = .ok (.iload_n 2, 1) := by decide +kernel
theorem dX7_needDivisible_10 : decode cX7_needDivisible 10 = .ok (.invokevirtual 281, 3) := by decide +kernel
theorem dX7_needDivisible_13 : decode cX7_needDivisible 13 = .ok (.ifCond .eq 20, 3) := by decide +kernel
theorem dX7_needDivisible_16 : decode cX7_needDivisible 16 = .ok (.aload_n 0, 1) := by decide +kernel
theorem dX7_needDivisible_17 : decode cX7_needDivisible 17 = .ok (.getfield 10, 3) := by decide +kernel
theorem dX7_needDivisible_20 : decode cX7_needDivisible 20 = .ok (.getfield 78, 3) := by decide +kernel
theorem dX7_needDivisible_23 : decode cX7_needDivisible 23 = .ok (.iload_n 2, 1) := by decide +kernel
theorem dX7_needDivisible_24 : decode cX7_needDivisible 24 = .ok (.aaload, 1) := by decide +kernel
theorem dX7_needDivisible_25 : decode cX7_needDivisible 25 = .ok (.invokestatic 82, 3) := by decide +kernel
theorem dX7_needDivisible_28 : decode cX7_needDivisible 28 = .ok (.lconst 0, 1) := by decide +kernel
theorem dX7_needDivisible_29 : decode cX7_needDivisible 29 = .ok (.lcmp, 1) := by decide +kernel
theorem dX7_needDivisible_30 : decode cX7_needDivisible 30 = .ok (.ifCond .ne 14, 3) := by decide +kernel
theorem dX7_needDivisible_33 : decode cX7_needDivisible 33 = .ok (.new 230, 3) := by decide +kernel
theorem dX7_needDivisible_36 : decode cX7_needDivisible 36 = .ok (.dup, 1) := by decide +kernel
theorem dX7_needDivisible_37 : decode cX7_needDivisible 37 = .ok (.ldc_w 285, 3) := by decide +kernel
theorem dX7_needDivisible_40 : decode cX7_needDivisible 40 = .ok (.invokespecial 234, 3) := by decide +kernel
theorem dX7_needDivisible_43 : decode cX7_needDivisible 43 = .ok (.athrow, 1) := by decide +kernel
theorem dX7_needDivisible_44 : decode cX7_needDivisible 44 = .ok (.return_, 1) := by decide +kernel
theorem dX7_presentUnits_0 : decode cX7_presentUnits 0 = .ok (.aload_n 0, 1) := by decide +kernel
theorem dX7_presentUnits_1 : decode cX7_presentUnits 1 = .ok (.getfield 26, 3) := by decide +kernel
theorem dX7_presentUnits_4 : decode cX7_presentUnits 4 = .ok (.aload_n 0, 1) := by decide +kernel
theorem dX7_presentUnits_5 : decode cX7_presentUnits 5 = .ok (.getfield 10, 3) := by decide +kernel
theorem dX7_presentUnits_8 : decode cX7_presentUnits 8 = .ok (.getfield 93, 3) := by decide +kernel
theorem dX7_presentUnits_11 : decode cX7_presentUnits 11 = .ok (.aaload, 1) := by decide +kernel
theorem dX7_presentUnits_12 : decode cX7_presentUnits 12 = .ok (.ifnonnull 29, 3) := by decide +kernel
theorem dX7_presentUnits_15 : decode cX7_presentUnits 15 = .ok (.aload_n 0, 1) := by decide +kernel
theorem dX7_presentUnits_16 : decode cX7_presentUnits 16 = .ok (.getfield 26, 3) := by decide +kernel
theorem dX7_presentUnits_19 : decode cX7_presentUnits 19 = .ok (.aload_n 0, 1) := by decide +kernel
theorem dX7_presentUnits_20 : decode cX7_presentUnits 20 = .ok (.getfield 10, 3) := by decide +kernel
theorem dX7_presentUnits_23 : decode cX7_presentUnits 23 = .ok (.getfield 93, 3) := by decide +kernel
theorem dX7_presentUnits_26 : decode cX7_presentUnits 26 = .ok (.new 24, 3) := by decide +kernel
theorem dX7_presentUnits_29 : decode cX7_presentUnits 29 = .ok (.dup, 1) := by decide +kernel
theorem dX7_presentUnits_30 : decode cX7_presentUnits 30 = .ok (.aload_n 0, 1) := by decide +kernel
theorem dX7_presentUnits_31 : decode cX7_presentUnits 31 = .ok (.getfield 10, 3) := by decide +kernel
theorem dX7_presentUnits_34 : decode cX7_presentUnits 34 = .ok (.getfield 93, 3) := by decide +kernel
theorem dX7_presentUnits_37 : decode cX7_presentUnits 37 = .ok (.invokespecial 287, 3) := by decide +kernel
theorem dX7_presentUnits_40 : decode cX7_presentUnits 40 = .ok (.aastore, 1) := by decide +kernel
theorem dX7_presentUnits_41 : decode cX7_presentUnits 41 = .ok (.aload_n 0, 1) := by decide +kernel
theorem dX7_presentUnits_42 : decode cX7_presentUnits 42 = .ok (.getfield 26, 3) := by decide +kernel
theorem dX7_presentUnits_45 : decode cX7_presentUnits 45 = .ok (.aload_n 0, 1) := by decide +kernel
theorem dX7_presentUnits_46 : decode cX7_presentUnits 46 = .ok (.getfield 10, 3) := by decide +kernel
theorem dX7_presentUnits_49 : decode cX7_presentUnits 49 = .ok (.getfield 93, 3) := by decide +kernel
theorem dX7_presentUnits_52 : decode cX7_presentUnits 52 = .ok (.aaload, 1) := by decide +kernel
theorem dX7_presentUnits_53 : decode cX7_presentUnits 53 = .ok (.areturn, 1) := by decide +kernel
theorem dX7_isInOrder_0 : decode cX7_isInOrder 0 = .ok (.aload_n 0, 1) := by decide +kernel
theorem dX7_isInOrder_1 : decode cX7_isInOrder 1 = .ok (.getfield 10, 3) := by decide +kernel
theorem dX7_isInOrder_4 : decode cX7_isInOrder 4 = .ok (.getfield 93, 3) := by decide +kernel
theorem dX7_isInOrder_7 : decode cX7_isInOrder 7 = .ok (.aload_n 0, 1) := by decide +kernel
theorem dX7_isInOrder_8 : decode cX7_isInOrder 8 = .ok (.getfield 10, 3) := by decide +kernel
theorem dX7_isInOrder_11 : decode cX7_isInOrder 11 = .ok (.getfield 78, 3) := by decide +kernel
theorem dX7_isInOrder_14 : decode cX7_isInOrder 14 = .ok (.iload_n 1, 1) := by decide +kernel
theorem dX7_isInOrder_15 : decode cX7_isInOrder 15 = .ok (.aaload, 1) := by decide +kernel
theorem dX7_isInOrder_16 : decode cX7_isInOrder 16 = .ok (.invokestatic 170, 3) := by decide +kernel
theorem dX7_isInOrder_19 : decode cX7_isInOrder 19 = .ok (.invokestatic 174, 3) := by decide +kernel
theorem dX7_isInOrder_22 : decode cX7_isInOrder 22 = .ok (.ireturn, 1) := by decide +kernel
theorem dX7_registersInOrder_0 : decode cX7_registersInOrder 0 = .ok (.iconst 0, 1) := by decide +kernel
theorem dX7_registersInOrder_1 : decode cX7_registersInOrder 1 = .ok (.istore_n 1, 1) := by decide +kernel
theorem dX7_registersInOrder_2 : decode cX7_registersInOrder 2 = .ok (.iconst 0, 1) := by decide +kernel
theorem dX7_registersInOrder_3 : decode cX7_registersInOrder 3 = .ok (.istore_n 2, 1) := by decide +kernel
theorem dX7_registersInOrder_4 : decode cX7_registersInOrder 4 = .ok (.iload_n 2, 1) := by decide +kernel
theorem dX7_registersInOrder_5 : decode cX7_registersInOrder 5 = .ok (.bipush 8, 2) := by decide +kernel
theorem dX7_registersInOrder_7 : decode cX7_registersInOrder 7 = .ok (.if_icmp .ge 20, 3) := by decide +kernel
theorem dX7_registersInOrder_10 : decode cX7_registersInOrder 10 = .ok (.aload_n 0, 1) := by decide +kernel
theorem dX7_registersInOrder_11 : decode cX7_registersInOrder 11 = .ok (.iload_n 2, 1) := by decide +kernel
theorem dX7_registersInOrder_12 : decode cX7_registersInOrder 12 = .ok (.invokevirtual 281, 3) := by decide +kernel
theorem dX7_registersInOrder_15 : decode cX7_registersInOrder 15 = .ok (.ifCond .eq 6, 3) := by decide +kernel
theorem dX7_registersInOrder_18 : decode cX7_registersInOrder 18 = .ok (.iinc 1 1, 3) := by decide +kernel
theorem dX7_registersInOrder_21 : decode cX7_registersInOrder 21 = .ok (.iinc 2 1, 3) := by decide +kernel
theorem dX7_registersInOrder_24 : decode cX7_registersInOrder 24 = .ok (.goto (-20), 3) := by decide +kernel
theorem dX7_registersInOrder_27 : decode cX7_registersInOrder 27 = .ok (.iload_n 1, 1) := by decide +kernel
theorem dX7_registersInOrder_28 : decode cX7_registersInOrder 28 = .ok (.ireturn, 1) := by decide +kernel
theorem dX7_zeroRegisters_0 : decode cX7_zeroRegisters 0 = .ok (.iconst 0, 1) := by decide +kernel
theorem dX7_zeroRegisters_1 : decode cX7_zeroRegisters 1 = .ok (.istore_n 1, 1) := by decide +kernel
theorem dX7_zeroRegisters_2 : decode cX7_zeroRegisters 2 = .ok (.iconst 0, 1) := by decide +kernel
theorem dX7_zeroRegisters_3 : decode cX7_zeroRegisters 3 = .ok (.istore_n 2, 1) := by decide +kernel
theorem dX7_zeroRegisters_4 : decode cX7_zeroRegisters 4 = .ok (.iload_n 2, 1) := by decide +kernel
theorem dX7_zeroRegisters_5 : decode cX7_zeroRegisters 5 = .ok (.bipush 8, 2) := by decide +kernel
theorem dX7_zeroRegisters_7 : decode cX7_zeroRegisters 7 = .ok (.if_icmp .ge 29, 3) := by decide +kernel
theorem dX7_zeroRegisters_10 : decode cX7_zeroRegisters 10 = .ok (.aload_n 0, 1) := by decide +kernel
theorem dX7_zeroRegisters_11 : decode cX7_zeroRegisters 11 = .ok (.getfield 10, 3) := by decide +kernel
theorem dX7_zeroRegisters_14 : decode cX7_zeroRegisters 14 = .ok (.getfield 78, 3) := by decide +kernel
theorem dX7_zeroRegisters_17 : decode cX7_zeroRegisters 17 = .ok (.iload_n 2, 1) := by decide +kernel
theorem dX7_zeroRegisters_18 : decode cX7_zeroRegisters 18 = .ok (.aaload, 1) := by decide +kernel
theorem dX7_zeroRegisters_19 : decode cX7_zeroRegisters 19 = .ok (.invokestatic 82, 3) := by decide +kernel
theorem dX7_zeroRegisters_22 : decode cX7_zeroRegisters 22 = .ok (.lconst 0, 1) := by decide +kernel
theorem dX7_zeroRegisters_23 : decode cX7_zeroRegisters 23 = .ok (.lcmp, 1) := by decide +kernel
theorem dX7_zeroRegisters_24 : decode cX7_zeroRegisters 24 = .ok (.ifCond .ne 6, 3) := by decide +kernel
theorem dX7_zeroRegisters_27 : decode cX7_zeroRegisters 27 = .ok (.iinc 1 1, 3) := by decide +kernel
theorem dX7_zeroRegisters_30 : decode cX7_zeroRegisters 30 = .ok (.iinc 2 1, 3) := by decide +kernel
theorem dX7_zeroRegisters_33 : decode cX7_zeroRegisters 33 = .ok (.goto (-29), 3) := by decide +kernel
theorem dX7_zeroRegisters_36 : decode cX7_zeroRegisters 36 = .ok (.iload_n 1, 1) := by decide +kernel
theorem dX7_zeroRegisters_37 : decode cX7_zeroRegisters 37 = .ok (.ireturn, 1) := by decide +kernel
theorem dX7_workAssociator_0 : decode cX7_workAssociator 0 = .ok (.aload_n 0, 1) := by decide +kernel
theorem dX7_workAssociator_1 : decode cX7_workAssociator 1 = .ok (.getfield 10, 3) := by decide +kernel
theorem dX7_workAssociator_4 : decode cX7_workAssociator 4 = .ok (.getfield 78, 3) := by decide +kernel
theorem dX7_workAssociator_7 : decode cX7_workAssociator 7 = .ok (.iload_n 1, 1) := by decide +kernel
theorem dX7_workAssociator_8 : decode cX7_workAssociator 8 = .ok (.aaload, 1) := by decide +kernel
theorem dX7_workAssociator_9 : decode cX7_workAssociator 9 = .ok (.aload_n 0, 1) := by decide +kernel
theorem dX7_workAssociator_10 : decode cX7_workAssociator 10 = .ok (.getfield 10, 3) := by decide +kernel
theorem dX7_workAssociator_13 : decode cX7_workAssociator 13 = .ok (.getfield 78, 3) := by decide +kernel
theorem dX7_workAssociator_16 : decode cX7_workAssociator 16 = .ok (.iload_n 2, 1) := by decide +kernel
theorem dX7_workAssociator_17 : decode cX7_workAssociator 17 = .ok (.aaload, 1) := by decide +kernel
theorem dX7_workAssociator_18 : decode cX7_workAssociator 18 = .ok (.aload_n 0, 1) := by decide +kernel
theorem dX7_workAssociator_19 : decode cX7_workAssociator 19 = .ok (.getfield 62, 3) := by decide +kernel
theorem dX7_workAssociator_22 : decode cX7_workAssociator 22 = .ok (.invokestatic 129, 3) := by decide +kernel
theorem dX7_workAssociator_25 : decode cX7_workAssociator 25 = .ok (.aload_n 0, 1) := by decide +kernel
theorem dX7_workAssociator_26 : decode cX7_workAssociator 26 = .ok (.getfield 62, 3) := by decide +kernel
theorem dX7_workAssociator_29 : decode cX7_workAssociator 29 = .ok (.aload_n 0, 1) := by decide +kernel
theorem dX7_workAssociator_30 : decode cX7_workAssociator 30 = .ok (.getfield 10, 3) := by decide +kernel
theorem dX7_workAssociator_33 : decode cX7_workAssociator 33 = .ok (.getfield 78, 3) := by decide +kernel
theorem dX7_workAssociator_36 : decode cX7_workAssociator 36 = .ok (.iload_n 3, 1) := by decide +kernel
theorem dX7_workAssociator_37 : decode cX7_workAssociator 37 = .ok (.aaload, 1) := by decide +kernel
theorem dX7_workAssociator_38 : decode cX7_workAssociator 38 = .ok (.aload_n 0, 1) := by decide +kernel
theorem dX7_workAssociator_39 : decode cX7_workAssociator 39 = .ok (.getfield 55, 3) := by decide +kernel
theorem dX7_workAssociator_42 : decode cX7_workAssociator 42 = .ok (.invokestatic 129, 3) := by decide +kernel
theorem dX7_workAssociator_45 : decode cX7_workAssociator 45 = .ok (.aload_n 0, 1) := by decide +kernel
theorem dX7_workAssociator_46 : decode cX7_workAssociator 46 = .ok (.getfield 10, 3) := by decide +kernel
theorem dX7_workAssociator_49 : decode cX7_workAssociator 49 = .ok (.getfield 78, 3) := by decide +kernel
theorem dX7_workAssociator_52 : decode cX7_workAssociator 52 = .ok (.iload_n 2, 1) := by decide +kernel
theorem dX7_workAssociator_53 : decode cX7_workAssociator 53 = .ok (.aaload, 1) := by decide +kernel
theorem dX7_workAssociator_54 : decode cX7_workAssociator 54 = .ok (.aload_n 0, 1) := by decide +kernel
theorem dX7_workAssociator_55 : decode cX7_workAssociator 55 = .ok (.getfield 10, 3) := by decide +kernel
theorem dX7_workAssociator_58 : decode cX7_workAssociator 58 = .ok (.getfield 78, 3) := by decide +kernel
theorem dX7_workAssociator_61 : decode cX7_workAssociator 61 = .ok (.iload_n 3, 1) := by decide +kernel
theorem dX7_workAssociator_62 : decode cX7_workAssociator 62 = .ok (.aaload, 1) := by decide +kernel
theorem dX7_workAssociator_63 : decode cX7_workAssociator 63 = .ok (.aload_n 0, 1) := by decide +kernel
theorem dX7_workAssociator_64 : decode cX7_workAssociator 64 = .ok (.getfield 62, 3) := by decide +kernel
theorem dX7_workAssociator_67 : decode cX7_workAssociator 67 = .ok (.invokestatic 129, 3) := by decide +kernel
theorem dX7_workAssociator_70 : decode cX7_workAssociator 70 = .ok (.aload_n 0, 1) := by decide +kernel
theorem dX7_workAssociator_71 : decode cX7_workAssociator 71 = .ok (.getfield 10, 3) := by decide +kernel
theorem dX7_workAssociator_74 : decode cX7_workAssociator 74 = .ok (.getfield 78, 3) := by decide +kernel
theorem dX7_workAssociator_77 : decode cX7_workAssociator 77 = .ok (.iload_n 1, 1) := by decide +kernel
theorem dX7_workAssociator_78 : decode cX7_workAssociator 78 = .ok (.aaload, 1) := by decide +kernel
theorem dX7_workAssociator_79 : decode cX7_workAssociator 79 = .ok (.aload_n 0, 1) := by decide +kernel
theorem dX7_workAssociator_80 : decode cX7_workAssociator 80 = .ok (.getfield 62, 3) := by decide +kernel
theorem dX7_workAssociator_83 : decode cX7_workAssociator 83 = .ok (.aload_n 0, 1) := by decide +kernel
theorem dX7_workAssociator_84 : decode cX7_workAssociator 84 = .ok (.getfield 59, 3) := by decide +kernel
theorem dX7_workAssociator_87 : decode cX7_workAssociator 87 = .ok (.invokestatic 129, 3) := by decide +kernel
theorem dX7_workAssociator_90 : decode cX7_workAssociator 90 = .ok (.aload_n 0, 1) := by decide +kernel
theorem dX7_workAssociator_91 : decode cX7_workAssociator 91 = .ok (.getfield 55, 3) := by decide +kernel
theorem dX7_workAssociator_94 : decode cX7_workAssociator 94 = .ok (.aload_n 0, 1) := by decide +kernel
theorem dX7_workAssociator_95 : decode cX7_workAssociator 95 = .ok (.getfield 59, 3) := by decide +kernel
theorem dX7_workAssociator_98 : decode cX7_workAssociator 98 = .ok (.iconst 1, 1) := by decide +kernel
theorem dX7_workAssociator_99 : decode cX7_workAssociator 99 = .ok (.aload_n 0, 1) := by decide +kernel
theorem dX7_workAssociator_100 : decode cX7_workAssociator 100 = .ok (.getfield 55, 3) := by decide +kernel
theorem dX7_workAssociator_103 : decode cX7_workAssociator 103 = .ok (.invokestatic 113, 3) := by decide +kernel
theorem dX7_workAssociator_106 : decode cX7_workAssociator 106 = .ok (.return_, 1) := by decide +kernel
theorem dX7_associates_0 : decode cX7_associates 0 = .ok (.aload_n 0, 1) := by decide +kernel
theorem dX7_associates_1 : decode cX7_associates 1 = .ok (.iload_n 1, 1) := by decide +kernel
theorem dX7_associates_2 : decode cX7_associates 2 = .ok (.iload_n 2, 1) := by decide +kernel
theorem dX7_associates_3 : decode cX7_associates 3 = .ok (.iload_n 3, 1) := by decide +kernel
theorem dX7_associates_4 : decode cX7_associates 4 = .ok (.invokevirtual 140, 3) := by decide +kernel
theorem dX7_associates_7 : decode cX7_associates 7 = .ok (.aload_n 0, 1) := by decide +kernel
theorem dX7_associates_8 : decode cX7_associates 8 = .ok (.getfield 55, 3) := by decide +kernel
theorem dX7_associates_11 : decode cX7_associates 11 = .ok (.invokestatic 82, 3) := by decide +kernel
theorem dX7_associates_14 : decode cX7_associates 14 = .ok (.lconst 0, 1) := by decide +kernel
theorem dX7_associates_15 : decode cX7_associates 15 = .ok (.lcmp, 1) := by decide +kernel
theorem dX7_associates_16 : decode cX7_associates 16 = .ok (.ifCond .ne 7, 3) := by decide +kernel
theorem dX7_associates_19 : decode cX7_associates 19 = .ok (.iconst 1, 1) := by decide +kernel
theorem dX7_associates_20 : decode cX7_associates 20 = .ok (.goto 4, 3) := by decide +kernel
theorem dX7_associates_23 : decode cX7_associates 23 = .ok (.iconst 0, 1) := by decide +kernel
theorem dX7_associates_24 : decode cX7_associates 24 = .ok (.ireturn, 1) := by decide +kernel
theorem dX7_put_0 : decode cX7_put 0 = .ok (.aload_n 0, 1) := by decide +kernel
theorem dX7_put_1 : decode cX7_put 1 = .ok (.getfield 55, 3) := by decide +kernel
theorem dX7_put_4 : decode cX7_put 4 = .ok (.aload_n 0, 1) := by decide +kernel
theorem dX7_put_5 : decode cX7_put 5 = .ok (.getfield 10, 3) := by decide +kernel
theorem dX7_put_8 : decode cX7_put 8 = .ok (.getfield 78, 3) := by decide +kernel
theorem dX7_put_11 : decode cX7_put 11 = .ok (.iload_n 1, 1) := by decide +kernel
theorem dX7_put_12 : decode cX7_put 12 = .ok (.aaload, 1) := by decide +kernel
theorem dX7_put_13 : decode cX7_put 13 = .ok (.invokestatic 163, 3) := by decide +kernel
theorem dX7_put_16 : decode cX7_put 16 = .ok (.aload_n 0, 1) := by decide +kernel
theorem dX7_put_17 : decode cX7_put 17 = .ok (.getfield 55, 3) := by decide +kernel
theorem dX7_put_20 : decode cX7_put 20 = .ok (.invokestatic 82, 3) := by decide +kernel
theorem dX7_put_23 : decode cX7_put 23 = .ok (.lreturn, 1) := by decide +kernel
theorem dX7_saveState_0 : decode cX7_saveState 0 = .ok (.aload_n 0, 1) := by decide +kernel
theorem dX7_saveState_1 : decode cX7_saveState 1 = .ok (.getfield 20, 3) := by decide +kernel
theorem dX7_saveState_4 : decode cX7_saveState 4 = .ok (.iconst 4, 1) := by decide +kernel
theorem dX7_saveState_5 : decode cX7_saveState 5 = .ok (.if_icmp .ne 54, 3) := by decide +kernel
theorem dX7_saveState_8 : decode cX7_saveState 8 = .ok (.aload_n 0, 1) := by decide +kernel
theorem dX7_saveState_9 : decode cX7_saveState 9 = .ok (.getfield 16, 3) := by decide +kernel
theorem dX7_saveState_12 : decode cX7_saveState 12 = .ok (.iconst 0, 1) := by decide +kernel
theorem dX7_saveState_13 : decode cX7_saveState 13 = .ok (.aaload, 1) := by decide +kernel
theorem dX7_saveState_14 : decode cX7_saveState 14 = .ok (.astore_n 1, 1) := by decide +kernel
theorem dX7_saveState_15 : decode cX7_saveState 15 = .ok (.iconst 1, 1) := by decide +kernel
theorem dX7_saveState_16 : decode cX7_saveState 16 = .ok (.istore_n 2, 1) := by decide +kernel
theorem dX7_saveState_17 : decode cX7_saveState 17 = .ok (.iload_n 2, 1) := by decide +kernel
theorem dX7_saveState_18 : decode cX7_saveState 18 = .ok (.iconst 4, 1) := by decide +kernel
theorem dX7_saveState_19 : decode cX7_saveState 19 = .ok (.if_icmp .ge 23, 3) := by decide +kernel
theorem dX7_saveState_22 : decode cX7_saveState 22 = .ok (.aload_n 0, 1) := by decide +kernel
theorem dX7_saveState_23 : decode cX7_saveState 23 = .ok (.getfield 16, 3) := by decide +kernel
theorem dX7_saveState_26 : decode cX7_saveState 26 = .ok (.iload_n 2, 1) := by decide +kernel
theorem dX7_saveState_27 : decode cX7_saveState 27 = .ok (.iconst 1, 1) := by decide +kernel
theorem dX7_saveState_28 : decode cX7_saveState 28 = .ok (.isub, 1) := by decide +kernel
theorem dX7_saveState_29 : decode cX7_saveState 29 = .ok (.aload_n 0, 1) := by decide +kernel
theorem dX7_saveState_30 : decode cX7_saveState 30 = .ok (.getfield 16, 3) := by decide +kernel
theorem dX7_saveState_33 : decode cX7_saveState 33 = .ok (.iload_n 2, 1) := by decide +kernel
theorem dX7_saveState_34 : decode cX7_saveState 34 = .ok (.aaload, 1) := by decide +kernel
theorem dX7_saveState_35 : decode cX7_saveState 35 = .ok (.aastore, 1) := by decide +kernel
theorem dX7_saveState_36 : decode cX7_saveState 36 = .ok (.iinc 2 1, 3) := by decide +kernel
theorem dX7_saveState_39 : decode cX7_saveState 39 = .ok (.goto (-22), 3) := by decide +kernel
theorem dX7_saveState_42 : decode cX7_saveState 42 = .ok (.aload_n 0, 1) := by decide +kernel
theorem dX7_saveState_43 : decode cX7_saveState 43 = .ok (.getfield 16, 3) := by decide +kernel
theorem dX7_saveState_46 : decode cX7_saveState 46 = .ok (.iconst 3, 1) := by decide +kernel
theorem dX7_saveState_47 : decode cX7_saveState 47 = .ok (.aload_n 1, 1) := by decide +kernel
theorem dX7_saveState_48 : decode cX7_saveState 48 = .ok (.aastore, 1) := by decide +kernel
theorem dX7_saveState_49 : decode cX7_saveState 49 = .ok (.aload_n 0, 1) := by decide +kernel
theorem dX7_saveState_50 : decode cX7_saveState 50 = .ok (.dup, 1) := by decide +kernel
theorem dX7_saveState_51 : decode cX7_saveState 51 = .ok (.getfield 20, 3) := by decide +kernel
theorem dX7_saveState_54 : decode cX7_saveState 54 = .ok (.iconst 1, 1) := by decide +kernel
theorem dX7_saveState_55 : decode cX7_saveState 55 = .ok (.isub, 1) := by decide +kernel
theorem dX7_saveState_56 : decode cX7_saveState 56 = .ok (.putfield 20, 3) := by decide +kernel
theorem dX7_saveState_59 : decode cX7_saveState 59 = .ok (.aload_n 0, 1) := by decide +kernel
theorem dX7_saveState_60 : decode cX7_saveState 60 = .ok (.getfield 16, 3) := by decide +kernel
theorem dX7_saveState_63 : decode cX7_saveState 63 = .ok (.aload_n 0, 1) := by decide +kernel
theorem dX7_saveState_64 : decode cX7_saveState 64 = .ok (.getfield 20, 3) := by decide +kernel
theorem dX7_saveState_67 : decode cX7_saveState 67 = .ok (.aaload, 1) := by decide +kernel
theorem dX7_saveState_68 : decode cX7_saveState 68 = .ok (.aload_n 0, 1) := by decide +kernel
theorem dX7_saveState_69 : decode cX7_saveState 69 = .ok (.getfield 10, 3) := by decide +kernel
theorem dX7_saveState_72 : decode cX7_saveState 72 = .ok (.invokevirtual 249, 3) := by decide +kernel
theorem dX7_saveState_75 : decode cX7_saveState 75 = .ok (.aload_n 0, 1) := by decide +kernel
theorem dX7_saveState_76 : decode cX7_saveState 76 = .ok (.dup, 1) := by decide +kernel
theorem dX7_saveState_77 : decode cX7_saveState 77 = .ok (.getfield 20, 3) := by decide +kernel
theorem dX7_saveState_80 : decode cX7_saveState 80 = .ok (.iconst 1, 1) := by decide +kernel
theorem dX7_saveState_81 : decode cX7_saveState 81 = .ok (.iadd, 1) := by decide +kernel
theorem dX7_saveState_82 : decode cX7_saveState 82 = .ok (.putfield 20, 3) := by decide +kernel
theorem dX7_saveState_85 : decode cX7_saveState 85 = .ok (.return_, 1) := by decide +kernel
end
section
theorem dX8_init_0 : decode cX8_init 0 = .ok (.aload_n 0, 1) := by decide +kernel
theorem dX8_init_1 : decode cX8_init 1 = .ok (.invokespecial 1, 3) := by decide +kernel
theorem dX8_init_4 : decode cX8_init 4 = .ok (.aload_n 0, 1) := by decide +kernel
theorem dX8_init_5 : decode cX8_init 5 = .ok (.bipush 67, 2) := by decide +kernel
theorem dX8_init_7 : decode cX8_init 7 = .ok (.newarray .int, 2) := by decide +kernel
theorem dX8_init_9 : decode cX8_init 9 = .ok (.putfield 7, 3) := by decide +kernel
theorem dX8_init_12 : decode cX8_init 12 = .ok (.aload_n 0, 1) := by decide +kernel
theorem dX8_init_13 : decode cX8_init 13 = .ok (.sipush 268, 3) := by decide +kernel
theorem dX8_init_16 : decode cX8_init 16 = .ok (.newarray .int, 2) := by decide +kernel
theorem dX8_init_18 : decode cX8_init 18 = .ok (.putfield 13, 3) := by decide +kernel
theorem dX8_init_21 : decode cX8_init 21 = .ok (.aload_n 0, 1) := by decide +kernel
theorem dX8_init_22 : decode cX8_init 22 = .ok (.bipush 100, 2) := by decide +kernel
theorem dX8_init_24 : decode cX8_init 24 = .ok (.newarray .int, 2) := by decide +kernel
theorem dX8_init_26 : decode cX8_init 26 = .ok (.putfield 16, 3) := by decide +kernel
theorem dX8_init_29 : decode cX8_init 29 = .ok (.aload_n 0, 1) := by decide +kernel
theorem dX8_init_30 : decode cX8_init 30 = .ok (.bipush 64, 2) := by decide +kernel
theorem dX8_init_32 : decode cX8_init 32 = .ok (.newarray .int, 2) := by decide +kernel
theorem dX8_init_34 : decode cX8_init 34 = .ok (.putfield 19, 3) := by decide +kernel
theorem dX8_init_37 : decode cX8_init 37 = .ok (.aload_n 0, 1) := by decide +kernel
theorem dX8_init_38 : decode cX8_init 38 = .ok (.bipush 64, 2) := by decide +kernel
theorem dX8_init_40 : decode cX8_init 40 = .ok (.newarray .int, 2) := by decide +kernel
theorem dX8_init_42 : decode cX8_init 42 = .ok (.putfield 22, 3) := by decide +kernel
theorem dX8_init_45 : decode cX8_init 45 = .ok (.aload_n 0, 1) := by decide +kernel
theorem dX8_init_46 : decode cX8_init 46 = .ok (.bipush 8, 2) := by decide +kernel
theorem dX8_init_48 : decode cX8_init 48 = .ok (.newarray .long, 2) := by decide +kernel
theorem dX8_init_50 : decode cX8_init 50 = .ok (.putfield 25, 3) := by decide +kernel
theorem dX8_init_53 : decode cX8_init 53 = .ok (.aload_n 0, 1) := by decide +kernel
theorem dX8_init_54 : decode cX8_init 54 = .ok (.bipush 8, 2) := by decide +kernel
theorem dX8_init_56 : decode cX8_init 56 = .ok (.newarray .long, 2) := by decide +kernel
theorem dX8_init_58 : decode cX8_init 58 = .ok (.putfield 29, 3) := by decide +kernel
theorem dX8_init_61 : decode cX8_init 61 = .ok (.aload_n 0, 1) := by decide +kernel
theorem dX8_init_62 : decode cX8_init 62 = .ok (.bipush 8, 2) := by decide +kernel
theorem dX8_init_64 : decode cX8_init 64 = .ok (.newarray .long, 2) := by decide +kernel
theorem dX8_init_66 : decode cX8_init 66 = .ok (.putfield 32, 3) := by decide +kernel
theorem dX8_init_69 : decode cX8_init 69 = .ok (.aload_n 0, 1) := by decide +kernel
theorem dX8_init_70 : decode cX8_init 70 = .ok (.bipush 8, 2) := by decide +kernel
theorem dX8_init_72 : decode cX8_init 72 = .ok (.newarray .long, 2) := by decide +kernel
theorem dX8_init_74 : decode cX8_init 74 = .ok (.putfield 35, 3) := by decide +kernel
theorem dX8_init_77 : decode cX8_init 77 = .ok (.aload_n 0, 1) := by decide +kernel
theorem dX8_init_78 : decode cX8_init 78 = .ok (.bipush 8, 2) := by decide +kernel
theorem dX8_init_80 : decode cX8_init 80 = .ok (.newarray .long, 2) := by decide +kernel
theorem dX8_init_82 : decode cX8_init 82 = .ok (.putfield 38, 3) := by decide +kernel
theorem dX8_init_85 : decode cX8_init 85 = .ok (.aload_n 0, 1) := by decide +kernel
theorem dX8_init_86 : decode cX8_init 86 = .ok (.bipush 8, 2) := by decide +kernel
theorem dX8_init_88 : decode cX8_init 88 = .ok (.newarray .long, 2) := by decide +kernel
theorem dX8_init_90 : decode cX8_init 90 = .ok (.putfield 41, 3) := by decide +kernel
theorem dX8_init_93 : decode cX8_init 93 = .ok (.aload_n 0, 1) := by decide +kernel
theorem dX8_init_94 : decode cX8_init 94 = .ok (.iconst (-1), 1) := by decide +kernel
theorem dX8_init_95 : decode cX8_init 95 = .ok (.putfield 44, 3) := by decide +kernel
theorem dX8_init_98 : decode cX8_init 98 = .ok (.aload_n 0, 1) := by decide +kernel
theorem dX8_init_99 : decode cX8_init 99 = .ok (.sipush 1920, 3) := by decide +kernel
theorem dX8_init_102 : decode cX8_init 102 = .ok (.newarray .int, 2) := by decide +kernel
theorem dX8_init_104 : decode cX8_init 104 = .ok (.putfield 48, 3) := by decide +kernel
theorem dX8_init_107 : decode cX8_init 107 = .ok (.aload_n 0, 1) := by decide +kernel
theorem dX8_init_108 : decode cX8_init 108 = .ok (.bipush 8, 2) := by decide +kernel
theorem dX8_init_110 : decode cX8_init 110 = .ok (.newarray .long, 2) := by decide +kernel
theorem dX8_init_112 : decode cX8_init 112 = .ok (.putfield 51, 3) := by decide +kernel
theorem dX8_init_115 : decode cX8_init 115 = .ok (.aload_n 0, 1) := by decide +kernel
theorem dX8_init_116 : decode cX8_init 116 = .ok (.bipush 8, 2) := by decide +kernel
theorem dX8_init_118 : decode cX8_init 118 = .ok (.newarray .long, 2) := by decide +kernel
theorem dX8_init_120 : decode cX8_init 120 = .ok (.putfield 54, 3) := by decide +kernel
theorem dX8_init_123 : decode cX8_init 123 = .ok (.aload_n 0, 1) := by decide +kernel
theorem dX8_init_124 : decode cX8_init 124 = .ok (.bipush 8, 2) := by decide +kernel
theorem dX8_init_126 : decode cX8_init 126 = .ok (.newarray .long, 2) := by decide +kernel
theorem dX8_init_128 : decode cX8_init 128 = .ok (.putfield 57, 3) := by decide +kernel
theorem dX8_init_131 : decode cX8_init 131 = .ok (.aload_n 0, 1) := by decide +kernel
theorem dX8_init_132 : decode cX8_init 132 = .ok (.bipush 56, 2) := by decide +kernel
theorem dX8_init_134 : decode cX8_init 134 = .ok (.newarray .long, 2) := by decide +kernel
theorem dX8_init_136 : decode cX8_init 136 = .ok (.putfield 60, 3) := by decide +kernel
theorem dX8_init_139 : decode cX8_init 139 = .ok (.aload_n 0, 1) := by decide +kernel
theorem dX8_init_140 : decode cX8_init 140 = .ok (.bipush 56, 2) := by decide +kernel
theorem dX8_init_142 : decode cX8_init 142 = .ok (.newarray .long, 2) := by decide +kernel
theorem dX8_init_144 : decode cX8_init 144 = .ok (.putfield 63, 3) := by decide +kernel
theorem dX8_init_147 : decode cX8_init 147 = .ok (.aload_n 0, 1) := by decide +kernel
theorem dX8_init_148 : decode cX8_init 148 = .ok (.bipush 7, 2) := by decide +kernel
theorem dX8_init_150 : decode cX8_init 150 = .ok (.newarray .int, 2) := by decide +kernel
theorem dX8_init_152 : decode cX8_init 152 = .ok (.putfield 66, 3) := by decide +kernel
theorem dX8_init_155 : decode cX8_init 155 = .ok (.aload_n 0, 1) := by decide +kernel
theorem dX8_init_156 : decode cX8_init 156 = .ok (.bipush 7, 2) := by decide +kernel
theorem dX8_init_158 : decode cX8_init 158 = .ok (.newarray .boolean, 2) := by decide +kernel
theorem dX8_init_160 : decode cX8_init 160 = .ok (.putfield 69, 3) := by decide +kernel
theorem dX8_init_163 : decode cX8_init 163 = .ok (.aload_n 0, 1) := by decide +kernel
theorem dX8_init_164 : decode cX8_init 164 = .ok (.bipush 7, 2) := by decide +kernel
theorem dX8_init_166 : decode cX8_init 166 = .ok (.newarray .int, 2) := by decide +kernel
theorem dX8_init_168 : decode cX8_init 168 = .ok (.putfield 73, 3) := by decide +kernel
theorem dX8_init_171 : decode cX8_init 171 = .ok (.aload_n 0, 1) := by decide +kernel
theorem dX8_init_172 : decode cX8_init 172 = .ok (.bipush 8, 2) := by decide +kernel
theorem dX8_init_174 : decode cX8_init 174 = .ok (.newarray .long, 2) := by decide +kernel
theorem dX8_init_176 : decode cX8_init 176 = .ok (.putfield 76, 3) := by decide +kernel
theorem dX8_init_179 : decode cX8_init 179 = .ok (.iconst 0, 1) := by decide +kernel
theorem dX8_init_180 : decode cX8_init 180 = .ok (.istore_n 1, 1) := by decide +kernel
theorem dX8_init_181 : decode cX8_init 181 = .ok (.iload_n 1, 1) := by decide +kernel
theorem dX8_init_182 : decode cX8_init 182 = .ok (.bipush 8, 2) := by decide +kernel
theorem dX8_init_184 : decode cX8_init 184 = .ok (.if_icmp .ge 53, 3) := by decide +kernel
theorem dX8_init_187 : decode cX8_init 187 = .ok (.aload_n 0, 1) := by decide +kernel
theorem dX8_init_188 : decode cX8_init 188 = .ok (.getfield 7, 3) := by decide +kernel
theorem dX8_init_191 : decode cX8_init 191 = .ok (.bipush 9, 2) := by decide +kernel
theorem dX8_init_193 : decode cX8_init 193 = .ok (.iload_n 1, 1) := by decide +kernel
theorem dX8_init_194 : decode cX8_init 194 = .ok (.imul, 1) := by decide +kernel
theorem dX8_init_195 : decode cX8_init 195 = .ok (.iconst 2, 1) := by decide +kernel
theorem dX8_init_196 : decode cX8_init 196 = .ok (.iastore, 1) := by decide +kernel
theorem dX8_init_197 : decode cX8_init 197 = .ok (.aload_n 0, 1) := by decide +kernel
theorem dX8_init_198 : decode cX8_init 198 = .ok (.getfield 19, 3) := by decide +kernel
theorem dX8_init_201 : decode cX8_init 201 = .ok (.iload_n 1, 1) := by decide +kernel
theorem dX8_init_202 : decode cX8_init 202 = .ok (.iload_n 1, 1) := by decide +kernel
theorem dX8_init_203 : decode cX8_init 203 = .ok (.iastore, 1) := by decide +kernel
theorem dX8_init_204 : decode cX8_init 204 = .ok (.aload_n 0, 1) := by decide +kernel
theorem dX8_init_205 : decode cX8_init 205 = .ok (.getfield 22, 3) := by decide +kernel
theorem dX8_init_208 : decode cX8_init 208 = .ok (.iload_n 1, 1) := by decide +kernel
theorem dX8_init_209 : decode cX8_init 209 = .ok (.iconst 1, 1) := by decide +kernel
theorem dX8_init_210 : decode cX8_init 210 = .ok (.iastore, 1) := by decide +kernel
theorem dX8_init_211 : decode cX8_init 211 = .ok (.aload_n 0, 1) := by decide +kernel
theorem dX8_init_212 : decode cX8_init 212 = .ok (.getfield 19, 3) := by decide +kernel
theorem dX8_init_215 : decode cX8_init 215 = .ok (.bipush 8, 2) := by decide +kernel
theorem dX8_init_217 : decode cX8_init 217 = .ok (.iload_n 1, 1) := by decide +kernel
theorem dX8_init_218 : decode cX8_init 218 = .ok (.imul, 1) := by decide +kernel
theorem dX8_init_219 : decode cX8_init 219 = .ok (.iload_n 1, 1) := by decide +kernel
theorem dX8_init_220 : decode cX8_init 220 = .ok (.iastore, 1) := by decide +kernel
theorem dX8_init_221 : decode cX8_init 221 = .ok (.aload_n 0, 1) := by decide +kernel
theorem dX8_init_222 : decode cX8_init 222 = .ok (.getfield 22, 3) := by decide +kernel
theorem dX8_init_225 : decode cX8_init 225 = .ok (.bipush 8, 2) := by decide +kernel
theorem dX8_init_227 : decode cX8_init 227 = .ok (.iload_n 1, 1) := by decide +kernel
theorem dX8_init_228 : decode cX8_init 228 = .ok (.imul, 1) := by decide +kernel
theorem dX8_init_229 : decode cX8_init 229 = .ok (.iconst 1, 1) := by decide +kernel
theorem dX8_init_230 : decode cX8_init 230 = .ok (.iastore, 1) := by decide +kernel
theorem dX8_init_231 : decode cX8_init 231 = .ok (.iinc 1 1, 3) := by decide +kernel
theorem dX8_init_234 : decode cX8_init 234 = .ok (.goto (-53), 3) := by decide +kernel
theorem dX8_init_237 : decode cX8_init 237 = .ok (.iconst 1, 1) := by decide +kernel
theorem dX8_init_238 : decode cX8_init 238 = .ok (.istore_n 1, 1) := by decide +kernel
theorem dX8_init_239 : decode cX8_init 239 = .ok (.iload_n 1, 1) := by decide +kernel
theorem dX8_init_240 : decode cX8_init 240 = .ok (.bipush 8, 2) := by decide +kernel
theorem dX8_init_242 : decode cX8_init 242 = .ok (.if_icmp .ge 19, 3) := by decide +kernel
theorem dX8_init_245 : decode cX8_init 245 = .ok (.aload_n 0, 1) := by decide +kernel
theorem dX8_init_246 : decode cX8_init 246 = .ok (.getfield 22, 3) := by decide +kernel
theorem dX8_init_249 : decode cX8_init 249 = .ok (.bipush 9, 2) := by decide +kernel
theorem dX8_init_251 : decode cX8_init 251 = .ok (.iload_n 1, 1) := by decide +kernel
theorem dX8_init_252 : decode cX8_init 252 = .ok (.imul, 1) := by decide +kernel
theorem dX8_init_253 : decode cX8_init 253 = .ok (.iconst (-1), 1) := by decide +kernel
theorem dX8_init_254 : decode cX8_init 254 = .ok (.iastore, 1) := by decide +kernel
theorem dX8_init_255 : decode cX8_init 255 = .ok (.iinc 1 1, 3) := by decide +kernel
theorem dX8_init_258 : decode cX8_init 258 = .ok (.goto (-19), 3) := by decide +kernel
theorem dX8_init_261 : decode cX8_init 261 = .ok (.iconst 0, 1) := by decide +kernel
theorem dX8_init_262 : decode cX8_init 262 = .ok (.istore_n 1, 1) := by decide +kernel
theorem dX8_init_263 : decode cX8_init 263 = .ok (.iload_n 1, 1) := by decide +kernel
theorem dX8_init_264 : decode cX8_init 264 = .ok (.bipush 7, 2) := by decide +kernel
theorem dX8_init_266 : decode cX8_init 266 = .ok (.if_icmp .ge 56, 3) := by decide +kernel
theorem dX8_init_269 : decode cX8_init 269 = .ok (.iload_n 1, 1) := by decide +kernel
theorem dX8_init_270 : decode cX8_init 270 = .ok (.iconst 1, 1) := by decide +kernel
theorem dX8_init_271 : decode cX8_init 271 = .ok (.iadd, 1) := by decide +kernel
theorem dX8_init_272 : decode cX8_init 272 = .ok (.istore_n 2, 1) := by decide +kernel
theorem dX8_init_273 : decode cX8_init 273 = .ok (.iload_n 1, 1) := by decide +kernel
theorem dX8_init_274 : decode cX8_init 274 = .ok (.iconst 1, 1) := by decide +kernel
theorem dX8_init_275 : decode cX8_init 275 = .ok (.iadd, 1) := by decide +kernel
theorem dX8_init_276 : decode cX8_init 276 = .ok (.bipush 7, 2) := by decide +kernel
theorem dX8_init_278 : decode cX8_init 278 = .ok (.irem, 1) := by decide +kernel
theorem dX8_init_279 : decode cX8_init 279 = .ok (.iconst 1, 1) := by decide +kernel
theorem dX8_init_280 : decode cX8_init 280 = .ok (.iadd, 1) := by decide +kernel
theorem dX8_init_281 : decode cX8_init 281 = .ok (.istore_n 3, 1) := by decide +kernel
theorem dX8_init_282 : decode cX8_init 282 = .ok (.iload_n 1, 1) := by decide +kernel
theorem dX8_init_283 : decode cX8_init 283 = .ok (.iconst 3, 1) := by decide +kernel
theorem dX8_init_284 : decode cX8_init 284 = .ok (.iadd, 1) := by decide +kernel
theorem dX8_init_285 : decode cX8_init 285 = .ok (.bipush 7, 2) := by decide +kernel
theorem dX8_init_287 : decode cX8_init 287 = .ok (.irem, 1) := by decide +kernel
theorem dX8_init_288 : decode cX8_init 288 = .ok (.iconst 1, 1) := by decide +kernel
theorem dX8_init_289 : decode cX8_init 289 = .ok (.iadd, 1) := by decide +kernel
theorem dX8_init_290 : decode cX8_init 290 = .ok (.istore 4, 2) := by decide +kernel
theorem dX8_init_292 : decode cX8_init 292 = .ok (.aload_n 0, 1) := by decide +kernel
theorem dX8_init_293 : decode cX8_init 293 = .ok (.iload_n 2, 1) := by decide +kernel
theorem dX8_init_294 : decode cX8_init 294 = .ok (.iload_n 3, 1) := by decide +kernel
theorem dX8_init_295 : decode cX8_init 295 = .ok (.iload 4, 2) := by decide +kernel
theorem dX8_init_297 : decode cX8_init 297 = .ok (.invokevirtual 79, 3) := by decide +kernel
theorem dX8_init_300 : decode cX8_init 300 = .ok (.aload_n 0, 1) := by decide +kernel
theorem dX8_init_301 : decode cX8_init 301 = .ok (.iload_n 3, 1) := by decide +kernel
theorem dX8_init_302 : decode cX8_init 302 = .ok (.iload 4, 2) := by decide +kernel
theorem dX8_init_304 : decode cX8_init 304 = .ok (.iload_n 2, 1) := by decide +kernel
theorem dX8_init_305 : decode cX8_init 305 = .ok (.invokevirtual 79, 3) := by decide +kernel
theorem dX8_init_308 : decode cX8_init 308 = .ok (.aload_n 0, 1) := by decide +kernel
theorem dX8_init_309 : decode cX8_init 309 = .ok (.iload 4, 2) := by decide +kernel
theorem dX8_init_311 : decode cX8_init 311 = .ok (.iload_n 2, 1) := by decide +kernel
theorem dX8_init_312 : decode cX8_init 312 = .ok (.iload_n 3, 1) := by decide +kernel
theorem dX8_init_313 : decode cX8_init 313 = .ok (.invokevirtual 79, 3) := by decide +kernel
theorem dX8_init_316 : decode cX8_init 316 = .ok (.iinc 1 1, 3) := by decide +kernel
theorem dX8_init_319 : decode cX8_init 319 = .ok (.goto (-56), 3) := by decide +kernel
theorem dX8_init_322 : decode cX8_init 322 = .ok (.aload_n 0, 1) := by decide +kernel
theorem dX8_init_323 : decode cX8_init 323 = .ok (.getfield 7, 3) := by decide +kernel
theorem dX8_init_326 : decode cX8_init 326 = .ok (.bipush 64, 2) := by decide +kernel
theorem dX8_init_328 : decode cX8_init 328 = .ok (.iconst 1, 1) := by decide +kernel
theorem dX8_init_329 : decode cX8_init 329 = .ok (.iastore, 1) := by decide +kernel
theorem dX8_init_330 : decode cX8_init 330 = .ok (.return_, 1) := by decide +kernel
theorem dX8_lays_0 : decode cX8_lays 0 = .ok (.aload_n 0, 1) := by decide +kernel
theorem dX8_lays_1 : decode cX8_lays 1 = .ok (.getfield 19, 3) := by decide +kernel
theorem dX8_lays_4 : decode cX8_lays 4 = .ok (.bipush 8, 2) := by decide +kernel
theorem dX8_lays_6 : decode cX8_lays 6 = .ok (.iload_n 1, 1) := by decide +kernel
theorem dX8_lays_7 : decode cX8_lays 7 = .ok (.imul, 1) := by decide +kernel
theorem dX8_lays_8 : decode cX8_lays 8 = .ok (.iload_n 2, 1) := by decide +kernel
theorem dX8_lays_9 : decode cX8_lays 9 = .ok (.iadd, 1) := by decide +kernel
theorem dX8_lays_10 : decode cX8_lays 10 = .ok (.iload_n 3, 1) := by decide +kernel
theorem dX8_lays_11 : decode cX8_lays 11 = .ok (.iastore, 1) := by decide +kernel
theorem dX8_lays_12 : decode cX8_lays 12 = .ok (.aload_n 0, 1) := by decide +kernel
theorem dX8_lays_13 : decode cX8_lays 13 = .ok (.getfield 22, 3) := by decide +kernel
theorem dX8_lays_16 : decode cX8_lays 16 = .ok (.bipush 8, 2) := by decide +kernel
theorem dX8_lays_18 : decode cX8_lays 18 = .ok (.iload_n 1, 1) := by decide +kernel
theorem dX8_lays_19 : decode cX8_lays 19 = .ok (.imul, 1) := by decide +kernel
theorem dX8_lays_20 : decode cX8_lays 20 = .ok (.iload_n 2, 1) := by decide +kernel
theorem dX8_lays_21 : decode cX8_lays 21 = .ok (.iadd, 1) := by decide +kernel
theorem dX8_lays_22 : decode cX8_lays 22 = .ok (.iconst 1, 1) := by decide +kernel
theorem dX8_lays_23 : decode cX8_lays 23 = .ok (.iastore, 1) := by decide +kernel
theorem dX8_lays_24 : decode cX8_lays 24 = .ok (.aload_n 0, 1) := by decide +kernel
theorem dX8_lays_25 : decode cX8_lays 25 = .ok (.getfield 19, 3) := by decide +kernel
theorem dX8_lays_28 : decode cX8_lays 28 = .ok (.bipush 8, 2) := by decide +kernel
theorem dX8_lays_30 : decode cX8_lays 30 = .ok (.iload_n 2, 1) := by decide +kernel
theorem dX8_lays_31 : decode cX8_lays 31 = .ok (.imul, 1) := by decide +kernel
theorem dX8_lays_32 : decode cX8_lays 32 = .ok (.iload_n 1, 1) := by decide +kernel
theorem dX8_lays_33 : decode cX8_lays 33 = .ok (.iadd, 1) := by decide +kernel
theorem dX8_lays_34 : decode cX8_lays 34 = .ok (.iload_n 3, 1) := by decide +kernel
theorem dX8_lays_35 : decode cX8_lays 35 = .ok (.iastore, 1) := by decide +kernel
theorem dX8_lays_36 : decode cX8_lays 36 = .ok (.aload_n 0, 1) := by decide +kernel
theorem dX8_lays_37 : decode cX8_lays 37 = .ok (.getfield 22, 3) := by decide +kernel
theorem dX8_lays_40 : decode cX8_lays 40 = .ok (.bipush 8, 2) := by decide +kernel
theorem dX8_lays_42 : decode cX8_lays 42 = .ok (.iload_n 2, 1) := by decide +kernel
theorem dX8_lays_43 : decode cX8_lays 43 = .ok (.imul, 1) := by decide +kernel
theorem dX8_lays_44 : decode cX8_lays 44 = .ok (.iload_n 1, 1) := by decide +kernel
theorem dX8_lays_45 : decode cX8_lays 45 = .ok (.iadd, 1) := by decide +kernel
theorem dX8_lays_46 : decode cX8_lays 46 = .ok (.iconst (-1), 1) := by decide +kernel
theorem dX8_lays_47 : decode cX8_lays 47 = .ok (.iastore, 1) := by decide +kernel
theorem dX8_lays_48 : decode cX8_lays 48 = .ok (.return_, 1) := by decide +kernel
theorem dX8_thrown_0 : decode cX8_thrown 0 = .ok (.aload_n 0, 1) := by decide +kernel
theorem dX8_thrown_1 : decode cX8_thrown 1 = .ok (.getfield 83, 3) := by decide +kernel
theorem dX8_thrown_4 : decode cX8_thrown 4 = .ok (.ireturn, 1) := by decide +kernel
theorem dX8_in_0 : decode cX8_in 0 = .ok (.iload_n 0, 1) := by decide +kernel
theorem dX8_in_1 : decode cX8_in 1 = .ok (.iload_n 1, 1) := by decide +kernel
theorem dX8_in_2 : decode cX8_in 2 = .ok (.if_icmp .lt 12, 3) := by decide +kernel
theorem dX8_in_5 : decode cX8_in 5 = .ok (.iload_n 0, 1) := by decide +kernel
theorem dX8_in_6 : decode cX8_in 6 = .ok (.iload_n 2, 1) := by decide +kernel
theorem dX8_in_7 : decode cX8_in 7 = .ok (.if_icmp .gt 7, 3) := by decide +kernel
theorem dX8_in_10 : decode cX8_in 10 = .ok (.iconst 1, 1) := by decide +kernel
theorem dX8_in_11 : decode cX8_in 11 = .ok (.goto 4, 3) := by decide +kernel
theorem dX8_in_14 : decode cX8_in 14 = .ok (.iconst 0, 1) := by decide +kernel
theorem dX8_in_15 : decode cX8_in 15 = .ok (.ireturn, 1) := by decide +kernel
theorem dX8_isEight_0 : decode cX8_isEight 0 = .ok (.iload_n 0, 1) := by decide +kernel
theorem dX8_isEight_1 : decode cX8_isEight 1 = .ok (.iconst 0, 1) := by decide +kernel
theorem dX8_isEight_2 : decode cX8_isEight 2 = .ok (.bipush 7, 2) := by decide +kernel
theorem dX8_isEight_4 : decode cX8_isEight 4 = .ok (.invokestatic 86, 3) := by decide +kernel
theorem dX8_isEight_7 : decode cX8_isEight 7 = .ok (.ireturn, 1) := by decide +kernel
theorem dX8_throwsAt_0 : decode cX8_throwsAt 0 = .ok (.aload_n 0, 1) := by decide +kernel
theorem dX8_throwsAt_1 : decode cX8_throwsAt 1 = .ok (.iload_n 1, 1) := by decide +kernel
theorem dX8_throwsAt_2 : decode cX8_throwsAt 2 = .ok (.putfield 83, 3) := by decide +kernel
theorem dX8_throwsAt_5 : decode cX8_throwsAt 5 = .ok (.iload_n 1, 1) := by decide +kernel
theorem dX8_throwsAt_6 : decode cX8_throwsAt 6 = .ok (.ifCond .le 7, 3) := by decide +kernel
theorem dX8_throwsAt_9 : decode cX8_throwsAt 9 = .ok (.iconst 1, 1) := by decide +kernel
theorem dX8_throwsAt_10 : decode cX8_throwsAt 10 = .ok (.goto 4, 3) := by decide +kernel
theorem dX8_throwsAt_13 : decode cX8_throwsAt 13 = .ok (.iconst 0, 1) := by decide +kernel
theorem dX8_throwsAt_14 : decode cX8_throwsAt 14 = .ok (.ireturn, 1) := by decide +kernel
theorem dX8_saves_0 : decode cX8_saves 0 = .ok (.aload_n 0, 1) := by decide +kernel
theorem dX8_saves_1 : decode cX8_saves 1 = .ok (.getfield 90, 3) := by decide +kernel
theorem dX8_saves_4 : decode cX8_saves 4 = .ok (.iconst 4, 1) := by decide +kernel
theorem dX8_saves_5 : decode cX8_saves 5 = .ok (.if_icmp .ne 43, 3) := by decide +kernel
theorem dX8_saves_8 : decode cX8_saves 8 = .ok (.iconst 0, 1) := by decide +kernel
theorem dX8_saves_9 : decode cX8_saves 9 = .ok (.istore_n 1, 1) := by decide +kernel
theorem dX8_saves_10 : decode cX8_saves 10 = .ok (.iload_n 1, 1) := by decide +kernel
theorem dX8_saves_11 : decode cX8_saves 11 = .ok (.sipush 201, 3) := by decide +kernel
theorem dX8_saves_14 : decode cX8_saves 14 = .ok (.if_icmp .ge 24, 3) := by decide +kernel
theorem dX8_saves_17 : decode cX8_saves 17 = .ok (.aload_n 0, 1) := by decide +kernel
theorem dX8_saves_18 : decode cX8_saves 18 = .ok (.getfield 13, 3) := by decide +kernel
theorem dX8_saves_21 : decode cX8_saves 21 = .ok (.iload_n 1, 1) := by decide +kernel
theorem dX8_saves_22 : decode cX8_saves 22 = .ok (.aload_n 0, 1) := by decide +kernel
theorem dX8_saves_23 : decode cX8_saves 23 = .ok (.getfield 13, 3) := by decide +kernel
theorem dX8_saves_26 : decode cX8_saves 26 = .ok (.iload_n 1, 1) := by decide +kernel
theorem dX8_saves_27 : decode cX8_saves 27 = .ok (.bipush 67, 2) := by decide +kernel
theorem dX8_saves_29 : decode cX8_saves 29 = .ok (.iadd, 1) := by decide +kernel
theorem dX8_saves_30 : decode cX8_saves 30 = .ok (.iaload, 1) := by decide +kernel
theorem dX8_saves_31 : decode cX8_saves 31 = .ok (.iastore, 1) := by decide +kernel
theorem dX8_saves_32 : decode cX8_saves 32 = .ok (.iinc 1 1, 3) := by decide +kernel
theorem dX8_saves_35 : decode cX8_saves 35 = .ok (.goto (-25), 3) := by decide +kernel
theorem dX8_saves_38 : decode cX8_saves 38 = .ok (.aload_n 0, 1) := by decide +kernel
theorem dX8_saves_39 : decode cX8_saves 39 = .ok (.dup, 1) := by decide +kernel
theorem dX8_saves_40 : decode cX8_saves 40 = .ok (.getfield 90, 3) := by decide +kernel
theorem dX8_saves_43 : decode cX8_saves 43 = .ok (.iconst 1, 1) := by decide +kernel
theorem dX8_saves_44 : decode cX8_saves 44 = .ok (.isub, 1) := by decide +kernel
theorem dX8_saves_45 : decode cX8_saves 45 = .ok (.putfield 90, 3) := by decide +kernel
theorem dX8_saves_48 : decode cX8_saves 48 = .ok (.iconst 0, 1) := by decide +kernel
theorem dX8_saves_49 : decode cX8_saves 49 = .ok (.istore_n 1, 1) := by decide +kernel
theorem dX8_saves_50 : decode cX8_saves 50 = .ok (.iload_n 1, 1) := by decide +kernel
theorem dX8_saves_51 : decode cX8_saves 51 = .ok (.bipush 67, 2) := by decide +kernel
theorem dX8_saves_53 : decode cX8_saves 53 = .ok (.if_icmp .ge 29, 3) := by decide +kernel
theorem dX8_saves_56 : decode cX8_saves 56 = .ok (.aload_n 0, 1) := by decide +kernel
theorem dX8_saves_57 : decode cX8_saves 57 = .ok (.getfield 13, 3) := by decide +kernel
theorem dX8_saves_60 : decode cX8_saves 60 = .ok (.bipush 67, 2) := by decide +kernel
theorem dX8_saves_62 : decode cX8_saves 62 = .ok (.aload_n 0, 1) := by decide +kernel
theorem dX8_saves_63 : decode cX8_saves 63 = .ok (.getfield 90, 3) := by decide +kernel
theorem dX8_saves_66 : decode cX8_saves 66 = .ok (.imul, 1) := by decide +kernel
theorem dX8_saves_67 : decode cX8_saves 67 = .ok (.iload_n 1, 1) := by decide +kernel
theorem dX8_saves_68 : decode cX8_saves 68 = .ok (.iadd, 1) := by decide +kernel
theorem dX8_saves_69 : decode cX8_saves 69 = .ok (.aload_n 0, 1) := by decide +kernel
theorem dX8_saves_70 : decode cX8_saves 70 = .ok (.getfield 7, 3) := by decide +kernel
theorem dX8_saves_73 : decode cX8_saves 73 = .ok (.iload_n 1, 1) := by decide +kernel
theorem dX8_saves_74 : decode cX8_saves 74 = .ok (.iaload, 1) := by decide +kernel
theorem dX8_saves_75 : decode cX8_saves 75 = .ok (.iastore, 1) := by decide +kernel
theorem dX8_saves_76 : decode cX8_saves 76 = .ok (.iinc 1 1, 3) := by decide +kernel
theorem dX8_saves_79 : decode cX8_saves 79 = .ok (.goto (-29), 3) := by decide +kernel
theorem dX8_saves_82 : decode cX8_saves 82 = .ok (.aload_n 0, 1) := by decide +kernel
theorem dX8_saves_83 : decode cX8_saves 83 = .ok (.dup, 1) := by decide +kernel
theorem dX8_saves_84 : decode cX8_saves 84 = .ok (.getfield 90, 3) := by decide +kernel
theorem dX8_saves_87 : decode cX8_saves 87 = .ok (.iconst 1, 1) := by decide +kernel
theorem dX8_saves_88 : decode cX8_saves 88 = .ok (.iadd, 1) := by decide +kernel
theorem dX8_saves_89 : decode cX8_saves 89 = .ok (.putfield 90, 3) := by decide +kernel
theorem dX8_saves_92 : decode cX8_saves 92 = .ok (.return_, 1) := by decide +kernel
theorem dX8_takes_0 : decode cX8_takes 0 = .ok (.iconst 0, 1) := by decide +kernel
theorem dX8_takes_1 : decode cX8_takes 1 = .ok (.istore_n 3, 1) := by decide +kernel
theorem dX8_takes_2 : decode cX8_takes 2 = .ok (.iload_n 3, 1) := by decide +kernel
theorem dX8_takes_3 : decode cX8_takes 3 = .ok (.bipush 8, 2) := by decide +kernel
theorem dX8_takes_5 : decode cX8_takes 5 = .ok (.if_icmp .ge 24, 3) := by decide +kernel
theorem dX8_takes_8 : decode cX8_takes 8 = .ok (.aload_n 1, 1) := by decide +kernel
theorem dX8_takes_9 : decode cX8_takes 9 = .ok (.iload_n 3, 1) := by decide +kernel
theorem dX8_takes_10 : decode cX8_takes 10 = .ok (.aload_n 0, 1) := by decide +kernel
theorem dX8_takes_11 : decode cX8_takes 11 = .ok (.getfield 7, 3) := by decide +kernel
theorem dX8_takes_14 : decode cX8_takes 14 = .ok (.bipush 8, 2) := by decide +kernel
theorem dX8_takes_16 : decode cX8_takes 16 = .ok (.iload_n 2, 1) := by decide +kernel
theorem dX8_takes_17 : decode cX8_takes 17 = .ok (.imul, 1) := by decide +kernel
theorem dX8_takes_18 : decode cX8_takes 18 = .ok (.iload_n 3, 1) := by decide +kernel
theorem dX8_takes_19 : decode cX8_takes 19 = .ok (.iadd, 1) := by decide +kernel
theorem dX8_takes_20 : decode cX8_takes 20 = .ok (.iaload, 1) := by decide +kernel
theorem dX8_takes_21 : decode cX8_takes 21 = .ok (.i2l, 1) := by decide +kernel
theorem dX8_takes_22 : decode cX8_takes 22 = .ok (.lastore, 1) := by decide +kernel
theorem dX8_takes_23 : decode cX8_takes 23 = .ok (.iinc 3 1, 3) := by decide +kernel
theorem dX8_takes_26 : decode cX8_takes 26 = .ok (.goto (-24), 3) := by decide +kernel
theorem dX8_takes_29 : decode cX8_takes 29 = .ok (.return_, 1) := by decide +kernel
theorem dX8_times_0 : decode cX8_times 0 = .ok (.iconst 0, 1) := by decide +kernel
theorem dX8_times_1 : decode cX8_times 1 = .ok (.istore 4, 2) := by decide +kernel
theorem dX8_times_3 : decode cX8_times 3 = .ok (.iload 4, 2) := by decide +kernel
theorem dX8_times_5 : decode cX8_times 5 = .ok (.bipush 8, 2) := by decide +kernel
theorem dX8_times_7 : decode cX8_times 7 = .ok (.if_icmp .ge 17, 3) := by decide +kernel
theorem dX8_times_10 : decode cX8_times 10 = .ok (.aload_n 0, 1) := by decide +kernel
theorem dX8_times_11 : decode cX8_times 11 = .ok (.getfield 38, 3) := by decide +kernel
theorem dX8_times_14 : decode cX8_times 14 = .ok (.iload 4, 2) := by decide +kernel
theorem dX8_times_16 : decode cX8_times 16 = .ok (.lconst 0, 1) := by decide +kernel
theorem dX8_times_17 : decode cX8_times 17 = .ok (.lastore, 1) := by decide +kernel
theorem dX8_times_18 : decode cX8_times 18 = .ok (.iinc 4 1, 3) := by decide +kernel
theorem dX8_times_21 : decode cX8_times 21 = .ok (.goto (-18), 3) := by decide +kernel
theorem dX8_times_24 : decode cX8_times 24 = .ok (.iconst 0, 1) := by decide +kernel
theorem dX8_times_25 : decode cX8_times 25 = .ok (.istore 4, 2) := by decide +kernel
theorem dX8_times_27 : decode cX8_times 27 = .ok (.iload 4, 2) := by decide +kernel
theorem dX8_times_29 : decode cX8_times 29 = .ok (.bipush 8, 2) := by decide +kernel
theorem dX8_times_31 : decode cX8_times 31 = .ok (.if_icmp .ge 70, 3) := by decide +kernel
theorem dX8_times_34 : decode cX8_times 34 = .ok (.iconst 0, 1) := by decide +kernel
theorem dX8_times_35 : decode cX8_times 35 = .ok (.istore 5, 2) := by decide +kernel
theorem dX8_times_37 : decode cX8_times 37 = .ok (.iload 5, 2) := by decide +kernel
theorem dX8_times_39 : decode cX8_times 39 = .ok (.bipush 8, 2) := by decide +kernel
theorem dX8_times_41 : decode cX8_times 41 = .ok (.if_icmp .ge 54, 3) := by decide +kernel
theorem dX8_times_44 : decode cX8_times 44 = .ok (.aload_n 0, 1) := by decide +kernel
theorem dX8_times_45 : decode cX8_times 45 = .ok (.getfield 38, 3) := by decide +kernel
theorem dX8_times_48 : decode cX8_times 48 = .ok (.aload_n 0, 1) := by decide +kernel
theorem dX8_times_49 : decode cX8_times 49 = .ok (.getfield 19, 3) := by decide +kernel
theorem dX8_times_52 : decode cX8_times 52 = .ok (.bipush 8, 2) := by decide +kernel
theorem dX8_times_54 : decode cX8_times 54 = .ok (.iload 4, 2) := by decide +kernel
theorem dX8_times_56 : decode cX8_times 56 = .ok (.imul, 1) := by decide +kernel
theorem dX8_times_57 : decode cX8_times 57 = .ok (.iload 5, 2) := by decide +kernel
theorem dX8_times_59 : decode cX8_times 59 = .ok (.iadd, 1) := by decide +kernel
theorem dX8_times_60 : decode cX8_times 60 = .ok (.iaload, 1) := by decide +kernel
theorem dX8_times_61 : decode cX8_times 61 = .ok (.dup2, 1) := by decide +kernel
theorem dX8_times_62 : decode cX8_times 62 = .ok (.laload, 1) := by decide +kernel
theorem dX8_times_63 : decode cX8_times 63 = .ok (.aload_n 0, 1) := by decide +kernel
theorem dX8_times_64 : decode cX8_times 64 = .ok (.getfield 22, 3) := by decide +kernel
theorem dX8_times_67 : decode cX8_times 67 = .ok (.bipush 8, 2) := by decide +kernel
theorem dX8_times_69 : decode cX8_times 69 = .ok (.iload 4, 2) := by decide +kernel
theorem dX8_times_71 : decode cX8_times 71 = .ok (.imul, 1) := by decide +kernel
theorem dX8_times_72 : decode cX8_times 72 = .ok (.iload 5, 2) := by decide +kernel
theorem dX8_times_74 : decode cX8_times 74 = .ok (.iadd, 1) := by decide +kernel
theorem dX8_times_75 : decode cX8_times 75 = .ok (.iaload, 1) := by decide +kernel
theorem dX8_times_76 : decode cX8_times 76 = .ok (.i2l, 1) := by decide +kernel
theorem dX8_times_77 : decode cX8_times 77 = .ok (.aload_n 1, 1) := by decide +kernel
theorem dX8_times_78 : decode cX8_times 78 = .ok (.iload 4, 2) := by decide +kernel
theorem dX8_times_80 : decode cX8_times 80 = .ok (.laload, 1) := by decide +kernel
theorem dX8_times_81 : decode cX8_times 81 = .ok (.lmul, 1) := by decide +kernel
theorem dX8_times_82 : decode cX8_times 82 = .ok (.aload_n 2, 1) := by decide +kernel
theorem dX8_times_83 : decode cX8_times 83 = .ok (.iload 5, 2) := by decide +kernel
theorem dX8_times_85 : decode cX8_times 85 = .ok (.laload, 1) := by decide +kernel
theorem dX8_times_86 : decode cX8_times 86 = .ok (.lmul, 1) := by decide +kernel
theorem dX8_times_87 : decode cX8_times 87 = .ok (.ladd, 1) := by decide +kernel
theorem dX8_times_88 : decode cX8_times 88 = .ok (.lastore, 1) := by decide +kernel
theorem dX8_times_89 : decode cX8_times 89 = .ok (.iinc 5 1, 3) := by decide +kernel
theorem dX8_times_92 : decode cX8_times 92 = .ok (.goto (-55), 3) := by decide +kernel
theorem dX8_times_95 : decode cX8_times 95 = .ok (.iinc 4 1, 3) := by decide +kernel
theorem dX8_times_98 : decode cX8_times 98 = .ok (.goto (-71), 3) := by decide +kernel
theorem dX8_times_101 : decode cX8_times 101 = .ok (.iconst 0, 1) := by decide +kernel
theorem dX8_times_102 : decode cX8_times 102 = .ok (.istore 4, 2) := by decide +kernel
theorem dX8_times_104 : decode cX8_times 104 = .ok (.iload 4, 2) := by decide +kernel
theorem dX8_times_106 : decode cX8_times 106 = .ok (.bipush 8, 2) := by decide +kernel
theorem dX8_times_108 : decode cX8_times 108 = .ok (.if_icmp .ge 20, 3) := by decide +kernel
theorem dX8_times_111 : decode cX8_times 111 = .ok (.aload_n 3, 1) := by decide +kernel
theorem dX8_times_112 : decode cX8_times 112 = .ok (.iload 4, 2) := by decide +kernel
theorem dX8_times_114 : decode cX8_times 114 = .ok (.aload_n 0, 1) := by decide +kernel
theorem dX8_times_115 : decode cX8_times 115 = .ok (.getfield 38, 3) := by decide +kernel
theorem dX8_times_118 : decode cX8_times 118 = .ok (.iload 4, 2) := by decide +kernel
theorem dX8_times_120 : decode cX8_times 120 = .ok (.laload, 1) := by decide +kernel
theorem dX8_times_121 : decode cX8_times 121 = .ok (.lastore, 1) := by decide +kernel
theorem dX8_times_122 : decode cX8_times 122 = .ok (.iinc 4 1, 3) := by decide +kernel
theorem dX8_times_125 : decode cX8_times 125 = .ok (.goto (-21), 3) := by decide +kernel
theorem dX8_times_128 : decode cX8_times 128 = .ok (.return_, 1) := by decide +kernel
theorem dX8_halves_0 : decode cX8_halves 0 = .ok (.iconst 1, 1) := by decide +kernel
theorem dX8_halves_1 : decode cX8_halves 1 = .ok (.istore_n 2, 1) := by decide +kernel
theorem dX8_halves_2 : decode cX8_halves 2 = .ok (.iconst 0, 1) := by decide +kernel
theorem dX8_halves_3 : decode cX8_halves 3 = .ok (.istore_n 3, 1) := by decide +kernel
theorem dX8_halves_4 : decode cX8_halves 4 = .ok (.iload_n 3, 1) := by decide +kernel
theorem dX8_halves_5 : decode cX8_halves 5 = .ok (.bipush 8, 2) := by decide +kernel
theorem dX8_halves_7 : decode cX8_halves 7 = .ok (.if_icmp .ge 56, 3) := by decide +kernel
theorem dX8_halves_10 : decode cX8_halves 10 = .ok (.iload_n 2, 1) := by decide +kernel
theorem dX8_halves_11 : decode cX8_halves 11 = .ok (.ifCond .eq 44, 3) := by decide +kernel
theorem dX8_halves_14 : decode cX8_halves 14 = .ok (.aload_n 0, 1) := by decide +kernel
theorem dX8_halves_15 : decode cX8_halves 15 = .ok (.iload_n 3, 1) := by decide +kernel
theorem dX8_halves_16 : decode cX8_halves 16 = .ok (.laload, 1) := by decide +kernel
theorem dX8_halves_17 : decode cX8_halves 17 = .ok (.iload_n 1, 1) := by decide +kernel
theorem dX8_halves_18 : decode cX8_halves 18 = .ok (.i2l, 1) := by decide +kernel
theorem dX8_halves_19 : decode cX8_halves 19 = .ok (.lrem, 1) := by decide +kernel
theorem dX8_halves_20 : decode cX8_halves 20 = .ok (.lconst 0, 1) := by decide +kernel
theorem dX8_halves_21 : decode cX8_halves 21 = .ok (.lcmp, 1) := by decide +kernel
theorem dX8_halves_22 : decode cX8_halves 22 = .ok (.ifCond .ne 33, 3) := by decide +kernel
theorem dX8_halves_25 : decode cX8_halves 25 = .ok (.aload_n 0, 1) := by decide +kernel
theorem dX8_halves_26 : decode cX8_halves 26 = .ok (.iload_n 3, 1) := by decide +kernel
theorem dX8_halves_27 : decode cX8_halves 27 = .ok (.laload, 1) := by decide +kernel
theorem dX8_halves_28 : decode cX8_halves 28 = .ok (.iload_n 1, 1) := by decide +kernel
theorem dX8_halves_29 : decode cX8_halves 29 = .ok (.i2l, 1) := by decide +kernel
theorem dX8_halves_30 : decode cX8_halves 30 = .ok (.ldiv, 1) := by decide +kernel
theorem dX8_halves_31 : decode cX8_halves 31 = .ok (.ldc2_w 93, 3) := by decide +kernel
theorem dX8_halves_34 : decode cX8_halves 34 = .ok (.lcmp, 1) := by decide +kernel
theorem dX8_halves_35 : decode cX8_halves 35 = .ok (.ifCond .lt 20, 3) := by decide +kernel
theorem dX8_halves_38 : decode cX8_halves 38 = .ok (.aload_n 0, 1) := by decide +kernel
theorem dX8_halves_39 : decode cX8_halves 39 = .ok (.iload_n 3, 1) := by decide +kernel
theorem dX8_halves_40 : decode cX8_halves 40 = .ok (.laload, 1) := by decide +kernel
theorem dX8_halves_41 : decode cX8_halves 41 = .ok (.iload_n 1, 1) := by decide +kernel
theorem dX8_halves_42 : decode cX8_halves 42 = .ok (.i2l, 1) := by decide +kernel
theorem dX8_halves_43 : decode cX8_halves 43 = .ok (.ldiv, 1) := by decide +kernel
theorem dX8_halves_44 : decode cX8_halves 44 = .ok (.ldc2_w 95, 3) := by decide +kernel
theorem dX8_halves_47 : decode cX8_halves 47 = .ok (.lcmp, 1) := by decide +kernel
theorem dX8_halves_48 : decode cX8_halves 48 = .ok (.ifCond .gt 7, 3) := by decide +kernel
theorem dX8_halves_51 : decode cX8_halves 51 = .ok (.iconst 1, 1) := by decide +kernel
theorem dX8_halves_52 : decode cX8_halves 52 = .ok (.goto 4, 3) := by decide +kernel
theorem dX8_halves_55 : decode cX8_halves 55 = .ok (.iconst 0, 1) := by decide +kernel
theorem dX8_halves_56 : decode cX8_halves 56 = .ok (.istore_n 2, 1) := by decide +kernel
theorem dX8_halves_57 : decode cX8_halves 57 = .ok (.iinc 3 1, 3) := by decide +kernel
theorem dX8_halves_60 : decode cX8_halves 60 = .ok (.goto (-56), 3) := by decide +kernel
theorem dX8_halves_63 : decode cX8_halves 63 = .ok (.iconst 0, 1) := by decide +kernel
theorem dX8_halves_64 : decode cX8_halves 64 = .ok (.istore_n 3, 1) := by decide +kernel
theorem dX8_halves_65 : decode cX8_halves 65 = .ok (.iload_n 3, 1) := by decide +kernel
theorem dX8_halves_66 : decode cX8_halves 66 = .ok (.bipush 8, 2) := by decide +kernel
theorem dX8_halves_68 : decode cX8_halves 68 = .ok (.if_icmp .ge 21, 3) := by decide +kernel
theorem dX8_halves_71 : decode cX8_halves 71 = .ok (.iload_n 2, 1) := by decide +kernel
theorem dX8_halves_72 : decode cX8_halves 72 = .ok (.ifCond .eq 17, 3) := by decide +kernel
theorem dX8_halves_75 : decode cX8_halves 75 = .ok (.aload_n 0, 1) := by decide +kernel
theorem dX8_halves_76 : decode cX8_halves 76 = .ok (.iload_n 3, 1) := by decide +kernel
theorem dX8_halves_77 : decode cX8_halves 77 = .ok (.dup2, 1) := by decide +kernel
theorem dX8_halves_78 : decode cX8_halves 78 = .ok (.laload, 1) := by decide +kernel
theorem dX8_halves_79 : decode cX8_halves 79 = .ok (.iload_n 1, 1) := by decide +kernel
theorem dX8_halves_80 : decode cX8_halves 80 = .ok (.i2l, 1) := by decide +kernel
theorem dX8_halves_81 : decode cX8_halves 81 = .ok (.ldiv, 1) := by decide +kernel
theorem dX8_halves_82 : decode cX8_halves 82 = .ok (.lastore, 1) := by decide +kernel
theorem dX8_halves_83 : decode cX8_halves 83 = .ok (.iinc 3 1, 3) := by decide +kernel
theorem dX8_halves_86 : decode cX8_halves 86 = .ok (.goto (-21), 3) := by decide +kernel
theorem dX8_halves_89 : decode cX8_halves 89 = .ok (.iload_n 2, 1) := by decide +kernel
theorem dX8_halves_90 : decode cX8_halves 90 = .ok (.ireturn, 1) := by decide +kernel
theorem dX8_puts_0 : decode cX8_puts 0 = .ok (.iconst 0, 1) := by decide +kernel
theorem dX8_puts_1 : decode cX8_puts 1 = .ok (.istore_n 3, 1) := by decide +kernel
theorem dX8_puts_2 : decode cX8_puts 2 = .ok (.iload_n 3, 1) := by decide +kernel
theorem dX8_puts_3 : decode cX8_puts 3 = .ok (.bipush 8, 2) := by decide +kernel
theorem dX8_puts_5 : decode cX8_puts 5 = .ok (.if_icmp .ge 24, 3) := by decide +kernel
theorem dX8_puts_8 : decode cX8_puts 8 = .ok (.aload_n 0, 1) := by decide +kernel
theorem dX8_puts_9 : decode cX8_puts 9 = .ok (.getfield 7, 3) := by decide +kernel
theorem dX8_puts_12 : decode cX8_puts 12 = .ok (.bipush 8, 2) := by decide +kernel
theorem dX8_puts_14 : decode cX8_puts 14 = .ok (.iload_n 2, 1) := by decide +kernel
theorem dX8_puts_15 : decode cX8_puts 15 = .ok (.imul, 1) := by decide +kernel
theorem dX8_puts_16 : decode cX8_puts 16 = .ok (.iload_n 3, 1) := by decide +kernel
theorem dX8_puts_17 : decode cX8_puts 17 = .ok (.iadd, 1) := by decide +kernel
theorem dX8_puts_18 : decode cX8_puts 18 = .ok (.aload_n 1, 1) := by decide +kernel
theorem dX8_puts_19 : decode cX8_puts 19 = .ok (.iload_n 3, 1) := by decide +kernel
theorem dX8_puts_20 : decode cX8_puts 20 = .ok (.laload, 1) := by decide +kernel
theorem dX8_puts_21 : decode cX8_puts 21 = .ok (.l2i, 1) := by decide +kernel
theorem dX8_puts_22 : decode cX8_puts 22 = .ok (.iastore, 1) := by decide +kernel
theorem dX8_puts_23 : decode cX8_puts 23 = .ok (.iinc 3 1, 3) := by decide +kernel
theorem dX8_puts_26 : decode cX8_puts 26 = .ok (.goto (-24), 3) := by decide +kernel
theorem dX8_puts_29 : decode cX8_puts 29 = .ok (.return_, 1) := by decide +kernel
theorem dX8_square_0 : decode cX8_square 0 = .ok (.lconst 0, 1) := by decide +kernel
theorem dX8_square_1 : decode cX8_square 1 = .ok (.lstore_n 1, 1) := by decide +kernel
theorem dX8_square_2 : decode cX8_square 2 = .ok (.iconst 0, 1) := by decide +kernel
theorem dX8_square_3 : decode cX8_square 3 = .ok (.istore_n 3, 1) := by decide +kernel
theorem dX8_square_4 : decode cX8_square 4 = .ok (.iload_n 3, 1) := by decide +kernel
theorem dX8_square_5 : decode cX8_square 5 = .ok (.bipush 8, 2) := by decide +kernel
theorem dX8_square_7 : decode cX8_square 7 = .ok (.if_icmp .ge 19, 3) := by decide +kernel
theorem dX8_square_10 : decode cX8_square 10 = .ok (.lload_n 1, 1) := by decide +kernel
theorem dX8_square_11 : decode cX8_square 11 = .ok (.aload_n 0, 1) := by decide +kernel
theorem dX8_square_12 : decode cX8_square 12 = .ok (.iload_n 3, 1) := by decide +kernel
theorem dX8_square_13 : decode cX8_square 13 = .ok (.laload, 1) := by decide +kernel
theorem dX8_square_14 : decode cX8_square 14 = .ok (.aload_n 0, 1) := by decide +kernel
theorem dX8_square_15 : decode cX8_square 15 = .ok (.iload_n 3, 1) := by decide +kernel
theorem dX8_square_16 : decode cX8_square 16 = .ok (.laload, 1) := by decide +kernel
theorem dX8_square_17 : decode cX8_square 17 = .ok (.lmul, 1) := by decide +kernel
theorem dX8_square_18 : decode cX8_square 18 = .ok (.ladd, 1) := by decide +kernel
theorem dX8_square_19 : decode cX8_square 19 = .ok (.lstore_n 1, 1) := by decide +kernel
theorem dX8_square_20 : decode cX8_square 20 = .ok (.iinc 3 1, 3) := by decide +kernel
theorem dX8_square_23 : decode cX8_square 23 = .ok (.goto (-19), 3) := by decide +kernel
theorem dX8_square_26 : decode cX8_square 26 = .ok (.lload_n 1, 1) := by decide +kernel
theorem dX8_square_27 : decode cX8_square 27 = .ok (.lreturn, 1) := by decide +kernel
theorem dX8_isNought_0 : decode cX8_isNought 0 = .ok (.aload_n 0, 1) := by decide +kernel
theorem dX8_isNought_1 : decode cX8_isNought 1 = .ok (.invokestatic 97, 3) := by decide +kernel
theorem dX8_isNought_4 : decode cX8_isNought 4 = .ok (.lconst 0, 1) := by decide +kernel
theorem dX8_isNought_5 : decode cX8_isNought 5 = .ok (.lcmp, 1) := by decide +kernel
theorem dX8_isNought_6 : decode cX8_isNought 6 = .ok (.ifCond .ne 7, 3) := by decide +kernel
theorem dX8_isNought_9 : decode cX8_isNought 9 = .ok (.iconst 1, 1) := by decide +kernel
theorem dX8_isNought_10 : decode cX8_isNought 10 = .ok (.goto 4, 3) := by decide +kernel
theorem dX8_isNought_13 : decode cX8_isNought 13 = .ok (.iconst 0, 1) := by decide +kernel
theorem dX8_isNought_14 : decode cX8_isNought 14 = .ok (.ireturn, 1) := by decide +kernel
theorem dX8_isSet_0 : decode cX8_isSet 0 = .ok (.iconst 1, 1) := by decide +kernel
theorem dX8_isSet_1 : decode cX8_isSet 1 = .ok (.iconst 1, 1) := by decide +kernel
theorem dX8_isSet_2 : decode cX8_isSet 2 = .ok (.iload_n 2, 1) := by decide +kernel
theorem dX8_isSet_3 : decode cX8_isSet 3 = .ok (.ishl, 1) := by decide +kernel
theorem dX8_isSet_4 : decode cX8_isSet 4 = .ok (.ior, 1) := by decide +kernel
theorem dX8_isSet_5 : decode cX8_isSet 5 = .ok (.istore_n 3, 1) := by decide +kernel
theorem dX8_isSet_6 : decode cX8_isSet 6 = .ok (.iload_n 1, 1) := by decide +kernel
theorem dX8_isSet_7 : decode cX8_isSet 7 = .ok (.iload_n 3, 1) := by decide +kernel
theorem dX8_isSet_8 : decode cX8_isSet 8 = .ok (.iand, 1) := by decide +kernel
theorem dX8_isSet_9 : decode cX8_isSet 9 = .ok (.ifCond .eq 10, 3) := by decide +kernel
theorem dX8_isSet_12 : decode cX8_isSet 12 = .ok (.iload_n 1, 1) := by decide +kernel
theorem dX8_isSet_13 : decode cX8_isSet 13 = .ok (.iload_n 3, 1) := by decide +kernel
theorem dX8_isSet_14 : decode cX8_isSet 14 = .ok (.iand, 1) := by decide +kernel
theorem dX8_isSet_15 : decode cX8_isSet 15 = .ok (.iload_n 3, 1) := by decide +kernel
theorem dX8_isSet_16 : decode cX8_isSet 16 = .ok (.if_icmp .ne 7, 3) := by decide +kernel
theorem dX8_isSet_19 : decode cX8_isSet 19 = .ok (.iload_n 1, 1) := by decide +kernel
theorem dX8_isSet_20 : decode cX8_isSet 20 = .ok (.goto 6, 3) := by decide +kernel
theorem dX8_isSet_23 : decode cX8_isSet 23 = .ok (.iload_n 1, 1) := by decide +kernel
theorem dX8_isSet_24 : decode cX8_isSet 24 = .ok (.iload_n 3, 1) := by decide +kernel
theorem dX8_isSet_25 : decode cX8_isSet 25 = .ok (.ixor, 1) := by decide +kernel
theorem dX8_isSet_26 : decode cX8_isSet 26 = .ok (.istore 4, 2) := by decide +kernel
theorem dX8_isSet_28 : decode cX8_isSet 28 = .ok (.iload 4, 2) := by decide +kernel
theorem dX8_isSet_30 : decode cX8_isSet 30 = .ok (.ifCond .eq 11, 3) := by decide +kernel
theorem dX8_isSet_33 : decode cX8_isSet 33 = .ok (.iload 4, 2) := by decide +kernel
theorem dX8_isSet_35 : decode cX8_isSet 35 = .ok (.sipush 255, 3) := by decide +kernel
theorem dX8_isSet_38 : decode cX8_isSet 38 = .ok (.if_icmp .ne 7, 3) := by decide +kernel
theorem dX8_isSet_41 : decode cX8_isSet 41 = .ok (.iconst 1, 1) := by decide +kernel
theorem dX8_isSet_42 : decode cX8_isSet 42 = .ok (.goto 4, 3) := by decide +kernel
theorem dX8_isSet_45 : decode cX8_isSet 45 = .ok (.iconst 0, 1) := by decide +kernel
theorem dX8_isSet_46 : decode cX8_isSet 46 = .ok (.istore 5, 2) := by decide +kernel
theorem dX8_isSet_48 : decode cX8_isSet 48 = .ok (.iconst 0, 1) := by decide +kernel
theorem dX8_isSet_49 : decode cX8_isSet 49 = .ok (.istore 6, 2) := by decide +kernel
theorem dX8_isSet_51 : decode cX8_isSet 51 = .ok (.iload 6, 2) := by decide +kernel
theorem dX8_isSet_53 : decode cX8_isSet 53 = .ok (.bipush 7, 2) := by decide +kernel
theorem dX8_isSet_55 : decode cX8_isSet 55 = .ok (.if_icmp .ge 73, 3) := by decide +kernel
theorem dX8_isSet_58 : decode cX8_isSet 58 = .ok (.iconst 1, 1) := by decide +kernel
theorem dX8_isSet_59 : decode cX8_isSet 59 = .ok (.iconst 1, 1) := by decide +kernel
theorem dX8_isSet_60 : decode cX8_isSet 60 = .ok (.iload 6, 2) := by decide +kernel
theorem dX8_isSet_62 : decode cX8_isSet 62 = .ok (.iconst 1, 1) := by decide +kernel
theorem dX8_isSet_63 : decode cX8_isSet 63 = .ok (.iadd, 1) := by decide +kernel
theorem dX8_isSet_64 : decode cX8_isSet 64 = .ok (.ishl, 1) := by decide +kernel
theorem dX8_isSet_65 : decode cX8_isSet 65 = .ok (.ior, 1) := by decide +kernel
theorem dX8_isSet_66 : decode cX8_isSet 66 = .ok (.iconst 1, 1) := by decide +kernel
theorem dX8_isSet_67 : decode cX8_isSet 67 = .ok (.iload 6, 2) := by decide +kernel
theorem dX8_isSet_69 : decode cX8_isSet 69 = .ok (.iconst 1, 1) := by decide +kernel
theorem dX8_isSet_70 : decode cX8_isSet 70 = .ok (.iadd, 1) := by decide +kernel
theorem dX8_isSet_71 : decode cX8_isSet 71 = .ok (.bipush 7, 2) := by decide +kernel
theorem dX8_isSet_73 : decode cX8_isSet 73 = .ok (.irem, 1) := by decide +kernel
theorem dX8_isSet_74 : decode cX8_isSet 74 = .ok (.iconst 1, 1) := by decide +kernel
theorem dX8_isSet_75 : decode cX8_isSet 75 = .ok (.iadd, 1) := by decide +kernel
theorem dX8_isSet_76 : decode cX8_isSet 76 = .ok (.ishl, 1) := by decide +kernel
theorem dX8_isSet_77 : decode cX8_isSet 77 = .ok (.ior, 1) := by decide +kernel
theorem dX8_isSet_78 : decode cX8_isSet 78 = .ok (.iconst 1, 1) := by decide +kernel
theorem dX8_isSet_79 : decode cX8_isSet 79 = .ok (.iload 6, 2) := by decide +kernel
theorem dX8_isSet_81 : decode cX8_isSet 81 = .ok (.iconst 3, 1) := by decide +kernel
theorem dX8_isSet_82 : decode cX8_isSet 82 = .ok (.iadd, 1) := by decide +kernel
theorem dX8_isSet_83 : decode cX8_isSet 83 = .ok (.bipush 7, 2) := by decide +kernel
theorem dX8_isSet_85 : decode cX8_isSet 85 = .ok (.irem, 1) := by decide +kernel
theorem dX8_isSet_86 : decode cX8_isSet 86 = .ok (.iconst 1, 1) := by decide +kernel
theorem dX8_isSet_87 : decode cX8_isSet 87 = .ok (.iadd, 1) := by decide +kernel
theorem dX8_isSet_88 : decode cX8_isSet 88 = .ok (.ishl, 1) := by decide +kernel
theorem dX8_isSet_89 : decode cX8_isSet 89 = .ok (.ior, 1) := by decide +kernel
theorem dX8_isSet_90 : decode cX8_isSet 90 = .ok (.istore 7, 2) := by decide +kernel
theorem dX8_isSet_92 : decode cX8_isSet 92 = .ok (.iload 5, 2) := by decide +kernel
theorem dX8_isSet_94 : decode cX8_isSet 94 = .ok (.ifCond .ne 21, 3) := by decide +kernel
theorem dX8_isSet_97 : decode cX8_isSet 97 = .ok (.iload 4, 2) := by decide +kernel
theorem dX8_isSet_99 : decode cX8_isSet 99 = .ok (.iload 7, 2) := by decide +kernel
theorem dX8_isSet_101 : decode cX8_isSet 101 = .ok (.if_icmp .eq 14, 3) := by decide +kernel
theorem dX8_isSet_104 : decode cX8_isSet 104 = .ok (.iload 4, 2) := by decide +kernel
theorem dX8_isSet_106 : decode cX8_isSet 106 = .ok (.iload 7, 2) := by decide +kernel
theorem dX8_isSet_108 : decode cX8_isSet 108 = .ok (.sipush 255, 3) := by decide +kernel
theorem dX8_isSet_111 : decode cX8_isSet 111 = .ok (.ixor, 1) := by decide +kernel
theorem dX8_isSet_112 : decode cX8_isSet 112 = .ok (.if_icmp .ne 7, 3) := by decide +kernel
theorem dX8_isSet_115 : decode cX8_isSet 115 = .ok (.iconst 1, 1) := by decide +kernel
theorem dX8_isSet_116 : decode cX8_isSet 116 = .ok (.goto 4, 3) := by decide +kernel
theorem dX8_isSet_119 : decode cX8_isSet 119 = .ok (.iconst 0, 1) := by decide +kernel
theorem dX8_isSet_120 : decode cX8_isSet 120 = .ok (.istore 5, 2) := by decide +kernel
theorem dX8_isSet_122 : decode cX8_isSet 122 = .ok (.iinc 6 1, 3) := by decide +kernel
theorem dX8_isSet_125 : decode cX8_isSet 125 = .ok (.goto (-74), 3) := by decide +kernel
theorem dX8_isSet_128 : decode cX8_isSet 128 = .ok (.iload 5, 2) := by decide +kernel
theorem dX8_isSet_130 : decode cX8_isSet 130 = .ok (.ireturn, 1) := by decide +kernel
theorem dX8_isIn_0 : decode cX8_isIn 0 = .ok (.iconst 0, 1) := by decide +kernel
theorem dX8_isIn_1 : decode cX8_isIn 1 = .ok (.istore_n 3, 1) := by decide +kernel
theorem dX8_isIn_2 : decode cX8_isIn 2 = .ok (.iconst 0, 1) := by decide +kernel
theorem dX8_isIn_3 : decode cX8_isIn 3 = .ok (.istore 4, 2) := by decide +kernel
theorem dX8_isIn_5 : decode cX8_isIn 5 = .ok (.iload 4, 2) := by decide +kernel
theorem dX8_isIn_7 : decode cX8_isIn 7 = .ok (.bipush 8, 2) := by decide +kernel
theorem dX8_isIn_9 : decode cX8_isIn 9 = .ok (.if_icmp .ge 33, 3) := by decide +kernel
theorem dX8_isIn_12 : decode cX8_isIn 12 = .ok (.iload_n 3, 1) := by decide +kernel
theorem dX8_isIn_13 : decode cX8_isIn 13 = .ok (.aload_n 1, 1) := by decide +kernel
theorem dX8_isIn_14 : decode cX8_isIn 14 = .ok (.iload 4, 2) := by decide +kernel
theorem dX8_isIn_16 : decode cX8_isIn 16 = .ok (.laload, 1) := by decide +kernel
theorem dX8_isIn_17 : decode cX8_isIn 17 = .ok (.ldc2_w 101, 3) := by decide +kernel
theorem dX8_isIn_20 : decode cX8_isIn 20 = .ok (.lrem, 1) := by decide +kernel
theorem dX8_isIn_21 : decode cX8_isIn 21 = .ok (.lconst 0, 1) := by decide +kernel
theorem dX8_isIn_22 : decode cX8_isIn 22 = .ok (.lcmp, 1) := by decide +kernel
theorem dX8_isIn_23 : decode cX8_isIn 23 = .ok (.ifCond .ne 7, 3) := by decide +kernel
theorem dX8_isIn_26 : decode cX8_isIn 26 = .ok (.iconst 0, 1) := by decide +kernel
theorem dX8_isIn_27 : decode cX8_isIn 27 = .ok (.goto 7, 3) := by decide +kernel
theorem dX8_isIn_30 : decode cX8_isIn 30 = .ok (.iconst 1, 1) := by decide +kernel
theorem dX8_isIn_31 : decode cX8_isIn 31 = .ok (.iload 4, 2) := by decide +kernel
theorem dX8_isIn_33 : decode cX8_isIn 33 = .ok (.ishl, 1) := by decide +kernel
theorem dX8_isIn_34 : decode cX8_isIn 34 = .ok (.ior, 1) := by decide +kernel
theorem dX8_isIn_35 : decode cX8_isIn 35 = .ok (.istore_n 3, 1) := by decide +kernel
theorem dX8_isIn_36 : decode cX8_isIn 36 = .ok (.iinc 4 1, 3) := by decide +kernel
theorem dX8_isIn_39 : decode cX8_isIn 39 = .ok (.goto (-34), 3) := by decide +kernel
theorem dX8_isIn_42 : decode cX8_isIn 42 = .ok (.iload_n 2, 1) := by decide +kernel
theorem dX8_isIn_43 : decode cX8_isIn 43 = .ok (.ifCond .ne 15, 3) := by decide +kernel
theorem dX8_isIn_46 : decode cX8_isIn 46 = .ok (.iload_n 3, 1) := by decide +kernel
theorem dX8_isIn_47 : decode cX8_isIn 47 = .ok (.ifCond .ne 7, 3) := by decide +kernel
theorem dX8_isIn_50 : decode cX8_isIn 50 = .ok (.iconst 1, 1) := by decide +kernel
theorem dX8_isIn_51 : decode cX8_isIn 51 = .ok (.goto 13, 3) := by decide +kernel
theorem dX8_isIn_54 : decode cX8_isIn 54 = .ok (.iconst 0, 1) := by decide +kernel
theorem dX8_isIn_55 : decode cX8_isIn 55 = .ok (.goto 9, 3) := by decide +kernel
theorem dX8_isIn_58 : decode cX8_isIn 58 = .ok (.aload_n 0, 1) := by decide +kernel
theorem dX8_isIn_59 : decode cX8_isIn 59 = .ok (.iload_n 3, 1) := by decide +kernel
theorem dX8_isIn_60 : decode cX8_isIn 60 = .ok (.iload_n 2, 1) := by decide +kernel
theorem dX8_isIn_61 : decode cX8_isIn 61 = .ok (.invokevirtual 103, 3) := by decide +kernel
theorem dX8_isIn_64 : decode cX8_isIn 64 = .ok (.ireturn, 1) := by decide +kernel
theorem dX8_laysUnits_0 : decode cX8_laysUnits 0 = .ok (.aload_n 0, 1) := by decide +kernel
theorem dX8_laysUnits_1 : decode cX8_laysUnits 1 = .ok (.getfield 44, 3) := by decide +kernel
theorem dX8_laysUnits_4 : decode cX8_laysUnits 4 = .ok (.aload_n 0, 1) := by decide +kernel
theorem dX8_laysUnits_5 : decode cX8_laysUnits 5 = .ok (.getfield 7, 3) := by decide +kernel
theorem dX8_laysUnits_8 : decode cX8_laysUnits 8 = .ok (.bipush 64, 2) := by decide +kernel
theorem dX8_laysUnits_10 : decode cX8_laysUnits 10 = .ok (.iaload, 1) := by decide +kernel
theorem dX8_laysUnits_11 : decode cX8_laysUnits 11 = .ok (.if_icmp .ne 4, 3) := by decide +kernel
theorem dX8_laysUnits_14 : decode cX8_laysUnits 14 = .ok (.return_, 1) := by decide +kernel
theorem dX8_laysUnits_15 : decode cX8_laysUnits 15 = .ok (.aload_n 0, 1) := by decide +kernel
theorem dX8_laysUnits_16 : decode cX8_laysUnits 16 = .ok (.aload_n 0, 1) := by decide +kernel
theorem dX8_laysUnits_17 : decode cX8_laysUnits 17 = .ok (.getfield 7, 3) := by decide +kernel
theorem dX8_laysUnits_20 : decode cX8_laysUnits 20 = .ok (.bipush 64, 2) := by decide +kernel
theorem dX8_laysUnits_22 : decode cX8_laysUnits 22 = .ok (.iaload, 1) := by decide +kernel
theorem dX8_laysUnits_23 : decode cX8_laysUnits 23 = .ok (.putfield 44, 3) := by decide +kernel
theorem dX8_laysUnits_26 : decode cX8_laysUnits 26 = .ok (.aload_n 0, 1) := by decide +kernel
theorem dX8_laysUnits_27 : decode cX8_laysUnits 27 = .ok (.iconst 0, 1) := by decide +kernel
theorem dX8_laysUnits_28 : decode cX8_laysUnits 28 = .ok (.putfield 107, 3) := by decide +kernel
theorem dX8_laysUnits_31 : decode cX8_laysUnits 31 = .ok (.iconst 0, 1) := by decide +kernel
theorem dX8_laysUnits_32 : decode cX8_laysUnits 32 = .ok (.istore_n 1, 1) := by decide +kernel
theorem dX8_laysUnits_33 : decode cX8_laysUnits 33 = .ok (.aload_n 0, 1) := by decide +kernel
theorem dX8_laysUnits_34 : decode cX8_laysUnits 34 = .ok (.getfield 32, 3) := by decide +kernel
theorem dX8_laysUnits_37 : decode cX8_laysUnits 37 = .ok (.iconst 0, 1) := by decide +kernel
theorem dX8_laysUnits_38 : decode cX8_laysUnits 38 = .ok (.ldc2_w 110, 3) := by decide +kernel
theorem dX8_laysUnits_41 : decode cX8_laysUnits 41 = .ok (.lastore, 1) := by decide +kernel
theorem dX8_laysUnits_42 : decode cX8_laysUnits 42 = .ok (.iload_n 1, 1) := by decide +kernel
theorem dX8_laysUnits_43 : decode cX8_laysUnits 43 = .ok (.ifCond .lt 171, 3) := by decide +kernel
theorem dX8_laysUnits_46 : decode cX8_laysUnits 46 = .ok (.aload_n 0, 1) := by decide +kernel
theorem dX8_laysUnits_47 : decode cX8_laysUnits 47 = .ok (.getfield 32, 3) := by decide +kernel
theorem dX8_laysUnits_50 : decode cX8_laysUnits 50 = .ok (.iload_n 1, 1) := by decide +kernel
theorem dX8_laysUnits_51 : decode cX8_laysUnits 51 = .ok (.dup2, 1) := by decide +kernel
theorem dX8_laysUnits_52 : decode cX8_laysUnits 52 = .ok (.laload, 1) := by decide +kernel
theorem dX8_laysUnits_53 : decode cX8_laysUnits 53 = .ok (.lconst 1, 1) := by decide +kernel
theorem dX8_laysUnits_54 : decode cX8_laysUnits 54 = .ok (.ladd, 1) := by decide +kernel
theorem dX8_laysUnits_55 : decode cX8_laysUnits 55 = .ok (.lastore, 1) := by decide +kernel
theorem dX8_laysUnits_56 : decode cX8_laysUnits 56 = .ok (.lconst 0, 1) := by decide +kernel
theorem dX8_laysUnits_57 : decode cX8_laysUnits 57 = .ok (.lstore_n 2, 1) := by decide +kernel
theorem dX8_laysUnits_58 : decode cX8_laysUnits 58 = .ok (.iconst 0, 1) := by decide +kernel
theorem dX8_laysUnits_59 : decode cX8_laysUnits 59 = .ok (.istore 4, 2) := by decide +kernel
theorem dX8_laysUnits_61 : decode cX8_laysUnits 61 = .ok (.iload 4, 2) := by decide +kernel
theorem dX8_laysUnits_63 : decode cX8_laysUnits 63 = .ok (.iload_n 1, 1) := by decide +kernel
theorem dX8_laysUnits_64 : decode cX8_laysUnits 64 = .ok (.if_icmp .gt 27, 3) := by decide +kernel
theorem dX8_laysUnits_67 : decode cX8_laysUnits 67 = .ok (.lload_n 2, 1) := by decide +kernel
theorem dX8_laysUnits_68 : decode cX8_laysUnits 68 = .ok (.aload_n 0, 1) := by decide +kernel
theorem dX8_laysUnits_69 : decode cX8_laysUnits 69 = .ok (.getfield 32, 3) := by decide +kernel
theorem dX8_laysUnits_72 : decode cX8_laysUnits 72 = .ok (.iload 4, 2) := by decide +kernel
theorem dX8_laysUnits_74 : decode cX8_laysUnits 74 = .ok (.laload, 1) := by decide +kernel
theorem dX8_laysUnits_75 : decode cX8_laysUnits 75 = .ok (.aload_n 0, 1) := by decide +kernel
theorem dX8_laysUnits_76 : decode cX8_laysUnits 76 = .ok (.getfield 32, 3) := by decide +kernel
theorem dX8_laysUnits_79 : decode cX8_laysUnits 79 = .ok (.iload 4, 2) := by decide +kernel
theorem dX8_laysUnits_81 : decode cX8_laysUnits 81 = .ok (.laload, 1) := by decide +kernel
theorem dX8_laysUnits_82 : decode cX8_laysUnits 82 = .ok (.lmul, 1) := by decide +kernel
theorem dX8_laysUnits_83 : decode cX8_laysUnits 83 = .ok (.ladd, 1) := by decide +kernel
theorem dX8_laysUnits_84 : decode cX8_laysUnits 84 = .ok (.lstore_n 2, 1) := by decide +kernel
theorem dX8_laysUnits_85 : decode cX8_laysUnits 85 = .ok (.iinc 4 1, 3) := by decide +kernel
theorem dX8_laysUnits_88 : decode cX8_laysUnits 88 = .ok (.goto (-27), 3) := by decide +kernel
theorem dX8_laysUnits_91 : decode cX8_laysUnits 91 = .ok (.aload_n 0, 1) := by decide +kernel
theorem dX8_laysUnits_92 : decode cX8_laysUnits 92 = .ok (.getfield 32, 3) := by decide +kernel
theorem dX8_laysUnits_95 : decode cX8_laysUnits 95 = .ok (.iload_n 1, 1) := by decide +kernel
theorem dX8_laysUnits_96 : decode cX8_laysUnits 96 = .ok (.laload, 1) := by decide +kernel
theorem dX8_laysUnits_97 : decode cX8_laysUnits 97 = .ok (.ldc2_w 101, 3) := by decide +kernel
theorem dX8_laysUnits_100 : decode cX8_laysUnits 100 = .ok (.lcmp, 1) := by decide +kernel
theorem dX8_laysUnits_101 : decode cX8_laysUnits 101 = .ok (.ifCond .le 9, 3) := by decide +kernel
theorem dX8_laysUnits_104 : decode cX8_laysUnits 104 = .ok (.iinc 1 (-1), 3) := by decide +kernel
theorem dX8_laysUnits_107 : decode cX8_laysUnits 107 = .ok (.goto 104, 3) := by decide +kernel
theorem dX8_laysUnits_110 : decode cX8_laysUnits 110 = .ok (.lload_n 2, 1) := by decide +kernel
theorem dX8_laysUnits_111 : decode cX8_laysUnits 111 = .ok (.ldc2_w 112, 3) := by decide +kernel
theorem dX8_laysUnits_114 : decode cX8_laysUnits 114 = .ok (.lcmp, 1) := by decide +kernel
theorem dX8_laysUnits_115 : decode cX8_laysUnits 115 = .ok (.ifCond .gt 24, 3) := by decide +kernel
theorem dX8_laysUnits_118 : decode cX8_laysUnits 118 = .ok (.iload_n 1, 1) := by decide +kernel
theorem dX8_laysUnits_119 : decode cX8_laysUnits 119 = .ok (.bipush 7, 2) := by decide +kernel
theorem dX8_laysUnits_121 : decode cX8_laysUnits 121 = .ok (.if_icmp .ge 18, 3) := by decide +kernel
theorem dX8_laysUnits_124 : decode cX8_laysUnits 124 = .ok (.iinc 1 1, 3) := by decide +kernel
theorem dX8_laysUnits_127 : decode cX8_laysUnits 127 = .ok (.aload_n 0, 1) := by decide +kernel
theorem dX8_laysUnits_128 : decode cX8_laysUnits 128 = .ok (.getfield 32, 3) := by decide +kernel
theorem dX8_laysUnits_131 : decode cX8_laysUnits 131 = .ok (.iload_n 1, 1) := by decide +kernel
theorem dX8_laysUnits_132 : decode cX8_laysUnits 132 = .ok (.ldc2_w 110, 3) := by decide +kernel
theorem dX8_laysUnits_135 : decode cX8_laysUnits 135 = .ok (.lastore, 1) := by decide +kernel
theorem dX8_laysUnits_136 : decode cX8_laysUnits 136 = .ok (.goto 75, 3) := by decide +kernel
theorem dX8_laysUnits_139 : decode cX8_laysUnits 139 = .ok (.lload_n 2, 1) := by decide +kernel
theorem dX8_laysUnits_140 : decode cX8_laysUnits 140 = .ok (.ldc2_w 112, 3) := by decide +kernel
theorem dX8_laysUnits_143 : decode cX8_laysUnits 143 = .ok (.lcmp, 1) := by decide +kernel
theorem dX8_laysUnits_144 : decode cX8_laysUnits 144 = .ok (.ifCond .ne 67, 3) := by decide +kernel
theorem dX8_laysUnits_147 : decode cX8_laysUnits 147 = .ok (.aload_n 0, 1) := by decide +kernel
theorem dX8_laysUnits_148 : decode cX8_laysUnits 148 = .ok (.aload_n 0, 1) := by decide +kernel
theorem dX8_laysUnits_149 : decode cX8_laysUnits 149 = .ok (.getfield 32, 3) := by decide +kernel
theorem dX8_laysUnits_152 : decode cX8_laysUnits 152 = .ok (.aload_n 0, 1) := by decide +kernel
theorem dX8_laysUnits_153 : decode cX8_laysUnits 153 = .ok (.getfield 44, 3) := by decide +kernel
theorem dX8_laysUnits_156 : decode cX8_laysUnits 156 = .ok (.invokevirtual 114, 3) := by decide +kernel
theorem dX8_laysUnits_159 : decode cX8_laysUnits 159 = .ok (.ifCond .eq 52, 3) := by decide +kernel
theorem dX8_laysUnits_162 : decode cX8_laysUnits 162 = .ok (.iconst 0, 1) := by decide +kernel
theorem dX8_laysUnits_163 : decode cX8_laysUnits 163 = .ok (.istore 4, 2) := by decide +kernel
theorem dX8_laysUnits_165 : decode cX8_laysUnits 165 = .ok (.iload 4, 2) := by decide +kernel
theorem dX8_laysUnits_167 : decode cX8_laysUnits 167 = .ok (.bipush 8, 2) := by decide +kernel
theorem dX8_laysUnits_169 : decode cX8_laysUnits 169 = .ok (.if_icmp .ge 32, 3) := by decide +kernel
theorem dX8_laysUnits_172 : decode cX8_laysUnits 172 = .ok (.aload_n 0, 1) := by decide +kernel
theorem dX8_laysUnits_173 : decode cX8_laysUnits 173 = .ok (.getfield 48, 3) := by decide +kernel
theorem dX8_laysUnits_176 : decode cX8_laysUnits 176 = .ok (.bipush 8, 2) := by decide +kernel
theorem dX8_laysUnits_178 : decode cX8_laysUnits 178 = .ok (.aload_n 0, 1) := by decide +kernel
theorem dX8_laysUnits_179 : decode cX8_laysUnits 179 = .ok (.getfield 107, 3) := by decide +kernel
theorem dX8_laysUnits_182 : decode cX8_laysUnits 182 = .ok (.imul, 1) := by decide +kernel
theorem dX8_laysUnits_183 : decode cX8_laysUnits 183 = .ok (.iload 4, 2) := by decide +kernel
theorem dX8_laysUnits_185 : decode cX8_laysUnits 185 = .ok (.iadd, 1) := by decide +kernel
theorem dX8_laysUnits_186 : decode cX8_laysUnits 186 = .ok (.aload_n 0, 1) := by decide +kernel
theorem dX8_laysUnits_187 : decode cX8_laysUnits 187 = .ok (.getfield 32, 3) := by decide +kernel
theorem dX8_laysUnits_190 : decode cX8_laysUnits 190 = .ok (.iload 4, 2) := by decide +kernel
theorem dX8_laysUnits_192 : decode cX8_laysUnits 192 = .ok (.laload, 1) := by decide +kernel
theorem dX8_laysUnits_193 : decode cX8_laysUnits 193 = .ok (.l2i, 1) := by decide +kernel
theorem dX8_laysUnits_194 : decode cX8_laysUnits 194 = .ok (.iastore, 1) := by decide +kernel
theorem dX8_laysUnits_195 : decode cX8_laysUnits 195 = .ok (.iinc 4 1, 3) := by decide +kernel
theorem dX8_laysUnits_198 : decode cX8_laysUnits 198 = .ok (.goto (-33), 3) := by decide +kernel
theorem dX8_laysUnits_201 : decode cX8_laysUnits 201 = .ok (.aload_n 0, 1) := by decide +kernel
theorem dX8_laysUnits_202 : decode cX8_laysUnits 202 = .ok (.dup, 1) := by decide +kernel
theorem dX8_laysUnits_203 : decode cX8_laysUnits 203 = .ok (.getfield 107, 3) := by decide +kernel
theorem dX8_laysUnits_206 : decode cX8_laysUnits 206 = .ok (.iconst 1, 1) := by decide +kernel
theorem dX8_laysUnits_207 : decode cX8_laysUnits 207 = .ok (.iadd, 1) := by decide +kernel
theorem dX8_laysUnits_208 : decode cX8_laysUnits 208 = .ok (.putfield 107, 3) := by decide +kernel
theorem dX8_laysUnits_211 : decode cX8_laysUnits 211 = .ok (.goto (-169), 3) := by decide +kernel
theorem dX8_laysUnits_214 : decode cX8_laysUnits 214 = .ok (.return_, 1) := by decide +kernel
theorem dX8_unitAt_0 : decode cX8_unitAt 0 = .ok (.aload_n 0, 1) := by decide +kernel
theorem dX8_unitAt_1 : decode cX8_unitAt 1 = .ok (.invokevirtual 118, 3) := by decide +kernel
theorem dX8_unitAt_4 : decode cX8_unitAt 4 = .ok (.iconst (-1), 1) := by decide +kernel
theorem dX8_unitAt_5 : decode cX8_unitAt 5 = .ok (.istore_n 2, 1) := by decide +kernel
theorem dX8_unitAt_6 : decode cX8_unitAt 6 = .ok (.iconst 0, 1) := by decide +kernel
theorem dX8_unitAt_7 : decode cX8_unitAt 7 = .ok (.istore_n 3, 1) := by decide +kernel
theorem dX8_unitAt_8 : decode cX8_unitAt 8 = .ok (.iload_n 3, 1) := by decide +kernel
theorem dX8_unitAt_9 : decode cX8_unitAt 9 = .ok (.aload_n 0, 1) := by decide +kernel
theorem dX8_unitAt_10 : decode cX8_unitAt 10 = .ok (.getfield 107, 3) := by decide +kernel
theorem dX8_unitAt_13 : decode cX8_unitAt 13 = .ok (.if_icmp .ge 83, 3) := by decide +kernel
theorem dX8_unitAt_16 : decode cX8_unitAt 16 = .ok (.iload_n 2, 1) := by decide +kernel
theorem dX8_unitAt_17 : decode cX8_unitAt 17 = .ok (.iconst (-1), 1) := by decide +kernel
theorem dX8_unitAt_18 : decode cX8_unitAt 18 = .ok (.if_icmp .ne 78, 3) := by decide +kernel
theorem dX8_unitAt_21 : decode cX8_unitAt 21 = .ok (.iconst 1, 1) := by decide +kernel
theorem dX8_unitAt_22 : decode cX8_unitAt 22 = .ok (.istore 4, 2) := by decide +kernel
theorem dX8_unitAt_24 : decode cX8_unitAt 24 = .ok (.iconst 0, 1) := by decide +kernel
theorem dX8_unitAt_25 : decode cX8_unitAt 25 = .ok (.istore 5, 2) := by decide +kernel
theorem dX8_unitAt_27 : decode cX8_unitAt 27 = .ok (.iload 5, 2) := by decide +kernel
theorem dX8_unitAt_29 : decode cX8_unitAt 29 = .ok (.bipush 8, 2) := by decide +kernel
theorem dX8_unitAt_31 : decode cX8_unitAt 31 = .ok (.if_icmp .ge 48, 3) := by decide +kernel
theorem dX8_unitAt_34 : decode cX8_unitAt 34 = .ok (.iload 4, 2) := by decide +kernel
theorem dX8_unitAt_36 : decode cX8_unitAt 36 = .ok (.ifCond .eq 34, 3) := by decide +kernel
theorem dX8_unitAt_39 : decode cX8_unitAt 39 = .ok (.aload_n 0, 1) := by decide +kernel
theorem dX8_unitAt_40 : decode cX8_unitAt 40 = .ok (.getfield 48, 3) := by decide +kernel
theorem dX8_unitAt_43 : decode cX8_unitAt 43 = .ok (.bipush 8, 2) := by decide +kernel
theorem dX8_unitAt_45 : decode cX8_unitAt 45 = .ok (.iload_n 3, 1) := by decide +kernel
theorem dX8_unitAt_46 : decode cX8_unitAt 46 = .ok (.imul, 1) := by decide +kernel
theorem dX8_unitAt_47 : decode cX8_unitAt 47 = .ok (.iload 5, 2) := by decide +kernel
theorem dX8_unitAt_49 : decode cX8_unitAt 49 = .ok (.iadd, 1) := by decide +kernel
theorem dX8_unitAt_50 : decode cX8_unitAt 50 = .ok (.iaload, 1) := by decide +kernel
theorem dX8_unitAt_51 : decode cX8_unitAt 51 = .ok (.aload_n 0, 1) := by decide +kernel
theorem dX8_unitAt_52 : decode cX8_unitAt 52 = .ok (.getfield 7, 3) := by decide +kernel
theorem dX8_unitAt_55 : decode cX8_unitAt 55 = .ok (.bipush 8, 2) := by decide +kernel
theorem dX8_unitAt_57 : decode cX8_unitAt 57 = .ok (.iload_n 1, 1) := by decide +kernel
theorem dX8_unitAt_58 : decode cX8_unitAt 58 = .ok (.imul, 1) := by decide +kernel
theorem dX8_unitAt_59 : decode cX8_unitAt 59 = .ok (.iload 5, 2) := by decide +kernel
theorem dX8_unitAt_61 : decode cX8_unitAt 61 = .ok (.iadd, 1) := by decide +kernel
theorem dX8_unitAt_62 : decode cX8_unitAt 62 = .ok (.iaload, 1) := by decide +kernel
theorem dX8_unitAt_63 : decode cX8_unitAt 63 = .ok (.if_icmp .ne 7, 3) := by decide +kernel
theorem dX8_unitAt_66 : decode cX8_unitAt 66 = .ok (.iconst 1, 1) := by decide +kernel
theorem dX8_unitAt_67 : decode cX8_unitAt 67 = .ok (.goto 4, 3) := by decide +kernel
theorem dX8_unitAt_70 : decode cX8_unitAt 70 = .ok (.iconst 0, 1) := by decide +kernel
theorem dX8_unitAt_71 : decode cX8_unitAt 71 = .ok (.istore 4, 2) := by decide +kernel
theorem dX8_unitAt_73 : decode cX8_unitAt 73 = .ok (.iinc 5 1, 3) := by decide +kernel
theorem dX8_unitAt_76 : decode cX8_unitAt 76 = .ok (.goto (-49), 3) := by decide +kernel
theorem dX8_unitAt_79 : decode cX8_unitAt 79 = .ok (.iload 4, 2) := by decide +kernel
theorem dX8_unitAt_81 : decode cX8_unitAt 81 = .ok (.ifCond .eq 7, 3) := by decide +kernel
theorem dX8_unitAt_84 : decode cX8_unitAt 84 = .ok (.iload_n 3, 1) := by decide +kernel
theorem dX8_unitAt_85 : decode cX8_unitAt 85 = .ok (.goto 4, 3) := by decide +kernel
theorem dX8_unitAt_88 : decode cX8_unitAt 88 = .ok (.iconst (-1), 1) := by decide +kernel
theorem dX8_unitAt_89 : decode cX8_unitAt 89 = .ok (.istore_n 2, 1) := by decide +kernel
theorem dX8_unitAt_90 : decode cX8_unitAt 90 = .ok (.iinc 3 1, 3) := by decide +kernel
theorem dX8_unitAt_93 : decode cX8_unitAt 93 = .ok (.goto (-85), 3) := by decide +kernel
theorem dX8_unitAt_96 : decode cX8_unitAt 96 = .ok (.iload_n 2, 1) := by decide +kernel
theorem dX8_unitAt_97 : decode cX8_unitAt 97 = .ok (.ireturn, 1) := by decide +kernel
theorem dX8_set_0 : decode cX8_set 0 = .ok (.aload_n 0, 1) := by decide +kernel
theorem dX8_set_1 : decode cX8_set 1 = .ok (.iload_n 1, 1) := by decide +kernel
theorem dX8_set_2 : decode cX8_set 2 = .ok (.invokestatic 121, 3) := by decide +kernel
theorem dX8_set_5 : decode cX8_set 5 = .ok (.ifCond .eq 10, 3) := by decide +kernel
theorem dX8_set_8 : decode cX8_set 8 = .ok (.iload_n 2, 1) := by decide +kernel
theorem dX8_set_9 : decode cX8_set 9 = .ok (.invokestatic 121, 3) := by decide +kernel
theorem dX8_set_12 : decode cX8_set 12 = .ok (.ifCond .ne 7, 3) := by decide +kernel
theorem dX8_set_15 : decode cX8_set 15 = .ok (.iconst 1, 1) := by decide +kernel
theorem dX8_set_16 : decode cX8_set 16 = .ok (.goto 21, 3) := by decide +kernel
theorem dX8_set_19 : decode cX8_set 19 = .ok (.iload_n 3, 1) := by decide +kernel
theorem dX8_set_20 : decode cX8_set 20 = .ok (.sipush (-2000), 3) := by decide +kernel
theorem dX8_set_23 : decode cX8_set 23 = .ok (.sipush 2000, 3) := by decide +kernel
theorem dX8_set_26 : decode cX8_set 26 = .ok (.invokestatic 86, 3) := by decide +kernel
theorem dX8_set_29 : decode cX8_set 29 = .ok (.ifCond .eq 7, 3) := by decide +kernel
theorem dX8_set_32 : decode cX8_set 32 = .ok (.iconst 0, 1) := by decide +kernel
theorem dX8_set_33 : decode cX8_set 33 = .ok (.goto 4, 3) := by decide +kernel
theorem dX8_set_36 : decode cX8_set 36 = .ok (.iconst 2, 1) := by decide +kernel
theorem dX8_set_37 : decode cX8_set 37 = .ok (.invokevirtual 125, 3) := by decide +kernel
theorem dX8_set_40 : decode cX8_set 40 = .ok (.ifCond .eq 5, 3) := by decide +kernel
theorem dX8_set_43 : decode cX8_set 43 = .ok (.iconst 0, 1) := by decide +kernel
theorem dX8_set_44 : decode cX8_set 44 = .ok (.ireturn, 1) := by decide +kernel
theorem dX8_set_45 : decode cX8_set 45 = .ok (.aload_n 0, 1) := by decide +kernel
theorem dX8_set_46 : decode cX8_set 46 = .ok (.invokevirtual 128, 3) := by decide +kernel
theorem dX8_set_49 : decode cX8_set 49 = .ok (.aload_n 0, 1) := by decide +kernel
theorem dX8_set_50 : decode cX8_set 50 = .ok (.getfield 7, 3) := by decide +kernel
theorem dX8_set_53 : decode cX8_set 53 = .ok (.bipush 8, 2) := by decide +kernel
theorem dX8_set_55 : decode cX8_set 55 = .ok (.iload_n 1, 1) := by decide +kernel
theorem dX8_set_56 : decode cX8_set 56 = .ok (.imul, 1) := by decide +kernel
theorem dX8_set_57 : decode cX8_set 57 = .ok (.iload_n 2, 1) := by decide +kernel
theorem dX8_set_58 : decode cX8_set 58 = .ok (.iadd, 1) := by decide +kernel
theorem dX8_set_59 : decode cX8_set 59 = .ok (.iaload, 1) := by decide +kernel
theorem dX8_set_60 : decode cX8_set 60 = .ok (.istore 4, 2) := by decide +kernel
theorem dX8_set_62 : decode cX8_set 62 = .ok (.aload_n 0, 1) := by decide +kernel
theorem dX8_set_63 : decode cX8_set 63 = .ok (.getfield 7, 3) := by decide +kernel
theorem dX8_set_66 : decode cX8_set 66 = .ok (.bipush 8, 2) := by decide +kernel
theorem dX8_set_68 : decode cX8_set 68 = .ok (.iload_n 1, 1) := by decide +kernel
theorem dX8_set_69 : decode cX8_set 69 = .ok (.imul, 1) := by decide +kernel
theorem dX8_set_70 : decode cX8_set 70 = .ok (.iload_n 2, 1) := by decide +kernel
theorem dX8_set_71 : decode cX8_set 71 = .ok (.iadd, 1) := by decide +kernel
theorem dX8_set_72 : decode cX8_set 72 = .ok (.iload_n 3, 1) := by decide +kernel
theorem dX8_set_73 : decode cX8_set 73 = .ok (.iastore, 1) := by decide +kernel
theorem dX8_set_74 : decode cX8_set 74 = .ok (.iload 4, 2) := by decide +kernel
theorem dX8_set_76 : decode cX8_set 76 = .ok (.ireturn, 1) := by decide +kernel
theorem dX8_normOf_0 : decode cX8_normOf 0 = .ok (.aload_n 0, 1) := by decide +kernel
theorem dX8_normOf_1 : decode cX8_normOf 1 = .ok (.aload_n 0, 1) := by decide +kernel
theorem dX8_normOf_2 : decode cX8_normOf 2 = .ok (.getfield 25, 3) := by decide +kernel
theorem dX8_normOf_5 : decode cX8_normOf 5 = .ok (.iload_n 1, 1) := by decide +kernel
theorem dX8_normOf_6 : decode cX8_normOf 6 = .ok (.invokevirtual 131, 3) := by decide +kernel
theorem dX8_normOf_9 : decode cX8_normOf 9 = .ok (.aload_n 0, 1) := by decide +kernel
theorem dX8_normOf_10 : decode cX8_normOf 10 = .ok (.getfield 25, 3) := by decide +kernel
theorem dX8_normOf_13 : decode cX8_normOf 13 = .ok (.invokestatic 97, 3) := by decide +kernel
theorem dX8_normOf_16 : decode cX8_normOf 16 = .ok (.lreturn, 1) := by decide +kernel
theorem dX8_setFour_0 : decode cX8_setFour 0 = .ok (.iload_n 3, 1) := by decide +kernel
theorem dX8_setFour_1 : decode cX8_setFour 1 = .ok (.sipush (-2000), 3) := by decide +kernel
theorem dX8_setFour_4 : decode cX8_setFour 4 = .ok (.sipush 2000, 3) := by decide +kernel
theorem dX8_setFour_7 : decode cX8_setFour 7 = .ok (.invokestatic 86, 3) := by decide +kernel
theorem dX8_setFour_10 : decode cX8_setFour 10 = .ok (.ifCond .eq 49, 3) := by decide +kernel
theorem dX8_setFour_13 : decode cX8_setFour 13 = .ok (.iload 4, 2) := by decide +kernel
theorem dX8_setFour_15 : decode cX8_setFour 15 = .ok (.sipush (-2000), 3) := by decide +kernel
theorem dX8_setFour_18 : decode cX8_setFour 18 = .ok (.sipush 2000, 3) := by decide +kernel
theorem dX8_setFour_21 : decode cX8_setFour 21 = .ok (.invokestatic 86, 3) := by decide +kernel
theorem dX8_setFour_24 : decode cX8_setFour 24 = .ok (.ifCond .eq 35, 3) := by decide +kernel
theorem dX8_setFour_27 : decode cX8_setFour 27 = .ok (.iload 5, 2) := by decide +kernel
theorem dX8_setFour_29 : decode cX8_setFour 29 = .ok (.sipush (-2000), 3) := by decide +kernel
theorem dX8_setFour_32 : decode cX8_setFour 32 = .ok (.sipush 2000, 3) := by decide +kernel
theorem dX8_setFour_35 : decode cX8_setFour 35 = .ok (.invokestatic 86, 3) := by decide +kernel
theorem dX8_setFour_38 : decode cX8_setFour 38 = .ok (.ifCond .eq 21, 3) := by decide +kernel
theorem dX8_setFour_41 : decode cX8_setFour 41 = .ok (.iload 6, 2) := by decide +kernel
theorem dX8_setFour_43 : decode cX8_setFour 43 = .ok (.sipush (-2000), 3) := by decide +kernel
theorem dX8_setFour_46 : decode cX8_setFour 46 = .ok (.sipush 2000, 3) := by decide +kernel
theorem dX8_setFour_49 : decode cX8_setFour 49 = .ok (.invokestatic 86, 3) := by decide +kernel
theorem dX8_setFour_52 : decode cX8_setFour 52 = .ok (.ifCond .eq 7, 3) := by decide +kernel
theorem dX8_setFour_55 : decode cX8_setFour 55 = .ok (.iconst 1, 1) := by decide +kernel
theorem dX8_setFour_56 : decode cX8_setFour 56 = .ok (.goto 4, 3) := by decide +kernel
theorem dX8_setFour_59 : decode cX8_setFour 59 = .ok (.iconst 0, 1) := by decide +kernel
theorem dX8_setFour_60 : decode cX8_setFour 60 = .ok (.istore 7, 2) := by decide +kernel
theorem dX8_setFour_62 : decode cX8_setFour 62 = .ok (.aload_n 0, 1) := by decide +kernel
theorem dX8_setFour_63 : decode cX8_setFour 63 = .ok (.iload_n 1, 1) := by decide +kernel
theorem dX8_setFour_64 : decode cX8_setFour 64 = .ok (.invokestatic 121, 3) := by decide +kernel
theorem dX8_setFour_67 : decode cX8_setFour 67 = .ok (.ifCond .ne 7, 3) := by decide +kernel
theorem dX8_setFour_70 : decode cX8_setFour 70 = .ok (.iconst 1, 1) := by decide +kernel
theorem dX8_setFour_71 : decode cX8_setFour 71 = .ok (.goto 13, 3) := by decide +kernel
theorem dX8_setFour_74 : decode cX8_setFour 74 = .ok (.iload 7, 2) := by decide +kernel
theorem dX8_setFour_76 : decode cX8_setFour 76 = .ok (.ifCond .eq 7, 3) := by decide +kernel
theorem dX8_setFour_79 : decode cX8_setFour 79 = .ok (.iconst 0, 1) := by decide +kernel
theorem dX8_setFour_80 : decode cX8_setFour 80 = .ok (.goto 4, 3) := by decide +kernel
theorem dX8_setFour_83 : decode cX8_setFour 83 = .ok (.iconst 2, 1) := by decide +kernel
theorem dX8_setFour_84 : decode cX8_setFour 84 = .ok (.invokevirtual 125, 3) := by decide +kernel
theorem dX8_setFour_87 : decode cX8_setFour 87 = .ok (.ifCond .eq 5, 3) := by decide +kernel
theorem dX8_setFour_90 : decode cX8_setFour 90 = .ok (.lconst 0, 1) := by decide +kernel
theorem dX8_setFour_91 : decode cX8_setFour 91 = .ok (.lreturn, 1) := by decide +kernel
theorem dX8_setFour_92 : decode cX8_setFour 92 = .ok (.aload_n 0, 1) := by decide +kernel
theorem dX8_setFour_93 : decode cX8_setFour 93 = .ok (.invokevirtual 128, 3) := by decide +kernel
theorem dX8_setFour_96 : decode cX8_setFour 96 = .ok (.bipush 8, 2) := by decide +kernel
theorem dX8_setFour_98 : decode cX8_setFour 98 = .ok (.iload_n 1, 1) := by decide +kernel
theorem dX8_setFour_99 : decode cX8_setFour 99 = .ok (.imul, 1) := by decide +kernel
theorem dX8_setFour_100 : decode cX8_setFour 100 = .ok (.iload_n 2, 1) := by decide +kernel
theorem dX8_setFour_101 : decode cX8_setFour 101 = .ok (.ifCond .eq 7, 3) := by decide +kernel
theorem dX8_setFour_104 : decode cX8_setFour 104 = .ok (.iconst 4, 1) := by decide +kernel
theorem dX8_setFour_105 : decode cX8_setFour 105 = .ok (.goto 4, 3) := by decide +kernel
theorem dX8_setFour_108 : decode cX8_setFour 108 = .ok (.iconst 0, 1) := by decide +kernel
theorem dX8_setFour_109 : decode cX8_setFour 109 = .ok (.iadd, 1) := by decide +kernel
theorem dX8_setFour_110 : decode cX8_setFour 110 = .ok (.istore 8, 2) := by decide +kernel
theorem dX8_setFour_112 : decode cX8_setFour 112 = .ok (.aload_n 0, 1) := by decide +kernel
theorem dX8_setFour_113 : decode cX8_setFour 113 = .ok (.getfield 7, 3) := by decide +kernel
theorem dX8_setFour_116 : decode cX8_setFour 116 = .ok (.iload 8, 2) := by decide +kernel
theorem dX8_setFour_118 : decode cX8_setFour 118 = .ok (.iload_n 3, 1) := by decide +kernel
theorem dX8_setFour_119 : decode cX8_setFour 119 = .ok (.iastore, 1) := by decide +kernel
theorem dX8_setFour_120 : decode cX8_setFour 120 = .ok (.aload_n 0, 1) := by decide +kernel
theorem dX8_setFour_121 : decode cX8_setFour 121 = .ok (.getfield 7, 3) := by decide +kernel
theorem dX8_setFour_124 : decode cX8_setFour 124 = .ok (.iload 8, 2) := by decide +kernel
theorem dX8_setFour_126 : decode cX8_setFour 126 = .ok (.iconst 1, 1) := by decide +kernel
theorem dX8_setFour_127 : decode cX8_setFour 127 = .ok (.iadd, 1) := by decide +kernel
theorem dX8_setFour_128 : decode cX8_setFour 128 = .ok (.iload 4, 2) := by decide +kernel
theorem dX8_setFour_130 : decode cX8_setFour 130 = .ok (.iastore, 1) := by decide +kernel
theorem dX8_setFour_131 : decode cX8_setFour 131 = .ok (.aload_n 0, 1) := by decide +kernel
theorem dX8_setFour_132 : decode cX8_setFour 132 = .ok (.getfield 7, 3) := by decide +kernel
theorem dX8_setFour_135 : decode cX8_setFour 135 = .ok (.iload 8, 2) := by decide +kernel
theorem dX8_setFour_137 : decode cX8_setFour 137 = .ok (.iconst 2, 1) := by decide +kernel
theorem dX8_setFour_138 : decode cX8_setFour 138 = .ok (.iadd, 1) := by decide +kernel
theorem dX8_setFour_139 : decode cX8_setFour 139 = .ok (.iload 5, 2) := by decide +kernel
theorem dX8_setFour_141 : decode cX8_setFour 141 = .ok (.iastore, 1) := by decide +kernel
theorem dX8_setFour_142 : decode cX8_setFour 142 = .ok (.aload_n 0, 1) := by decide +kernel
theorem dX8_setFour_143 : decode cX8_setFour 143 = .ok (.getfield 7, 3) := by decide +kernel
theorem dX8_setFour_146 : decode cX8_setFour 146 = .ok (.iload 8, 2) := by decide +kernel
theorem dX8_setFour_148 : decode cX8_setFour 148 = .ok (.iconst 3, 1) := by decide +kernel
theorem dX8_setFour_149 : decode cX8_setFour 149 = .ok (.iadd, 1) := by decide +kernel
theorem dX8_setFour_150 : decode cX8_setFour 150 = .ok (.iload 6, 2) := by decide +kernel
theorem dX8_setFour_152 : decode cX8_setFour 152 = .ok (.iastore, 1) := by decide +kernel
theorem dX8_setFour_153 : decode cX8_setFour 153 = .ok (.aload_n 0, 1) := by decide +kernel
theorem dX8_setFour_154 : decode cX8_setFour 154 = .ok (.iload_n 1, 1) := by decide +kernel
theorem dX8_setFour_155 : decode cX8_setFour 155 = .ok (.invokevirtual 135, 3) := by decide +kernel
theorem dX8_setFour_158 : decode cX8_setFour 158 = .ok (.lreturn, 1) := by decide +kernel
theorem dX8_setOrder_0 : decode cX8_setOrder 0 = .ok (.aload_n 0, 1) := by decide +kernel
theorem dX8_setOrder_1 : decode cX8_setOrder 1 = .ok (.iload_n 1, 1) := by decide +kernel
theorem dX8_setOrder_2 : decode cX8_setOrder 2 = .ok (.invokestatic 121, 3) := by decide +kernel
theorem dX8_setOrder_5 : decode cX8_setOrder 5 = .ok (.ifCond .eq 7, 3) := by decide +kernel
theorem dX8_setOrder_8 : decode cX8_setOrder 8 = .ok (.iconst 0, 1) := by decide +kernel
theorem dX8_setOrder_9 : decode cX8_setOrder 9 = .ok (.goto 4, 3) := by decide +kernel
theorem dX8_setOrder_12 : decode cX8_setOrder 12 = .ok (.iconst 1, 1) := by decide +kernel
theorem dX8_setOrder_13 : decode cX8_setOrder 13 = .ok (.invokevirtual 125, 3) := by decide +kernel
theorem dX8_setOrder_16 : decode cX8_setOrder 16 = .ok (.ifCond .eq 5, 3) := by decide +kernel
theorem dX8_setOrder_19 : decode cX8_setOrder 19 = .ok (.iconst 0, 1) := by decide +kernel
theorem dX8_setOrder_20 : decode cX8_setOrder 20 = .ok (.ireturn, 1) := by decide +kernel
theorem dX8_setOrder_21 : decode cX8_setOrder 21 = .ok (.aload_n 0, 1) := by decide +kernel
theorem dX8_setOrder_22 : decode cX8_setOrder 22 = .ok (.invokevirtual 128, 3) := by decide +kernel
theorem dX8_setOrder_25 : decode cX8_setOrder 25 = .ok (.aload_n 0, 1) := by decide +kernel
theorem dX8_setOrder_26 : decode cX8_setOrder 26 = .ok (.getfield 7, 3) := by decide +kernel
theorem dX8_setOrder_29 : decode cX8_setOrder 29 = .ok (.bipush 64, 2) := by decide +kernel
theorem dX8_setOrder_31 : decode cX8_setOrder 31 = .ok (.iaload, 1) := by decide +kernel
theorem dX8_setOrder_32 : decode cX8_setOrder 32 = .ok (.istore_n 2, 1) := by decide +kernel
theorem dX8_setOrder_33 : decode cX8_setOrder 33 = .ok (.aload_n 0, 1) := by decide +kernel
theorem dX8_setOrder_34 : decode cX8_setOrder 34 = .ok (.getfield 7, 3) := by decide +kernel
theorem dX8_setOrder_37 : decode cX8_setOrder 37 = .ok (.bipush 64, 2) := by decide +kernel
theorem dX8_setOrder_39 : decode cX8_setOrder 39 = .ok (.iload_n 1, 1) := by decide +kernel
theorem dX8_setOrder_40 : decode cX8_setOrder 40 = .ok (.iastore, 1) := by decide +kernel
theorem dX8_setOrder_41 : decode cX8_setOrder 41 = .ok (.iload_n 2, 1) := by decide +kernel
theorem dX8_setOrder_42 : decode cX8_setOrder 42 = .ok (.ireturn, 1) := by decide +kernel
theorem dX8_load_0 : decode cX8_load 0 = .ok (.aload_n 0, 1) := by decide +kernel
theorem dX8_load_1 : decode cX8_load 1 = .ok (.invokevirtual 118, 3) := by decide +kernel
theorem dX8_load_4 : decode cX8_load 4 = .ok (.aload_n 0, 1) := by decide +kernel
theorem dX8_load_5 : decode cX8_load 5 = .ok (.iload_n 1, 1) := by decide +kernel
theorem dX8_load_6 : decode cX8_load 6 = .ok (.iconst 0, 1) := by decide +kernel
theorem dX8_load_7 : decode cX8_load 7 = .ok (.aload_n 0, 1) := by decide +kernel
theorem dX8_load_8 : decode cX8_load 8 = .ok (.getfield 107, 3) := by decide +kernel
theorem dX8_load_11 : decode cX8_load 11 = .ok (.iconst 1, 1) := by decide +kernel
theorem dX8_load_12 : decode cX8_load 12 = .ok (.isub, 1) := by decide +kernel
theorem dX8_load_13 : decode cX8_load 13 = .ok (.invokestatic 86, 3) := by decide +kernel
theorem dX8_load_16 : decode cX8_load 16 = .ok (.ifCond .eq 10, 3) := by decide +kernel
theorem dX8_load_19 : decode cX8_load 19 = .ok (.iload_n 2, 1) := by decide +kernel
theorem dX8_load_20 : decode cX8_load 20 = .ok (.invokestatic 121, 3) := by decide +kernel
theorem dX8_load_23 : decode cX8_load 23 = .ok (.ifCond .ne 7, 3) := by decide +kernel
theorem dX8_load_26 : decode cX8_load 26 = .ok (.iconst 1, 1) := by decide +kernel
theorem dX8_load_27 : decode cX8_load 27 = .ok (.goto 4, 3) := by decide +kernel
theorem dX8_load_30 : decode cX8_load 30 = .ok (.iconst 0, 1) := by decide +kernel
theorem dX8_load_31 : decode cX8_load 31 = .ok (.invokevirtual 125, 3) := by decide +kernel
theorem dX8_load_34 : decode cX8_load 34 = .ok (.ifCond .eq 5, 3) := by decide +kernel
theorem dX8_load_37 : decode cX8_load 37 = .ok (.iconst 0, 1) := by decide +kernel
theorem dX8_load_38 : decode cX8_load 38 = .ok (.ireturn, 1) := by decide +kernel
theorem dX8_load_39 : decode cX8_load 39 = .ok (.aload_n 0, 1) := by decide +kernel
theorem dX8_load_40 : decode cX8_load 40 = .ok (.invokevirtual 128, 3) := by decide +kernel
theorem dX8_load_43 : decode cX8_load 43 = .ok (.iconst 0, 1) := by decide +kernel
theorem dX8_load_44 : decode cX8_load 44 = .ok (.istore_n 3, 1) := by decide +kernel
theorem dX8_load_45 : decode cX8_load 45 = .ok (.iload_n 3, 1) := by decide +kernel
theorem dX8_load_46 : decode cX8_load 46 = .ok (.bipush 8, 2) := by decide +kernel
theorem dX8_load_48 : decode cX8_load 48 = .ok (.if_icmp .ge 31, 3) := by decide +kernel
theorem dX8_load_51 : decode cX8_load 51 = .ok (.aload_n 0, 1) := by decide +kernel
theorem dX8_load_52 : decode cX8_load 52 = .ok (.getfield 7, 3) := by decide +kernel
theorem dX8_load_55 : decode cX8_load 55 = .ok (.bipush 8, 2) := by decide +kernel
theorem dX8_load_57 : decode cX8_load 57 = .ok (.iload_n 2, 1) := by decide +kernel
theorem dX8_load_58 : decode cX8_load 58 = .ok (.imul, 1) := by decide +kernel
theorem dX8_load_59 : decode cX8_load 59 = .ok (.iload_n 3, 1) := by decide +kernel
theorem dX8_load_60 : decode cX8_load 60 = .ok (.iadd, 1) := by decide +kernel
theorem dX8_load_61 : decode cX8_load 61 = .ok (.aload_n 0, 1) := by decide +kernel
theorem dX8_load_62 : decode cX8_load 62 = .ok (.getfield 48, 3) := by decide +kernel
theorem dX8_load_65 : decode cX8_load 65 = .ok (.bipush 8, 2) := by decide +kernel
theorem dX8_load_67 : decode cX8_load 67 = .ok (.iload_n 1, 1) := by decide +kernel
theorem dX8_load_68 : decode cX8_load 68 = .ok (.imul, 1) := by decide +kernel
theorem dX8_load_69 : decode cX8_load 69 = .ok (.iload_n 3, 1) := by decide +kernel
theorem dX8_load_70 : decode cX8_load 70 = .ok (.iadd, 1) := by decide +kernel
theorem dX8_load_71 : decode cX8_load 71 = .ok (.iaload, 1) := by decide +kernel
theorem dX8_load_72 : decode cX8_load 72 = .ok (.iastore, 1) := by decide +kernel
theorem dX8_load_73 : decode cX8_load 73 = .ok (.iinc 3 1, 3) := by decide +kernel
theorem dX8_load_76 : decode cX8_load 76 = .ok (.goto (-31), 3) := by decide +kernel
theorem dX8_load_79 : decode cX8_load 79 = .ok (.aload_n 0, 1) := by decide +kernel
theorem dX8_load_80 : decode cX8_load 80 = .ok (.getfield 7, 3) := by decide +kernel
theorem dX8_load_83 : decode cX8_load 83 = .ok (.bipush 8, 2) := by decide +kernel
theorem dX8_load_85 : decode cX8_load 85 = .ok (.iload_n 2, 1) := by decide +kernel
theorem dX8_load_86 : decode cX8_load 86 = .ok (.imul, 1) := by decide +kernel
theorem dX8_load_87 : decode cX8_load 87 = .ok (.iaload, 1) := by decide +kernel
theorem dX8_load_88 : decode cX8_load 88 = .ok (.ireturn, 1) := by decide +kernel
theorem dX8_gives_0 : decode cX8_gives 0 = .ok (.aload_n 0, 1) := by decide +kernel
theorem dX8_gives_1 : decode cX8_gives 1 = .ok (.invokevirtual 128, 3) := by decide +kernel
theorem dX8_gives_4 : decode cX8_gives 4 = .ok (.aload_n 0, 1) := by decide +kernel
theorem dX8_gives_5 : decode cX8_gives 5 = .ok (.aload_n 0, 1) := by decide +kernel
theorem dX8_gives_6 : decode cX8_gives 6 = .ok (.getfield 35, 3) := by decide +kernel
theorem dX8_gives_9 : decode cX8_gives 9 = .ok (.iload_n 1, 1) := by decide +kernel
theorem dX8_gives_10 : decode cX8_gives 10 = .ok (.invokevirtual 139, 3) := by decide +kernel
theorem dX8_gives_13 : decode cX8_gives 13 = .ok (.aload_n 0, 1) := by decide +kernel
theorem dX8_gives_14 : decode cX8_gives 14 = .ok (.getfield 35, 3) := by decide +kernel
theorem dX8_gives_17 : decode cX8_gives 17 = .ok (.invokestatic 97, 3) := by decide +kernel
theorem dX8_gives_20 : decode cX8_gives 20 = .ok (.lreturn, 1) := by decide +kernel
theorem dX8_add_0 : decode cX8_add 0 = .ok (.aload_n 0, 1) := by decide +kernel
theorem dX8_add_1 : decode cX8_add 1 = .ok (.iload_n 1, 1) := by decide +kernel
theorem dX8_add_2 : decode cX8_add 2 = .ok (.invokestatic 121, 3) := by decide +kernel
theorem dX8_add_5 : decode cX8_add 5 = .ok (.ifCond .eq 17, 3) := by decide +kernel
theorem dX8_add_8 : decode cX8_add 8 = .ok (.iload_n 2, 1) := by decide +kernel
theorem dX8_add_9 : decode cX8_add 9 = .ok (.invokestatic 121, 3) := by decide +kernel
theorem dX8_add_12 : decode cX8_add 12 = .ok (.ifCond .eq 10, 3) := by decide +kernel
theorem dX8_add_15 : decode cX8_add 15 = .ok (.iload_n 3, 1) := by decide +kernel
theorem dX8_add_16 : decode cX8_add 16 = .ok (.invokestatic 121, 3) := by decide +kernel
theorem dX8_add_19 : decode cX8_add 19 = .ok (.ifCond .ne 7, 3) := by decide +kernel
theorem dX8_add_22 : decode cX8_add 22 = .ok (.iconst 1, 1) := by decide +kernel
theorem dX8_add_23 : decode cX8_add 23 = .ok (.goto 4, 3) := by decide +kernel
theorem dX8_add_26 : decode cX8_add 26 = .ok (.iconst 0, 1) := by decide +kernel
theorem dX8_add_27 : decode cX8_add 27 = .ok (.invokevirtual 125, 3) := by decide +kernel
theorem dX8_add_30 : decode cX8_add 30 = .ok (.ifCond .eq 5, 3) := by decide +kernel
theorem dX8_add_33 : decode cX8_add 33 = .ok (.lconst 0, 1) := by decide +kernel
theorem dX8_add_34 : decode cX8_add 34 = .ok (.lreturn, 1) := by decide +kernel
theorem dX8_add_35 : decode cX8_add 35 = .ok (.iconst 0, 1) := by decide +kernel
theorem dX8_add_36 : decode cX8_add 36 = .ok (.istore 5, 2) := by decide +kernel
theorem dX8_add_38 : decode cX8_add 38 = .ok (.iload 5, 2) := by decide +kernel
theorem dX8_add_40 : decode cX8_add 40 = .ok (.bipush 8, 2) := by decide +kernel
theorem dX8_add_42 : decode cX8_add 42 = .ok (.if_icmp .ge 63, 3) := by decide +kernel
theorem dX8_add_45 : decode cX8_add 45 = .ok (.aload_n 0, 1) := by decide +kernel
theorem dX8_add_46 : decode cX8_add 46 = .ok (.getfield 35, 3) := by decide +kernel
theorem dX8_add_49 : decode cX8_add 49 = .ok (.iload 5, 2) := by decide +kernel
theorem dX8_add_51 : decode cX8_add 51 = .ok (.aload_n 0, 1) := by decide +kernel
theorem dX8_add_52 : decode cX8_add 52 = .ok (.getfield 7, 3) := by decide +kernel
theorem dX8_add_55 : decode cX8_add 55 = .ok (.bipush 8, 2) := by decide +kernel
theorem dX8_add_57 : decode cX8_add 57 = .ok (.iload_n 1, 1) := by decide +kernel
theorem dX8_add_58 : decode cX8_add 58 = .ok (.imul, 1) := by decide +kernel
theorem dX8_add_59 : decode cX8_add 59 = .ok (.iload 5, 2) := by decide +kernel
theorem dX8_add_61 : decode cX8_add 61 = .ok (.iadd, 1) := by decide +kernel
theorem dX8_add_62 : decode cX8_add 62 = .ok (.iaload, 1) := by decide +kernel
theorem dX8_add_63 : decode cX8_add 63 = .ok (.iload 4, 2) := by decide +kernel
theorem dX8_add_65 : decode cX8_add 65 = .ok (.ifCond .eq 19, 3) := by decide +kernel
theorem dX8_add_68 : decode cX8_add 68 = .ok (.aload_n 0, 1) := by decide +kernel
theorem dX8_add_69 : decode cX8_add 69 = .ok (.getfield 7, 3) := by decide +kernel
theorem dX8_add_72 : decode cX8_add 72 = .ok (.bipush 8, 2) := by decide +kernel
theorem dX8_add_74 : decode cX8_add 74 = .ok (.iload_n 2, 1) := by decide +kernel
theorem dX8_add_75 : decode cX8_add 75 = .ok (.imul, 1) := by decide +kernel
theorem dX8_add_76 : decode cX8_add 76 = .ok (.iload 5, 2) := by decide +kernel
theorem dX8_add_78 : decode cX8_add 78 = .ok (.iadd, 1) := by decide +kernel
theorem dX8_add_79 : decode cX8_add 79 = .ok (.iaload, 1) := by decide +kernel
theorem dX8_add_80 : decode cX8_add 80 = .ok (.ineg, 1) := by decide +kernel
theorem dX8_add_81 : decode cX8_add 81 = .ok (.goto 15, 3) := by decide +kernel
theorem dX8_add_84 : decode cX8_add 84 = .ok (.aload_n 0, 1) := by decide +kernel
theorem dX8_add_85 : decode cX8_add 85 = .ok (.getfield 7, 3) := by decide +kernel
theorem dX8_add_88 : decode cX8_add 88 = .ok (.bipush 8, 2) := by decide +kernel
theorem dX8_add_90 : decode cX8_add 90 = .ok (.iload_n 2, 1) := by decide +kernel
theorem dX8_add_91 : decode cX8_add 91 = .ok (.imul, 1) := by decide +kernel
theorem dX8_add_92 : decode cX8_add 92 = .ok (.iload 5, 2) := by decide +kernel
theorem dX8_add_94 : decode cX8_add 94 = .ok (.iadd, 1) := by decide +kernel
theorem dX8_add_95 : decode cX8_add 95 = .ok (.iaload, 1) := by decide +kernel
theorem dX8_add_96 : decode cX8_add 96 = .ok (.iadd, 1) := by decide +kernel
theorem dX8_add_97 : decode cX8_add 97 = .ok (.i2l, 1) := by decide +kernel
theorem dX8_add_98 : decode cX8_add 98 = .ok (.lastore, 1) := by decide +kernel
theorem dX8_add_99 : decode cX8_add 99 = .ok (.iinc 5 1, 3) := by decide +kernel
theorem dX8_add_102 : decode cX8_add 102 = .ok (.goto (-64), 3) := by decide +kernel
theorem dX8_add_105 : decode cX8_add 105 = .ok (.aload_n 0, 1) := by decide +kernel
theorem dX8_add_106 : decode cX8_add 106 = .ok (.aload_n 0, 1) := by decide +kernel
theorem dX8_add_107 : decode cX8_add 107 = .ok (.getfield 35, 3) := by decide +kernel
theorem dX8_add_110 : decode cX8_add 110 = .ok (.iconst 1, 1) := by decide +kernel
theorem dX8_add_111 : decode cX8_add 111 = .ok (.invokestatic 142, 3) := by decide +kernel
theorem dX8_add_114 : decode cX8_add 114 = .ok (.ifCond .eq 7, 3) := by decide +kernel
theorem dX8_add_117 : decode cX8_add 117 = .ok (.iconst 0, 1) := by decide +kernel
theorem dX8_add_118 : decode cX8_add 118 = .ok (.goto 4, 3) := by decide +kernel
theorem dX8_add_121 : decode cX8_add 121 = .ok (.iconst 2, 1) := by decide +kernel
theorem dX8_add_122 : decode cX8_add 122 = .ok (.invokevirtual 125, 3) := by decide +kernel
theorem dX8_add_125 : decode cX8_add 125 = .ok (.ifCond .eq 7, 3) := by decide +kernel
theorem dX8_add_128 : decode cX8_add 128 = .ok (.lconst 0, 1) := by decide +kernel
theorem dX8_add_129 : decode cX8_add 129 = .ok (.goto 8, 3) := by decide +kernel
theorem dX8_add_132 : decode cX8_add 132 = .ok (.aload_n 0, 1) := by decide +kernel
theorem dX8_add_133 : decode cX8_add 133 = .ok (.iload_n 3, 1) := by decide +kernel
theorem dX8_add_134 : decode cX8_add 134 = .ok (.invokevirtual 145, 3) := by decide +kernel
theorem dX8_add_137 : decode cX8_add 137 = .ok (.lreturn, 1) := by decide +kernel
theorem dX8_multiply_0 : decode cX8_multiply 0 = .ok (.aload_n 0, 1) := by decide +kernel
theorem dX8_multiply_1 : decode cX8_multiply 1 = .ok (.iload_n 1, 1) := by decide +kernel
theorem dX8_multiply_2 : decode cX8_multiply 2 = .ok (.invokestatic 121, 3) := by decide +kernel
theorem dX8_multiply_5 : decode cX8_multiply 5 = .ok (.ifCond .eq 17, 3) := by decide +kernel
theorem dX8_multiply_8 : decode cX8_multiply 8 = .ok (.iload_n 2, 1) := by decide +kernel
theorem dX8_multiply_9 : decode cX8_multiply 9 = .ok (.invokestatic 121, 3) := by decide +kernel
theorem dX8_multiply_12 : decode cX8_multiply 12 = .ok (.ifCond .eq 10, 3) := by decide +kernel
theorem dX8_multiply_15 : decode cX8_multiply 15 = .ok (.iload_n 3, 1) := by decide +kernel
theorem dX8_multiply_16 : decode cX8_multiply 16 = .ok (.invokestatic 121, 3) := by decide +kernel
theorem dX8_multiply_19 : decode cX8_multiply 19 = .ok (.ifCond .ne 7, 3) := by decide +kernel
theorem dX8_multiply_22 : decode cX8_multiply 22 = .ok (.iconst 1, 1) := by decide +kernel
theorem dX8_multiply_23 : decode cX8_multiply 23 = .ok (.goto 4, 3) := by decide +kernel
theorem dX8_multiply_26 : decode cX8_multiply 26 = .ok (.iconst 0, 1) := by decide +kernel
theorem dX8_multiply_27 : decode cX8_multiply 27 = .ok (.invokevirtual 125, 3) := by decide +kernel
theorem dX8_multiply_30 : decode cX8_multiply 30 = .ok (.ifCond .eq 5, 3) := by decide +kernel
theorem dX8_multiply_33 : decode cX8_multiply 33 = .ok (.lconst 0, 1) := by decide +kernel
theorem dX8_multiply_34 : decode cX8_multiply 34 = .ok (.lreturn, 1) := by decide +kernel
theorem dX8_multiply_35 : decode cX8_multiply 35 = .ok (.aload_n 0, 1) := by decide +kernel
theorem dX8_multiply_36 : decode cX8_multiply 36 = .ok (.aload_n 0, 1) := by decide +kernel
theorem dX8_multiply_37 : decode cX8_multiply 37 = .ok (.getfield 25, 3) := by decide +kernel
theorem dX8_multiply_40 : decode cX8_multiply 40 = .ok (.iload_n 1, 1) := by decide +kernel
theorem dX8_multiply_41 : decode cX8_multiply 41 = .ok (.invokevirtual 131, 3) := by decide +kernel
theorem dX8_multiply_44 : decode cX8_multiply 44 = .ok (.aload_n 0, 1) := by decide +kernel
theorem dX8_multiply_45 : decode cX8_multiply 45 = .ok (.aload_n 0, 1) := by decide +kernel
theorem dX8_multiply_46 : decode cX8_multiply 46 = .ok (.getfield 29, 3) := by decide +kernel
theorem dX8_multiply_49 : decode cX8_multiply 49 = .ok (.iload_n 2, 1) := by decide +kernel
theorem dX8_multiply_50 : decode cX8_multiply 50 = .ok (.invokevirtual 131, 3) := by decide +kernel
theorem dX8_multiply_53 : decode cX8_multiply 53 = .ok (.aload_n 0, 1) := by decide +kernel
theorem dX8_multiply_54 : decode cX8_multiply 54 = .ok (.aload_n 0, 1) := by decide +kernel
theorem dX8_multiply_55 : decode cX8_multiply 55 = .ok (.getfield 25, 3) := by decide +kernel
theorem dX8_multiply_58 : decode cX8_multiply 58 = .ok (.aload_n 0, 1) := by decide +kernel
theorem dX8_multiply_59 : decode cX8_multiply 59 = .ok (.getfield 29, 3) := by decide +kernel
theorem dX8_multiply_62 : decode cX8_multiply 62 = .ok (.aload_n 0, 1) := by decide +kernel
theorem dX8_multiply_63 : decode cX8_multiply 63 = .ok (.getfield 35, 3) := by decide +kernel
theorem dX8_multiply_66 : decode cX8_multiply 66 = .ok (.invokevirtual 148, 3) := by decide +kernel
theorem dX8_multiply_69 : decode cX8_multiply 69 = .ok (.aload_n 0, 1) := by decide +kernel
theorem dX8_multiply_70 : decode cX8_multiply 70 = .ok (.aload_n 0, 1) := by decide +kernel
theorem dX8_multiply_71 : decode cX8_multiply 71 = .ok (.getfield 35, 3) := by decide +kernel
theorem dX8_multiply_74 : decode cX8_multiply 74 = .ok (.iconst 2, 1) := by decide +kernel
theorem dX8_multiply_75 : decode cX8_multiply 75 = .ok (.invokestatic 142, 3) := by decide +kernel
theorem dX8_multiply_78 : decode cX8_multiply 78 = .ok (.ifCond .eq 7, 3) := by decide +kernel
theorem dX8_multiply_81 : decode cX8_multiply 81 = .ok (.iconst 0, 1) := by decide +kernel
theorem dX8_multiply_82 : decode cX8_multiply 82 = .ok (.goto 4, 3) := by decide +kernel
theorem dX8_multiply_85 : decode cX8_multiply 85 = .ok (.iconst 2, 1) := by decide +kernel
theorem dX8_multiply_86 : decode cX8_multiply 86 = .ok (.invokevirtual 125, 3) := by decide +kernel
theorem dX8_multiply_89 : decode cX8_multiply 89 = .ok (.ifCond .eq 5, 3) := by decide +kernel
theorem dX8_multiply_92 : decode cX8_multiply 92 = .ok (.lconst 0, 1) := by decide +kernel
theorem dX8_multiply_93 : decode cX8_multiply 93 = .ok (.lreturn, 1) := by decide +kernel
theorem dX8_multiply_94 : decode cX8_multiply 94 = .ok (.aload_n 0, 1) := by decide +kernel
theorem dX8_multiply_95 : decode cX8_multiply 95 = .ok (.iload_n 3, 1) := by decide +kernel
theorem dX8_multiply_96 : decode cX8_multiply 96 = .ok (.invokevirtual 145, 3) := by decide +kernel
theorem dX8_multiply_99 : decode cX8_multiply 99 = .ok (.lstore 4, 2) := by decide +kernel
theorem dX8_multiply_101 : decode cX8_multiply 101 = .ok (.aload_n 0, 1) := by decide +kernel
theorem dX8_multiply_102 : decode cX8_multiply 102 = .ok (.getfield 7, 3) := by decide +kernel
theorem dX8_multiply_105 : decode cX8_multiply 105 = .ok (.bipush 65, 2) := by decide +kernel
theorem dX8_multiply_107 : decode cX8_multiply 107 = .ok (.dup2, 1) := by decide +kernel
theorem dX8_multiply_108 : decode cX8_multiply 108 = .ok (.iaload, 1) := by decide +kernel
theorem dX8_multiply_109 : decode cX8_multiply 109 = .ok (.iconst 1, 1) := by decide +kernel
theorem dX8_multiply_110 : decode cX8_multiply 110 = .ok (.iadd, 1) := by decide +kernel
theorem dX8_multiply_111 : decode cX8_multiply 111 = .ok (.iastore, 1) := by decide +kernel
theorem dX8_multiply_112 : decode cX8_multiply 112 = .ok (.lload 4, 2) := by decide +kernel
theorem dX8_multiply_114 : decode cX8_multiply 114 = .ok (.lreturn, 1) := by decide +kernel
theorem dX8_conjugate_0 : decode cX8_conjugate 0 = .ok (.aload_n 0, 1) := by decide +kernel
theorem dX8_conjugate_1 : decode cX8_conjugate 1 = .ok (.iload_n 1, 1) := by decide +kernel
theorem dX8_conjugate_2 : decode cX8_conjugate 2 = .ok (.invokestatic 121, 3) := by decide +kernel
theorem dX8_conjugate_5 : decode cX8_conjugate 5 = .ok (.ifCond .eq 7, 3) := by decide +kernel
theorem dX8_conjugate_8 : decode cX8_conjugate 8 = .ok (.iconst 0, 1) := by decide +kernel
theorem dX8_conjugate_9 : decode cX8_conjugate 9 = .ok (.goto 4, 3) := by decide +kernel
theorem dX8_conjugate_12 : decode cX8_conjugate 12 = .ok (.iconst 1, 1) := by decide +kernel
theorem dX8_conjugate_13 : decode cX8_conjugate 13 = .ok (.invokevirtual 125, 3) := by decide +kernel
theorem dX8_conjugate_16 : decode cX8_conjugate 16 = .ok (.ifCond .eq 5, 3) := by decide +kernel
theorem dX8_conjugate_19 : decode cX8_conjugate 19 = .ok (.iconst 0, 1) := by decide +kernel
theorem dX8_conjugate_20 : decode cX8_conjugate 20 = .ok (.ireturn, 1) := by decide +kernel
theorem dX8_conjugate_21 : decode cX8_conjugate 21 = .ok (.aload_n 0, 1) := by decide +kernel
theorem dX8_conjugate_22 : decode cX8_conjugate 22 = .ok (.invokevirtual 128, 3) := by decide +kernel
theorem dX8_conjugate_25 : decode cX8_conjugate 25 = .ok (.iconst 1, 1) := by decide +kernel
theorem dX8_conjugate_26 : decode cX8_conjugate 26 = .ok (.istore_n 2, 1) := by decide +kernel
theorem dX8_conjugate_27 : decode cX8_conjugate 27 = .ok (.iload_n 2, 1) := by decide +kernel
theorem dX8_conjugate_28 : decode cX8_conjugate 28 = .ok (.bipush 8, 2) := by decide +kernel
theorem dX8_conjugate_30 : decode cX8_conjugate 30 = .ok (.if_icmp .ge 32, 3) := by decide +kernel
theorem dX8_conjugate_33 : decode cX8_conjugate 33 = .ok (.aload_n 0, 1) := by decide +kernel
theorem dX8_conjugate_34 : decode cX8_conjugate 34 = .ok (.getfield 7, 3) := by decide +kernel
theorem dX8_conjugate_37 : decode cX8_conjugate 37 = .ok (.bipush 8, 2) := by decide +kernel
theorem dX8_conjugate_39 : decode cX8_conjugate 39 = .ok (.iload_n 1, 1) := by decide +kernel
theorem dX8_conjugate_40 : decode cX8_conjugate 40 = .ok (.imul, 1) := by decide +kernel
theorem dX8_conjugate_41 : decode cX8_conjugate 41 = .ok (.iload_n 2, 1) := by decide +kernel
theorem dX8_conjugate_42 : decode cX8_conjugate 42 = .ok (.iadd, 1) := by decide +kernel
theorem dX8_conjugate_43 : decode cX8_conjugate 43 = .ok (.aload_n 0, 1) := by decide +kernel
theorem dX8_conjugate_44 : decode cX8_conjugate 44 = .ok (.getfield 7, 3) := by decide +kernel
theorem dX8_conjugate_47 : decode cX8_conjugate 47 = .ok (.bipush 8, 2) := by decide +kernel
theorem dX8_conjugate_49 : decode cX8_conjugate 49 = .ok (.iload_n 1, 1) := by decide +kernel
theorem dX8_conjugate_50 : decode cX8_conjugate 50 = .ok (.imul, 1) := by decide +kernel
theorem dX8_conjugate_51 : decode cX8_conjugate 51 = .ok (.iload_n 2, 1) := by decide +kernel
theorem dX8_conjugate_52 : decode cX8_conjugate 52 = .ok (.iadd, 1) := by decide +kernel
theorem dX8_conjugate_53 : decode cX8_conjugate 53 = .ok (.iaload, 1) := by decide +kernel
theorem dX8_conjugate_54 : decode cX8_conjugate 54 = .ok (.ineg, 1) := by decide +kernel
theorem dX8_conjugate_55 : decode cX8_conjugate 55 = .ok (.iastore, 1) := by decide +kernel
theorem dX8_conjugate_56 : decode cX8_conjugate 56 = .ok (.iinc 2 1, 3) := by decide +kernel
theorem dX8_conjugate_59 : decode cX8_conjugate 59 = .ok (.goto (-32), 3) := by decide +kernel
theorem dX8_conjugate_62 : decode cX8_conjugate 62 = .ok (.aload_n 0, 1) := by decide +kernel
theorem dX8_conjugate_63 : decode cX8_conjugate 63 = .ok (.getfield 7, 3) := by decide +kernel
theorem dX8_conjugate_66 : decode cX8_conjugate 66 = .ok (.bipush 8, 2) := by decide +kernel
theorem dX8_conjugate_68 : decode cX8_conjugate 68 = .ok (.iload_n 1, 1) := by decide +kernel
theorem dX8_conjugate_69 : decode cX8_conjugate 69 = .ok (.imul, 1) := by decide +kernel
theorem dX8_conjugate_70 : decode cX8_conjugate 70 = .ok (.iaload, 1) := by decide +kernel
theorem dX8_conjugate_71 : decode cX8_conjugate 71 = .ok (.ireturn, 1) := by decide +kernel
theorem dX8_commutes_0 : decode cX8_commutes 0 = .ok (.aload_n 0, 1) := by decide +kernel
theorem dX8_commutes_1 : decode cX8_commutes 1 = .ok (.aload_n 0, 1) := by decide +kernel
theorem dX8_commutes_2 : decode cX8_commutes 2 = .ok (.getfield 25, 3) := by decide +kernel
theorem dX8_commutes_5 : decode cX8_commutes 5 = .ok (.iload_n 1, 1) := by decide +kernel
theorem dX8_commutes_6 : decode cX8_commutes 6 = .ok (.invokevirtual 131, 3) := by decide +kernel
theorem dX8_commutes_9 : decode cX8_commutes 9 = .ok (.aload_n 0, 1) := by decide +kernel
theorem dX8_commutes_10 : decode cX8_commutes 10 = .ok (.aload_n 0, 1) := by decide +kernel
theorem dX8_commutes_11 : decode cX8_commutes 11 = .ok (.getfield 29, 3) := by decide +kernel
theorem dX8_commutes_14 : decode cX8_commutes 14 = .ok (.iload_n 2, 1) := by decide +kernel
theorem dX8_commutes_15 : decode cX8_commutes 15 = .ok (.invokevirtual 131, 3) := by decide +kernel
theorem dX8_commutes_18 : decode cX8_commutes 18 = .ok (.aload_n 0, 1) := by decide +kernel
theorem dX8_commutes_19 : decode cX8_commutes 19 = .ok (.aload_n 0, 1) := by decide +kernel
theorem dX8_commutes_20 : decode cX8_commutes 20 = .ok (.getfield 25, 3) := by decide +kernel
theorem dX8_commutes_23 : decode cX8_commutes 23 = .ok (.aload_n 0, 1) := by decide +kernel
theorem dX8_commutes_24 : decode cX8_commutes 24 = .ok (.getfield 29, 3) := by decide +kernel
theorem dX8_commutes_27 : decode cX8_commutes 27 = .ok (.aload_n 0, 1) := by decide +kernel
theorem dX8_commutes_28 : decode cX8_commutes 28 = .ok (.getfield 41, 3) := by decide +kernel
theorem dX8_commutes_31 : decode cX8_commutes 31 = .ok (.invokevirtual 148, 3) := by decide +kernel
theorem dX8_commutes_34 : decode cX8_commutes 34 = .ok (.aload_n 0, 1) := by decide +kernel
theorem dX8_commutes_35 : decode cX8_commutes 35 = .ok (.aload_n 0, 1) := by decide +kernel
theorem dX8_commutes_36 : decode cX8_commutes 36 = .ok (.getfield 29, 3) := by decide +kernel
theorem dX8_commutes_39 : decode cX8_commutes 39 = .ok (.aload_n 0, 1) := by decide +kernel
theorem dX8_commutes_40 : decode cX8_commutes 40 = .ok (.getfield 25, 3) := by decide +kernel
theorem dX8_commutes_43 : decode cX8_commutes 43 = .ok (.aload_n 0, 1) := by decide +kernel
theorem dX8_commutes_44 : decode cX8_commutes 44 = .ok (.getfield 35, 3) := by decide +kernel
theorem dX8_commutes_47 : decode cX8_commutes 47 = .ok (.invokevirtual 148, 3) := by decide +kernel
theorem dX8_commutes_50 : decode cX8_commutes 50 = .ok (.iconst 0, 1) := by decide +kernel
theorem dX8_commutes_51 : decode cX8_commutes 51 = .ok (.istore_n 3, 1) := by decide +kernel
theorem dX8_commutes_52 : decode cX8_commutes 52 = .ok (.iload_n 3, 1) := by decide +kernel
theorem dX8_commutes_53 : decode cX8_commutes 53 = .ok (.bipush 8, 2) := by decide +kernel
theorem dX8_commutes_55 : decode cX8_commutes 55 = .ok (.if_icmp .ge 28, 3) := by decide +kernel
theorem dX8_commutes_58 : decode cX8_commutes 58 = .ok (.aload_n 0, 1) := by decide +kernel
theorem dX8_commutes_59 : decode cX8_commutes 59 = .ok (.getfield 35, 3) := by decide +kernel
theorem dX8_commutes_62 : decode cX8_commutes 62 = .ok (.iload_n 3, 1) := by decide +kernel
theorem dX8_commutes_63 : decode cX8_commutes 63 = .ok (.aload_n 0, 1) := by decide +kernel
theorem dX8_commutes_64 : decode cX8_commutes 64 = .ok (.getfield 41, 3) := by decide +kernel
theorem dX8_commutes_67 : decode cX8_commutes 67 = .ok (.iload_n 3, 1) := by decide +kernel
theorem dX8_commutes_68 : decode cX8_commutes 68 = .ok (.laload, 1) := by decide +kernel
theorem dX8_commutes_69 : decode cX8_commutes 69 = .ok (.aload_n 0, 1) := by decide +kernel
theorem dX8_commutes_70 : decode cX8_commutes 70 = .ok (.getfield 35, 3) := by decide +kernel
theorem dX8_commutes_73 : decode cX8_commutes 73 = .ok (.iload_n 3, 1) := by decide +kernel
theorem dX8_commutes_74 : decode cX8_commutes 74 = .ok (.laload, 1) := by decide +kernel
theorem dX8_commutes_75 : decode cX8_commutes 75 = .ok (.lsub, 1) := by decide +kernel
theorem dX8_commutes_76 : decode cX8_commutes 76 = .ok (.lastore, 1) := by decide +kernel
theorem dX8_commutes_77 : decode cX8_commutes 77 = .ok (.iinc 3 1, 3) := by decide +kernel
theorem dX8_commutes_80 : decode cX8_commutes 80 = .ok (.goto (-28), 3) := by decide +kernel
theorem dX8_commutes_83 : decode cX8_commutes 83 = .ok (.return_, 1) := by decide +kernel
theorem dX8_commutator_0 : decode cX8_commutator 0 = .ok (.aload_n 0, 1) := by decide +kernel
theorem dX8_commutator_1 : decode cX8_commutator 1 = .ok (.iload_n 1, 1) := by decide +kernel
theorem dX8_commutator_2 : decode cX8_commutator 2 = .ok (.invokestatic 121, 3) := by decide +kernel
theorem dX8_commutator_5 : decode cX8_commutator 5 = .ok (.ifCond .eq 17, 3) := by decide +kernel
theorem dX8_commutator_8 : decode cX8_commutator 8 = .ok (.iload_n 2, 1) := by decide +kernel
theorem dX8_commutator_9 : decode cX8_commutator 9 = .ok (.invokestatic 121, 3) := by decide +kernel
theorem dX8_commutator_12 : decode cX8_commutator 12 = .ok (.ifCond .eq 10, 3) := by decide +kernel
theorem dX8_commutator_15 : decode cX8_commutator 15 = .ok (.iload_n 3, 1) := by decide +kernel
theorem dX8_commutator_16 : decode cX8_commutator 16 = .ok (.invokestatic 121, 3) := by decide +kernel
theorem dX8_commutator_19 : decode cX8_commutator 19 = .ok (.ifCond .ne 7, 3) := by decide +kernel
theorem dX8_commutator_22 : decode cX8_commutator 22 = .ok (.iconst 1, 1) := by decide +kernel
theorem dX8_commutator_23 : decode cX8_commutator 23 = .ok (.goto 4, 3) := by decide +kernel
theorem dX8_commutator_26 : decode cX8_commutator 26 = .ok (.iconst 0, 1) := by decide +kernel
theorem dX8_commutator_27 : decode cX8_commutator 27 = .ok (.invokevirtual 125, 3) := by decide +kernel
theorem dX8_commutator_30 : decode cX8_commutator 30 = .ok (.ifCond .eq 5, 3) := by decide +kernel
theorem dX8_commutator_33 : decode cX8_commutator 33 = .ok (.lconst 0, 1) := by decide +kernel
theorem dX8_commutator_34 : decode cX8_commutator 34 = .ok (.lreturn, 1) := by decide +kernel
theorem dX8_commutator_35 : decode cX8_commutator 35 = .ok (.aload_n 0, 1) := by decide +kernel
theorem dX8_commutator_36 : decode cX8_commutator 36 = .ok (.iload_n 1, 1) := by decide +kernel
theorem dX8_commutator_37 : decode cX8_commutator 37 = .ok (.iload_n 2, 1) := by decide +kernel
theorem dX8_commutator_38 : decode cX8_commutator 38 = .ok (.invokevirtual 152, 3) := by decide +kernel
theorem dX8_commutator_41 : decode cX8_commutator 41 = .ok (.aload_n 0, 1) := by decide +kernel
theorem dX8_commutator_42 : decode cX8_commutator 42 = .ok (.aload_n 0, 1) := by decide +kernel
theorem dX8_commutator_43 : decode cX8_commutator 43 = .ok (.getfield 35, 3) := by decide +kernel
theorem dX8_commutator_46 : decode cX8_commutator 46 = .ok (.iconst 2, 1) := by decide +kernel
theorem dX8_commutator_47 : decode cX8_commutator 47 = .ok (.invokestatic 142, 3) := by decide +kernel
theorem dX8_commutator_50 : decode cX8_commutator 50 = .ok (.ifCond .eq 7, 3) := by decide +kernel
theorem dX8_commutator_53 : decode cX8_commutator 53 = .ok (.iconst 0, 1) := by decide +kernel
theorem dX8_commutator_54 : decode cX8_commutator 54 = .ok (.goto 4, 3) := by decide +kernel
theorem dX8_commutator_57 : decode cX8_commutator 57 = .ok (.iconst 2, 1) := by decide +kernel
theorem dX8_commutator_58 : decode cX8_commutator 58 = .ok (.invokevirtual 125, 3) := by decide +kernel
theorem dX8_commutator_61 : decode cX8_commutator 61 = .ok (.ifCond .eq 7, 3) := by decide +kernel
theorem dX8_commutator_64 : decode cX8_commutator 64 = .ok (.lconst 0, 1) := by decide +kernel
theorem dX8_commutator_65 : decode cX8_commutator 65 = .ok (.goto 8, 3) := by decide +kernel
theorem dX8_commutator_68 : decode cX8_commutator 68 = .ok (.aload_n 0, 1) := by decide +kernel
theorem dX8_commutator_69 : decode cX8_commutator 69 = .ok (.iload_n 3, 1) := by decide +kernel
theorem dX8_commutator_70 : decode cX8_commutator 70 = .ok (.invokevirtual 145, 3) := by decide +kernel
theorem dX8_commutator_73 : decode cX8_commutator 73 = .ok (.lreturn, 1) := by decide +kernel
theorem dX8_associates_0 : decode cX8_associates 0 = .ok (.aload_n 0, 1) := by decide +kernel
theorem dX8_associates_1 : decode cX8_associates 1 = .ok (.aload_n 0, 1) := by decide +kernel
theorem dX8_associates_2 : decode cX8_associates 2 = .ok (.getfield 25, 3) := by decide +kernel
theorem dX8_associates_5 : decode cX8_associates 5 = .ok (.iload_n 1, 1) := by decide +kernel
theorem dX8_associates_6 : decode cX8_associates 6 = .ok (.invokevirtual 131, 3) := by decide +kernel
theorem dX8_associates_9 : decode cX8_associates 9 = .ok (.aload_n 0, 1) := by decide +kernel
theorem dX8_associates_10 : decode cX8_associates 10 = .ok (.aload_n 0, 1) := by decide +kernel
theorem dX8_associates_11 : decode cX8_associates 11 = .ok (.getfield 29, 3) := by decide +kernel
theorem dX8_associates_14 : decode cX8_associates 14 = .ok (.iload_n 2, 1) := by decide +kernel
theorem dX8_associates_15 : decode cX8_associates 15 = .ok (.invokevirtual 131, 3) := by decide +kernel
theorem dX8_associates_18 : decode cX8_associates 18 = .ok (.aload_n 0, 1) := by decide +kernel
theorem dX8_associates_19 : decode cX8_associates 19 = .ok (.aload_n 0, 1) := by decide +kernel
theorem dX8_associates_20 : decode cX8_associates 20 = .ok (.getfield 25, 3) := by decide +kernel
theorem dX8_associates_23 : decode cX8_associates 23 = .ok (.aload_n 0, 1) := by decide +kernel
theorem dX8_associates_24 : decode cX8_associates 24 = .ok (.getfield 29, 3) := by decide +kernel
theorem dX8_associates_27 : decode cX8_associates 27 = .ok (.aload_n 0, 1) := by decide +kernel
theorem dX8_associates_28 : decode cX8_associates 28 = .ok (.getfield 41, 3) := by decide +kernel
theorem dX8_associates_31 : decode cX8_associates 31 = .ok (.invokevirtual 148, 3) := by decide +kernel
theorem dX8_associates_34 : decode cX8_associates 34 = .ok (.aload_n 0, 1) := by decide +kernel
theorem dX8_associates_35 : decode cX8_associates 35 = .ok (.aload_n 0, 1) := by decide +kernel
theorem dX8_associates_36 : decode cX8_associates 36 = .ok (.getfield 29, 3) := by decide +kernel
theorem dX8_associates_39 : decode cX8_associates 39 = .ok (.iload_n 3, 1) := by decide +kernel
theorem dX8_associates_40 : decode cX8_associates 40 = .ok (.invokevirtual 131, 3) := by decide +kernel
theorem dX8_associates_43 : decode cX8_associates 43 = .ok (.aload_n 0, 1) := by decide +kernel
theorem dX8_associates_44 : decode cX8_associates 44 = .ok (.aload_n 0, 1) := by decide +kernel
theorem dX8_associates_45 : decode cX8_associates 45 = .ok (.getfield 41, 3) := by decide +kernel
theorem dX8_associates_48 : decode cX8_associates 48 = .ok (.aload_n 0, 1) := by decide +kernel
theorem dX8_associates_49 : decode cX8_associates 49 = .ok (.getfield 29, 3) := by decide +kernel
theorem dX8_associates_52 : decode cX8_associates 52 = .ok (.aload_n 0, 1) := by decide +kernel
theorem dX8_associates_53 : decode cX8_associates 53 = .ok (.getfield 41, 3) := by decide +kernel
theorem dX8_associates_56 : decode cX8_associates 56 = .ok (.invokevirtual 148, 3) := by decide +kernel
theorem dX8_associates_59 : decode cX8_associates 59 = .ok (.aload_n 0, 1) := by decide +kernel
theorem dX8_associates_60 : decode cX8_associates 60 = .ok (.aload_n 0, 1) := by decide +kernel
theorem dX8_associates_61 : decode cX8_associates 61 = .ok (.getfield 25, 3) := by decide +kernel
theorem dX8_associates_64 : decode cX8_associates 64 = .ok (.iload_n 2, 1) := by decide +kernel
theorem dX8_associates_65 : decode cX8_associates 65 = .ok (.invokevirtual 131, 3) := by decide +kernel
theorem dX8_associates_68 : decode cX8_associates 68 = .ok (.aload_n 0, 1) := by decide +kernel
theorem dX8_associates_69 : decode cX8_associates 69 = .ok (.aload_n 0, 1) := by decide +kernel
theorem dX8_associates_70 : decode cX8_associates 70 = .ok (.getfield 25, 3) := by decide +kernel
theorem dX8_associates_73 : decode cX8_associates 73 = .ok (.aload_n 0, 1) := by decide +kernel
theorem dX8_associates_74 : decode cX8_associates 74 = .ok (.getfield 29, 3) := by decide +kernel
theorem dX8_associates_77 : decode cX8_associates 77 = .ok (.aload_n 0, 1) := by decide +kernel
theorem dX8_associates_78 : decode cX8_associates 78 = .ok (.getfield 35, 3) := by decide +kernel
theorem dX8_associates_81 : decode cX8_associates 81 = .ok (.invokevirtual 148, 3) := by decide +kernel
theorem dX8_associates_84 : decode cX8_associates 84 = .ok (.aload_n 0, 1) := by decide +kernel
theorem dX8_associates_85 : decode cX8_associates 85 = .ok (.aload_n 0, 1) := by decide +kernel
theorem dX8_associates_86 : decode cX8_associates 86 = .ok (.getfield 25, 3) := by decide +kernel
theorem dX8_associates_89 : decode cX8_associates 89 = .ok (.iload_n 1, 1) := by decide +kernel
theorem dX8_associates_90 : decode cX8_associates 90 = .ok (.invokevirtual 131, 3) := by decide +kernel
theorem dX8_associates_93 : decode cX8_associates 93 = .ok (.aload_n 0, 1) := by decide +kernel
theorem dX8_associates_94 : decode cX8_associates 94 = .ok (.aload_n 0, 1) := by decide +kernel
theorem dX8_associates_95 : decode cX8_associates 95 = .ok (.getfield 25, 3) := by decide +kernel
theorem dX8_associates_98 : decode cX8_associates 98 = .ok (.aload_n 0, 1) := by decide +kernel
theorem dX8_associates_99 : decode cX8_associates 99 = .ok (.getfield 35, 3) := by decide +kernel
theorem dX8_associates_102 : decode cX8_associates 102 = .ok (.aload_n 0, 1) := by decide +kernel
theorem dX8_associates_103 : decode cX8_associates 103 = .ok (.getfield 35, 3) := by decide +kernel
theorem dX8_associates_106 : decode cX8_associates 106 = .ok (.invokevirtual 148, 3) := by decide +kernel
theorem dX8_associates_109 : decode cX8_associates 109 = .ok (.iconst 0, 1) := by decide +kernel
theorem dX8_associates_110 : decode cX8_associates 110 = .ok (.istore 4, 2) := by decide +kernel
theorem dX8_associates_112 : decode cX8_associates 112 = .ok (.iload 4, 2) := by decide +kernel
theorem dX8_associates_114 : decode cX8_associates 114 = .ok (.bipush 8, 2) := by decide +kernel
theorem dX8_associates_116 : decode cX8_associates 116 = .ok (.if_icmp .ge 31, 3) := by decide +kernel
theorem dX8_associates_119 : decode cX8_associates 119 = .ok (.aload_n 0, 1) := by decide +kernel
theorem dX8_associates_120 : decode cX8_associates 120 = .ok (.getfield 35, 3) := by decide +kernel
theorem dX8_associates_123 : decode cX8_associates 123 = .ok (.iload 4, 2) := by decide +kernel
theorem dX8_associates_125 : decode cX8_associates 125 = .ok (.aload_n 0, 1) := by decide +kernel
theorem dX8_associates_126 : decode cX8_associates 126 = .ok (.getfield 41, 3) := by decide +kernel
theorem dX8_associates_129 : decode cX8_associates 129 = .ok (.iload 4, 2) := by decide +kernel
theorem dX8_associates_131 : decode cX8_associates 131 = .ok (.laload, 1) := by decide +kernel
theorem dX8_associates_132 : decode cX8_associates 132 = .ok (.aload_n 0, 1) := by decide +kernel
theorem dX8_associates_133 : decode cX8_associates 133 = .ok (.getfield 35, 3) := by decide +kernel
theorem dX8_associates_136 : decode cX8_associates 136 = .ok (.iload 4, 2) := by decide +kernel
theorem dX8_associates_138 : decode cX8_associates 138 = .ok (.laload, 1) := by decide +kernel
theorem dX8_associates_139 : decode cX8_associates 139 = .ok (.lsub, 1) := by decide +kernel
theorem dX8_associates_140 : decode cX8_associates 140 = .ok (.lastore, 1) := by decide +kernel
theorem dX8_associates_141 : decode cX8_associates 141 = .ok (.iinc 4 1, 3) := by decide +kernel
theorem dX8_associates_144 : decode cX8_associates 144 = .ok (.goto (-32), 3) := by decide +kernel
theorem dX8_associates_147 : decode cX8_associates 147 = .ok (.return_, 1) := by decide +kernel
theorem dX8_associator_0 : decode cX8_associator 0 = .ok (.aload_n 0, 1) := by decide +kernel
theorem dX8_associator_1 : decode cX8_associator 1 = .ok (.iload_n 1, 1) := by decide +kernel
theorem dX8_associator_2 : decode cX8_associator 2 = .ok (.invokestatic 121, 3) := by decide +kernel
theorem dX8_associator_5 : decode cX8_associator 5 = .ok (.ifCond .eq 25, 3) := by decide +kernel
theorem dX8_associator_8 : decode cX8_associator 8 = .ok (.iload_n 2, 1) := by decide +kernel
theorem dX8_associator_9 : decode cX8_associator 9 = .ok (.invokestatic 121, 3) := by decide +kernel
theorem dX8_associator_12 : decode cX8_associator 12 = .ok (.ifCond .eq 18, 3) := by decide +kernel
theorem dX8_associator_15 : decode cX8_associator 15 = .ok (.iload_n 3, 1) := by decide +kernel
theorem dX8_associator_16 : decode cX8_associator 16 = .ok (.invokestatic 121, 3) := by decide +kernel
theorem dX8_associator_19 : decode cX8_associator 19 = .ok (.ifCond .eq 11, 3) := by decide +kernel
theorem dX8_associator_22 : decode cX8_associator 22 = .ok (.iload 4, 2) := by decide +kernel
theorem dX8_associator_24 : decode cX8_associator 24 = .ok (.invokestatic 121, 3) := by decide +kernel
theorem dX8_associator_27 : decode cX8_associator 27 = .ok (.ifCond .ne 7, 3) := by decide +kernel
theorem dX8_associator_30 : decode cX8_associator 30 = .ok (.iconst 1, 1) := by decide +kernel
theorem dX8_associator_31 : decode cX8_associator 31 = .ok (.goto 4, 3) := by decide +kernel
theorem dX8_associator_34 : decode cX8_associator 34 = .ok (.iconst 0, 1) := by decide +kernel
theorem dX8_associator_35 : decode cX8_associator 35 = .ok (.invokevirtual 125, 3) := by decide +kernel
theorem dX8_associator_38 : decode cX8_associator 38 = .ok (.ifCond .eq 5, 3) := by decide +kernel
theorem dX8_associator_41 : decode cX8_associator 41 = .ok (.lconst 0, 1) := by decide +kernel
theorem dX8_associator_42 : decode cX8_associator 42 = .ok (.lreturn, 1) := by decide +kernel
theorem dX8_associator_43 : decode cX8_associator 43 = .ok (.aload_n 0, 1) := by decide +kernel
theorem dX8_associator_44 : decode cX8_associator 44 = .ok (.iload_n 1, 1) := by decide +kernel
theorem dX8_associator_45 : decode cX8_associator 45 = .ok (.iload_n 2, 1) := by decide +kernel
theorem dX8_associator_46 : decode cX8_associator 46 = .ok (.iload_n 3, 1) := by decide +kernel
theorem dX8_associator_47 : decode cX8_associator 47 = .ok (.invokevirtual 156, 3) := by decide +kernel
theorem dX8_associator_50 : decode cX8_associator 50 = .ok (.aload_n 0, 1) := by decide +kernel
theorem dX8_associator_51 : decode cX8_associator 51 = .ok (.aload_n 0, 1) := by decide +kernel
theorem dX8_associator_52 : decode cX8_associator 52 = .ok (.getfield 35, 3) := by decide +kernel
theorem dX8_associator_55 : decode cX8_associator 55 = .ok (.iconst 4, 1) := by decide +kernel
theorem dX8_associator_56 : decode cX8_associator 56 = .ok (.invokestatic 142, 3) := by decide +kernel
theorem dX8_associator_59 : decode cX8_associator 59 = .ok (.ifCond .eq 7, 3) := by decide +kernel
theorem dX8_associator_62 : decode cX8_associator 62 = .ok (.iconst 0, 1) := by decide +kernel
theorem dX8_associator_63 : decode cX8_associator 63 = .ok (.goto 4, 3) := by decide +kernel
theorem dX8_associator_66 : decode cX8_associator 66 = .ok (.iconst 2, 1) := by decide +kernel
theorem dX8_associator_67 : decode cX8_associator 67 = .ok (.invokevirtual 125, 3) := by decide +kernel
theorem dX8_associator_70 : decode cX8_associator 70 = .ok (.ifCond .eq 7, 3) := by decide +kernel
theorem dX8_associator_73 : decode cX8_associator 73 = .ok (.lconst 0, 1) := by decide +kernel
theorem dX8_associator_74 : decode cX8_associator 74 = .ok (.goto 9, 3) := by decide +kernel
theorem dX8_associator_77 : decode cX8_associator 77 = .ok (.aload_n 0, 1) := by decide +kernel
theorem dX8_associator_78 : decode cX8_associator 78 = .ok (.iload 4, 2) := by decide +kernel
theorem dX8_associator_80 : decode cX8_associator 80 = .ok (.invokevirtual 145, 3) := by decide +kernel
theorem dX8_associator_83 : decode cX8_associator 83 = .ok (.lreturn, 1) := by decide +kernel
theorem dX8_cut_0 : decode cX8_cut 0 = .ok (.lload_n 0, 1) := by decide +kernel
theorem dX8_cut_1 : decode cX8_cut 1 = .ok (.lload_n 2, 1) := by decide +kernel
theorem dX8_cut_2 : decode cX8_cut 2 = .ok (.ldiv, 1) := by decide +kernel
theorem dX8_cut_3 : decode cX8_cut 3 = .ok (.lstore 4, 2) := by decide +kernel
theorem dX8_cut_5 : decode cX8_cut 5 = .ok (.lload_n 0, 1) := by decide +kernel
theorem dX8_cut_6 : decode cX8_cut 6 = .ok (.lload_n 2, 1) := by decide +kernel
theorem dX8_cut_7 : decode cX8_cut 7 = .ok (.lrem, 1) := by decide +kernel
theorem dX8_cut_8 : decode cX8_cut 8 = .ok (.lconst 0, 1) := by decide +kernel
theorem dX8_cut_9 : decode cX8_cut 9 = .ok (.lcmp, 1) := by decide +kernel
theorem dX8_cut_10 : decode cX8_cut 10 = .ok (.ifCond .ge 10, 3) := by decide +kernel
theorem dX8_cut_13 : decode cX8_cut 13 = .ok (.lload 4, 2) := by decide +kernel
theorem dX8_cut_15 : decode cX8_cut 15 = .ok (.lconst 1, 1) := by decide +kernel
theorem dX8_cut_16 : decode cX8_cut 16 = .ok (.lsub, 1) := by decide +kernel
theorem dX8_cut_17 : decode cX8_cut 17 = .ok (.goto 5, 3) := by decide +kernel
theorem dX8_cut_20 : decode cX8_cut 20 = .ok (.lload 4, 2) := by decide +kernel
theorem dX8_cut_22 : decode cX8_cut 22 = .ok (.lreturn, 1) := by decide +kernel
theorem dX8_nearest_0 : decode cX8_nearest 0 = .ok (.ldc2_w 101, 3) := by decide +kernel
theorem dX8_nearest_3 : decode cX8_nearest 3 = .ok (.lload_n 0, 1) := by decide +kernel
theorem dX8_nearest_4 : decode cX8_nearest 4 = .ok (.lload_n 2, 1) := by decide +kernel
theorem dX8_nearest_5 : decode cX8_nearest 5 = .ok (.invokestatic 159, 3) := by decide +kernel
theorem dX8_nearest_8 : decode cX8_nearest 8 = .ok (.lmul, 1) := by decide +kernel
theorem dX8_nearest_9 : decode cX8_nearest 9 = .ok (.iload 4, 2) := by decide +kernel
theorem dX8_nearest_11 : decode cX8_nearest 11 = .ok (.i2l, 1) := by decide +kernel
theorem dX8_nearest_12 : decode cX8_nearest 12 = .ok (.ladd, 1) := by decide +kernel
theorem dX8_nearest_13 : decode cX8_nearest 13 = .ok (.lstore 5, 2) := by decide +kernel
theorem dX8_nearest_15 : decode cX8_nearest 15 = .ok (.lload 5, 2) := by decide +kernel
theorem dX8_nearest_17 : decode cX8_nearest 17 = .ok (.lload_n 2, 1) := by decide +kernel
theorem dX8_nearest_18 : decode cX8_nearest 18 = .ok (.lmul, 1) := by decide +kernel
theorem dX8_nearest_19 : decode cX8_nearest 19 = .ok (.ldc2_w 101, 3) := by decide +kernel
theorem dX8_nearest_22 : decode cX8_nearest 22 = .ok (.lload_n 0, 1) := by decide +kernel
theorem dX8_nearest_23 : decode cX8_nearest 23 = .ok (.lmul, 1) := by decide +kernel
theorem dX8_nearest_24 : decode cX8_nearest 24 = .ok (.lcmp, 1) := by decide +kernel
theorem dX8_nearest_25 : decode cX8_nearest 25 = .ok (.ifCond .le 12, 3) := by decide +kernel
theorem dX8_nearest_28 : decode cX8_nearest 28 = .ok (.lload 5, 2) := by decide +kernel
theorem dX8_nearest_30 : decode cX8_nearest 30 = .ok (.ldc2_w 101, 3) := by decide +kernel
theorem dX8_nearest_33 : decode cX8_nearest 33 = .ok (.lsub, 1) := by decide +kernel
theorem dX8_nearest_34 : decode cX8_nearest 34 = .ok (.goto 5, 3) := by decide +kernel
theorem dX8_nearest_37 : decode cX8_nearest 37 = .ok (.lload 5, 2) := by decide +kernel
theorem dX8_nearest_39 : decode cX8_nearest 39 = .ok (.lstore 5, 2) := by decide +kernel
theorem dX8_nearest_41 : decode cX8_nearest 41 = .ok (.ldc2_w 101, 3) := by decide +kernel
theorem dX8_nearest_44 : decode cX8_nearest 44 = .ok (.lload_n 0, 1) := by decide +kernel
theorem dX8_nearest_45 : decode cX8_nearest 45 = .ok (.lmul, 1) := by decide +kernel
theorem dX8_nearest_46 : decode cX8_nearest 46 = .ok (.lload 5, 2) := by decide +kernel
theorem dX8_nearest_48 : decode cX8_nearest 48 = .ok (.lload_n 2, 1) := by decide +kernel
theorem dX8_nearest_49 : decode cX8_nearest 49 = .ok (.lmul, 1) := by decide +kernel
theorem dX8_nearest_50 : decode cX8_nearest 50 = .ok (.lsub, 1) := by decide +kernel
theorem dX8_nearest_51 : decode cX8_nearest 51 = .ok (.lload 5, 2) := by decide +kernel
theorem dX8_nearest_53 : decode cX8_nearest 53 = .ok (.ldc2_w 101, 3) := by decide +kernel
theorem dX8_nearest_56 : decode cX8_nearest 56 = .ok (.ladd, 1) := by decide +kernel
theorem dX8_nearest_57 : decode cX8_nearest 57 = .ok (.lload_n 2, 1) := by decide +kernel
theorem dX8_nearest_58 : decode cX8_nearest 58 = .ok (.lmul, 1) := by decide +kernel
theorem dX8_nearest_59 : decode cX8_nearest 59 = .ok (.ldc2_w 101, 3) := by decide +kernel
theorem dX8_nearest_62 : decode cX8_nearest 62 = .ok (.lload_n 0, 1) := by decide +kernel
theorem dX8_nearest_63 : decode cX8_nearest 63 = .ok (.lmul, 1) := by decide +kernel
theorem dX8_nearest_64 : decode cX8_nearest 64 = .ok (.lsub, 1) := by decide +kernel
theorem dX8_nearest_65 : decode cX8_nearest 65 = .ok (.lcmp, 1) := by decide +kernel
theorem dX8_nearest_66 : decode cX8_nearest 66 = .ok (.ifCond .gt 8, 3) := by decide +kernel
theorem dX8_nearest_69 : decode cX8_nearest 69 = .ok (.lload 5, 2) := by decide +kernel
theorem dX8_nearest_71 : decode cX8_nearest 71 = .ok (.goto 9, 3) := by decide +kernel
theorem dX8_nearest_74 : decode cX8_nearest 74 = .ok (.lload 5, 2) := by decide +kernel
theorem dX8_nearest_76 : decode cX8_nearest 76 = .ok (.ldc2_w 101, 3) := by decide +kernel
theorem dX8_nearest_79 : decode cX8_nearest 79 = .ok (.ladd, 1) := by decide +kernel
theorem dX8_nearest_80 : decode cX8_nearest 80 = .ok (.lreturn, 1) := by decide +kernel
theorem dX8_isLower_0 : decode cX8_isLower 0 = .ok (.iconst 0, 1) := by decide +kernel
theorem dX8_isLower_1 : decode cX8_isLower 1 = .ok (.istore_n 1, 1) := by decide +kernel
theorem dX8_isLower_2 : decode cX8_isLower 2 = .ok (.iload_n 1, 1) := by decide +kernel
theorem dX8_isLower_3 : decode cX8_isLower 3 = .ok (.bipush 8, 2) := by decide +kernel
theorem dX8_isLower_5 : decode cX8_isLower 5 = .ok (.if_icmp .ge 47, 3) := by decide +kernel
theorem dX8_isLower_8 : decode cX8_isLower 8 = .ok (.aload_n 0, 1) := by decide +kernel
theorem dX8_isLower_9 : decode cX8_isLower 9 = .ok (.getfield 57, 3) := by decide +kernel
theorem dX8_isLower_12 : decode cX8_isLower 12 = .ok (.iload_n 1, 1) := by decide +kernel
theorem dX8_isLower_13 : decode cX8_isLower 13 = .ok (.laload, 1) := by decide +kernel
theorem dX8_isLower_14 : decode cX8_isLower 14 = .ok (.aload_n 0, 1) := by decide +kernel
theorem dX8_isLower_15 : decode cX8_isLower 15 = .ok (.getfield 51, 3) := by decide +kernel
theorem dX8_isLower_18 : decode cX8_isLower 18 = .ok (.iload_n 1, 1) := by decide +kernel
theorem dX8_isLower_19 : decode cX8_isLower 19 = .ok (.laload, 1) := by decide +kernel
theorem dX8_isLower_20 : decode cX8_isLower 20 = .ok (.lcmp, 1) := by decide +kernel
theorem dX8_isLower_21 : decode cX8_isLower 21 = .ok (.ifCond .eq 25, 3) := by decide +kernel
theorem dX8_isLower_24 : decode cX8_isLower 24 = .ok (.aload_n 0, 1) := by decide +kernel
theorem dX8_isLower_25 : decode cX8_isLower 25 = .ok (.getfield 57, 3) := by decide +kernel
theorem dX8_isLower_28 : decode cX8_isLower 28 = .ok (.iload_n 1, 1) := by decide +kernel
theorem dX8_isLower_29 : decode cX8_isLower 29 = .ok (.laload, 1) := by decide +kernel
theorem dX8_isLower_30 : decode cX8_isLower 30 = .ok (.aload_n 0, 1) := by decide +kernel
theorem dX8_isLower_31 : decode cX8_isLower 31 = .ok (.getfield 51, 3) := by decide +kernel
theorem dX8_isLower_34 : decode cX8_isLower 34 = .ok (.iload_n 1, 1) := by decide +kernel
theorem dX8_isLower_35 : decode cX8_isLower 35 = .ok (.laload, 1) := by decide +kernel
theorem dX8_isLower_36 : decode cX8_isLower 36 = .ok (.lcmp, 1) := by decide +kernel
theorem dX8_isLower_37 : decode cX8_isLower 37 = .ok (.ifCond .ge 7, 3) := by decide +kernel
theorem dX8_isLower_40 : decode cX8_isLower 40 = .ok (.iconst 1, 1) := by decide +kernel
theorem dX8_isLower_41 : decode cX8_isLower 41 = .ok (.goto 4, 3) := by decide +kernel
theorem dX8_isLower_44 : decode cX8_isLower 44 = .ok (.iconst 0, 1) := by decide +kernel
theorem dX8_isLower_45 : decode cX8_isLower 45 = .ok (.ireturn, 1) := by decide +kernel
theorem dX8_isLower_46 : decode cX8_isLower 46 = .ok (.iinc 1 1, 3) := by decide +kernel
theorem dX8_isLower_49 : decode cX8_isLower 49 = .ok (.goto (-47), 3) := by decide +kernel
theorem dX8_isLower_52 : decode cX8_isLower 52 = .ok (.iconst 0, 1) := by decide +kernel
theorem dX8_isLower_53 : decode cX8_isLower 53 = .ok (.ireturn, 1) := by decide +kernel
theorem dX8_divides_0 : decode cX8_divides 0 = .ok (.aload_n 0, 1) := by decide +kernel
theorem dX8_divides_1 : decode cX8_divides 1 = .ok (.getfield 29, 3) := by decide +kernel
theorem dX8_divides_4 : decode cX8_divides 4 = .ok (.invokestatic 97, 3) := by decide +kernel
theorem dX8_divides_7 : decode cX8_divides 7 = .ok (.lstore_n 1, 1) := by decide +kernel
theorem dX8_divides_8 : decode cX8_divides 8 = .ok (.iconst 1, 1) := by decide +kernel
theorem dX8_divides_9 : decode cX8_divides 9 = .ok (.istore_n 3, 1) := by decide +kernel
theorem dX8_divides_10 : decode cX8_divides 10 = .ok (.iload_n 3, 1) := by decide +kernel
theorem dX8_divides_11 : decode cX8_divides 11 = .ok (.bipush 8, 2) := by decide +kernel
theorem dX8_divides_13 : decode cX8_divides 13 = .ok (.if_icmp .ge 22, 3) := by decide +kernel
theorem dX8_divides_16 : decode cX8_divides 16 = .ok (.aload_n 0, 1) := by decide +kernel
theorem dX8_divides_17 : decode cX8_divides 17 = .ok (.getfield 29, 3) := by decide +kernel
theorem dX8_divides_20 : decode cX8_divides 20 = .ok (.iload_n 3, 1) := by decide +kernel
theorem dX8_divides_21 : decode cX8_divides 21 = .ok (.aload_n 0, 1) := by decide +kernel
theorem dX8_divides_22 : decode cX8_divides 22 = .ok (.getfield 29, 3) := by decide +kernel
theorem dX8_divides_25 : decode cX8_divides 25 = .ok (.iload_n 3, 1) := by decide +kernel
theorem dX8_divides_26 : decode cX8_divides 26 = .ok (.laload, 1) := by decide +kernel
theorem dX8_divides_27 : decode cX8_divides 27 = .ok (.lneg, 1) := by decide +kernel
theorem dX8_divides_28 : decode cX8_divides 28 = .ok (.lastore, 1) := by decide +kernel
theorem dX8_divides_29 : decode cX8_divides 29 = .ok (.iinc 3 1, 3) := by decide +kernel
theorem dX8_divides_32 : decode cX8_divides 32 = .ok (.goto (-22), 3) := by decide +kernel
theorem dX8_divides_35 : decode cX8_divides 35 = .ok (.aload_n 0, 1) := by decide +kernel
theorem dX8_divides_36 : decode cX8_divides 36 = .ok (.aload_n 0, 1) := by decide +kernel
theorem dX8_divides_37 : decode cX8_divides 37 = .ok (.getfield 25, 3) := by decide +kernel
theorem dX8_divides_40 : decode cX8_divides 40 = .ok (.aload_n 0, 1) := by decide +kernel
theorem dX8_divides_41 : decode cX8_divides 41 = .ok (.getfield 29, 3) := by decide +kernel
theorem dX8_divides_44 : decode cX8_divides 44 = .ok (.aload_n 0, 1) := by decide +kernel
theorem dX8_divides_45 : decode cX8_divides 45 = .ok (.getfield 41, 3) := by decide +kernel
theorem dX8_divides_48 : decode cX8_divides 48 = .ok (.invokevirtual 148, 3) := by decide +kernel
theorem dX8_divides_51 : decode cX8_divides 51 = .ok (.iconst 1, 1) := by decide +kernel
theorem dX8_divides_52 : decode cX8_divides 52 = .ok (.istore_n 3, 1) := by decide +kernel
theorem dX8_divides_53 : decode cX8_divides 53 = .ok (.iload_n 3, 1) := by decide +kernel
theorem dX8_divides_54 : decode cX8_divides 54 = .ok (.bipush 8, 2) := by decide +kernel
theorem dX8_divides_56 : decode cX8_divides 56 = .ok (.if_icmp .ge 22, 3) := by decide +kernel
theorem dX8_divides_59 : decode cX8_divides 59 = .ok (.aload_n 0, 1) := by decide +kernel
theorem dX8_divides_60 : decode cX8_divides 60 = .ok (.getfield 29, 3) := by decide +kernel
theorem dX8_divides_63 : decode cX8_divides 63 = .ok (.iload_n 3, 1) := by decide +kernel
theorem dX8_divides_64 : decode cX8_divides 64 = .ok (.aload_n 0, 1) := by decide +kernel
theorem dX8_divides_65 : decode cX8_divides 65 = .ok (.getfield 29, 3) := by decide +kernel
theorem dX8_divides_68 : decode cX8_divides 68 = .ok (.iload_n 3, 1) := by decide +kernel
theorem dX8_divides_69 : decode cX8_divides 69 = .ok (.laload, 1) := by decide +kernel
theorem dX8_divides_70 : decode cX8_divides 70 = .ok (.lneg, 1) := by decide +kernel
theorem dX8_divides_71 : decode cX8_divides 71 = .ok (.lastore, 1) := by decide +kernel
theorem dX8_divides_72 : decode cX8_divides 72 = .ok (.iinc 3 1, 3) := by decide +kernel
theorem dX8_divides_75 : decode cX8_divides 75 = .ok (.goto (-22), 3) := by decide +kernel
theorem dX8_divides_78 : decode cX8_divides 78 = .ok (.ldc2_w 163, 3) := by decide +kernel
theorem dX8_divides_81 : decode cX8_divides 81 = .ok (.lstore_n 3, 1) := by decide +kernel
theorem dX8_divides_82 : decode cX8_divides 82 = .ok (.iconst 0, 1) := by decide +kernel
theorem dX8_divides_83 : decode cX8_divides 83 = .ok (.istore 5, 2) := by decide +kernel
theorem dX8_divides_85 : decode cX8_divides 85 = .ok (.iload 5, 2) := by decide +kernel
theorem dX8_divides_87 : decode cX8_divides 87 = .ok (.sipush 256, 3) := by decide +kernel
theorem dX8_divides_90 : decode cX8_divides 90 = .ok (.if_icmp .ge 180, 3) := by decide +kernel
theorem dX8_divides_93 : decode cX8_divides 93 = .ok (.aload_n 0, 1) := by decide +kernel
theorem dX8_divides_94 : decode cX8_divides 94 = .ok (.getfield 7, 3) := by decide +kernel
theorem dX8_divides_97 : decode cX8_divides 97 = .ok (.bipush 64, 2) := by decide +kernel
theorem dX8_divides_99 : decode cX8_divides 99 = .ok (.iaload, 1) := by decide +kernel
theorem dX8_divides_100 : decode cX8_divides 100 = .ok (.ifCond .ne 11, 3) := by decide +kernel
theorem dX8_divides_103 : decode cX8_divides 103 = .ok (.iload 5, 2) := by decide +kernel
theorem dX8_divides_105 : decode cX8_divides 105 = .ok (.ifCond .ne 159, 3) := by decide +kernel
theorem dX8_divides_108 : decode cX8_divides 108 = .ok (.goto 19, 3) := by decide +kernel
theorem dX8_divides_111 : decode cX8_divides 111 = .ok (.aload_n 0, 1) := by decide +kernel
theorem dX8_divides_112 : decode cX8_divides 112 = .ok (.iload 5, 2) := by decide +kernel
theorem dX8_divides_114 : decode cX8_divides 114 = .ok (.aload_n 0, 1) := by decide +kernel
theorem dX8_divides_115 : decode cX8_divides 115 = .ok (.getfield 7, 3) := by decide +kernel
theorem dX8_divides_118 : decode cX8_divides 118 = .ok (.bipush 64, 2) := by decide +kernel
theorem dX8_divides_120 : decode cX8_divides 120 = .ok (.iaload, 1) := by decide +kernel
theorem dX8_divides_121 : decode cX8_divides 121 = .ok (.invokevirtual 103, 3) := by decide +kernel
theorem dX8_divides_124 : decode cX8_divides 124 = .ok (.ifCond .eq 140, 3) := by decide +kernel
theorem dX8_divides_127 : decode cX8_divides 127 = .ok (.lconst 0, 1) := by decide +kernel
theorem dX8_divides_128 : decode cX8_divides 128 = .ok (.lstore 6, 2) := by decide +kernel
theorem dX8_divides_130 : decode cX8_divides 130 = .ok (.iconst 0, 1) := by decide +kernel
theorem dX8_divides_131 : decode cX8_divides 131 = .ok (.istore 8, 2) := by decide +kernel
theorem dX8_divides_133 : decode cX8_divides 133 = .ok (.iload 8, 2) := by decide +kernel
theorem dX8_divides_135 : decode cX8_divides 135 = .ok (.bipush 8, 2) := by decide +kernel
theorem dX8_divides_137 : decode cX8_divides 137 = .ok (.if_icmp .ge 67, 3) := by decide +kernel
theorem dX8_divides_140 : decode cX8_divides 140 = .ok (.aload_n 0, 1) := by decide +kernel
theorem dX8_divides_141 : decode cX8_divides 141 = .ok (.getfield 57, 3) := by decide +kernel
theorem dX8_divides_144 : decode cX8_divides 144 = .ok (.iload 8, 2) := by decide +kernel
theorem dX8_divides_146 : decode cX8_divides 146 = .ok (.aload_n 0, 1) := by decide +kernel
theorem dX8_divides_147 : decode cX8_divides 147 = .ok (.getfield 41, 3) := by decide +kernel
theorem dX8_divides_150 : decode cX8_divides 150 = .ok (.iload 8, 2) := by decide +kernel
theorem dX8_divides_152 : decode cX8_divides 152 = .ok (.laload, 1) := by decide +kernel
theorem dX8_divides_153 : decode cX8_divides 153 = .ok (.lload_n 1, 1) := by decide +kernel
theorem dX8_divides_154 : decode cX8_divides 154 = .ok (.iload 5, 2) := by decide +kernel
theorem dX8_divides_156 : decode cX8_divides 156 = .ok (.iload 8, 2) := by decide +kernel
theorem dX8_divides_158 : decode cX8_divides 158 = .ok (.ishr, 1) := by decide +kernel
theorem dX8_divides_159 : decode cX8_divides 159 = .ok (.iconst 1, 1) := by decide +kernel
theorem dX8_divides_160 : decode cX8_divides 160 = .ok (.iand, 1) := by decide +kernel
theorem dX8_divides_161 : decode cX8_divides 161 = .ok (.invokestatic 165, 3) := by decide +kernel
theorem dX8_divides_164 : decode cX8_divides 164 = .ok (.lastore, 1) := by decide +kernel
theorem dX8_divides_165 : decode cX8_divides 165 = .ok (.aload_n 0, 1) := by decide +kernel
theorem dX8_divides_166 : decode cX8_divides 166 = .ok (.getfield 57, 3) := by decide +kernel
theorem dX8_divides_169 : decode cX8_divides 169 = .ok (.iload 8, 2) := by decide +kernel
theorem dX8_divides_171 : decode cX8_divides 171 = .ok (.laload, 1) := by decide +kernel
theorem dX8_divides_172 : decode cX8_divides 172 = .ok (.lload_n 1, 1) := by decide +kernel
theorem dX8_divides_173 : decode cX8_divides 173 = .ok (.lmul, 1) := by decide +kernel
theorem dX8_divides_174 : decode cX8_divides 174 = .ok (.ldc2_w 101, 3) := by decide +kernel
theorem dX8_divides_177 : decode cX8_divides 177 = .ok (.aload_n 0, 1) := by decide +kernel
theorem dX8_divides_178 : decode cX8_divides 178 = .ok (.getfield 41, 3) := by decide +kernel
theorem dX8_divides_181 : decode cX8_divides 181 = .ok (.iload 8, 2) := by decide +kernel
theorem dX8_divides_183 : decode cX8_divides 183 = .ok (.laload, 1) := by decide +kernel
theorem dX8_divides_184 : decode cX8_divides 184 = .ok (.lmul, 1) := by decide +kernel
theorem dX8_divides_185 : decode cX8_divides 185 = .ok (.lsub, 1) := by decide +kernel
theorem dX8_divides_186 : decode cX8_divides 186 = .ok (.lstore 9, 2) := by decide +kernel
theorem dX8_divides_188 : decode cX8_divides 188 = .ok (.lload 6, 2) := by decide +kernel
theorem dX8_divides_190 : decode cX8_divides 190 = .ok (.lload 9, 2) := by decide +kernel
theorem dX8_divides_192 : decode cX8_divides 192 = .ok (.lload 9, 2) := by decide +kernel
theorem dX8_divides_194 : decode cX8_divides 194 = .ok (.lmul, 1) := by decide +kernel
theorem dX8_divides_195 : decode cX8_divides 195 = .ok (.ladd, 1) := by decide +kernel
theorem dX8_divides_196 : decode cX8_divides 196 = .ok (.lstore 6, 2) := by decide +kernel
theorem dX8_divides_198 : decode cX8_divides 198 = .ok (.iinc 8 1, 3) := by decide +kernel
theorem dX8_divides_201 : decode cX8_divides 201 = .ok (.goto (-68), 3) := by decide +kernel
theorem dX8_divides_204 : decode cX8_divides 204 = .ok (.lload_n 3, 1) := by decide +kernel
theorem dX8_divides_205 : decode cX8_divides 205 = .ok (.lconst 0, 1) := by decide +kernel
theorem dX8_divides_206 : decode cX8_divides 206 = .ok (.lcmp, 1) := by decide +kernel
theorem dX8_divides_207 : decode cX8_divides 207 = .ok (.ifCond .lt 24, 3) := by decide +kernel
theorem dX8_divides_210 : decode cX8_divides 210 = .ok (.lload 6, 2) := by decide +kernel
theorem dX8_divides_212 : decode cX8_divides 212 = .ok (.lload_n 3, 1) := by decide +kernel
theorem dX8_divides_213 : decode cX8_divides 213 = .ok (.lcmp, 1) := by decide +kernel
theorem dX8_divides_214 : decode cX8_divides 214 = .ok (.ifCond .lt 17, 3) := by decide +kernel
theorem dX8_divides_217 : decode cX8_divides 217 = .ok (.lload 6, 2) := by decide +kernel
theorem dX8_divides_219 : decode cX8_divides 219 = .ok (.lload_n 3, 1) := by decide +kernel
theorem dX8_divides_220 : decode cX8_divides 220 = .ok (.lcmp, 1) := by decide +kernel
theorem dX8_divides_221 : decode cX8_divides 221 = .ok (.ifCond .ne 43, 3) := by decide +kernel
theorem dX8_divides_224 : decode cX8_divides 224 = .ok (.aload_n 0, 1) := by decide +kernel
theorem dX8_divides_225 : decode cX8_divides 225 = .ok (.invokevirtual 169, 3) := by decide +kernel
theorem dX8_divides_228 : decode cX8_divides 228 = .ok (.ifCond .eq 36, 3) := by decide +kernel
theorem dX8_divides_231 : decode cX8_divides 231 = .ok (.lload 6, 2) := by decide +kernel
theorem dX8_divides_233 : decode cX8_divides 233 = .ok (.lstore_n 3, 1) := by decide +kernel
theorem dX8_divides_234 : decode cX8_divides 234 = .ok (.iconst 0, 1) := by decide +kernel
theorem dX8_divides_235 : decode cX8_divides 235 = .ok (.istore 8, 2) := by decide +kernel
theorem dX8_divides_237 : decode cX8_divides 237 = .ok (.iload 8, 2) := by decide +kernel
theorem dX8_divides_239 : decode cX8_divides 239 = .ok (.bipush 8, 2) := by decide +kernel
theorem dX8_divides_241 : decode cX8_divides 241 = .ok (.if_icmp .ge 23, 3) := by decide +kernel
theorem dX8_divides_244 : decode cX8_divides 244 = .ok (.aload_n 0, 1) := by decide +kernel
theorem dX8_divides_245 : decode cX8_divides 245 = .ok (.getfield 51, 3) := by decide +kernel
theorem dX8_divides_248 : decode cX8_divides 248 = .ok (.iload 8, 2) := by decide +kernel
theorem dX8_divides_250 : decode cX8_divides 250 = .ok (.aload_n 0, 1) := by decide +kernel
theorem dX8_divides_251 : decode cX8_divides 251 = .ok (.getfield 57, 3) := by decide +kernel
theorem dX8_divides_254 : decode cX8_divides 254 = .ok (.iload 8, 2) := by decide +kernel
theorem dX8_divides_256 : decode cX8_divides 256 = .ok (.laload, 1) := by decide +kernel
theorem dX8_divides_257 : decode cX8_divides 257 = .ok (.lastore, 1) := by decide +kernel
theorem dX8_divides_258 : decode cX8_divides 258 = .ok (.iinc 8 1, 3) := by decide +kernel
theorem dX8_divides_261 : decode cX8_divides 261 = .ok (.goto (-24), 3) := by decide +kernel
theorem dX8_divides_264 : decode cX8_divides 264 = .ok (.iinc 5 1, 3) := by decide +kernel
theorem dX8_divides_267 : decode cX8_divides 267 = .ok (.goto (-182), 3) := by decide +kernel
theorem dX8_divides_270 : decode cX8_divides 270 = .ok (.aload_n 0, 1) := by decide +kernel
theorem dX8_divides_271 : decode cX8_divides 271 = .ok (.aload_n 0, 1) := by decide +kernel
theorem dX8_divides_272 : decode cX8_divides 272 = .ok (.getfield 51, 3) := by decide +kernel
theorem dX8_divides_275 : decode cX8_divides 275 = .ok (.aload_n 0, 1) := by decide +kernel
theorem dX8_divides_276 : decode cX8_divides 276 = .ok (.getfield 29, 3) := by decide +kernel
theorem dX8_divides_279 : decode cX8_divides 279 = .ok (.aload_n 0, 1) := by decide +kernel
theorem dX8_divides_280 : decode cX8_divides 280 = .ok (.getfield 54, 3) := by decide +kernel
theorem dX8_divides_283 : decode cX8_divides 283 = .ok (.invokevirtual 148, 3) := by decide +kernel
theorem dX8_divides_286 : decode cX8_divides 286 = .ok (.iconst 0, 1) := by decide +kernel
theorem dX8_divides_287 : decode cX8_divides 287 = .ok (.istore 5, 2) := by decide +kernel
theorem dX8_divides_289 : decode cX8_divides 289 = .ok (.iload 5, 2) := by decide +kernel
theorem dX8_divides_291 : decode cX8_divides 291 = .ok (.bipush 8, 2) := by decide +kernel
theorem dX8_divides_293 : decode cX8_divides 293 = .ok (.if_icmp .ge 35, 3) := by decide +kernel
theorem dX8_divides_296 : decode cX8_divides 296 = .ok (.aload_n 0, 1) := by decide +kernel
theorem dX8_divides_297 : decode cX8_divides 297 = .ok (.getfield 54, 3) := by decide +kernel
theorem dX8_divides_300 : decode cX8_divides 300 = .ok (.iload 5, 2) := by decide +kernel
theorem dX8_divides_302 : decode cX8_divides 302 = .ok (.aload_n 0, 1) := by decide +kernel
theorem dX8_divides_303 : decode cX8_divides 303 = .ok (.getfield 25, 3) := by decide +kernel
theorem dX8_divides_306 : decode cX8_divides 306 = .ok (.iload 5, 2) := by decide +kernel
theorem dX8_divides_308 : decode cX8_divides 308 = .ok (.laload, 1) := by decide +kernel
theorem dX8_divides_309 : decode cX8_divides 309 = .ok (.aload_n 0, 1) := by decide +kernel
theorem dX8_divides_310 : decode cX8_divides 310 = .ok (.getfield 54, 3) := by decide +kernel
theorem dX8_divides_313 : decode cX8_divides 313 = .ok (.iload 5, 2) := by decide +kernel
theorem dX8_divides_315 : decode cX8_divides 315 = .ok (.laload, 1) := by decide +kernel
theorem dX8_divides_316 : decode cX8_divides 316 = .ok (.ldc2_w 101, 3) := by decide +kernel
theorem dX8_divides_319 : decode cX8_divides 319 = .ok (.ldiv, 1) := by decide +kernel
theorem dX8_divides_320 : decode cX8_divides 320 = .ok (.lsub, 1) := by decide +kernel
theorem dX8_divides_321 : decode cX8_divides 321 = .ok (.lastore, 1) := by decide +kernel
theorem dX8_divides_322 : decode cX8_divides 322 = .ok (.iinc 5 1, 3) := by decide +kernel
theorem dX8_divides_325 : decode cX8_divides 325 = .ok (.goto (-36), 3) := by decide +kernel
theorem dX8_divides_328 : decode cX8_divides 328 = .ok (.return_, 1) := by decide +kernel
theorem dX8_cannotDivide_0 : decode cX8_cannotDivide 0 = .ok (.aload_n 0, 1) := by decide +kernel
theorem dX8_cannotDivide_1 : decode cX8_cannotDivide 1 = .ok (.aload_n 0, 1) := by decide +kernel
theorem dX8_cannotDivide_2 : decode cX8_cannotDivide 2 = .ok (.getfield 25, 3) := by decide +kernel
theorem dX8_cannotDivide_5 : decode cX8_cannotDivide 5 = .ok (.iload_n 1, 1) := by decide +kernel
theorem dX8_cannotDivide_6 : decode cX8_cannotDivide 6 = .ok (.invokevirtual 131, 3) := by decide +kernel
theorem dX8_cannotDivide_9 : decode cX8_cannotDivide 9 = .ok (.aload_n 0, 1) := by decide +kernel
theorem dX8_cannotDivide_10 : decode cX8_cannotDivide 10 = .ok (.aload_n 0, 1) := by decide +kernel
theorem dX8_cannotDivide_11 : decode cX8_cannotDivide 11 = .ok (.getfield 29, 3) := by decide +kernel
theorem dX8_cannotDivide_14 : decode cX8_cannotDivide 14 = .ok (.iload_n 2, 1) := by decide +kernel
theorem dX8_cannotDivide_15 : decode cX8_cannotDivide 15 = .ok (.invokevirtual 131, 3) := by decide +kernel
theorem dX8_cannotDivide_18 : decode cX8_cannotDivide 18 = .ok (.aload_n 0, 1) := by decide +kernel
theorem dX8_cannotDivide_19 : decode cX8_cannotDivide 19 = .ok (.aload_n 0, 1) := by decide +kernel
theorem dX8_cannotDivide_20 : decode cX8_cannotDivide 20 = .ok (.getfield 25, 3) := by decide +kernel
theorem dX8_cannotDivide_23 : decode cX8_cannotDivide 23 = .ok (.aload_n 0, 1) := by decide +kernel
theorem dX8_cannotDivide_24 : decode cX8_cannotDivide 24 = .ok (.getfield 7, 3) := by decide +kernel
theorem dX8_cannotDivide_27 : decode cX8_cannotDivide 27 = .ok (.bipush 64, 2) := by decide +kernel
theorem dX8_cannotDivide_29 : decode cX8_cannotDivide 29 = .ok (.iaload, 1) := by decide +kernel
theorem dX8_cannotDivide_30 : decode cX8_cannotDivide 30 = .ok (.invokevirtual 114, 3) := by decide +kernel
theorem dX8_cannotDivide_33 : decode cX8_cannotDivide 33 = .ok (.ifCond .eq 31, 3) := by decide +kernel
theorem dX8_cannotDivide_36 : decode cX8_cannotDivide 36 = .ok (.aload_n 0, 1) := by decide +kernel
theorem dX8_cannotDivide_37 : decode cX8_cannotDivide 37 = .ok (.aload_n 0, 1) := by decide +kernel
theorem dX8_cannotDivide_38 : decode cX8_cannotDivide 38 = .ok (.getfield 29, 3) := by decide +kernel
theorem dX8_cannotDivide_41 : decode cX8_cannotDivide 41 = .ok (.aload_n 0, 1) := by decide +kernel
theorem dX8_cannotDivide_42 : decode cX8_cannotDivide 42 = .ok (.getfield 7, 3) := by decide +kernel
theorem dX8_cannotDivide_45 : decode cX8_cannotDivide 45 = .ok (.bipush 64, 2) := by decide +kernel
theorem dX8_cannotDivide_47 : decode cX8_cannotDivide 47 = .ok (.iaload, 1) := by decide +kernel
theorem dX8_cannotDivide_48 : decode cX8_cannotDivide 48 = .ok (.invokevirtual 114, 3) := by decide +kernel
theorem dX8_cannotDivide_51 : decode cX8_cannotDivide 51 = .ok (.ifCond .eq 13, 3) := by decide +kernel
theorem dX8_cannotDivide_54 : decode cX8_cannotDivide 54 = .ok (.aload_n 0, 1) := by decide +kernel
theorem dX8_cannotDivide_55 : decode cX8_cannotDivide 55 = .ok (.getfield 29, 3) := by decide +kernel
theorem dX8_cannotDivide_58 : decode cX8_cannotDivide 58 = .ok (.invokestatic 173, 3) := by decide +kernel
theorem dX8_cannotDivide_61 : decode cX8_cannotDivide 61 = .ok (.ifCond .eq 7, 3) := by decide +kernel
theorem dX8_cannotDivide_64 : decode cX8_cannotDivide 64 = .ok (.iconst 1, 1) := by decide +kernel
theorem dX8_cannotDivide_65 : decode cX8_cannotDivide 65 = .ok (.goto 4, 3) := by decide +kernel
theorem dX8_cannotDivide_68 : decode cX8_cannotDivide 68 = .ok (.iconst 0, 1) := by decide +kernel
theorem dX8_cannotDivide_69 : decode cX8_cannotDivide 69 = .ok (.ireturn, 1) := by decide +kernel
theorem dX8_divide_0 : decode cX8_divide 0 = .ok (.iload_n 1, 1) := by decide +kernel
theorem dX8_divide_1 : decode cX8_divide 1 = .ok (.invokestatic 121, 3) := by decide +kernel
theorem dX8_divide_4 : decode cX8_divide 4 = .ok (.ifCond .eq 29, 3) := by decide +kernel
theorem dX8_divide_7 : decode cX8_divide 7 = .ok (.iload_n 2, 1) := by decide +kernel
theorem dX8_divide_8 : decode cX8_divide 8 = .ok (.invokestatic 121, 3) := by decide +kernel
theorem dX8_divide_11 : decode cX8_divide 11 = .ok (.ifCond .eq 22, 3) := by decide +kernel
theorem dX8_divide_14 : decode cX8_divide 14 = .ok (.iload_n 3, 1) := by decide +kernel
theorem dX8_divide_15 : decode cX8_divide 15 = .ok (.invokestatic 121, 3) := by decide +kernel
theorem dX8_divide_18 : decode cX8_divide 18 = .ok (.ifCond .eq 15, 3) := by decide +kernel
theorem dX8_divide_21 : decode cX8_divide 21 = .ok (.iload 4, 2) := by decide +kernel
theorem dX8_divide_23 : decode cX8_divide 23 = .ok (.invokestatic 121, 3) := by decide +kernel
theorem dX8_divide_26 : decode cX8_divide 26 = .ok (.ifCond .eq 7, 3) := by decide +kernel
theorem dX8_divide_29 : decode cX8_divide 29 = .ok (.iconst 1, 1) := by decide +kernel
theorem dX8_divide_30 : decode cX8_divide 30 = .ok (.goto 4, 3) := by decide +kernel
theorem dX8_divide_33 : decode cX8_divide 33 = .ok (.iconst 0, 1) := by decide +kernel
theorem dX8_divide_34 : decode cX8_divide 34 = .ok (.istore 5, 2) := by decide +kernel
theorem dX8_divide_36 : decode cX8_divide 36 = .ok (.aload_n 0, 1) := by decide +kernel
theorem dX8_divide_37 : decode cX8_divide 37 = .ok (.iload 5, 2) := by decide +kernel
theorem dX8_divide_39 : decode cX8_divide 39 = .ok (.ifCond .ne 7, 3) := by decide +kernel
theorem dX8_divide_42 : decode cX8_divide 42 = .ok (.iconst 1, 1) := by decide +kernel
theorem dX8_divide_43 : decode cX8_divide 43 = .ok (.goto 27, 3) := by decide +kernel
theorem dX8_divide_46 : decode cX8_divide 46 = .ok (.iload_n 3, 1) := by decide +kernel
theorem dX8_divide_47 : decode cX8_divide 47 = .ok (.iload 4, 2) := by decide +kernel
theorem dX8_divide_49 : decode cX8_divide 49 = .ok (.if_icmp .ne 7, 3) := by decide +kernel
theorem dX8_divide_52 : decode cX8_divide 52 = .ok (.iconst 2, 1) := by decide +kernel
theorem dX8_divide_53 : decode cX8_divide 53 = .ok (.goto 17, 3) := by decide +kernel
theorem dX8_divide_56 : decode cX8_divide 56 = .ok (.aload_n 0, 1) := by decide +kernel
theorem dX8_divide_57 : decode cX8_divide 57 = .ok (.iload_n 1, 1) := by decide +kernel
theorem dX8_divide_58 : decode cX8_divide 58 = .ok (.iload_n 2, 1) := by decide +kernel
theorem dX8_divide_59 : decode cX8_divide 59 = .ok (.invokevirtual 177, 3) := by decide +kernel
theorem dX8_divide_62 : decode cX8_divide 62 = .ok (.ifCond .eq 7, 3) := by decide +kernel
theorem dX8_divide_65 : decode cX8_divide 65 = .ok (.iconst 3, 1) := by decide +kernel
theorem dX8_divide_66 : decode cX8_divide 66 = .ok (.goto 4, 3) := by decide +kernel
theorem dX8_divide_69 : decode cX8_divide 69 = .ok (.iconst 0, 1) := by decide +kernel
theorem dX8_divide_70 : decode cX8_divide 70 = .ok (.invokevirtual 125, 3) := by decide +kernel
theorem dX8_divide_73 : decode cX8_divide 73 = .ok (.ifCond .eq 5, 3) := by decide +kernel
theorem dX8_divide_76 : decode cX8_divide 76 = .ok (.lconst 0, 1) := by decide +kernel
theorem dX8_divide_77 : decode cX8_divide 77 = .ok (.lreturn, 1) := by decide +kernel
theorem dX8_divide_78 : decode cX8_divide 78 = .ok (.aload_n 0, 1) := by decide +kernel
theorem dX8_divide_79 : decode cX8_divide 79 = .ok (.invokevirtual 180, 3) := by decide +kernel
theorem dX8_divide_82 : decode cX8_divide 82 = .ok (.aload_n 0, 1) := by decide +kernel
theorem dX8_divide_83 : decode cX8_divide 83 = .ok (.aload_n 0, 1) := by decide +kernel
theorem dX8_divide_84 : decode cX8_divide 84 = .ok (.getfield 51, 3) := by decide +kernel
theorem dX8_divide_87 : decode cX8_divide 87 = .ok (.iconst 1, 1) := by decide +kernel
theorem dX8_divide_88 : decode cX8_divide 88 = .ok (.invokestatic 142, 3) := by decide +kernel
theorem dX8_divide_91 : decode cX8_divide 91 = .ok (.ifCond .eq 18, 3) := by decide +kernel
theorem dX8_divide_94 : decode cX8_divide 94 = .ok (.aload_n 0, 1) := by decide +kernel
theorem dX8_divide_95 : decode cX8_divide 95 = .ok (.getfield 54, 3) := by decide +kernel
theorem dX8_divide_98 : decode cX8_divide 98 = .ok (.iconst 1, 1) := by decide +kernel
theorem dX8_divide_99 : decode cX8_divide 99 = .ok (.invokestatic 142, 3) := by decide +kernel
theorem dX8_divide_102 : decode cX8_divide 102 = .ok (.ifCond .eq 7, 3) := by decide +kernel
theorem dX8_divide_105 : decode cX8_divide 105 = .ok (.iconst 0, 1) := by decide +kernel
theorem dX8_divide_106 : decode cX8_divide 106 = .ok (.goto 4, 3) := by decide +kernel
theorem dX8_divide_109 : decode cX8_divide 109 = .ok (.iconst 4, 1) := by decide +kernel
theorem dX8_divide_110 : decode cX8_divide 110 = .ok (.invokevirtual 125, 3) := by decide +kernel
theorem dX8_divide_113 : decode cX8_divide 113 = .ok (.ifCond .eq 5, 3) := by decide +kernel
theorem dX8_divide_116 : decode cX8_divide 116 = .ok (.lconst 0, 1) := by decide +kernel
theorem dX8_divide_117 : decode cX8_divide 117 = .ok (.lreturn, 1) := by decide +kernel
theorem dX8_divide_118 : decode cX8_divide 118 = .ok (.aload_n 0, 1) := by decide +kernel
theorem dX8_divide_119 : decode cX8_divide 119 = .ok (.invokevirtual 128, 3) := by decide +kernel
theorem dX8_divide_122 : decode cX8_divide 122 = .ok (.aload_n 0, 1) := by decide +kernel
theorem dX8_divide_123 : decode cX8_divide 123 = .ok (.aload_n 0, 1) := by decide +kernel
theorem dX8_divide_124 : decode cX8_divide 124 = .ok (.getfield 51, 3) := by decide +kernel
theorem dX8_divide_127 : decode cX8_divide 127 = .ok (.iload_n 3, 1) := by decide +kernel
theorem dX8_divide_128 : decode cX8_divide 128 = .ok (.invokevirtual 139, 3) := by decide +kernel
theorem dX8_divide_131 : decode cX8_divide 131 = .ok (.aload_n 0, 1) := by decide +kernel
theorem dX8_divide_132 : decode cX8_divide 132 = .ok (.aload_n 0, 1) := by decide +kernel
theorem dX8_divide_133 : decode cX8_divide 133 = .ok (.getfield 54, 3) := by decide +kernel
theorem dX8_divide_136 : decode cX8_divide 136 = .ok (.iload 4, 2) := by decide +kernel
theorem dX8_divide_138 : decode cX8_divide 138 = .ok (.invokevirtual 139, 3) := by decide +kernel
theorem dX8_divide_141 : decode cX8_divide 141 = .ok (.aload_n 0, 1) := by decide +kernel
theorem dX8_divide_142 : decode cX8_divide 142 = .ok (.getfield 7, 3) := by decide +kernel
theorem dX8_divide_145 : decode cX8_divide 145 = .ok (.bipush 66, 2) := by decide +kernel
theorem dX8_divide_147 : decode cX8_divide 147 = .ok (.dup2, 1) := by decide +kernel
theorem dX8_divide_148 : decode cX8_divide 148 = .ok (.iaload, 1) := by decide +kernel
theorem dX8_divide_149 : decode cX8_divide 149 = .ok (.iconst 1, 1) := by decide +kernel
theorem dX8_divide_150 : decode cX8_divide 150 = .ok (.iadd, 1) := by decide +kernel
theorem dX8_divide_151 : decode cX8_divide 151 = .ok (.iastore, 1) := by decide +kernel
theorem dX8_divide_152 : decode cX8_divide 152 = .ok (.aload_n 0, 1) := by decide +kernel
theorem dX8_divide_153 : decode cX8_divide 153 = .ok (.getfield 54, 3) := by decide +kernel
theorem dX8_divide_156 : decode cX8_divide 156 = .ok (.invokestatic 97, 3) := by decide +kernel
theorem dX8_divide_159 : decode cX8_divide 159 = .ok (.lreturn, 1) := by decide +kernel
theorem dX8_euclid_0 : decode cX8_euclid 0 = .ok (.aload_n 0, 1) := by decide +kernel
theorem dX8_euclid_1 : decode cX8_euclid 1 = .ok (.aload_n 0, 1) := by decide +kernel
theorem dX8_euclid_2 : decode cX8_euclid 2 = .ok (.getfield 25, 3) := by decide +kernel
theorem dX8_euclid_5 : decode cX8_euclid 5 = .ok (.iload_n 1, 1) := by decide +kernel
theorem dX8_euclid_6 : decode cX8_euclid 6 = .ok (.invokevirtual 131, 3) := by decide +kernel
theorem dX8_euclid_9 : decode cX8_euclid 9 = .ok (.aload_n 0, 1) := by decide +kernel
theorem dX8_euclid_10 : decode cX8_euclid 10 = .ok (.aload_n 0, 1) := by decide +kernel
theorem dX8_euclid_11 : decode cX8_euclid 11 = .ok (.getfield 29, 3) := by decide +kernel
theorem dX8_euclid_14 : decode cX8_euclid 14 = .ok (.iload_n 2, 1) := by decide +kernel
theorem dX8_euclid_15 : decode cX8_euclid 15 = .ok (.invokevirtual 131, 3) := by decide +kernel
theorem dX8_euclid_18 : decode cX8_euclid 18 = .ok (.iconst 0, 1) := by decide +kernel
theorem dX8_euclid_19 : decode cX8_euclid 19 = .ok (.istore_n 3, 1) := by decide +kernel
theorem dX8_euclid_20 : decode cX8_euclid 20 = .ok (.iload_n 3, 1) := by decide +kernel
theorem dX8_euclid_21 : decode cX8_euclid 21 = .ok (.bipush 40, 2) := by decide +kernel
theorem dX8_euclid_23 : decode cX8_euclid 23 = .ok (.if_icmp .gt 78, 3) := by decide +kernel
theorem dX8_euclid_26 : decode cX8_euclid 26 = .ok (.aload_n 0, 1) := by decide +kernel
theorem dX8_euclid_27 : decode cX8_euclid 27 = .ok (.getfield 29, 3) := by decide +kernel
theorem dX8_euclid_30 : decode cX8_euclid 30 = .ok (.invokestatic 173, 3) := by decide +kernel
theorem dX8_euclid_33 : decode cX8_euclid 33 = .ok (.ifCond .ne 68, 3) := by decide +kernel
theorem dX8_euclid_36 : decode cX8_euclid 36 = .ok (.aload_n 0, 1) := by decide +kernel
theorem dX8_euclid_37 : decode cX8_euclid 37 = .ok (.aload_n 0, 1) := by decide +kernel
theorem dX8_euclid_38 : decode cX8_euclid 38 = .ok (.getfield 29, 3) := by decide +kernel
theorem dX8_euclid_41 : decode cX8_euclid 41 = .ok (.invokestatic 97, 3) := by decide +kernel
theorem dX8_euclid_44 : decode cX8_euclid 44 = .ok (.putfield 183, 3) := by decide +kernel
theorem dX8_euclid_47 : decode cX8_euclid 47 = .ok (.aload_n 0, 1) := by decide +kernel
theorem dX8_euclid_48 : decode cX8_euclid 48 = .ok (.invokevirtual 180, 3) := by decide +kernel
theorem dX8_euclid_51 : decode cX8_euclid 51 = .ok (.iconst 0, 1) := by decide +kernel
theorem dX8_euclid_52 : decode cX8_euclid 52 = .ok (.istore 4, 2) := by decide +kernel
theorem dX8_euclid_54 : decode cX8_euclid 54 = .ok (.iload 4, 2) := by decide +kernel
theorem dX8_euclid_56 : decode cX8_euclid 56 = .ok (.bipush 8, 2) := by decide +kernel
theorem dX8_euclid_58 : decode cX8_euclid 58 = .ok (.if_icmp .ge 37, 3) := by decide +kernel
theorem dX8_euclid_61 : decode cX8_euclid 61 = .ok (.aload_n 0, 1) := by decide +kernel
theorem dX8_euclid_62 : decode cX8_euclid 62 = .ok (.getfield 25, 3) := by decide +kernel
theorem dX8_euclid_65 : decode cX8_euclid 65 = .ok (.iload 4, 2) := by decide +kernel
theorem dX8_euclid_67 : decode cX8_euclid 67 = .ok (.aload_n 0, 1) := by decide +kernel
theorem dX8_euclid_68 : decode cX8_euclid 68 = .ok (.getfield 29, 3) := by decide +kernel
theorem dX8_euclid_71 : decode cX8_euclid 71 = .ok (.iload 4, 2) := by decide +kernel
theorem dX8_euclid_73 : decode cX8_euclid 73 = .ok (.laload, 1) := by decide +kernel
theorem dX8_euclid_74 : decode cX8_euclid 74 = .ok (.lastore, 1) := by decide +kernel
theorem dX8_euclid_75 : decode cX8_euclid 75 = .ok (.aload_n 0, 1) := by decide +kernel
theorem dX8_euclid_76 : decode cX8_euclid 76 = .ok (.getfield 29, 3) := by decide +kernel
theorem dX8_euclid_79 : decode cX8_euclid 79 = .ok (.iload 4, 2) := by decide +kernel
theorem dX8_euclid_81 : decode cX8_euclid 81 = .ok (.aload_n 0, 1) := by decide +kernel
theorem dX8_euclid_82 : decode cX8_euclid 82 = .ok (.getfield 54, 3) := by decide +kernel
theorem dX8_euclid_85 : decode cX8_euclid 85 = .ok (.iload 4, 2) := by decide +kernel
theorem dX8_euclid_87 : decode cX8_euclid 87 = .ok (.laload, 1) := by decide +kernel
theorem dX8_euclid_88 : decode cX8_euclid 88 = .ok (.lastore, 1) := by decide +kernel
theorem dX8_euclid_89 : decode cX8_euclid 89 = .ok (.iinc 4 1, 3) := by decide +kernel
theorem dX8_euclid_92 : decode cX8_euclid 92 = .ok (.goto (-38), 3) := by decide +kernel
theorem dX8_euclid_95 : decode cX8_euclid 95 = .ok (.iinc 3 1, 3) := by decide +kernel
theorem dX8_euclid_98 : decode cX8_euclid 98 = .ok (.goto (-78), 3) := by decide +kernel
theorem dX8_euclid_101 : decode cX8_euclid 101 = .ok (.iload_n 3, 1) := by decide +kernel
theorem dX8_euclid_102 : decode cX8_euclid 102 = .ok (.bipush 40, 2) := by decide +kernel
theorem dX8_euclid_104 : decode cX8_euclid 104 = .ok (.if_icmp .le 7, 3) := by decide +kernel
theorem dX8_euclid_107 : decode cX8_euclid 107 = .ok (.iconst (-1), 1) := by decide +kernel
theorem dX8_euclid_108 : decode cX8_euclid 108 = .ok (.goto 4, 3) := by decide +kernel
theorem dX8_euclid_111 : decode cX8_euclid 111 = .ok (.iload_n 3, 1) := by decide +kernel
theorem dX8_euclid_112 : decode cX8_euclid 112 = .ok (.ireturn, 1) := by decide +kernel
theorem dX8_steps_0 : decode cX8_steps 0 = .ok (.aload_n 0, 1) := by decide +kernel
theorem dX8_steps_1 : decode cX8_steps 1 = .ok (.iload_n 1, 1) := by decide +kernel
theorem dX8_steps_2 : decode cX8_steps 2 = .ok (.invokestatic 121, 3) := by decide +kernel
theorem dX8_steps_5 : decode cX8_steps 5 = .ok (.ifCond .eq 10, 3) := by decide +kernel
theorem dX8_steps_8 : decode cX8_steps 8 = .ok (.iload_n 2, 1) := by decide +kernel
theorem dX8_steps_9 : decode cX8_steps 9 = .ok (.invokestatic 121, 3) := by decide +kernel
theorem dX8_steps_12 : decode cX8_steps 12 = .ok (.ifCond .ne 7, 3) := by decide +kernel
theorem dX8_steps_15 : decode cX8_steps 15 = .ok (.iconst 1, 1) := by decide +kernel
theorem dX8_steps_16 : decode cX8_steps 16 = .ok (.goto 17, 3) := by decide +kernel
theorem dX8_steps_19 : decode cX8_steps 19 = .ok (.aload_n 0, 1) := by decide +kernel
theorem dX8_steps_20 : decode cX8_steps 20 = .ok (.iload_n 1, 1) := by decide +kernel
theorem dX8_steps_21 : decode cX8_steps 21 = .ok (.iload_n 2, 1) := by decide +kernel
theorem dX8_steps_22 : decode cX8_steps 22 = .ok (.invokevirtual 177, 3) := by decide +kernel
theorem dX8_steps_25 : decode cX8_steps 25 = .ok (.ifCond .eq 7, 3) := by decide +kernel
theorem dX8_steps_28 : decode cX8_steps 28 = .ok (.iconst 2, 1) := by decide +kernel
theorem dX8_steps_29 : decode cX8_steps 29 = .ok (.goto 4, 3) := by decide +kernel
theorem dX8_steps_32 : decode cX8_steps 32 = .ok (.iconst 0, 1) := by decide +kernel
theorem dX8_steps_33 : decode cX8_steps 33 = .ok (.invokevirtual 125, 3) := by decide +kernel
theorem dX8_steps_36 : decode cX8_steps 36 = .ok (.ifCond .eq 7, 3) := by decide +kernel
theorem dX8_steps_39 : decode cX8_steps 39 = .ok (.iconst 0, 1) := by decide +kernel
theorem dX8_steps_40 : decode cX8_steps 40 = .ok (.goto 9, 3) := by decide +kernel
theorem dX8_steps_43 : decode cX8_steps 43 = .ok (.aload_n 0, 1) := by decide +kernel
theorem dX8_steps_44 : decode cX8_steps 44 = .ok (.iload_n 1, 1) := by decide +kernel
theorem dX8_steps_45 : decode cX8_steps 45 = .ok (.iload_n 2, 1) := by decide +kernel
theorem dX8_steps_46 : decode cX8_steps 46 = .ok (.invokevirtual 187, 3) := by decide +kernel
theorem dX8_steps_49 : decode cX8_steps 49 = .ok (.ireturn, 1) := by decide +kernel
theorem dX8_lastNorm_0 : decode cX8_lastNorm 0 = .ok (.aload_n 0, 1) := by decide +kernel
theorem dX8_lastNorm_1 : decode cX8_lastNorm 1 = .ok (.iload_n 1, 1) := by decide +kernel
theorem dX8_lastNorm_2 : decode cX8_lastNorm 2 = .ok (.invokestatic 121, 3) := by decide +kernel
theorem dX8_lastNorm_5 : decode cX8_lastNorm 5 = .ok (.ifCond .eq 10, 3) := by decide +kernel
theorem dX8_lastNorm_8 : decode cX8_lastNorm 8 = .ok (.iload_n 2, 1) := by decide +kernel
theorem dX8_lastNorm_9 : decode cX8_lastNorm 9 = .ok (.invokestatic 121, 3) := by decide +kernel
theorem dX8_lastNorm_12 : decode cX8_lastNorm 12 = .ok (.ifCond .ne 7, 3) := by decide +kernel
theorem dX8_lastNorm_15 : decode cX8_lastNorm 15 = .ok (.iconst 1, 1) := by decide +kernel
theorem dX8_lastNorm_16 : decode cX8_lastNorm 16 = .ok (.goto 17, 3) := by decide +kernel
theorem dX8_lastNorm_19 : decode cX8_lastNorm 19 = .ok (.aload_n 0, 1) := by decide +kernel
theorem dX8_lastNorm_20 : decode cX8_lastNorm 20 = .ok (.iload_n 1, 1) := by decide +kernel
theorem dX8_lastNorm_21 : decode cX8_lastNorm 21 = .ok (.iload_n 2, 1) := by decide +kernel
theorem dX8_lastNorm_22 : decode cX8_lastNorm 22 = .ok (.invokevirtual 177, 3) := by decide +kernel
theorem dX8_lastNorm_25 : decode cX8_lastNorm 25 = .ok (.ifCond .eq 7, 3) := by decide +kernel
theorem dX8_lastNorm_28 : decode cX8_lastNorm 28 = .ok (.iconst 2, 1) := by decide +kernel
theorem dX8_lastNorm_29 : decode cX8_lastNorm 29 = .ok (.goto 4, 3) := by decide +kernel
theorem dX8_lastNorm_32 : decode cX8_lastNorm 32 = .ok (.iconst 0, 1) := by decide +kernel
theorem dX8_lastNorm_33 : decode cX8_lastNorm 33 = .ok (.invokevirtual 125, 3) := by decide +kernel
theorem dX8_lastNorm_36 : decode cX8_lastNorm 36 = .ok (.ifCond .eq 5, 3) := by decide +kernel
theorem dX8_lastNorm_39 : decode cX8_lastNorm 39 = .ok (.lconst 0, 1) := by decide +kernel
theorem dX8_lastNorm_40 : decode cX8_lastNorm 40 = .ok (.lreturn, 1) := by decide +kernel
theorem dX8_lastNorm_41 : decode cX8_lastNorm 41 = .ok (.aload_n 0, 1) := by decide +kernel
theorem dX8_lastNorm_42 : decode cX8_lastNorm 42 = .ok (.iload_n 1, 1) := by decide +kernel
theorem dX8_lastNorm_43 : decode cX8_lastNorm 43 = .ok (.iload_n 2, 1) := by decide +kernel
theorem dX8_lastNorm_44 : decode cX8_lastNorm 44 = .ok (.invokevirtual 187, 3) := by decide +kernel
theorem dX8_lastNorm_47 : decode cX8_lastNorm 47 = .ok (.iconst (-1), 1) := by decide +kernel
theorem dX8_lastNorm_48 : decode cX8_lastNorm 48 = .ok (.if_icmp .ne 9, 3) := by decide +kernel
theorem dX8_lastNorm_51 : decode cX8_lastNorm 51 = .ok (.ldc2_w 163, 3) := by decide +kernel
theorem dX8_lastNorm_54 : decode cX8_lastNorm 54 = .ok (.goto 7, 3) := by decide +kernel
theorem dX8_lastNorm_57 : decode cX8_lastNorm 57 = .ok (.aload_n 0, 1) := by decide +kernel
theorem dX8_lastNorm_58 : decode cX8_lastNorm 58 = .ok (.getfield 183, 3) := by decide +kernel
theorem dX8_lastNorm_61 : decode cX8_lastNorm 61 = .ok (.lreturn, 1) := by decide +kernel
theorem dX8_coordinate_0 : decode cX8_coordinate 0 = .ok (.aload_n 0, 1) := by decide +kernel
theorem dX8_coordinate_1 : decode cX8_coordinate 1 = .ok (.iload_n 1, 1) := by decide +kernel
theorem dX8_coordinate_2 : decode cX8_coordinate 2 = .ok (.invokestatic 121, 3) := by decide +kernel
theorem dX8_coordinate_5 : decode cX8_coordinate 5 = .ok (.ifCond .eq 14, 3) := by decide +kernel
theorem dX8_coordinate_8 : decode cX8_coordinate 8 = .ok (.iload_n 2, 1) := by decide +kernel
theorem dX8_coordinate_9 : decode cX8_coordinate 9 = .ok (.invokestatic 121, 3) := by decide +kernel
theorem dX8_coordinate_12 : decode cX8_coordinate 12 = .ok (.ifCond .eq 7, 3) := by decide +kernel
theorem dX8_coordinate_15 : decode cX8_coordinate 15 = .ok (.iconst 0, 1) := by decide +kernel
theorem dX8_coordinate_16 : decode cX8_coordinate 16 = .ok (.goto 4, 3) := by decide +kernel
theorem dX8_coordinate_19 : decode cX8_coordinate 19 = .ok (.iconst 1, 1) := by decide +kernel
theorem dX8_coordinate_20 : decode cX8_coordinate 20 = .ok (.invokevirtual 125, 3) := by decide +kernel
theorem dX8_coordinate_23 : decode cX8_coordinate 23 = .ok (.ifCond .eq 7, 3) := by decide +kernel
theorem dX8_coordinate_26 : decode cX8_coordinate 26 = .ok (.iconst 0, 1) := by decide +kernel
theorem dX8_coordinate_27 : decode cX8_coordinate 27 = .ok (.goto 14, 3) := by decide +kernel
theorem dX8_coordinate_30 : decode cX8_coordinate 30 = .ok (.aload_n 0, 1) := by decide +kernel
theorem dX8_coordinate_31 : decode cX8_coordinate 31 = .ok (.getfield 7, 3) := by decide +kernel
theorem dX8_coordinate_34 : decode cX8_coordinate 34 = .ok (.bipush 8, 2) := by decide +kernel
theorem dX8_coordinate_36 : decode cX8_coordinate 36 = .ok (.iload_n 1, 1) := by decide +kernel
theorem dX8_coordinate_37 : decode cX8_coordinate 37 = .ok (.imul, 1) := by decide +kernel
theorem dX8_coordinate_38 : decode cX8_coordinate 38 = .ok (.iload_n 2, 1) := by decide +kernel
theorem dX8_coordinate_39 : decode cX8_coordinate 39 = .ok (.iadd, 1) := by decide +kernel
theorem dX8_coordinate_40 : decode cX8_coordinate 40 = .ok (.iaload, 1) := by decide +kernel
theorem dX8_coordinate_41 : decode cX8_coordinate 41 = .ok (.ireturn, 1) := by decide +kernel
theorem dX8_norm_0 : decode cX8_norm 0 = .ok (.aload_n 0, 1) := by decide +kernel
theorem dX8_norm_1 : decode cX8_norm 1 = .ok (.iload_n 1, 1) := by decide +kernel
theorem dX8_norm_2 : decode cX8_norm 2 = .ok (.invokestatic 121, 3) := by decide +kernel
theorem dX8_norm_5 : decode cX8_norm 5 = .ok (.ifCond .eq 7, 3) := by decide +kernel
theorem dX8_norm_8 : decode cX8_norm 8 = .ok (.iconst 0, 1) := by decide +kernel
theorem dX8_norm_9 : decode cX8_norm 9 = .ok (.goto 4, 3) := by decide +kernel
theorem dX8_norm_12 : decode cX8_norm 12 = .ok (.iconst 1, 1) := by decide +kernel
theorem dX8_norm_13 : decode cX8_norm 13 = .ok (.invokevirtual 125, 3) := by decide +kernel
theorem dX8_norm_16 : decode cX8_norm 16 = .ok (.ifCond .eq 7, 3) := by decide +kernel
theorem dX8_norm_19 : decode cX8_norm 19 = .ok (.lconst 0, 1) := by decide +kernel
theorem dX8_norm_20 : decode cX8_norm 20 = .ok (.goto 8, 3) := by decide +kernel
theorem dX8_norm_23 : decode cX8_norm 23 = .ok (.aload_n 0, 1) := by decide +kernel
theorem dX8_norm_24 : decode cX8_norm 24 = .ok (.iload_n 1, 1) := by decide +kernel
theorem dX8_norm_25 : decode cX8_norm 25 = .ok (.invokevirtual 135, 3) := by decide +kernel
theorem dX8_norm_28 : decode cX8_norm 28 = .ok (.lreturn, 1) := by decide +kernel
theorem dX8_dot_0 : decode cX8_dot 0 = .ok (.aload_n 0, 1) := by decide +kernel
theorem dX8_dot_1 : decode cX8_dot 1 = .ok (.iload_n 1, 1) := by decide +kernel
theorem dX8_dot_2 : decode cX8_dot 2 = .ok (.invokestatic 121, 3) := by decide +kernel
theorem dX8_dot_5 : decode cX8_dot 5 = .ok (.ifCond .eq 14, 3) := by decide +kernel
theorem dX8_dot_8 : decode cX8_dot 8 = .ok (.iload_n 2, 1) := by decide +kernel
theorem dX8_dot_9 : decode cX8_dot 9 = .ok (.invokestatic 121, 3) := by decide +kernel
theorem dX8_dot_12 : decode cX8_dot 12 = .ok (.ifCond .eq 7, 3) := by decide +kernel
theorem dX8_dot_15 : decode cX8_dot 15 = .ok (.iconst 0, 1) := by decide +kernel
theorem dX8_dot_16 : decode cX8_dot 16 = .ok (.goto 4, 3) := by decide +kernel
theorem dX8_dot_19 : decode cX8_dot 19 = .ok (.iconst 1, 1) := by decide +kernel
theorem dX8_dot_20 : decode cX8_dot 20 = .ok (.invokevirtual 125, 3) := by decide +kernel
theorem dX8_dot_23 : decode cX8_dot 23 = .ok (.ifCond .eq 5, 3) := by decide +kernel
theorem dX8_dot_26 : decode cX8_dot 26 = .ok (.lconst 0, 1) := by decide +kernel
theorem dX8_dot_27 : decode cX8_dot 27 = .ok (.lreturn, 1) := by decide +kernel
theorem dX8_dot_28 : decode cX8_dot 28 = .ok (.lconst 0, 1) := by decide +kernel
theorem dX8_dot_29 : decode cX8_dot 29 = .ok (.lstore_n 3, 1) := by decide +kernel
theorem dX8_dot_30 : decode cX8_dot 30 = .ok (.iconst 0, 1) := by decide +kernel
theorem dX8_dot_31 : decode cX8_dot 31 = .ok (.istore 5, 2) := by decide +kernel
theorem dX8_dot_33 : decode cX8_dot 33 = .ok (.iload 5, 2) := by decide +kernel
theorem dX8_dot_35 : decode cX8_dot 35 = .ok (.bipush 8, 2) := by decide +kernel
theorem dX8_dot_37 : decode cX8_dot 37 = .ok (.if_icmp .ge 39, 3) := by decide +kernel
theorem dX8_dot_40 : decode cX8_dot 40 = .ok (.lload_n 3, 1) := by decide +kernel
theorem dX8_dot_41 : decode cX8_dot 41 = .ok (.aload_n 0, 1) := by decide +kernel
theorem dX8_dot_42 : decode cX8_dot 42 = .ok (.getfield 7, 3) := by decide +kernel
theorem dX8_dot_45 : decode cX8_dot 45 = .ok (.bipush 8, 2) := by decide +kernel
theorem dX8_dot_47 : decode cX8_dot 47 = .ok (.iload_n 1, 1) := by decide +kernel
theorem dX8_dot_48 : decode cX8_dot 48 = .ok (.imul, 1) := by decide +kernel
theorem dX8_dot_49 : decode cX8_dot 49 = .ok (.iload 5, 2) := by decide +kernel
theorem dX8_dot_51 : decode cX8_dot 51 = .ok (.iadd, 1) := by decide +kernel
theorem dX8_dot_52 : decode cX8_dot 52 = .ok (.iaload, 1) := by decide +kernel
theorem dX8_dot_53 : decode cX8_dot 53 = .ok (.i2l, 1) := by decide +kernel
theorem dX8_dot_54 : decode cX8_dot 54 = .ok (.aload_n 0, 1) := by decide +kernel
theorem dX8_dot_55 : decode cX8_dot 55 = .ok (.getfield 7, 3) := by decide +kernel
theorem dX8_dot_58 : decode cX8_dot 58 = .ok (.bipush 8, 2) := by decide +kernel
theorem dX8_dot_60 : decode cX8_dot 60 = .ok (.iload_n 2, 1) := by decide +kernel
theorem dX8_dot_61 : decode cX8_dot 61 = .ok (.imul, 1) := by decide +kernel
theorem dX8_dot_62 : decode cX8_dot 62 = .ok (.iload 5, 2) := by decide +kernel
theorem dX8_dot_64 : decode cX8_dot 64 = .ok (.iadd, 1) := by decide +kernel
theorem dX8_dot_65 : decode cX8_dot 65 = .ok (.iaload, 1) := by decide +kernel
theorem dX8_dot_66 : decode cX8_dot 66 = .ok (.i2l, 1) := by decide +kernel
theorem dX8_dot_67 : decode cX8_dot 67 = .ok (.lmul, 1) := by decide +kernel
theorem dX8_dot_68 : decode cX8_dot 68 = .ok (.ladd, 1) := by decide +kernel
theorem dX8_dot_69 : decode cX8_dot 69 = .ok (.lstore_n 3, 1) := by decide +kernel
theorem dX8_dot_70 : decode cX8_dot 70 = .ok (.iinc 5 1, 3) := by decide +kernel
theorem dX8_dot_73 : decode cX8_dot 73 = .ok (.goto (-40), 3) := by decide +kernel
theorem dX8_dot_76 : decode cX8_dot 76 = .ok (.lload_n 3, 1) := by decide +kernel
theorem dX8_dot_77 : decode cX8_dot 77 = .ok (.lreturn, 1) := by decide +kernel
theorem dX8_orders_0 : decode cX8_orders 0 = .ok (.aload_n 0, 1) := by decide +kernel
theorem dX8_orders_1 : decode cX8_orders 1 = .ok (.aload_n 0, 1) := by decide +kernel
theorem dX8_orders_2 : decode cX8_orders 2 = .ok (.getfield 25, 3) := by decide +kernel
theorem dX8_orders_5 : decode cX8_orders 5 = .ok (.iload_n 1, 1) := by decide +kernel
theorem dX8_orders_6 : decode cX8_orders 6 = .ok (.invokevirtual 131, 3) := by decide +kernel
theorem dX8_orders_9 : decode cX8_orders 9 = .ok (.iconst 0, 1) := by decide +kernel
theorem dX8_orders_10 : decode cX8_orders 10 = .ok (.istore_n 2, 1) := by decide +kernel
theorem dX8_orders_11 : decode cX8_orders 11 = .ok (.iconst 0, 1) := by decide +kernel
theorem dX8_orders_12 : decode cX8_orders 12 = .ok (.istore_n 3, 1) := by decide +kernel
theorem dX8_orders_13 : decode cX8_orders 13 = .ok (.iload_n 3, 1) := by decide +kernel
theorem dX8_orders_14 : decode cX8_orders 14 = .ok (.bipush 8, 2) := by decide +kernel
theorem dX8_orders_16 : decode cX8_orders 16 = .ok (.if_icmp .ge 31, 3) := by decide +kernel
theorem dX8_orders_19 : decode cX8_orders 19 = .ok (.iload_n 2, 1) := by decide +kernel
theorem dX8_orders_20 : decode cX8_orders 20 = .ok (.aload_n 0, 1) := by decide +kernel
theorem dX8_orders_21 : decode cX8_orders 21 = .ok (.aload_n 0, 1) := by decide +kernel
theorem dX8_orders_22 : decode cX8_orders 22 = .ok (.getfield 25, 3) := by decide +kernel
theorem dX8_orders_25 : decode cX8_orders 25 = .ok (.iload_n 3, 1) := by decide +kernel
theorem dX8_orders_26 : decode cX8_orders 26 = .ok (.invokevirtual 114, 3) := by decide +kernel
theorem dX8_orders_29 : decode cX8_orders 29 = .ok (.ifCond .eq 9, 3) := by decide +kernel
theorem dX8_orders_32 : decode cX8_orders 32 = .ok (.iconst 1, 1) := by decide +kernel
theorem dX8_orders_33 : decode cX8_orders 33 = .ok (.iload_n 3, 1) := by decide +kernel
theorem dX8_orders_34 : decode cX8_orders 34 = .ok (.ishl, 1) := by decide +kernel
theorem dX8_orders_35 : decode cX8_orders 35 = .ok (.goto 4, 3) := by decide +kernel
theorem dX8_orders_38 : decode cX8_orders 38 = .ok (.iconst 0, 1) := by decide +kernel
theorem dX8_orders_39 : decode cX8_orders 39 = .ok (.ior, 1) := by decide +kernel
theorem dX8_orders_40 : decode cX8_orders 40 = .ok (.istore_n 2, 1) := by decide +kernel
theorem dX8_orders_41 : decode cX8_orders 41 = .ok (.iinc 3 1, 3) := by decide +kernel
theorem dX8_orders_44 : decode cX8_orders 44 = .ok (.goto (-31), 3) := by decide +kernel
theorem dX8_orders_47 : decode cX8_orders 47 = .ok (.iload_n 2, 1) := by decide +kernel
theorem dX8_orders_48 : decode cX8_orders 48 = .ok (.ireturn, 1) := by decide +kernel
theorem dX8_ordersOf_0 : decode cX8_ordersOf 0 = .ok (.aload_n 0, 1) := by decide +kernel
theorem dX8_ordersOf_1 : decode cX8_ordersOf 1 = .ok (.iload_n 1, 1) := by decide +kernel
theorem dX8_ordersOf_2 : decode cX8_ordersOf 2 = .ok (.invokestatic 121, 3) := by decide +kernel
theorem dX8_ordersOf_5 : decode cX8_ordersOf 5 = .ok (.ifCond .eq 7, 3) := by decide +kernel
theorem dX8_ordersOf_8 : decode cX8_ordersOf 8 = .ok (.iconst 0, 1) := by decide +kernel
theorem dX8_ordersOf_9 : decode cX8_ordersOf 9 = .ok (.goto 4, 3) := by decide +kernel
theorem dX8_ordersOf_12 : decode cX8_ordersOf 12 = .ok (.iconst 1, 1) := by decide +kernel
theorem dX8_ordersOf_13 : decode cX8_ordersOf 13 = .ok (.invokevirtual 125, 3) := by decide +kernel
theorem dX8_ordersOf_16 : decode cX8_ordersOf 16 = .ok (.ifCond .eq 7, 3) := by decide +kernel
theorem dX8_ordersOf_19 : decode cX8_ordersOf 19 = .ok (.iconst 0, 1) := by decide +kernel
theorem dX8_ordersOf_20 : decode cX8_ordersOf 20 = .ok (.goto 8, 3) := by decide +kernel
theorem dX8_ordersOf_23 : decode cX8_ordersOf 23 = .ok (.aload_n 0, 1) := by decide +kernel
theorem dX8_ordersOf_24 : decode cX8_ordersOf 24 = .ok (.iload_n 1, 1) := by decide +kernel
theorem dX8_ordersOf_25 : decode cX8_ordersOf 25 = .ok (.invokevirtual 191, 3) := by decide +kernel
theorem dX8_ordersOf_28 : decode cX8_ordersOf 28 = .ok (.ireturn, 1) := by decide +kernel
theorem dX8_left_0 : decode cX8_left 0 = .ok (.aload_n 0, 1) := by decide +kernel
theorem dX8_left_1 : decode cX8_left 1 = .ok (.iload_n 1, 1) := by decide +kernel
theorem dX8_left_2 : decode cX8_left 2 = .ok (.invokestatic 121, 3) := by decide +kernel
theorem dX8_left_5 : decode cX8_left 5 = .ok (.ifCond .eq 21, 3) := by decide +kernel
theorem dX8_left_8 : decode cX8_left 8 = .ok (.iload_n 2, 1) := by decide +kernel
theorem dX8_left_9 : decode cX8_left 9 = .ok (.invokestatic 121, 3) := by decide +kernel
theorem dX8_left_12 : decode cX8_left 12 = .ok (.ifCond .eq 14, 3) := by decide +kernel
theorem dX8_left_15 : decode cX8_left 15 = .ok (.iload_n 3, 1) := by decide +kernel
theorem dX8_left_16 : decode cX8_left 16 = .ok (.invokestatic 121, 3) := by decide +kernel
theorem dX8_left_19 : decode cX8_left 19 = .ok (.ifCond .eq 7, 3) := by decide +kernel
theorem dX8_left_22 : decode cX8_left 22 = .ok (.iconst 0, 1) := by decide +kernel
theorem dX8_left_23 : decode cX8_left 23 = .ok (.goto 4, 3) := by decide +kernel
theorem dX8_left_26 : decode cX8_left 26 = .ok (.iconst 1, 1) := by decide +kernel
theorem dX8_left_27 : decode cX8_left 27 = .ok (.invokevirtual 125, 3) := by decide +kernel
theorem dX8_left_30 : decode cX8_left 30 = .ok (.ifCond .eq 5, 3) := by decide +kernel
theorem dX8_left_33 : decode cX8_left 33 = .ok (.iconst 0, 1) := by decide +kernel
theorem dX8_left_34 : decode cX8_left 34 = .ok (.ireturn, 1) := by decide +kernel
theorem dX8_left_35 : decode cX8_left 35 = .ok (.iconst 0, 1) := by decide +kernel
theorem dX8_left_36 : decode cX8_left 36 = .ok (.istore 4, 2) := by decide +kernel
theorem dX8_left_38 : decode cX8_left 38 = .ok (.iconst 0, 1) := by decide +kernel
theorem dX8_left_39 : decode cX8_left 39 = .ok (.istore 5, 2) := by decide +kernel
theorem dX8_left_41 : decode cX8_left 41 = .ok (.iload 5, 2) := by decide +kernel
theorem dX8_left_43 : decode cX8_left 43 = .ok (.bipush 8, 2) := by decide +kernel
theorem dX8_left_45 : decode cX8_left 45 = .ok (.if_icmp .ge 59, 3) := by decide +kernel
theorem dX8_left_48 : decode cX8_left 48 = .ok (.iload 4, 2) := by decide +kernel
theorem dX8_left_50 : decode cX8_left 50 = .ok (.aload_n 0, 1) := by decide +kernel
theorem dX8_left_51 : decode cX8_left 51 = .ok (.getfield 19, 3) := by decide +kernel
theorem dX8_left_54 : decode cX8_left 54 = .ok (.bipush 8, 2) := by decide +kernel
theorem dX8_left_56 : decode cX8_left 56 = .ok (.iload 5, 2) := by decide +kernel
theorem dX8_left_58 : decode cX8_left 58 = .ok (.imul, 1) := by decide +kernel
theorem dX8_left_59 : decode cX8_left 59 = .ok (.iload_n 3, 1) := by decide +kernel
theorem dX8_left_60 : decode cX8_left 60 = .ok (.iadd, 1) := by decide +kernel
theorem dX8_left_61 : decode cX8_left 61 = .ok (.iaload, 1) := by decide +kernel
theorem dX8_left_62 : decode cX8_left 62 = .ok (.iload_n 2, 1) := by decide +kernel
theorem dX8_left_63 : decode cX8_left 63 = .ok (.if_icmp .ne 31, 3) := by decide +kernel
theorem dX8_left_66 : decode cX8_left 66 = .ok (.aload_n 0, 1) := by decide +kernel
theorem dX8_left_67 : decode cX8_left 67 = .ok (.getfield 22, 3) := by decide +kernel
theorem dX8_left_70 : decode cX8_left 70 = .ok (.bipush 8, 2) := by decide +kernel
theorem dX8_left_72 : decode cX8_left 72 = .ok (.iload 5, 2) := by decide +kernel
theorem dX8_left_74 : decode cX8_left 74 = .ok (.imul, 1) := by decide +kernel
theorem dX8_left_75 : decode cX8_left 75 = .ok (.iload_n 3, 1) := by decide +kernel
theorem dX8_left_76 : decode cX8_left 76 = .ok (.iadd, 1) := by decide +kernel
theorem dX8_left_77 : decode cX8_left 77 = .ok (.iaload, 1) := by decide +kernel
theorem dX8_left_78 : decode cX8_left 78 = .ok (.aload_n 0, 1) := by decide +kernel
theorem dX8_left_79 : decode cX8_left 79 = .ok (.getfield 7, 3) := by decide +kernel
theorem dX8_left_82 : decode cX8_left 82 = .ok (.bipush 8, 2) := by decide +kernel
theorem dX8_left_84 : decode cX8_left 84 = .ok (.iload_n 1, 1) := by decide +kernel
theorem dX8_left_85 : decode cX8_left 85 = .ok (.imul, 1) := by decide +kernel
theorem dX8_left_86 : decode cX8_left 86 = .ok (.iload 5, 2) := by decide +kernel
theorem dX8_left_88 : decode cX8_left 88 = .ok (.iadd, 1) := by decide +kernel
theorem dX8_left_89 : decode cX8_left 89 = .ok (.iaload, 1) := by decide +kernel
theorem dX8_left_90 : decode cX8_left 90 = .ok (.imul, 1) := by decide +kernel
theorem dX8_left_91 : decode cX8_left 91 = .ok (.goto 4, 3) := by decide +kernel
theorem dX8_left_94 : decode cX8_left 94 = .ok (.iconst 0, 1) := by decide +kernel
theorem dX8_left_95 : decode cX8_left 95 = .ok (.iadd, 1) := by decide +kernel
theorem dX8_left_96 : decode cX8_left 96 = .ok (.istore 4, 2) := by decide +kernel
theorem dX8_left_98 : decode cX8_left 98 = .ok (.iinc 5 1, 3) := by decide +kernel
theorem dX8_left_101 : decode cX8_left 101 = .ok (.goto (-60), 3) := by decide +kernel
theorem dX8_left_104 : decode cX8_left 104 = .ok (.iload 4, 2) := by decide +kernel
theorem dX8_left_106 : decode cX8_left 106 = .ok (.ireturn, 1) := by decide +kernel
theorem dX8_unitOf_0 : decode cX8_unitOf 0 = .ok (.aload_n 0, 1) := by decide +kernel
theorem dX8_unitOf_1 : decode cX8_unitOf 1 = .ok (.iload_n 1, 1) := by decide +kernel
theorem dX8_unitOf_2 : decode cX8_unitOf 2 = .ok (.invokestatic 121, 3) := by decide +kernel
theorem dX8_unitOf_5 : decode cX8_unitOf 5 = .ok (.ifCond .eq 7, 3) := by decide +kernel
theorem dX8_unitOf_8 : decode cX8_unitOf 8 = .ok (.iconst 0, 1) := by decide +kernel
theorem dX8_unitOf_9 : decode cX8_unitOf 9 = .ok (.goto 4, 3) := by decide +kernel
theorem dX8_unitOf_12 : decode cX8_unitOf 12 = .ok (.iconst 1, 1) := by decide +kernel
theorem dX8_unitOf_13 : decode cX8_unitOf 13 = .ok (.invokevirtual 125, 3) := by decide +kernel
theorem dX8_unitOf_16 : decode cX8_unitOf 16 = .ok (.ifCond .eq 7, 3) := by decide +kernel
theorem dX8_unitOf_19 : decode cX8_unitOf 19 = .ok (.iconst 0, 1) := by decide +kernel
theorem dX8_unitOf_20 : decode cX8_unitOf 20 = .ok (.goto 8, 3) := by decide +kernel
theorem dX8_unitOf_23 : decode cX8_unitOf 23 = .ok (.aload_n 0, 1) := by decide +kernel
theorem dX8_unitOf_24 : decode cX8_unitOf 24 = .ok (.iload_n 1, 1) := by decide +kernel
theorem dX8_unitOf_25 : decode cX8_unitOf 25 = .ok (.invokevirtual 195, 3) := by decide +kernel
theorem dX8_unitOf_28 : decode cX8_unitOf 28 = .ok (.ireturn, 1) := by decide +kernel
theorem dX8_valueOf_0 : decode cX8_valueOf 0 = .ok (.aload_n 0, 1) := by decide +kernel
theorem dX8_valueOf_1 : decode cX8_valueOf 1 = .ok (.invokevirtual 118, 3) := by decide +kernel
theorem dX8_valueOf_4 : decode cX8_valueOf 4 = .ok (.iconst 0, 1) := by decide +kernel
theorem dX8_valueOf_5 : decode cX8_valueOf 5 = .ok (.istore_n 2, 1) := by decide +kernel
theorem dX8_valueOf_6 : decode cX8_valueOf 6 = .ok (.iconst 0, 1) := by decide +kernel
theorem dX8_valueOf_7 : decode cX8_valueOf 7 = .ok (.istore_n 3, 1) := by decide +kernel
theorem dX8_valueOf_8 : decode cX8_valueOf 8 = .ok (.iload_n 3, 1) := by decide +kernel
theorem dX8_valueOf_9 : decode cX8_valueOf 9 = .ok (.bipush 8, 2) := by decide +kernel
theorem dX8_valueOf_11 : decode cX8_valueOf 11 = .ok (.if_icmp .ge 67, 3) := by decide +kernel
theorem dX8_valueOf_14 : decode cX8_valueOf 14 = .ok (.iload_n 1, 1) := by decide +kernel
theorem dX8_valueOf_15 : decode cX8_valueOf 15 = .ok (.iconst 3, 1) := by decide +kernel
theorem dX8_valueOf_16 : decode cX8_valueOf 16 = .ok (.if_icmp .le 62, 3) := by decide +kernel
theorem dX8_valueOf_19 : decode cX8_valueOf 19 = .ok (.aload_n 0, 1) := by decide +kernel
theorem dX8_valueOf_20 : decode cX8_valueOf 20 = .ok (.aload_n 0, 1) := by decide +kernel
theorem dX8_valueOf_21 : decode cX8_valueOf 21 = .ok (.getfield 25, 3) := by decide +kernel
theorem dX8_valueOf_24 : decode cX8_valueOf 24 = .ok (.iload_n 3, 1) := by decide +kernel
theorem dX8_valueOf_25 : decode cX8_valueOf 25 = .ok (.invokevirtual 131, 3) := by decide +kernel
theorem dX8_valueOf_28 : decode cX8_valueOf 28 = .ok (.iload_n 2, 1) := by decide +kernel
theorem dX8_valueOf_29 : decode cX8_valueOf 29 = .ok (.iload_n 1, 1) := by decide +kernel
theorem dX8_valueOf_30 : decode cX8_valueOf 30 = .ok (.iconst 4, 1) := by decide +kernel
theorem dX8_valueOf_31 : decode cX8_valueOf 31 = .ok (.if_icmp .ne 24, 3) := by decide +kernel
theorem dX8_valueOf_34 : decode cX8_valueOf 34 = .ok (.aload_n 0, 1) := by decide +kernel
theorem dX8_valueOf_35 : decode cX8_valueOf 35 = .ok (.aload_n 0, 1) := by decide +kernel
theorem dX8_valueOf_36 : decode cX8_valueOf 36 = .ok (.getfield 25, 3) := by decide +kernel
theorem dX8_valueOf_39 : decode cX8_valueOf 39 = .ok (.aload_n 0, 1) := by decide +kernel
theorem dX8_valueOf_40 : decode cX8_valueOf 40 = .ok (.getfield 7, 3) := by decide +kernel
theorem dX8_valueOf_43 : decode cX8_valueOf 43 = .ok (.bipush 64, 2) := by decide +kernel
theorem dX8_valueOf_45 : decode cX8_valueOf 45 = .ok (.iaload, 1) := by decide +kernel
theorem dX8_valueOf_46 : decode cX8_valueOf 46 = .ok (.invokevirtual 114, 3) := by decide +kernel
theorem dX8_valueOf_49 : decode cX8_valueOf 49 = .ok (.ifCond .eq 20, 3) := by decide +kernel
theorem dX8_valueOf_52 : decode cX8_valueOf 52 = .ok (.goto 13, 3) := by decide +kernel
theorem dX8_valueOf_55 : decode cX8_valueOf 55 = .ok (.aload_n 0, 1) := by decide +kernel
theorem dX8_valueOf_56 : decode cX8_valueOf 56 = .ok (.getfield 25, 3) := by decide +kernel
theorem dX8_valueOf_59 : decode cX8_valueOf 59 = .ok (.invokestatic 173, 3) := by decide +kernel
theorem dX8_valueOf_62 : decode cX8_valueOf 62 = .ok (.ifCond .eq 7, 3) := by decide +kernel
theorem dX8_valueOf_65 : decode cX8_valueOf 65 = .ok (.iconst 1, 1) := by decide +kernel
theorem dX8_valueOf_66 : decode cX8_valueOf 66 = .ok (.goto 4, 3) := by decide +kernel
theorem dX8_valueOf_69 : decode cX8_valueOf 69 = .ok (.iconst 0, 1) := by decide +kernel
theorem dX8_valueOf_70 : decode cX8_valueOf 70 = .ok (.iadd, 1) := by decide +kernel
theorem dX8_valueOf_71 : decode cX8_valueOf 71 = .ok (.istore_n 2, 1) := by decide +kernel
theorem dX8_valueOf_72 : decode cX8_valueOf 72 = .ok (.iinc 3 1, 3) := by decide +kernel
theorem dX8_valueOf_75 : decode cX8_valueOf 75 = .ok (.goto (-67), 3) := by decide +kernel
theorem dX8_valueOf_78 : decode cX8_valueOf 78 = .ok (.iload_n 1, 1) := by decide +kernel
theorem dX8_valueOf_79 : decode cX8_valueOf 79 = .ok (.ifCond .ne 13, 3) := by decide +kernel
theorem dX8_valueOf_82 : decode cX8_valueOf 82 = .ok (.aload_n 0, 1) := by decide +kernel
theorem dX8_valueOf_83 : decode cX8_valueOf 83 = .ok (.getfield 7, 3) := by decide +kernel
theorem dX8_valueOf_86 : decode cX8_valueOf 86 = .ok (.bipush 64, 2) := by decide +kernel
theorem dX8_valueOf_88 : decode cX8_valueOf 88 = .ok (.iaload, 1) := by decide +kernel
theorem dX8_valueOf_89 : decode cX8_valueOf 89 = .ok (.goto 46, 3) := by decide +kernel
theorem dX8_valueOf_92 : decode cX8_valueOf 92 = .ok (.iload_n 1, 1) := by decide +kernel
theorem dX8_valueOf_93 : decode cX8_valueOf 93 = .ok (.iconst 1, 1) := by decide +kernel
theorem dX8_valueOf_94 : decode cX8_valueOf 94 = .ok (.if_icmp .ne 10, 3) := by decide +kernel
theorem dX8_valueOf_97 : decode cX8_valueOf 97 = .ok (.aload_n 0, 1) := by decide +kernel
theorem dX8_valueOf_98 : decode cX8_valueOf 98 = .ok (.getfield 107, 3) := by decide +kernel
theorem dX8_valueOf_101 : decode cX8_valueOf 101 = .ok (.goto 34, 3) := by decide +kernel
theorem dX8_valueOf_104 : decode cX8_valueOf 104 = .ok (.iload_n 1, 1) := by decide +kernel
theorem dX8_valueOf_105 : decode cX8_valueOf 105 = .ok (.iconst 2, 1) := by decide +kernel
theorem dX8_valueOf_106 : decode cX8_valueOf 106 = .ok (.if_icmp .ne 13, 3) := by decide +kernel
theorem dX8_valueOf_109 : decode cX8_valueOf 109 = .ok (.aload_n 0, 1) := by decide +kernel
theorem dX8_valueOf_110 : decode cX8_valueOf 110 = .ok (.getfield 7, 3) := by decide +kernel
theorem dX8_valueOf_113 : decode cX8_valueOf 113 = .ok (.bipush 65, 2) := by decide +kernel
theorem dX8_valueOf_115 : decode cX8_valueOf 115 = .ok (.iaload, 1) := by decide +kernel
theorem dX8_valueOf_116 : decode cX8_valueOf 116 = .ok (.goto 19, 3) := by decide +kernel
theorem dX8_valueOf_119 : decode cX8_valueOf 119 = .ok (.iload_n 1, 1) := by decide +kernel
theorem dX8_valueOf_120 : decode cX8_valueOf 120 = .ok (.iconst 3, 1) := by decide +kernel
theorem dX8_valueOf_121 : decode cX8_valueOf 121 = .ok (.if_icmp .ne 13, 3) := by decide +kernel
theorem dX8_valueOf_124 : decode cX8_valueOf 124 = .ok (.aload_n 0, 1) := by decide +kernel
theorem dX8_valueOf_125 : decode cX8_valueOf 125 = .ok (.getfield 7, 3) := by decide +kernel
theorem dX8_valueOf_128 : decode cX8_valueOf 128 = .ok (.bipush 66, 2) := by decide +kernel
theorem dX8_valueOf_130 : decode cX8_valueOf 130 = .ok (.iaload, 1) := by decide +kernel
theorem dX8_valueOf_131 : decode cX8_valueOf 131 = .ok (.goto 4, 3) := by decide +kernel
theorem dX8_valueOf_134 : decode cX8_valueOf 134 = .ok (.iload_n 2, 1) := by decide +kernel
theorem dX8_valueOf_135 : decode cX8_valueOf 135 = .ok (.ireturn, 1) := by decide +kernel
theorem dX8_value_0 : decode cX8_value 0 = .ok (.aload_n 0, 1) := by decide +kernel
theorem dX8_value_1 : decode cX8_value 1 = .ok (.iload_n 1, 1) := by decide +kernel
theorem dX8_value_2 : decode cX8_value 2 = .ok (.iconst 0, 1) := by decide +kernel
theorem dX8_value_3 : decode cX8_value 3 = .ok (.iconst 5, 1) := by decide +kernel
theorem dX8_value_4 : decode cX8_value 4 = .ok (.invokestatic 86, 3) := by decide +kernel
theorem dX8_value_7 : decode cX8_value 7 = .ok (.ifCond .eq 7, 3) := by decide +kernel
theorem dX8_value_10 : decode cX8_value 10 = .ok (.iconst 0, 1) := by decide +kernel
theorem dX8_value_11 : decode cX8_value 11 = .ok (.goto 4, 3) := by decide +kernel
theorem dX8_value_14 : decode cX8_value 14 = .ok (.iconst 1, 1) := by decide +kernel
theorem dX8_value_15 : decode cX8_value 15 = .ok (.invokevirtual 125, 3) := by decide +kernel
theorem dX8_value_18 : decode cX8_value 18 = .ok (.ifCond .eq 7, 3) := by decide +kernel
theorem dX8_value_21 : decode cX8_value 21 = .ok (.iconst 0, 1) := by decide +kernel
theorem dX8_value_22 : decode cX8_value 22 = .ok (.goto 8, 3) := by decide +kernel
theorem dX8_value_25 : decode cX8_value 25 = .ok (.aload_n 0, 1) := by decide +kernel
theorem dX8_value_26 : decode cX8_value 26 = .ok (.iload_n 1, 1) := by decide +kernel
theorem dX8_value_27 : decode cX8_value 27 = .ok (.invokevirtual 198, 3) := by decide +kernel
theorem dX8_value_30 : decode cX8_value 30 = .ok (.ireturn, 1) := by decide +kernel
theorem dX8_doCommute_0 : decode cX8_doCommute 0 = .ok (.aload_n 0, 1) := by decide +kernel
theorem dX8_doCommute_1 : decode cX8_doCommute 1 = .ok (.iload_n 1, 1) := by decide +kernel
theorem dX8_doCommute_2 : decode cX8_doCommute 2 = .ok (.iload_n 2, 1) := by decide +kernel
theorem dX8_doCommute_3 : decode cX8_doCommute 3 = .ok (.invokevirtual 152, 3) := by decide +kernel
theorem dX8_doCommute_6 : decode cX8_doCommute 6 = .ok (.aload_n 0, 1) := by decide +kernel
theorem dX8_doCommute_7 : decode cX8_doCommute 7 = .ok (.getfield 35, 3) := by decide +kernel
theorem dX8_doCommute_10 : decode cX8_doCommute 10 = .ok (.invokestatic 173, 3) := by decide +kernel
theorem dX8_doCommute_13 : decode cX8_doCommute 13 = .ok (.ireturn, 1) := by decide +kernel
theorem dX8_isFlat_0 : decode cX8_isFlat 0 = .ok (.iconst 1, 1) := by decide +kernel
theorem dX8_isFlat_1 : decode cX8_isFlat 1 = .ok (.istore_n 1, 1) := by decide +kernel
theorem dX8_isFlat_2 : decode cX8_isFlat 2 = .ok (.iconst 0, 1) := by decide +kernel
theorem dX8_isFlat_3 : decode cX8_isFlat 3 = .ok (.istore_n 2, 1) := by decide +kernel
theorem dX8_isFlat_4 : decode cX8_isFlat 4 = .ok (.iload_n 2, 1) := by decide +kernel
theorem dX8_isFlat_5 : decode cX8_isFlat 5 = .ok (.bipush 8, 2) := by decide +kernel
theorem dX8_isFlat_7 : decode cX8_isFlat 7 = .ok (.if_icmp .ge 30, 3) := by decide +kernel
theorem dX8_isFlat_10 : decode cX8_isFlat 10 = .ok (.iload_n 1, 1) := by decide +kernel
theorem dX8_isFlat_11 : decode cX8_isFlat 11 = .ok (.ifCond .eq 18, 3) := by decide +kernel
theorem dX8_isFlat_14 : decode cX8_isFlat 14 = .ok (.aload_n 0, 1) := by decide +kernel
theorem dX8_isFlat_15 : decode cX8_isFlat 15 = .ok (.getfield 35, 3) := by decide +kernel
theorem dX8_isFlat_18 : decode cX8_isFlat 18 = .ok (.iload_n 2, 1) := by decide +kernel
theorem dX8_isFlat_19 : decode cX8_isFlat 19 = .ok (.laload, 1) := by decide +kernel
theorem dX8_isFlat_20 : decode cX8_isFlat 20 = .ok (.lconst 0, 1) := by decide +kernel
theorem dX8_isFlat_21 : decode cX8_isFlat 21 = .ok (.lcmp, 1) := by decide +kernel
theorem dX8_isFlat_22 : decode cX8_isFlat 22 = .ok (.ifCond .ne 7, 3) := by decide +kernel
theorem dX8_isFlat_25 : decode cX8_isFlat 25 = .ok (.iconst 1, 1) := by decide +kernel
theorem dX8_isFlat_26 : decode cX8_isFlat 26 = .ok (.goto 4, 3) := by decide +kernel
theorem dX8_isFlat_29 : decode cX8_isFlat 29 = .ok (.iconst 0, 1) := by decide +kernel
theorem dX8_isFlat_30 : decode cX8_isFlat 30 = .ok (.istore_n 1, 1) := by decide +kernel
theorem dX8_isFlat_31 : decode cX8_isFlat 31 = .ok (.iinc 2 1, 3) := by decide +kernel
theorem dX8_isFlat_34 : decode cX8_isFlat 34 = .ok (.goto (-30), 3) := by decide +kernel
theorem dX8_isFlat_37 : decode cX8_isFlat 37 = .ok (.iload_n 1, 1) := by decide +kernel
theorem dX8_isFlat_38 : decode cX8_isFlat 38 = .ok (.ireturn, 1) := by decide +kernel
theorem dX8_dimension_0 : decode cX8_dimension 0 = .ok (.aload_n 0, 1) := by decide +kernel
theorem dX8_dimension_1 : decode cX8_dimension 1 = .ok (.iload_n 1, 1) := by decide +kernel
theorem dX8_dimension_2 : decode cX8_dimension 2 = .ok (.iconst 1, 1) := by decide +kernel
theorem dX8_dimension_3 : decode cX8_dimension 3 = .ok (.sipush 255, 3) := by decide +kernel
theorem dX8_dimension_6 : decode cX8_dimension 6 = .ok (.invokestatic 86, 3) := by decide +kernel
theorem dX8_dimension_9 : decode cX8_dimension 9 = .ok (.ifCond .eq 7, 3) := by decide +kernel
theorem dX8_dimension_12 : decode cX8_dimension 12 = .ok (.iconst 0, 1) := by decide +kernel
theorem dX8_dimension_13 : decode cX8_dimension 13 = .ok (.goto 4, 3) := by decide +kernel
theorem dX8_dimension_16 : decode cX8_dimension 16 = .ok (.iconst 1, 1) := by decide +kernel
theorem dX8_dimension_17 : decode cX8_dimension 17 = .ok (.invokevirtual 125, 3) := by decide +kernel
theorem dX8_dimension_20 : decode cX8_dimension 20 = .ok (.ifCond .eq 5, 3) := by decide +kernel
theorem dX8_dimension_23 : decode cX8_dimension 23 = .ok (.iconst 0, 1) := by decide +kernel
theorem dX8_dimension_24 : decode cX8_dimension 24 = .ok (.ireturn, 1) := by decide +kernel
theorem dX8_dimension_25 : decode cX8_dimension 25 = .ok (.iconst (-1), 1) := by decide +kernel
theorem dX8_dimension_26 : decode cX8_dimension 26 = .ok (.istore_n 2, 1) := by decide +kernel
theorem dX8_dimension_27 : decode cX8_dimension 27 = .ok (.iconst (-1), 1) := by decide +kernel
theorem dX8_dimension_28 : decode cX8_dimension 28 = .ok (.istore_n 3, 1) := by decide +kernel
theorem dX8_dimension_29 : decode cX8_dimension 29 = .ok (.iconst 0, 1) := by decide +kernel
theorem dX8_dimension_30 : decode cX8_dimension 30 = .ok (.istore 4, 2) := by decide +kernel
theorem dX8_dimension_32 : decode cX8_dimension 32 = .ok (.iconst 0, 1) := by decide +kernel
theorem dX8_dimension_33 : decode cX8_dimension 33 = .ok (.istore 5, 2) := by decide +kernel
theorem dX8_dimension_35 : decode cX8_dimension 35 = .ok (.iload 5, 2) := by decide +kernel
theorem dX8_dimension_37 : decode cX8_dimension 37 = .ok (.bipush 8, 2) := by decide +kernel
theorem dX8_dimension_39 : decode cX8_dimension 39 = .ok (.if_icmp .ge 58, 3) := by decide +kernel
theorem dX8_dimension_42 : decode cX8_dimension 42 = .ok (.aload_n 0, 1) := by decide +kernel
theorem dX8_dimension_43 : decode cX8_dimension 43 = .ok (.aload_n 0, 1) := by decide +kernel
theorem dX8_dimension_44 : decode cX8_dimension 44 = .ok (.getfield 25, 3) := by decide +kernel
theorem dX8_dimension_47 : decode cX8_dimension 47 = .ok (.iload 5, 2) := by decide +kernel
theorem dX8_dimension_49 : decode cX8_dimension 49 = .ok (.invokevirtual 131, 3) := by decide +kernel
theorem dX8_dimension_52 : decode cX8_dimension 52 = .ok (.aload_n 0, 1) := by decide +kernel
theorem dX8_dimension_53 : decode cX8_dimension 53 = .ok (.getfield 25, 3) := by decide +kernel
theorem dX8_dimension_56 : decode cX8_dimension 56 = .ok (.iconst 0, 1) := by decide +kernel
theorem dX8_dimension_57 : decode cX8_dimension 57 = .ok (.lconst 0, 1) := by decide +kernel
theorem dX8_dimension_58 : decode cX8_dimension 58 = .ok (.lastore, 1) := by decide +kernel
theorem dX8_dimension_59 : decode cX8_dimension 59 = .ok (.iload_n 2, 1) := by decide +kernel
theorem dX8_dimension_60 : decode cX8_dimension 60 = .ok (.iconst (-1), 1) := by decide +kernel
theorem dX8_dimension_61 : decode cX8_dimension 61 = .ok (.if_icmp .ne 28, 3) := by decide +kernel
theorem dX8_dimension_64 : decode cX8_dimension 64 = .ok (.iload_n 1, 1) := by decide +kernel
theorem dX8_dimension_65 : decode cX8_dimension 65 = .ok (.iload 5, 2) := by decide +kernel
theorem dX8_dimension_67 : decode cX8_dimension 67 = .ok (.ishr, 1) := by decide +kernel
theorem dX8_dimension_68 : decode cX8_dimension 68 = .ok (.iconst 1, 1) := by decide +kernel
theorem dX8_dimension_69 : decode cX8_dimension 69 = .ok (.iand, 1) := by decide +kernel
theorem dX8_dimension_70 : decode cX8_dimension 70 = .ok (.iconst 1, 1) := by decide +kernel
theorem dX8_dimension_71 : decode cX8_dimension 71 = .ok (.if_icmp .ne 18, 3) := by decide +kernel
theorem dX8_dimension_74 : decode cX8_dimension 74 = .ok (.aload_n 0, 1) := by decide +kernel
theorem dX8_dimension_75 : decode cX8_dimension 75 = .ok (.getfield 25, 3) := by decide +kernel
theorem dX8_dimension_78 : decode cX8_dimension 78 = .ok (.invokestatic 173, 3) := by decide +kernel
theorem dX8_dimension_81 : decode cX8_dimension 81 = .ok (.ifCond .ne 8, 3) := by decide +kernel
theorem dX8_dimension_84 : decode cX8_dimension 84 = .ok (.iload 5, 2) := by decide +kernel
theorem dX8_dimension_86 : decode cX8_dimension 86 = .ok (.goto 4, 3) := by decide +kernel
theorem dX8_dimension_89 : decode cX8_dimension 89 = .ok (.iload_n 2, 1) := by decide +kernel
theorem dX8_dimension_90 : decode cX8_dimension 90 = .ok (.istore_n 2, 1) := by decide +kernel
theorem dX8_dimension_91 : decode cX8_dimension 91 = .ok (.iinc 5 1, 3) := by decide +kernel
theorem dX8_dimension_94 : decode cX8_dimension 94 = .ok (.goto (-59), 3) := by decide +kernel
theorem dX8_dimension_97 : decode cX8_dimension 97 = .ok (.iconst 0, 1) := by decide +kernel
theorem dX8_dimension_98 : decode cX8_dimension 98 = .ok (.istore 5, 2) := by decide +kernel
theorem dX8_dimension_100 : decode cX8_dimension 100 = .ok (.iload 5, 2) := by decide +kernel
theorem dX8_dimension_102 : decode cX8_dimension 102 = .ok (.bipush 8, 2) := by decide +kernel
theorem dX8_dimension_104 : decode cX8_dimension 104 = .ok (.if_icmp .ge 46, 3) := by decide +kernel
theorem dX8_dimension_107 : decode cX8_dimension 107 = .ok (.iload_n 2, 1) := by decide +kernel
theorem dX8_dimension_108 : decode cX8_dimension 108 = .ok (.iconst (-1), 1) := by decide +kernel
theorem dX8_dimension_109 : decode cX8_dimension 109 = .ok (.if_icmp .eq 33, 3) := by decide +kernel
theorem dX8_dimension_112 : decode cX8_dimension 112 = .ok (.iload_n 3, 1) := by decide +kernel
theorem dX8_dimension_113 : decode cX8_dimension 113 = .ok (.iconst (-1), 1) := by decide +kernel
theorem dX8_dimension_114 : decode cX8_dimension 114 = .ok (.if_icmp .ne 28, 3) := by decide +kernel
theorem dX8_dimension_117 : decode cX8_dimension 117 = .ok (.iload_n 1, 1) := by decide +kernel
theorem dX8_dimension_118 : decode cX8_dimension 118 = .ok (.iload 5, 2) := by decide +kernel
theorem dX8_dimension_120 : decode cX8_dimension 120 = .ok (.ishr, 1) := by decide +kernel
theorem dX8_dimension_121 : decode cX8_dimension 121 = .ok (.iconst 1, 1) := by decide +kernel
theorem dX8_dimension_122 : decode cX8_dimension 122 = .ok (.iand, 1) := by decide +kernel
theorem dX8_dimension_123 : decode cX8_dimension 123 = .ok (.iconst 1, 1) := by decide +kernel
theorem dX8_dimension_124 : decode cX8_dimension 124 = .ok (.if_icmp .ne 18, 3) := by decide +kernel
theorem dX8_dimension_127 : decode cX8_dimension 127 = .ok (.aload_n 0, 1) := by decide +kernel
theorem dX8_dimension_128 : decode cX8_dimension 128 = .ok (.iload_n 2, 1) := by decide +kernel
theorem dX8_dimension_129 : decode cX8_dimension 129 = .ok (.iload 5, 2) := by decide +kernel
theorem dX8_dimension_131 : decode cX8_dimension 131 = .ok (.invokevirtual 201, 3) := by decide +kernel
theorem dX8_dimension_134 : decode cX8_dimension 134 = .ok (.ifCond .ne 8, 3) := by decide +kernel
theorem dX8_dimension_137 : decode cX8_dimension 137 = .ok (.iload 5, 2) := by decide +kernel
theorem dX8_dimension_139 : decode cX8_dimension 139 = .ok (.goto 4, 3) := by decide +kernel
theorem dX8_dimension_142 : decode cX8_dimension 142 = .ok (.iload_n 3, 1) := by decide +kernel
theorem dX8_dimension_143 : decode cX8_dimension 143 = .ok (.istore_n 3, 1) := by decide +kernel
theorem dX8_dimension_144 : decode cX8_dimension 144 = .ok (.iinc 5 1, 3) := by decide +kernel
theorem dX8_dimension_147 : decode cX8_dimension 147 = .ok (.goto (-47), 3) := by decide +kernel
theorem dX8_dimension_150 : decode cX8_dimension 150 = .ok (.iconst 0, 1) := by decide +kernel
theorem dX8_dimension_151 : decode cX8_dimension 151 = .ok (.istore 5, 2) := by decide +kernel
theorem dX8_dimension_153 : decode cX8_dimension 153 = .ok (.iload 5, 2) := by decide +kernel
theorem dX8_dimension_155 : decode cX8_dimension 155 = .ok (.bipush 8, 2) := by decide +kernel
theorem dX8_dimension_157 : decode cX8_dimension 157 = .ok (.if_icmp .ge 51, 3) := by decide +kernel
theorem dX8_dimension_160 : decode cX8_dimension 160 = .ok (.iload_n 3, 1) := by decide +kernel
theorem dX8_dimension_161 : decode cX8_dimension 161 = .ok (.iconst (-1), 1) := by decide +kernel
theorem dX8_dimension_162 : decode cX8_dimension 162 = .ok (.if_icmp .eq 46, 3) := by decide +kernel
theorem dX8_dimension_165 : decode cX8_dimension 165 = .ok (.iload_n 1, 1) := by decide +kernel
theorem dX8_dimension_166 : decode cX8_dimension 166 = .ok (.iload 5, 2) := by decide +kernel
theorem dX8_dimension_168 : decode cX8_dimension 168 = .ok (.ishr, 1) := by decide +kernel
theorem dX8_dimension_169 : decode cX8_dimension 169 = .ok (.iconst 1, 1) := by decide +kernel
theorem dX8_dimension_170 : decode cX8_dimension 170 = .ok (.iand, 1) := by decide +kernel
theorem dX8_dimension_171 : decode cX8_dimension 171 = .ok (.iconst 1, 1) := by decide +kernel
theorem dX8_dimension_172 : decode cX8_dimension 172 = .ok (.if_icmp .ne 30, 3) := by decide +kernel
theorem dX8_dimension_175 : decode cX8_dimension 175 = .ok (.aload_n 0, 1) := by decide +kernel
theorem dX8_dimension_176 : decode cX8_dimension 176 = .ok (.iload_n 2, 1) := by decide +kernel
theorem dX8_dimension_177 : decode cX8_dimension 177 = .ok (.iload_n 3, 1) := by decide +kernel
theorem dX8_dimension_178 : decode cX8_dimension 178 = .ok (.iload 5, 2) := by decide +kernel
theorem dX8_dimension_180 : decode cX8_dimension 180 = .ok (.invokevirtual 156, 3) := by decide +kernel
theorem dX8_dimension_183 : decode cX8_dimension 183 = .ok (.iload 4, 2) := by decide +kernel
theorem dX8_dimension_185 : decode cX8_dimension 185 = .ok (.ifCond .ne 10, 3) := by decide +kernel
theorem dX8_dimension_188 : decode cX8_dimension 188 = .ok (.aload_n 0, 1) := by decide +kernel
theorem dX8_dimension_189 : decode cX8_dimension 189 = .ok (.invokevirtual 204, 3) := by decide +kernel
theorem dX8_dimension_192 : decode cX8_dimension 192 = .ok (.ifCond .ne 7, 3) := by decide +kernel
theorem dX8_dimension_195 : decode cX8_dimension 195 = .ok (.iconst 1, 1) := by decide +kernel
theorem dX8_dimension_196 : decode cX8_dimension 196 = .ok (.goto 4, 3) := by decide +kernel
theorem dX8_dimension_199 : decode cX8_dimension 199 = .ok (.iconst 0, 1) := by decide +kernel
theorem dX8_dimension_200 : decode cX8_dimension 200 = .ok (.istore 4, 2) := by decide +kernel
theorem dX8_dimension_202 : decode cX8_dimension 202 = .ok (.iinc 5 1, 3) := by decide +kernel
theorem dX8_dimension_205 : decode cX8_dimension 205 = .ok (.goto (-52), 3) := by decide +kernel
theorem dX8_dimension_208 : decode cX8_dimension 208 = .ok (.iload_n 2, 1) := by decide +kernel
theorem dX8_dimension_209 : decode cX8_dimension 209 = .ok (.iconst (-1), 1) := by decide +kernel
theorem dX8_dimension_210 : decode cX8_dimension 210 = .ok (.if_icmp .ne 7, 3) := by decide +kernel
theorem dX8_dimension_213 : decode cX8_dimension 213 = .ok (.iconst 1, 1) := by decide +kernel
theorem dX8_dimension_214 : decode cX8_dimension 214 = .ok (.goto 23, 3) := by decide +kernel
theorem dX8_dimension_217 : decode cX8_dimension 217 = .ok (.iload_n 3, 1) := by decide +kernel
theorem dX8_dimension_218 : decode cX8_dimension 218 = .ok (.iconst (-1), 1) := by decide +kernel
theorem dX8_dimension_219 : decode cX8_dimension 219 = .ok (.if_icmp .ne 7, 3) := by decide +kernel
theorem dX8_dimension_222 : decode cX8_dimension 222 = .ok (.iconst 2, 1) := by decide +kernel
theorem dX8_dimension_223 : decode cX8_dimension 223 = .ok (.goto 14, 3) := by decide +kernel
theorem dX8_dimension_226 : decode cX8_dimension 226 = .ok (.iload 4, 2) := by decide +kernel
theorem dX8_dimension_228 : decode cX8_dimension 228 = .ok (.ifCond .eq 8, 3) := by decide +kernel
theorem dX8_dimension_231 : decode cX8_dimension 231 = .ok (.bipush 8, 2) := by decide +kernel
theorem dX8_dimension_233 : decode cX8_dimension 233 = .ok (.goto 4, 3) := by decide +kernel
theorem dX8_dimension_236 : decode cX8_dimension 236 = .ok (.iconst 4, 1) := by decide +kernel
theorem dX8_dimension_237 : decode cX8_dimension 237 = .ok (.ireturn, 1) := by decide +kernel
theorem dX8_commute_0 : decode cX8_commute 0 = .ok (.aload_n 0, 1) := by decide +kernel
theorem dX8_commute_1 : decode cX8_commute 1 = .ok (.iload_n 1, 1) := by decide +kernel
theorem dX8_commute_2 : decode cX8_commute 2 = .ok (.invokestatic 121, 3) := by decide +kernel
theorem dX8_commute_5 : decode cX8_commute 5 = .ok (.ifCond .eq 14, 3) := by decide +kernel
theorem dX8_commute_8 : decode cX8_commute 8 = .ok (.iload_n 2, 1) := by decide +kernel
theorem dX8_commute_9 : decode cX8_commute 9 = .ok (.invokestatic 121, 3) := by decide +kernel
theorem dX8_commute_12 : decode cX8_commute 12 = .ok (.ifCond .eq 7, 3) := by decide +kernel
theorem dX8_commute_15 : decode cX8_commute 15 = .ok (.iconst 0, 1) := by decide +kernel
theorem dX8_commute_16 : decode cX8_commute 16 = .ok (.goto 4, 3) := by decide +kernel
theorem dX8_commute_19 : decode cX8_commute 19 = .ok (.iconst 1, 1) := by decide +kernel
theorem dX8_commute_20 : decode cX8_commute 20 = .ok (.invokevirtual 125, 3) := by decide +kernel
theorem dX8_commute_23 : decode cX8_commute 23 = .ok (.ifCond .eq 5, 3) := by decide +kernel
theorem dX8_commute_26 : decode cX8_commute 26 = .ok (.iconst 0, 1) := by decide +kernel
theorem dX8_commute_27 : decode cX8_commute 27 = .ok (.ireturn, 1) := by decide +kernel
theorem dX8_commute_28 : decode cX8_commute 28 = .ok (.aload_n 0, 1) := by decide +kernel
theorem dX8_commute_29 : decode cX8_commute 29 = .ok (.iload_n 1, 1) := by decide +kernel
theorem dX8_commute_30 : decode cX8_commute 30 = .ok (.iload_n 2, 1) := by decide +kernel
theorem dX8_commute_31 : decode cX8_commute 31 = .ok (.invokevirtual 201, 3) := by decide +kernel
theorem dX8_commute_34 : decode cX8_commute 34 = .ok (.ireturn, 1) := by decide +kernel
theorem dX8_associate_0 : decode cX8_associate 0 = .ok (.aload_n 0, 1) := by decide +kernel
theorem dX8_associate_1 : decode cX8_associate 1 = .ok (.iload_n 1, 1) := by decide +kernel
theorem dX8_associate_2 : decode cX8_associate 2 = .ok (.invokestatic 121, 3) := by decide +kernel
theorem dX8_associate_5 : decode cX8_associate 5 = .ok (.ifCond .eq 21, 3) := by decide +kernel
theorem dX8_associate_8 : decode cX8_associate 8 = .ok (.iload_n 2, 1) := by decide +kernel
theorem dX8_associate_9 : decode cX8_associate 9 = .ok (.invokestatic 121, 3) := by decide +kernel
theorem dX8_associate_12 : decode cX8_associate 12 = .ok (.ifCond .eq 14, 3) := by decide +kernel
theorem dX8_associate_15 : decode cX8_associate 15 = .ok (.iload_n 3, 1) := by decide +kernel
theorem dX8_associate_16 : decode cX8_associate 16 = .ok (.invokestatic 121, 3) := by decide +kernel
theorem dX8_associate_19 : decode cX8_associate 19 = .ok (.ifCond .eq 7, 3) := by decide +kernel
theorem dX8_associate_22 : decode cX8_associate 22 = .ok (.iconst 0, 1) := by decide +kernel
theorem dX8_associate_23 : decode cX8_associate 23 = .ok (.goto 4, 3) := by decide +kernel
theorem dX8_associate_26 : decode cX8_associate 26 = .ok (.iconst 1, 1) := by decide +kernel
theorem dX8_associate_27 : decode cX8_associate 27 = .ok (.invokevirtual 125, 3) := by decide +kernel
theorem dX8_associate_30 : decode cX8_associate 30 = .ok (.ifCond .eq 5, 3) := by decide +kernel
theorem dX8_associate_33 : decode cX8_associate 33 = .ok (.iconst 0, 1) := by decide +kernel
theorem dX8_associate_34 : decode cX8_associate 34 = .ok (.ireturn, 1) := by decide +kernel
theorem dX8_associate_35 : decode cX8_associate 35 = .ok (.aload_n 0, 1) := by decide +kernel
theorem dX8_associate_36 : decode cX8_associate 36 = .ok (.iload_n 1, 1) := by decide +kernel
theorem dX8_associate_37 : decode cX8_associate 37 = .ok (.iload_n 2, 1) := by decide +kernel
theorem dX8_associate_38 : decode cX8_associate 38 = .ok (.iload_n 3, 1) := by decide +kernel
theorem dX8_associate_39 : decode cX8_associate 39 = .ok (.invokevirtual 156, 3) := by decide +kernel
theorem dX8_associate_42 : decode cX8_associate 42 = .ok (.aload_n 0, 1) := by decide +kernel
theorem dX8_associate_43 : decode cX8_associate 43 = .ok (.invokevirtual 204, 3) := by decide +kernel
theorem dX8_associate_46 : decode cX8_associate 46 = .ok (.ireturn, 1) := by decide +kernel
theorem dX8_elements_0 : decode cX8_elements 0 = .ok (.aload_n 0, 1) := by decide +kernel
theorem dX8_elements_1 : decode cX8_elements 1 = .ok (.iload_n 1, 1) := by decide +kernel
theorem dX8_elements_2 : decode cX8_elements 2 = .ok (.iconst 0, 1) := by decide +kernel
theorem dX8_elements_3 : decode cX8_elements 3 = .ok (.sipush 1000, 3) := by decide +kernel
theorem dX8_elements_6 : decode cX8_elements 6 = .ok (.invokestatic 86, 3) := by decide +kernel
theorem dX8_elements_9 : decode cX8_elements 9 = .ok (.ifCond .eq 7, 3) := by decide +kernel
theorem dX8_elements_12 : decode cX8_elements 12 = .ok (.iconst 0, 1) := by decide +kernel
theorem dX8_elements_13 : decode cX8_elements 13 = .ok (.goto 4, 3) := by decide +kernel
theorem dX8_elements_16 : decode cX8_elements 16 = .ok (.iconst 1, 1) := by decide +kernel
theorem dX8_elements_17 : decode cX8_elements 17 = .ok (.invokevirtual 125, 3) := by decide +kernel
theorem dX8_elements_20 : decode cX8_elements 20 = .ok (.ifCond .eq 5, 3) := by decide +kernel
theorem dX8_elements_23 : decode cX8_elements 23 = .ok (.lconst 0, 1) := by decide +kernel
theorem dX8_elements_24 : decode cX8_elements 24 = .ok (.lreturn, 1) := by decide +kernel
theorem dX8_elements_25 : decode cX8_elements 25 = .ok (.lconst 0, 1) := by decide +kernel
theorem dX8_elements_26 : decode cX8_elements 26 = .ok (.lstore_n 2, 1) := by decide +kernel
theorem dX8_elements_27 : decode cX8_elements 27 = .ok (.iconst 1, 1) := by decide +kernel
theorem dX8_elements_28 : decode cX8_elements 28 = .ok (.istore 4, 2) := by decide +kernel
theorem dX8_elements_30 : decode cX8_elements 30 = .ok (.iload 4, 2) := by decide +kernel
theorem dX8_elements_32 : decode cX8_elements 32 = .ok (.iload_n 1, 1) := by decide +kernel
theorem dX8_elements_33 : decode cX8_elements 33 = .ok (.if_icmp .gt 64, 3) := by decide +kernel
theorem dX8_elements_36 : decode cX8_elements 36 = .ok (.iload_n 1, 1) := by decide +kernel
theorem dX8_elements_37 : decode cX8_elements 37 = .ok (.iload 4, 2) := by decide +kernel
theorem dX8_elements_39 : decode cX8_elements 39 = .ok (.irem, 1) := by decide +kernel
theorem dX8_elements_40 : decode cX8_elements 40 = .ok (.ifCond .ne 17, 3) := by decide +kernel
theorem dX8_elements_43 : decode cX8_elements 43 = .ok (.iload 4, 2) := by decide +kernel
theorem dX8_elements_45 : decode cX8_elements 45 = .ok (.i2l, 1) := by decide +kernel
theorem dX8_elements_46 : decode cX8_elements 46 = .ok (.iload 4, 2) := by decide +kernel
theorem dX8_elements_48 : decode cX8_elements 48 = .ok (.i2l, 1) := by decide +kernel
theorem dX8_elements_49 : decode cX8_elements 49 = .ok (.lmul, 1) := by decide +kernel
theorem dX8_elements_50 : decode cX8_elements 50 = .ok (.iload 4, 2) := by decide +kernel
theorem dX8_elements_52 : decode cX8_elements 52 = .ok (.i2l, 1) := by decide +kernel
theorem dX8_elements_53 : decode cX8_elements 53 = .ok (.lmul, 1) := by decide +kernel
theorem dX8_elements_54 : decode cX8_elements 54 = .ok (.goto 4, 3) := by decide +kernel
theorem dX8_elements_57 : decode cX8_elements 57 = .ok (.lconst 0, 1) := by decide +kernel
theorem dX8_elements_58 : decode cX8_elements 58 = .ok (.lstore 5, 2) := by decide +kernel
theorem dX8_elements_60 : decode cX8_elements 60 = .ok (.lload_n 2, 1) := by decide +kernel
theorem dX8_elements_61 : decode cX8_elements 61 = .ok (.aload_n 0, 1) := by decide +kernel
theorem dX8_elements_62 : decode cX8_elements 62 = .ok (.getfield 7, 3) := by decide +kernel
theorem dX8_elements_65 : decode cX8_elements 65 = .ok (.bipush 64, 2) := by decide +kernel
theorem dX8_elements_67 : decode cX8_elements 67 = .ok (.iaload, 1) := by decide +kernel
theorem dX8_elements_68 : decode cX8_elements 68 = .ok (.ifCond .ne 19, 3) := by decide +kernel
theorem dX8_elements_71 : decode cX8_elements 71 = .ok (.iload_n 1, 1) := by decide +kernel
theorem dX8_elements_72 : decode cX8_elements 72 = .ok (.iload 4, 2) := by decide +kernel
theorem dX8_elements_74 : decode cX8_elements 74 = .ok (.iadd, 1) := by decide +kernel
theorem dX8_elements_75 : decode cX8_elements 75 = .ok (.iconst 2, 1) := by decide +kernel
theorem dX8_elements_76 : decode cX8_elements 76 = .ok (.irem, 1) := by decide +kernel
theorem dX8_elements_77 : decode cX8_elements 77 = .ok (.iconst 1, 1) := by decide +kernel
theorem dX8_elements_78 : decode cX8_elements 78 = .ok (.if_icmp .ne 9, 3) := by decide +kernel
theorem dX8_elements_81 : decode cX8_elements 81 = .ok (.lload 5, 2) := by decide +kernel
theorem dX8_elements_83 : decode cX8_elements 83 = .ok (.lneg, 1) := by decide +kernel
theorem dX8_elements_84 : decode cX8_elements 84 = .ok (.goto 5, 3) := by decide +kernel
theorem dX8_elements_87 : decode cX8_elements 87 = .ok (.lload 5, 2) := by decide +kernel
theorem dX8_elements_89 : decode cX8_elements 89 = .ok (.ladd, 1) := by decide +kernel
theorem dX8_elements_90 : decode cX8_elements 90 = .ok (.lstore_n 2, 1) := by decide +kernel
theorem dX8_elements_91 : decode cX8_elements 91 = .ok (.iinc 4 1, 3) := by decide +kernel
theorem dX8_elements_94 : decode cX8_elements 94 = .ok (.goto (-64), 3) := by decide +kernel
theorem dX8_elements_97 : decode cX8_elements 97 = .ok (.iload_n 1, 1) := by decide +kernel
theorem dX8_elements_98 : decode cX8_elements 98 = .ok (.ifCond .ne 7, 3) := by decide +kernel
theorem dX8_elements_101 : decode cX8_elements 101 = .ok (.lconst 1, 1) := by decide +kernel
theorem dX8_elements_102 : decode cX8_elements 102 = .ok (.goto 24, 3) := by decide +kernel
theorem dX8_elements_105 : decode cX8_elements 105 = .ok (.aload_n 0, 1) := by decide +kernel
theorem dX8_elements_106 : decode cX8_elements 106 = .ok (.getfield 7, 3) := by decide +kernel
theorem dX8_elements_109 : decode cX8_elements 109 = .ok (.bipush 64, 2) := by decide +kernel
theorem dX8_elements_111 : decode cX8_elements 111 = .ok (.iaload, 1) := by decide +kernel
theorem dX8_elements_112 : decode cX8_elements 112 = .ok (.ifCond .ne 9, 3) := by decide +kernel
theorem dX8_elements_115 : decode cX8_elements 115 = .ok (.ldc2_w 207, 3) := by decide +kernel
theorem dX8_elements_118 : decode cX8_elements 118 = .ok (.goto 6, 3) := by decide +kernel
theorem dX8_elements_121 : decode cX8_elements 121 = .ok (.ldc2_w 209, 3) := by decide +kernel
theorem dX8_elements_124 : decode cX8_elements 124 = .ok (.lload_n 2, 1) := by decide +kernel
theorem dX8_elements_125 : decode cX8_elements 125 = .ok (.lmul, 1) := by decide +kernel
theorem dX8_elements_126 : decode cX8_elements 126 = .ok (.lreturn, 1) := by decide +kernel
theorem dX8_commuting_0 : decode cX8_commuting 0 = .ok (.aload_n 0, 1) := by decide +kernel
theorem dX8_commuting_1 : decode cX8_commuting 1 = .ok (.iload_n 1, 1) := by decide +kernel
theorem dX8_commuting_2 : decode cX8_commuting 2 = .ok (.invokestatic 121, 3) := by decide +kernel
theorem dX8_commuting_5 : decode cX8_commuting 5 = .ok (.ifCond .eq 7, 3) := by decide +kernel
theorem dX8_commuting_8 : decode cX8_commuting 8 = .ok (.iconst 0, 1) := by decide +kernel
theorem dX8_commuting_9 : decode cX8_commuting 9 = .ok (.goto 4, 3) := by decide +kernel
theorem dX8_commuting_12 : decode cX8_commuting 12 = .ok (.iconst 1, 1) := by decide +kernel
theorem dX8_commuting_13 : decode cX8_commuting 13 = .ok (.invokevirtual 125, 3) := by decide +kernel
theorem dX8_commuting_16 : decode cX8_commuting 16 = .ok (.ifCond .eq 5, 3) := by decide +kernel
theorem dX8_commuting_19 : decode cX8_commuting 19 = .ok (.iconst 0, 1) := by decide +kernel
theorem dX8_commuting_20 : decode cX8_commuting 20 = .ok (.ireturn, 1) := by decide +kernel
theorem dX8_commuting_21 : decode cX8_commuting 21 = .ok (.aload_n 0, 1) := by decide +kernel
theorem dX8_commuting_22 : decode cX8_commuting 22 = .ok (.invokevirtual 118, 3) := by decide +kernel
theorem dX8_commuting_25 : decode cX8_commuting 25 = .ok (.iconst 0, 1) := by decide +kernel
theorem dX8_commuting_26 : decode cX8_commuting 26 = .ok (.istore_n 2, 1) := by decide +kernel
theorem dX8_commuting_27 : decode cX8_commuting 27 = .ok (.iconst 0, 1) := by decide +kernel
theorem dX8_commuting_28 : decode cX8_commuting 28 = .ok (.istore_n 3, 1) := by decide +kernel
theorem dX8_commuting_29 : decode cX8_commuting 29 = .ok (.iload_n 3, 1) := by decide +kernel
theorem dX8_commuting_30 : decode cX8_commuting 30 = .ok (.aload_n 0, 1) := by decide +kernel
theorem dX8_commuting_31 : decode cX8_commuting 31 = .ok (.getfield 107, 3) := by decide +kernel
theorem dX8_commuting_34 : decode cX8_commuting 34 = .ok (.if_icmp .ge 148, 3) := by decide +kernel
theorem dX8_commuting_37 : decode cX8_commuting 37 = .ok (.aload_n 0, 1) := by decide +kernel
theorem dX8_commuting_38 : decode cX8_commuting 38 = .ok (.aload_n 0, 1) := by decide +kernel
theorem dX8_commuting_39 : decode cX8_commuting 39 = .ok (.getfield 25, 3) := by decide +kernel
theorem dX8_commuting_42 : decode cX8_commuting 42 = .ok (.iload_n 1, 1) := by decide +kernel
theorem dX8_commuting_43 : decode cX8_commuting 43 = .ok (.invokevirtual 131, 3) := by decide +kernel
theorem dX8_commuting_46 : decode cX8_commuting 46 = .ok (.iconst 0, 1) := by decide +kernel
theorem dX8_commuting_47 : decode cX8_commuting 47 = .ok (.istore 4, 2) := by decide +kernel
theorem dX8_commuting_49 : decode cX8_commuting 49 = .ok (.iload 4, 2) := by decide +kernel
theorem dX8_commuting_51 : decode cX8_commuting 51 = .ok (.bipush 8, 2) := by decide +kernel
theorem dX8_commuting_53 : decode cX8_commuting 53 = .ok (.if_icmp .ge 29, 3) := by decide +kernel
theorem dX8_commuting_56 : decode cX8_commuting 56 = .ok (.aload_n 0, 1) := by decide +kernel
theorem dX8_commuting_57 : decode cX8_commuting 57 = .ok (.getfield 29, 3) := by decide +kernel
theorem dX8_commuting_60 : decode cX8_commuting 60 = .ok (.iload 4, 2) := by decide +kernel
theorem dX8_commuting_62 : decode cX8_commuting 62 = .ok (.aload_n 0, 1) := by decide +kernel
theorem dX8_commuting_63 : decode cX8_commuting 63 = .ok (.getfield 48, 3) := by decide +kernel
theorem dX8_commuting_66 : decode cX8_commuting 66 = .ok (.bipush 8, 2) := by decide +kernel
theorem dX8_commuting_68 : decode cX8_commuting 68 = .ok (.iload_n 3, 1) := by decide +kernel
theorem dX8_commuting_69 : decode cX8_commuting 69 = .ok (.imul, 1) := by decide +kernel
theorem dX8_commuting_70 : decode cX8_commuting 70 = .ok (.iload 4, 2) := by decide +kernel
theorem dX8_commuting_72 : decode cX8_commuting 72 = .ok (.iadd, 1) := by decide +kernel
theorem dX8_commuting_73 : decode cX8_commuting 73 = .ok (.iaload, 1) := by decide +kernel
theorem dX8_commuting_74 : decode cX8_commuting 74 = .ok (.i2l, 1) := by decide +kernel
theorem dX8_commuting_75 : decode cX8_commuting 75 = .ok (.lastore, 1) := by decide +kernel
theorem dX8_commuting_76 : decode cX8_commuting 76 = .ok (.iinc 4 1, 3) := by decide +kernel
theorem dX8_commuting_79 : decode cX8_commuting 79 = .ok (.goto (-30), 3) := by decide +kernel
theorem dX8_commuting_82 : decode cX8_commuting 82 = .ok (.aload_n 0, 1) := by decide +kernel
theorem dX8_commuting_83 : decode cX8_commuting 83 = .ok (.aload_n 0, 1) := by decide +kernel
theorem dX8_commuting_84 : decode cX8_commuting 84 = .ok (.getfield 25, 3) := by decide +kernel
theorem dX8_commuting_87 : decode cX8_commuting 87 = .ok (.aload_n 0, 1) := by decide +kernel
theorem dX8_commuting_88 : decode cX8_commuting 88 = .ok (.getfield 29, 3) := by decide +kernel
theorem dX8_commuting_91 : decode cX8_commuting 91 = .ok (.aload_n 0, 1) := by decide +kernel
theorem dX8_commuting_92 : decode cX8_commuting 92 = .ok (.getfield 41, 3) := by decide +kernel
theorem dX8_commuting_95 : decode cX8_commuting 95 = .ok (.invokevirtual 148, 3) := by decide +kernel
theorem dX8_commuting_98 : decode cX8_commuting 98 = .ok (.aload_n 0, 1) := by decide +kernel
theorem dX8_commuting_99 : decode cX8_commuting 99 = .ok (.aload_n 0, 1) := by decide +kernel
theorem dX8_commuting_100 : decode cX8_commuting 100 = .ok (.getfield 29, 3) := by decide +kernel
theorem dX8_commuting_103 : decode cX8_commuting 103 = .ok (.aload_n 0, 1) := by decide +kernel
theorem dX8_commuting_104 : decode cX8_commuting 104 = .ok (.getfield 25, 3) := by decide +kernel
theorem dX8_commuting_107 : decode cX8_commuting 107 = .ok (.aload_n 0, 1) := by decide +kernel
theorem dX8_commuting_108 : decode cX8_commuting 108 = .ok (.getfield 35, 3) := by decide +kernel
theorem dX8_commuting_111 : decode cX8_commuting 111 = .ok (.invokevirtual 148, 3) := by decide +kernel
theorem dX8_commuting_114 : decode cX8_commuting 114 = .ok (.iconst 1, 1) := by decide +kernel
theorem dX8_commuting_115 : decode cX8_commuting 115 = .ok (.istore 4, 2) := by decide +kernel
theorem dX8_commuting_117 : decode cX8_commuting 117 = .ok (.iconst 0, 1) := by decide +kernel
theorem dX8_commuting_118 : decode cX8_commuting 118 = .ok (.istore 5, 2) := by decide +kernel
theorem dX8_commuting_120 : decode cX8_commuting 120 = .ok (.iload 5, 2) := by decide +kernel
theorem dX8_commuting_122 : decode cX8_commuting 122 = .ok (.bipush 8, 2) := by decide +kernel
theorem dX8_commuting_124 : decode cX8_commuting 124 = .ok (.if_icmp .ge 39, 3) := by decide +kernel
theorem dX8_commuting_127 : decode cX8_commuting 127 = .ok (.iload 4, 2) := by decide +kernel
theorem dX8_commuting_129 : decode cX8_commuting 129 = .ok (.ifCond .eq 25, 3) := by decide +kernel
theorem dX8_commuting_132 : decode cX8_commuting 132 = .ok (.aload_n 0, 1) := by decide +kernel
theorem dX8_commuting_133 : decode cX8_commuting 133 = .ok (.getfield 41, 3) := by decide +kernel
theorem dX8_commuting_136 : decode cX8_commuting 136 = .ok (.iload 5, 2) := by decide +kernel
theorem dX8_commuting_138 : decode cX8_commuting 138 = .ok (.laload, 1) := by decide +kernel
theorem dX8_commuting_139 : decode cX8_commuting 139 = .ok (.aload_n 0, 1) := by decide +kernel
theorem dX8_commuting_140 : decode cX8_commuting 140 = .ok (.getfield 35, 3) := by decide +kernel
theorem dX8_commuting_143 : decode cX8_commuting 143 = .ok (.iload 5, 2) := by decide +kernel
theorem dX8_commuting_145 : decode cX8_commuting 145 = .ok (.laload, 1) := by decide +kernel
theorem dX8_commuting_146 : decode cX8_commuting 146 = .ok (.lcmp, 1) := by decide +kernel
theorem dX8_commuting_147 : decode cX8_commuting 147 = .ok (.ifCond .ne 7, 3) := by decide +kernel
theorem dX8_commuting_150 : decode cX8_commuting 150 = .ok (.iconst 1, 1) := by decide +kernel
theorem dX8_commuting_151 : decode cX8_commuting 151 = .ok (.goto 4, 3) := by decide +kernel
theorem dX8_commuting_154 : decode cX8_commuting 154 = .ok (.iconst 0, 1) := by decide +kernel
theorem dX8_commuting_155 : decode cX8_commuting 155 = .ok (.istore 4, 2) := by decide +kernel
theorem dX8_commuting_157 : decode cX8_commuting 157 = .ok (.iinc 5 1, 3) := by decide +kernel
theorem dX8_commuting_160 : decode cX8_commuting 160 = .ok (.goto (-40), 3) := by decide +kernel
theorem dX8_commuting_163 : decode cX8_commuting 163 = .ok (.iload_n 2, 1) := by decide +kernel
theorem dX8_commuting_164 : decode cX8_commuting 164 = .ok (.iload 4, 2) := by decide +kernel
theorem dX8_commuting_166 : decode cX8_commuting 166 = .ok (.ifCond .eq 7, 3) := by decide +kernel
theorem dX8_commuting_169 : decode cX8_commuting 169 = .ok (.iconst 1, 1) := by decide +kernel
theorem dX8_commuting_170 : decode cX8_commuting 170 = .ok (.goto 4, 3) := by decide +kernel
theorem dX8_commuting_173 : decode cX8_commuting 173 = .ok (.iconst 0, 1) := by decide +kernel
theorem dX8_commuting_174 : decode cX8_commuting 174 = .ok (.iadd, 1) := by decide +kernel
theorem dX8_commuting_175 : decode cX8_commuting 175 = .ok (.istore_n 2, 1) := by decide +kernel
theorem dX8_commuting_176 : decode cX8_commuting 176 = .ok (.iinc 3 1, 3) := by decide +kernel
theorem dX8_commuting_179 : decode cX8_commuting 179 = .ok (.goto (-150), 3) := by decide +kernel
theorem dX8_commuting_182 : decode cX8_commuting 182 = .ok (.iload_n 2, 1) := by decide +kernel
theorem dX8_commuting_183 : decode cX8_commuting 183 = .ok (.ireturn, 1) := by decide +kernel
theorem dX8_append_0 : decode cX8_append 0 = .ok (.aload_n 0, 1) := by decide +kernel
theorem dX8_append_1 : decode cX8_append 1 = .ok (.iload_n 1, 1) := by decide +kernel
theorem dX8_append_2 : decode cX8_append 2 = .ok (.iconst 0, 1) := by decide +kernel
theorem dX8_append_3 : decode cX8_append 3 = .ok (.bipush 127, 2) := by decide +kernel
theorem dX8_append_5 : decode cX8_append 5 = .ok (.invokestatic 86, 3) := by decide +kernel
theorem dX8_append_8 : decode cX8_append 8 = .ok (.ifCond .ne 7, 3) := by decide +kernel
theorem dX8_append_11 : decode cX8_append 11 = .ok (.iconst 1, 1) := by decide +kernel
theorem dX8_append_12 : decode cX8_append 12 = .ok (.goto 17, 3) := by decide +kernel
theorem dX8_append_15 : decode cX8_append 15 = .ok (.aload_n 0, 1) := by decide +kernel
theorem dX8_append_16 : decode cX8_append 16 = .ok (.getfield 211, 3) := by decide +kernel
theorem dX8_append_19 : decode cX8_append 19 = .ok (.bipush 100, 2) := by decide +kernel
theorem dX8_append_21 : decode cX8_append 21 = .ok (.if_icmp .ne 7, 3) := by decide +kernel
theorem dX8_append_24 : decode cX8_append 24 = .ok (.iconst 2, 1) := by decide +kernel
theorem dX8_append_25 : decode cX8_append 25 = .ok (.goto 4, 3) := by decide +kernel
theorem dX8_append_28 : decode cX8_append 28 = .ok (.iconst 0, 1) := by decide +kernel
theorem dX8_append_29 : decode cX8_append 29 = .ok (.invokevirtual 125, 3) := by decide +kernel
theorem dX8_append_32 : decode cX8_append 32 = .ok (.ifCond .eq 5, 3) := by decide +kernel
theorem dX8_append_35 : decode cX8_append 35 = .ok (.iconst 0, 1) := by decide +kernel
theorem dX8_append_36 : decode cX8_append 36 = .ok (.ireturn, 1) := by decide +kernel
theorem dX8_append_37 : decode cX8_append 37 = .ok (.aload_n 0, 1) := by decide +kernel
theorem dX8_append_38 : decode cX8_append 38 = .ok (.getfield 16, 3) := by decide +kernel
theorem dX8_append_41 : decode cX8_append 41 = .ok (.aload_n 0, 1) := by decide +kernel
theorem dX8_append_42 : decode cX8_append 42 = .ok (.getfield 211, 3) := by decide +kernel
theorem dX8_append_45 : decode cX8_append 45 = .ok (.iload_n 1, 1) := by decide +kernel
theorem dX8_append_46 : decode cX8_append 46 = .ok (.iastore, 1) := by decide +kernel
theorem dX8_append_47 : decode cX8_append 47 = .ok (.aload_n 0, 1) := by decide +kernel
theorem dX8_append_48 : decode cX8_append 48 = .ok (.dup, 1) := by decide +kernel
theorem dX8_append_49 : decode cX8_append 49 = .ok (.getfield 211, 3) := by decide +kernel
theorem dX8_append_52 : decode cX8_append 52 = .ok (.iconst 1, 1) := by decide +kernel
theorem dX8_append_53 : decode cX8_append 53 = .ok (.iadd, 1) := by decide +kernel
theorem dX8_append_54 : decode cX8_append 54 = .ok (.putfield 211, 3) := by decide +kernel
theorem dX8_append_57 : decode cX8_append 57 = .ok (.aload_n 0, 1) := by decide +kernel
theorem dX8_append_58 : decode cX8_append 58 = .ok (.getfield 211, 3) := by decide +kernel
theorem dX8_append_61 : decode cX8_append 61 = .ok (.ireturn, 1) := by decide +kernel
theorem dX8_clearText_0 : decode cX8_clearText 0 = .ok (.aload_n 0, 1) := by decide +kernel
theorem dX8_clearText_1 : decode cX8_clearText 1 = .ok (.iconst 0, 1) := by decide +kernel
theorem dX8_clearText_2 : decode cX8_clearText 2 = .ok (.putfield 83, 3) := by decide +kernel
theorem dX8_clearText_5 : decode cX8_clearText 5 = .ok (.aload_n 0, 1) := by decide +kernel
theorem dX8_clearText_6 : decode cX8_clearText 6 = .ok (.getfield 211, 3) := by decide +kernel
theorem dX8_clearText_9 : decode cX8_clearText 9 = .ok (.istore_n 1, 1) := by decide +kernel
theorem dX8_clearText_10 : decode cX8_clearText 10 = .ok (.aload_n 0, 1) := by decide +kernel
theorem dX8_clearText_11 : decode cX8_clearText 11 = .ok (.iconst 0, 1) := by decide +kernel
theorem dX8_clearText_12 : decode cX8_clearText 12 = .ok (.putfield 211, 3) := by decide +kernel
theorem dX8_clearText_15 : decode cX8_clearText 15 = .ok (.iload_n 1, 1) := by decide +kernel
theorem dX8_clearText_16 : decode cX8_clearText 16 = .ok (.ireturn, 1) := by decide +kernel
theorem dX8_behind_0 : decode cX8_behind 0 = .ok (.iload_n 2, 1) := by decide +kernel
theorem dX8_behind_1 : decode cX8_behind 1 = .ok (.bipush 97, 2) := by decide +kernel
theorem dX8_behind_3 : decode cX8_behind 3 = .ok (.bipush 104, 2) := by decide +kernel
theorem dX8_behind_5 : decode cX8_behind 5 = .ok (.invokestatic 86, 3) := by decide +kernel
theorem dX8_behind_8 : decode cX8_behind 8 = .ok (.istore_n 3, 1) := by decide +kernel
theorem dX8_behind_9 : decode cX8_behind 9 = .ok (.iload_n 1, 1) := by decide +kernel
theorem dX8_behind_10 : decode cX8_behind 10 = .ok (.tableswitch 109 0 3 #[30, 40, 52, 52], 30) := by decide +kernel
theorem dX8_behind_40 : decode cX8_behind 40 = .ok (.iload_n 3, 1) := by decide +kernel
theorem dX8_behind_41 : decode cX8_behind 41 = .ok (.ifCond .eq 7, 3) := by decide +kernel
theorem dX8_behind_44 : decode cX8_behind 44 = .ok (.iconst 1, 1) := by decide +kernel
theorem dX8_behind_45 : decode cX8_behind 45 = .ok (.goto 4, 3) := by decide +kernel
theorem dX8_behind_48 : decode cX8_behind 48 = .ok (.iconst (-1), 1) := by decide +kernel
theorem dX8_behind_49 : decode cX8_behind 49 = .ok (.ireturn, 1) := by decide +kernel
theorem dX8_behind_50 : decode cX8_behind 50 = .ok (.iload_n 2, 1) := by decide +kernel
theorem dX8_behind_51 : decode cX8_behind 51 = .ok (.bipush 61, 2) := by decide +kernel
theorem dX8_behind_53 : decode cX8_behind 53 = .ok (.if_icmp .ne 7, 3) := by decide +kernel
theorem dX8_behind_56 : decode cX8_behind 56 = .ok (.iconst 2, 1) := by decide +kernel
theorem dX8_behind_57 : decode cX8_behind 57 = .ok (.goto 4, 3) := by decide +kernel
theorem dX8_behind_60 : decode cX8_behind 60 = .ok (.iconst (-1), 1) := by decide +kernel
theorem dX8_behind_61 : decode cX8_behind 61 = .ok (.ireturn, 1) := by decide +kernel
theorem dX8_behind_62 : decode cX8_behind 62 = .ok (.iload_n 2, 1) := by decide +kernel
theorem dX8_behind_63 : decode cX8_behind 63 = .ok (.bipush 40, 2) := by decide +kernel
theorem dX8_behind_65 : decode cX8_behind 65 = .ok (.if_icmp .ne 24, 3) := by decide +kernel
theorem dX8_behind_68 : decode cX8_behind 68 = .ok (.aload_n 0, 1) := by decide +kernel
theorem dX8_behind_69 : decode cX8_behind 69 = .ok (.getfield 214, 3) := by decide +kernel
theorem dX8_behind_72 : decode cX8_behind 72 = .ok (.bipush 6, 2) := by decide +kernel
theorem dX8_behind_74 : decode cX8_behind 74 = .ok (.if_icmp .ge 15, 3) := by decide +kernel
theorem dX8_behind_77 : decode cX8_behind 77 = .ok (.aload_n 0, 1) := by decide +kernel
theorem dX8_behind_78 : decode cX8_behind 78 = .ok (.dup, 1) := by decide +kernel
theorem dX8_behind_79 : decode cX8_behind 79 = .ok (.getfield 214, 3) := by decide +kernel
theorem dX8_behind_82 : decode cX8_behind 82 = .ok (.iconst 1, 1) := by decide +kernel
theorem dX8_behind_83 : decode cX8_behind 83 = .ok (.iadd, 1) := by decide +kernel
theorem dX8_behind_84 : decode cX8_behind 84 = .ok (.putfield 214, 3) := by decide +kernel
theorem dX8_behind_87 : decode cX8_behind 87 = .ok (.iconst 2, 1) := by decide +kernel
theorem dX8_behind_88 : decode cX8_behind 88 = .ok (.ireturn, 1) := by decide +kernel
theorem dX8_behind_89 : decode cX8_behind 89 = .ok (.iload_n 3, 1) := by decide +kernel
theorem dX8_behind_90 : decode cX8_behind 90 = .ok (.ifCond .eq 7, 3) := by decide +kernel
theorem dX8_behind_93 : decode cX8_behind 93 = .ok (.iconst 4, 1) := by decide +kernel
theorem dX8_behind_94 : decode cX8_behind 94 = .ok (.goto 24, 3) := by decide +kernel
theorem dX8_behind_97 : decode cX8_behind 97 = .ok (.iload_n 1, 1) := by decide +kernel
theorem dX8_behind_98 : decode cX8_behind 98 = .ok (.iconst 2, 1) := by decide +kernel
theorem dX8_behind_99 : decode cX8_behind 99 = .ok (.if_icmp .ne 18, 3) := by decide +kernel
theorem dX8_behind_102 : decode cX8_behind 102 = .ok (.iload_n 2, 1) := by decide +kernel
theorem dX8_behind_103 : decode cX8_behind 103 = .ok (.bipush 49, 2) := by decide +kernel
theorem dX8_behind_105 : decode cX8_behind 105 = .ok (.bipush 57, 2) := by decide +kernel
theorem dX8_behind_107 : decode cX8_behind 107 = .ok (.invokestatic 86, 3) := by decide +kernel
theorem dX8_behind_110 : decode cX8_behind 110 = .ok (.ifCond .eq 7, 3) := by decide +kernel
theorem dX8_behind_113 : decode cX8_behind 113 = .ok (.iconst 3, 1) := by decide +kernel
theorem dX8_behind_114 : decode cX8_behind 114 = .ok (.goto 4, 3) := by decide +kernel
theorem dX8_behind_117 : decode cX8_behind 117 = .ok (.iconst (-1), 1) := by decide +kernel
theorem dX8_behind_118 : decode cX8_behind 118 = .ok (.ireturn, 1) := by decide +kernel
theorem dX8_behind_119 : decode cX8_behind 119 = .ok (.iload_n 2, 1) := by decide +kernel
theorem dX8_behind_120 : decode cX8_behind 120 = .ok (.bipush 41, 2) := by decide +kernel
theorem dX8_behind_122 : decode cX8_behind 122 = .ok (.if_icmp .ne 22, 3) := by decide +kernel
theorem dX8_behind_125 : decode cX8_behind 125 = .ok (.aload_n 0, 1) := by decide +kernel
theorem dX8_behind_126 : decode cX8_behind 126 = .ok (.getfield 214, 3) := by decide +kernel
theorem dX8_behind_129 : decode cX8_behind 129 = .ok (.ifCond .le 15, 3) := by decide +kernel
theorem dX8_behind_132 : decode cX8_behind 132 = .ok (.aload_n 0, 1) := by decide +kernel
theorem dX8_behind_133 : decode cX8_behind 133 = .ok (.dup, 1) := by decide +kernel
theorem dX8_behind_134 : decode cX8_behind 134 = .ok (.getfield 214, 3) := by decide +kernel
theorem dX8_behind_137 : decode cX8_behind 137 = .ok (.iconst 1, 1) := by decide +kernel
theorem dX8_behind_138 : decode cX8_behind 138 = .ok (.isub, 1) := by decide +kernel
theorem dX8_behind_139 : decode cX8_behind 139 = .ok (.putfield 214, 3) := by decide +kernel
theorem dX8_behind_142 : decode cX8_behind 142 = .ok (.iconst 4, 1) := by decide +kernel
theorem dX8_behind_143 : decode cX8_behind 143 = .ok (.ireturn, 1) := by decide +kernel
theorem dX8_behind_144 : decode cX8_behind 144 = .ok (.iload_n 2, 1) := by decide +kernel
theorem dX8_behind_145 : decode cX8_behind 145 = .ok (.bipush 39, 2) := by decide +kernel
theorem dX8_behind_147 : decode cX8_behind 147 = .ok (.if_icmp .ne 7, 3) := by decide +kernel
theorem dX8_behind_150 : decode cX8_behind 150 = .ok (.iconst 4, 1) := by decide +kernel
theorem dX8_behind_151 : decode cX8_behind 151 = .ok (.goto 43, 3) := by decide +kernel
theorem dX8_behind_154 : decode cX8_behind 154 = .ok (.iload_n 2, 1) := by decide +kernel
theorem dX8_behind_155 : decode cX8_behind 155 = .ok (.bipush 42, 2) := by decide +kernel
theorem dX8_behind_157 : decode cX8_behind 157 = .ok (.if_icmp .eq 15, 3) := by decide +kernel
theorem dX8_behind_160 : decode cX8_behind 160 = .ok (.iload_n 2, 1) := by decide +kernel
theorem dX8_behind_161 : decode cX8_behind 161 = .ok (.bipush 43, 2) := by decide +kernel
theorem dX8_behind_163 : decode cX8_behind 163 = .ok (.if_icmp .eq 9, 3) := by decide +kernel
theorem dX8_behind_166 : decode cX8_behind 166 = .ok (.iload_n 2, 1) := by decide +kernel
theorem dX8_behind_167 : decode cX8_behind 167 = .ok (.bipush 45, 2) := by decide +kernel
theorem dX8_behind_169 : decode cX8_behind 169 = .ok (.if_icmp .ne 7, 3) := by decide +kernel
theorem dX8_behind_172 : decode cX8_behind 172 = .ok (.iconst 2, 1) := by decide +kernel
theorem dX8_behind_173 : decode cX8_behind 173 = .ok (.goto 21, 3) := by decide +kernel
theorem dX8_behind_176 : decode cX8_behind 176 = .ok (.iload_n 2, 1) := by decide +kernel
theorem dX8_behind_177 : decode cX8_behind 177 = .ok (.bipush 59, 2) := by decide +kernel
theorem dX8_behind_179 : decode cX8_behind 179 = .ok (.if_icmp .ne 14, 3) := by decide +kernel
theorem dX8_behind_182 : decode cX8_behind 182 = .ok (.aload_n 0, 1) := by decide +kernel
theorem dX8_behind_183 : decode cX8_behind 183 = .ok (.getfield 214, 3) := by decide +kernel
theorem dX8_behind_186 : decode cX8_behind 186 = .ok (.ifCond .ne 7, 3) := by decide +kernel
theorem dX8_behind_189 : decode cX8_behind 189 = .ok (.iconst 0, 1) := by decide +kernel
theorem dX8_behind_190 : decode cX8_behind 190 = .ok (.goto 4, 3) := by decide +kernel
theorem dX8_behind_193 : decode cX8_behind 193 = .ok (.iconst (-1), 1) := by decide +kernel
theorem dX8_behind_194 : decode cX8_behind 194 = .ok (.ireturn, 1) := by decide +kernel
theorem dX8_fault_0 : decode cX8_fault 0 = .ok (.aload_n 0, 1) := by decide +kernel
theorem dX8_fault_1 : decode cX8_fault 1 = .ok (.iconst 0, 1) := by decide +kernel
theorem dX8_fault_2 : decode cX8_fault 2 = .ok (.putfield 214, 3) := by decide +kernel
theorem dX8_fault_5 : decode cX8_fault 5 = .ok (.iconst 0, 1) := by decide +kernel
theorem dX8_fault_6 : decode cX8_fault 6 = .ok (.istore_n 1, 1) := by decide +kernel
theorem dX8_fault_7 : decode cX8_fault 7 = .ok (.iconst 0, 1) := by decide +kernel
theorem dX8_fault_8 : decode cX8_fault 8 = .ok (.istore_n 2, 1) := by decide +kernel
theorem dX8_fault_9 : decode cX8_fault 9 = .ok (.iload_n 2, 1) := by decide +kernel
theorem dX8_fault_10 : decode cX8_fault 10 = .ok (.aload_n 0, 1) := by decide +kernel
theorem dX8_fault_11 : decode cX8_fault 11 = .ok (.getfield 211, 3) := by decide +kernel
theorem dX8_fault_14 : decode cX8_fault 14 = .ok (.if_icmp .ge 28, 3) := by decide +kernel
theorem dX8_fault_17 : decode cX8_fault 17 = .ok (.aload_n 0, 1) := by decide +kernel
theorem dX8_fault_18 : decode cX8_fault 18 = .ok (.iload_n 1, 1) := by decide +kernel
theorem dX8_fault_19 : decode cX8_fault 19 = .ok (.aload_n 0, 1) := by decide +kernel
theorem dX8_fault_20 : decode cX8_fault 20 = .ok (.getfield 16, 3) := by decide +kernel
theorem dX8_fault_23 : decode cX8_fault 23 = .ok (.iload_n 2, 1) := by decide +kernel
theorem dX8_fault_24 : decode cX8_fault 24 = .ok (.iaload, 1) := by decide +kernel
theorem dX8_fault_25 : decode cX8_fault 25 = .ok (.invokevirtual 217, 3) := by decide +kernel
theorem dX8_fault_28 : decode cX8_fault 28 = .ok (.istore_n 1, 1) := by decide +kernel
theorem dX8_fault_29 : decode cX8_fault 29 = .ok (.iload_n 1, 1) := by decide +kernel
theorem dX8_fault_30 : decode cX8_fault 30 = .ok (.iconst (-1), 1) := by decide +kernel
theorem dX8_fault_31 : decode cX8_fault 31 = .ok (.if_icmp .ne 5, 3) := by decide +kernel
theorem dX8_fault_34 : decode cX8_fault 34 = .ok (.iload_n 2, 1) := by decide +kernel
theorem dX8_fault_35 : decode cX8_fault 35 = .ok (.ireturn, 1) := by decide +kernel
theorem dX8_fault_36 : decode cX8_fault 36 = .ok (.iinc 2 1, 3) := by decide +kernel
theorem dX8_fault_39 : decode cX8_fault 39 = .ok (.goto (-30), 3) := by decide +kernel
theorem dX8_fault_42 : decode cX8_fault 42 = .ok (.iload_n 1, 1) := by decide +kernel
theorem dX8_fault_43 : decode cX8_fault 43 = .ok (.ifCond .ne 7, 3) := by decide +kernel
theorem dX8_fault_46 : decode cX8_fault 46 = .ok (.iconst (-1), 1) := by decide +kernel
theorem dX8_fault_47 : decode cX8_fault 47 = .ok (.goto 7, 3) := by decide +kernel
theorem dX8_fault_50 : decode cX8_fault 50 = .ok (.aload_n 0, 1) := by decide +kernel
theorem dX8_fault_51 : decode cX8_fault 51 = .ok (.getfield 211, 3) := by decide +kernel
theorem dX8_fault_54 : decode cX8_fault 54 = .ok (.ireturn, 1) := by decide +kernel
theorem dX8_opens_0 : decode cX8_opens 0 = .ok (.aload_n 0, 1) := by decide +kernel
theorem dX8_opens_1 : decode cX8_opens 1 = .ok (.getfield 66, 3) := by decide +kernel
theorem dX8_opens_4 : decode cX8_opens 4 = .ok (.aload_n 0, 1) := by decide +kernel
theorem dX8_opens_5 : decode cX8_opens 5 = .ok (.getfield 214, 3) := by decide +kernel
theorem dX8_opens_8 : decode cX8_opens 8 = .ok (.iconst 0, 1) := by decide +kernel
theorem dX8_opens_9 : decode cX8_opens 9 = .ok (.iastore, 1) := by decide +kernel
theorem dX8_opens_10 : decode cX8_opens 10 = .ok (.aload_n 0, 1) := by decide +kernel
theorem dX8_opens_11 : decode cX8_opens 11 = .ok (.getfield 69, 3) := by decide +kernel
theorem dX8_opens_14 : decode cX8_opens 14 = .ok (.aload_n 0, 1) := by decide +kernel
theorem dX8_opens_15 : decode cX8_opens 15 = .ok (.getfield 214, 3) := by decide +kernel
theorem dX8_opens_18 : decode cX8_opens 18 = .ok (.iconst 0, 1) := by decide +kernel
theorem dX8_opens_19 : decode cX8_opens 19 = .ok (.bastore, 1) := by decide +kernel
theorem dX8_opens_20 : decode cX8_opens 20 = .ok (.aload_n 0, 1) := by decide +kernel
theorem dX8_opens_21 : decode cX8_opens 21 = .ok (.getfield 73, 3) := by decide +kernel
theorem dX8_opens_24 : decode cX8_opens 24 = .ok (.aload_n 0, 1) := by decide +kernel
theorem dX8_opens_25 : decode cX8_opens 25 = .ok (.getfield 214, 3) := by decide +kernel
theorem dX8_opens_28 : decode cX8_opens 28 = .ok (.iconst 1, 1) := by decide +kernel
theorem dX8_opens_29 : decode cX8_opens 29 = .ok (.iastore, 1) := by decide +kernel
theorem dX8_opens_30 : decode cX8_opens 30 = .ok (.return_, 1) := by decide +kernel
theorem dX8_ends_0 : decode cX8_ends 0 = .ok (.iconst 0, 1) := by decide +kernel
theorem dX8_ends_1 : decode cX8_ends 1 = .ok (.istore_n 1, 1) := by decide +kernel
theorem dX8_ends_2 : decode cX8_ends 2 = .ok (.iload_n 1, 1) := by decide +kernel
theorem dX8_ends_3 : decode cX8_ends 3 = .ok (.bipush 8, 2) := by decide +kernel
theorem dX8_ends_5 : decode cX8_ends 5 = .ok (.if_icmp .ge 28, 3) := by decide +kernel
theorem dX8_ends_8 : decode cX8_ends 8 = .ok (.aload_n 0, 1) := by decide +kernel
theorem dX8_ends_9 : decode cX8_ends 9 = .ok (.getfield 76, 3) := by decide +kernel
theorem dX8_ends_12 : decode cX8_ends 12 = .ok (.iload_n 1, 1) := by decide +kernel
theorem dX8_ends_13 : decode cX8_ends 13 = .ok (.dup2, 1) := by decide +kernel
theorem dX8_ends_14 : decode cX8_ends 14 = .ok (.laload, 1) := by decide +kernel
theorem dX8_ends_15 : decode cX8_ends 15 = .ok (.aload_n 0, 1) := by decide +kernel
theorem dX8_ends_16 : decode cX8_ends 16 = .ok (.getfield 73, 3) := by decide +kernel
theorem dX8_ends_19 : decode cX8_ends 19 = .ok (.aload_n 0, 1) := by decide +kernel
theorem dX8_ends_20 : decode cX8_ends 20 = .ok (.getfield 214, 3) := by decide +kernel
theorem dX8_ends_23 : decode cX8_ends 23 = .ok (.iaload, 1) := by decide +kernel
theorem dX8_ends_24 : decode cX8_ends 24 = .ok (.i2l, 1) := by decide +kernel
theorem dX8_ends_25 : decode cX8_ends 25 = .ok (.lmul, 1) := by decide +kernel
theorem dX8_ends_26 : decode cX8_ends 26 = .ok (.lastore, 1) := by decide +kernel
theorem dX8_ends_27 : decode cX8_ends 27 = .ok (.iinc 1 1, 3) := by decide +kernel
theorem dX8_ends_30 : decode cX8_ends 30 = .ok (.goto (-28), 3) := by decide +kernel
theorem dX8_ends_33 : decode cX8_ends 33 = .ok (.aload_n 0, 1) := by decide +kernel
theorem dX8_ends_34 : decode cX8_ends 34 = .ok (.aload_n 0, 1) := by decide +kernel
theorem dX8_ends_35 : decode cX8_ends 35 = .ok (.getfield 220, 3) := by decide +kernel
theorem dX8_ends_38 : decode cX8_ends 38 = .ok (.ifCond .eq 18, 3) := by decide +kernel
theorem dX8_ends_41 : decode cX8_ends 41 = .ok (.aload_n 0, 1) := by decide +kernel
theorem dX8_ends_42 : decode cX8_ends 42 = .ok (.getfield 76, 3) := by decide +kernel
theorem dX8_ends_45 : decode cX8_ends 45 = .ok (.iconst 1, 1) := by decide +kernel
theorem dX8_ends_46 : decode cX8_ends 46 = .ok (.invokestatic 142, 3) := by decide +kernel
theorem dX8_ends_49 : decode cX8_ends 49 = .ok (.ifCond .eq 7, 3) := by decide +kernel
theorem dX8_ends_52 : decode cX8_ends 52 = .ok (.iconst 1, 1) := by decide +kernel
theorem dX8_ends_53 : decode cX8_ends 53 = .ok (.goto 4, 3) := by decide +kernel
theorem dX8_ends_56 : decode cX8_ends 56 = .ok (.iconst 0, 1) := by decide +kernel
theorem dX8_ends_57 : decode cX8_ends 57 = .ok (.putfield 220, 3) := by decide +kernel
theorem dX8_ends_60 : decode cX8_ends 60 = .ok (.aload_n 0, 1) := by decide +kernel
theorem dX8_ends_61 : decode cX8_ends 61 = .ok (.getfield 73, 3) := by decide +kernel
theorem dX8_ends_64 : decode cX8_ends 64 = .ok (.aload_n 0, 1) := by decide +kernel
theorem dX8_ends_65 : decode cX8_ends 65 = .ok (.getfield 214, 3) := by decide +kernel
theorem dX8_ends_68 : decode cX8_ends 68 = .ok (.iconst 1, 1) := by decide +kernel
theorem dX8_ends_69 : decode cX8_ends 69 = .ok (.iastore, 1) := by decide +kernel
theorem dX8_ends_70 : decode cX8_ends 70 = .ok (.aload_n 0, 1) := by decide +kernel
theorem dX8_ends_71 : decode cX8_ends 71 = .ok (.getfield 69, 3) := by decide +kernel
theorem dX8_ends_74 : decode cX8_ends 74 = .ok (.aload_n 0, 1) := by decide +kernel
theorem dX8_ends_75 : decode cX8_ends 75 = .ok (.getfield 214, 3) := by decide +kernel
theorem dX8_ends_78 : decode cX8_ends 78 = .ok (.baload, 1) := by decide +kernel
theorem dX8_ends_79 : decode cX8_ends 79 = .ok (.ifCond .eq 82, 3) := by decide +kernel
theorem dX8_ends_82 : decode cX8_ends 82 = .ok (.aload_n 0, 1) := by decide +kernel
theorem dX8_ends_83 : decode cX8_ends 83 = .ok (.getfield 220, 3) := by decide +kernel
theorem dX8_ends_86 : decode cX8_ends 86 = .ok (.ifCond .eq 75, 3) := by decide +kernel
theorem dX8_ends_89 : decode cX8_ends 89 = .ok (.iconst 0, 1) := by decide +kernel
theorem dX8_ends_90 : decode cX8_ends 90 = .ok (.istore_n 1, 1) := by decide +kernel
theorem dX8_ends_91 : decode cX8_ends 91 = .ok (.iload_n 1, 1) := by decide +kernel
theorem dX8_ends_92 : decode cX8_ends 92 = .ok (.bipush 8, 2) := by decide +kernel
theorem dX8_ends_94 : decode cX8_ends 94 = .ok (.if_icmp .ge 29, 3) := by decide +kernel
theorem dX8_ends_97 : decode cX8_ends 97 = .ok (.aload_n 0, 1) := by decide +kernel
theorem dX8_ends_98 : decode cX8_ends 98 = .ok (.getfield 25, 3) := by decide +kernel
theorem dX8_ends_101 : decode cX8_ends 101 = .ok (.iload_n 1, 1) := by decide +kernel
theorem dX8_ends_102 : decode cX8_ends 102 = .ok (.aload_n 0, 1) := by decide +kernel
theorem dX8_ends_103 : decode cX8_ends 103 = .ok (.getfield 63, 3) := by decide +kernel
theorem dX8_ends_106 : decode cX8_ends 106 = .ok (.bipush 8, 2) := by decide +kernel
theorem dX8_ends_108 : decode cX8_ends 108 = .ok (.aload_n 0, 1) := by decide +kernel
theorem dX8_ends_109 : decode cX8_ends 109 = .ok (.getfield 214, 3) := by decide +kernel
theorem dX8_ends_112 : decode cX8_ends 112 = .ok (.imul, 1) := by decide +kernel
theorem dX8_ends_113 : decode cX8_ends 113 = .ok (.iload_n 1, 1) := by decide +kernel
theorem dX8_ends_114 : decode cX8_ends 114 = .ok (.iadd, 1) := by decide +kernel
theorem dX8_ends_115 : decode cX8_ends 115 = .ok (.laload, 1) := by decide +kernel
theorem dX8_ends_116 : decode cX8_ends 116 = .ok (.lastore, 1) := by decide +kernel
theorem dX8_ends_117 : decode cX8_ends 117 = .ok (.iinc 1 1, 3) := by decide +kernel
theorem dX8_ends_120 : decode cX8_ends 120 = .ok (.goto (-29), 3) := by decide +kernel
theorem dX8_ends_123 : decode cX8_ends 123 = .ok (.aload_n 0, 1) := by decide +kernel
theorem dX8_ends_124 : decode cX8_ends 124 = .ok (.aload_n 0, 1) := by decide +kernel
theorem dX8_ends_125 : decode cX8_ends 125 = .ok (.getfield 25, 3) := by decide +kernel
theorem dX8_ends_128 : decode cX8_ends 128 = .ok (.aload_n 0, 1) := by decide +kernel
theorem dX8_ends_129 : decode cX8_ends 129 = .ok (.getfield 76, 3) := by decide +kernel
theorem dX8_ends_132 : decode cX8_ends 132 = .ok (.aload_n 0, 1) := by decide +kernel
theorem dX8_ends_133 : decode cX8_ends 133 = .ok (.getfield 76, 3) := by decide +kernel
theorem dX8_ends_136 : decode cX8_ends 136 = .ok (.invokevirtual 148, 3) := by decide +kernel
theorem dX8_ends_139 : decode cX8_ends 139 = .ok (.aload_n 0, 1) := by decide +kernel
theorem dX8_ends_140 : decode cX8_ends 140 = .ok (.aload_n 0, 1) := by decide +kernel
theorem dX8_ends_141 : decode cX8_ends 141 = .ok (.getfield 76, 3) := by decide +kernel
theorem dX8_ends_144 : decode cX8_ends 144 = .ok (.iconst 2, 1) := by decide +kernel
theorem dX8_ends_145 : decode cX8_ends 145 = .ok (.invokestatic 142, 3) := by decide +kernel
theorem dX8_ends_148 : decode cX8_ends 148 = .ok (.putfield 220, 3) := by decide +kernel
theorem dX8_ends_151 : decode cX8_ends 151 = .ok (.aload_n 0, 1) := by decide +kernel
theorem dX8_ends_152 : decode cX8_ends 152 = .ok (.dup, 1) := by decide +kernel
theorem dX8_ends_153 : decode cX8_ends 153 = .ok (.getfield 224, 3) := by decide +kernel
theorem dX8_ends_156 : decode cX8_ends 156 = .ok (.iconst 1, 1) := by decide +kernel
theorem dX8_ends_157 : decode cX8_ends 157 = .ok (.iadd, 1) := by decide +kernel
theorem dX8_ends_158 : decode cX8_ends 158 = .ok (.putfield 224, 3) := by decide +kernel
theorem dX8_ends_161 : decode cX8_ends 161 = .ok (.aload_n 0, 1) := by decide +kernel
theorem dX8_ends_162 : decode cX8_ends 162 = .ok (.getfield 69, 3) := by decide +kernel
theorem dX8_ends_165 : decode cX8_ends 165 = .ok (.aload_n 0, 1) := by decide +kernel
theorem dX8_ends_166 : decode cX8_ends 166 = .ok (.getfield 214, 3) := by decide +kernel
theorem dX8_ends_169 : decode cX8_ends 169 = .ok (.iconst 1, 1) := by decide +kernel
theorem dX8_ends_170 : decode cX8_ends 170 = .ok (.bastore, 1) := by decide +kernel
theorem dX8_ends_171 : decode cX8_ends 171 = .ok (.iconst 0, 1) := by decide +kernel
theorem dX8_ends_172 : decode cX8_ends 172 = .ok (.istore_n 1, 1) := by decide +kernel
theorem dX8_ends_173 : decode cX8_ends 173 = .ok (.iload_n 1, 1) := by decide +kernel
theorem dX8_ends_174 : decode cX8_ends 174 = .ok (.bipush 8, 2) := by decide +kernel
theorem dX8_ends_176 : decode cX8_ends 176 = .ok (.if_icmp .ge 29, 3) := by decide +kernel
theorem dX8_ends_179 : decode cX8_ends 179 = .ok (.aload_n 0, 1) := by decide +kernel
theorem dX8_ends_180 : decode cX8_ends 180 = .ok (.getfield 63, 3) := by decide +kernel
theorem dX8_ends_183 : decode cX8_ends 183 = .ok (.bipush 8, 2) := by decide +kernel
theorem dX8_ends_185 : decode cX8_ends 185 = .ok (.aload_n 0, 1) := by decide +kernel
theorem dX8_ends_186 : decode cX8_ends 186 = .ok (.getfield 214, 3) := by decide +kernel
theorem dX8_ends_189 : decode cX8_ends 189 = .ok (.imul, 1) := by decide +kernel
theorem dX8_ends_190 : decode cX8_ends 190 = .ok (.iload_n 1, 1) := by decide +kernel
theorem dX8_ends_191 : decode cX8_ends 191 = .ok (.iadd, 1) := by decide +kernel
theorem dX8_ends_192 : decode cX8_ends 192 = .ok (.aload_n 0, 1) := by decide +kernel
theorem dX8_ends_193 : decode cX8_ends 193 = .ok (.getfield 76, 3) := by decide +kernel
theorem dX8_ends_196 : decode cX8_ends 196 = .ok (.iload_n 1, 1) := by decide +kernel
theorem dX8_ends_197 : decode cX8_ends 197 = .ok (.laload, 1) := by decide +kernel
theorem dX8_ends_198 : decode cX8_ends 198 = .ok (.lastore, 1) := by decide +kernel
theorem dX8_ends_199 : decode cX8_ends 199 = .ok (.iinc 1 1, 3) := by decide +kernel
theorem dX8_ends_202 : decode cX8_ends 202 = .ok (.goto (-29), 3) := by decide +kernel
theorem dX8_ends_205 : decode cX8_ends 205 = .ok (.return_, 1) := by decide +kernel
theorem dX8_endsTerm_0 : decode cX8_endsTerm 0 = .ok (.iconst 0, 1) := by decide +kernel
theorem dX8_endsTerm_1 : decode cX8_endsTerm 1 = .ok (.istore_n 2, 1) := by decide +kernel
theorem dX8_endsTerm_2 : decode cX8_endsTerm 2 = .ok (.iload_n 2, 1) := by decide +kernel
theorem dX8_endsTerm_3 : decode cX8_endsTerm 3 = .ok (.bipush 8, 2) := by decide +kernel
theorem dX8_endsTerm_5 : decode cX8_endsTerm 5 = .ok (.if_icmp .ge 84, 3) := by decide +kernel
theorem dX8_endsTerm_8 : decode cX8_endsTerm 8 = .ok (.aload_n 0, 1) := by decide +kernel
theorem dX8_endsTerm_9 : decode cX8_endsTerm 9 = .ok (.getfield 76, 3) := by decide +kernel
theorem dX8_endsTerm_12 : decode cX8_endsTerm 12 = .ok (.iload_n 2, 1) := by decide +kernel
theorem dX8_endsTerm_13 : decode cX8_endsTerm 13 = .ok (.aload_n 0, 1) := by decide +kernel
theorem dX8_endsTerm_14 : decode cX8_endsTerm 14 = .ok (.getfield 66, 3) := by decide +kernel
theorem dX8_endsTerm_17 : decode cX8_endsTerm 17 = .ok (.aload_n 0, 1) := by decide +kernel
theorem dX8_endsTerm_18 : decode cX8_endsTerm 18 = .ok (.getfield 214, 3) := by decide +kernel
theorem dX8_endsTerm_21 : decode cX8_endsTerm 21 = .ok (.iaload, 1) := by decide +kernel
theorem dX8_endsTerm_22 : decode cX8_endsTerm 22 = .ok (.ifCond .ne 20, 3) := by decide +kernel
theorem dX8_endsTerm_25 : decode cX8_endsTerm 25 = .ok (.aload_n 0, 1) := by decide +kernel
theorem dX8_endsTerm_26 : decode cX8_endsTerm 26 = .ok (.getfield 63, 3) := by decide +kernel
theorem dX8_endsTerm_29 : decode cX8_endsTerm 29 = .ok (.bipush 8, 2) := by decide +kernel
theorem dX8_endsTerm_31 : decode cX8_endsTerm 31 = .ok (.aload_n 0, 1) := by decide +kernel
theorem dX8_endsTerm_32 : decode cX8_endsTerm 32 = .ok (.getfield 214, 3) := by decide +kernel
theorem dX8_endsTerm_35 : decode cX8_endsTerm 35 = .ok (.imul, 1) := by decide +kernel
theorem dX8_endsTerm_36 : decode cX8_endsTerm 36 = .ok (.iload_n 2, 1) := by decide +kernel
theorem dX8_endsTerm_37 : decode cX8_endsTerm 37 = .ok (.iadd, 1) := by decide +kernel
theorem dX8_endsTerm_38 : decode cX8_endsTerm 38 = .ok (.laload, 1) := by decide +kernel
theorem dX8_endsTerm_39 : decode cX8_endsTerm 39 = .ok (.goto 43, 3) := by decide +kernel
theorem dX8_endsTerm_42 : decode cX8_endsTerm 42 = .ok (.aload_n 0, 1) := by decide +kernel
theorem dX8_endsTerm_43 : decode cX8_endsTerm 43 = .ok (.getfield 60, 3) := by decide +kernel
theorem dX8_endsTerm_46 : decode cX8_endsTerm 46 = .ok (.bipush 8, 2) := by decide +kernel
theorem dX8_endsTerm_48 : decode cX8_endsTerm 48 = .ok (.aload_n 0, 1) := by decide +kernel
theorem dX8_endsTerm_49 : decode cX8_endsTerm 49 = .ok (.getfield 214, 3) := by decide +kernel
theorem dX8_endsTerm_52 : decode cX8_endsTerm 52 = .ok (.imul, 1) := by decide +kernel
theorem dX8_endsTerm_53 : decode cX8_endsTerm 53 = .ok (.iload_n 2, 1) := by decide +kernel
theorem dX8_endsTerm_54 : decode cX8_endsTerm 54 = .ok (.iadd, 1) := by decide +kernel
theorem dX8_endsTerm_55 : decode cX8_endsTerm 55 = .ok (.laload, 1) := by decide +kernel
theorem dX8_endsTerm_56 : decode cX8_endsTerm 56 = .ok (.aload_n 0, 1) := by decide +kernel
theorem dX8_endsTerm_57 : decode cX8_endsTerm 57 = .ok (.getfield 66, 3) := by decide +kernel
theorem dX8_endsTerm_60 : decode cX8_endsTerm 60 = .ok (.aload_n 0, 1) := by decide +kernel
theorem dX8_endsTerm_61 : decode cX8_endsTerm 61 = .ok (.getfield 214, 3) := by decide +kernel
theorem dX8_endsTerm_64 : decode cX8_endsTerm 64 = .ok (.iaload, 1) := by decide +kernel
theorem dX8_endsTerm_65 : decode cX8_endsTerm 65 = .ok (.i2l, 1) := by decide +kernel
theorem dX8_endsTerm_66 : decode cX8_endsTerm 66 = .ok (.aload_n 0, 1) := by decide +kernel
theorem dX8_endsTerm_67 : decode cX8_endsTerm 67 = .ok (.getfield 63, 3) := by decide +kernel
theorem dX8_endsTerm_70 : decode cX8_endsTerm 70 = .ok (.bipush 8, 2) := by decide +kernel
theorem dX8_endsTerm_72 : decode cX8_endsTerm 72 = .ok (.aload_n 0, 1) := by decide +kernel
theorem dX8_endsTerm_73 : decode cX8_endsTerm 73 = .ok (.getfield 214, 3) := by decide +kernel
theorem dX8_endsTerm_76 : decode cX8_endsTerm 76 = .ok (.imul, 1) := by decide +kernel
theorem dX8_endsTerm_77 : decode cX8_endsTerm 77 = .ok (.iload_n 2, 1) := by decide +kernel
theorem dX8_endsTerm_78 : decode cX8_endsTerm 78 = .ok (.iadd, 1) := by decide +kernel
theorem dX8_endsTerm_79 : decode cX8_endsTerm 79 = .ok (.laload, 1) := by decide +kernel
theorem dX8_endsTerm_80 : decode cX8_endsTerm 80 = .ok (.lmul, 1) := by decide +kernel
theorem dX8_endsTerm_81 : decode cX8_endsTerm 81 = .ok (.ladd, 1) := by decide +kernel
theorem dX8_endsTerm_82 : decode cX8_endsTerm 82 = .ok (.lastore, 1) := by decide +kernel
theorem dX8_endsTerm_83 : decode cX8_endsTerm 83 = .ok (.iinc 2 1, 3) := by decide +kernel
theorem dX8_endsTerm_86 : decode cX8_endsTerm 86 = .ok (.goto (-84), 3) := by decide +kernel
theorem dX8_endsTerm_89 : decode cX8_endsTerm 89 = .ok (.aload_n 0, 1) := by decide +kernel
theorem dX8_endsTerm_90 : decode cX8_endsTerm 90 = .ok (.aload_n 0, 1) := by decide +kernel
theorem dX8_endsTerm_91 : decode cX8_endsTerm 91 = .ok (.getfield 220, 3) := by decide +kernel
theorem dX8_endsTerm_94 : decode cX8_endsTerm 94 = .ok (.ifCond .eq 18, 3) := by decide +kernel
theorem dX8_endsTerm_97 : decode cX8_endsTerm 97 = .ok (.aload_n 0, 1) := by decide +kernel
theorem dX8_endsTerm_98 : decode cX8_endsTerm 98 = .ok (.getfield 76, 3) := by decide +kernel
theorem dX8_endsTerm_101 : decode cX8_endsTerm 101 = .ok (.iconst 1, 1) := by decide +kernel
theorem dX8_endsTerm_102 : decode cX8_endsTerm 102 = .ok (.invokestatic 142, 3) := by decide +kernel
theorem dX8_endsTerm_105 : decode cX8_endsTerm 105 = .ok (.ifCond .eq 7, 3) := by decide +kernel
theorem dX8_endsTerm_108 : decode cX8_endsTerm 108 = .ok (.iconst 1, 1) := by decide +kernel
theorem dX8_endsTerm_109 : decode cX8_endsTerm 109 = .ok (.goto 4, 3) := by decide +kernel
theorem dX8_endsTerm_112 : decode cX8_endsTerm 112 = .ok (.iconst 0, 1) := by decide +kernel
theorem dX8_endsTerm_113 : decode cX8_endsTerm 113 = .ok (.putfield 220, 3) := by decide +kernel
theorem dX8_endsTerm_116 : decode cX8_endsTerm 116 = .ok (.iconst 0, 1) := by decide +kernel
theorem dX8_endsTerm_117 : decode cX8_endsTerm 117 = .ok (.istore_n 2, 1) := by decide +kernel
theorem dX8_endsTerm_118 : decode cX8_endsTerm 118 = .ok (.iload_n 2, 1) := by decide +kernel
theorem dX8_endsTerm_119 : decode cX8_endsTerm 119 = .ok (.bipush 8, 2) := by decide +kernel
theorem dX8_endsTerm_121 : decode cX8_endsTerm 121 = .ok (.if_icmp .ge 29, 3) := by decide +kernel
theorem dX8_endsTerm_124 : decode cX8_endsTerm 124 = .ok (.aload_n 0, 1) := by decide +kernel
theorem dX8_endsTerm_125 : decode cX8_endsTerm 125 = .ok (.getfield 60, 3) := by decide +kernel
theorem dX8_endsTerm_128 : decode cX8_endsTerm 128 = .ok (.bipush 8, 2) := by decide +kernel
theorem dX8_endsTerm_130 : decode cX8_endsTerm 130 = .ok (.aload_n 0, 1) := by decide +kernel
theorem dX8_endsTerm_131 : decode cX8_endsTerm 131 = .ok (.getfield 214, 3) := by decide +kernel
theorem dX8_endsTerm_134 : decode cX8_endsTerm 134 = .ok (.imul, 1) := by decide +kernel
theorem dX8_endsTerm_135 : decode cX8_endsTerm 135 = .ok (.iload_n 2, 1) := by decide +kernel
theorem dX8_endsTerm_136 : decode cX8_endsTerm 136 = .ok (.iadd, 1) := by decide +kernel
theorem dX8_endsTerm_137 : decode cX8_endsTerm 137 = .ok (.aload_n 0, 1) := by decide +kernel
theorem dX8_endsTerm_138 : decode cX8_endsTerm 138 = .ok (.getfield 76, 3) := by decide +kernel
theorem dX8_endsTerm_141 : decode cX8_endsTerm 141 = .ok (.iload_n 2, 1) := by decide +kernel
theorem dX8_endsTerm_142 : decode cX8_endsTerm 142 = .ok (.laload, 1) := by decide +kernel
theorem dX8_endsTerm_143 : decode cX8_endsTerm 143 = .ok (.lastore, 1) := by decide +kernel
theorem dX8_endsTerm_144 : decode cX8_endsTerm 144 = .ok (.iinc 2 1, 3) := by decide +kernel
theorem dX8_endsTerm_147 : decode cX8_endsTerm 147 = .ok (.goto (-29), 3) := by decide +kernel
theorem dX8_endsTerm_150 : decode cX8_endsTerm 150 = .ok (.aload_n 0, 1) := by decide +kernel
theorem dX8_endsTerm_151 : decode cX8_endsTerm 151 = .ok (.getfield 66, 3) := by decide +kernel
theorem dX8_endsTerm_154 : decode cX8_endsTerm 154 = .ok (.aload_n 0, 1) := by decide +kernel
theorem dX8_endsTerm_155 : decode cX8_endsTerm 155 = .ok (.getfield 214, 3) := by decide +kernel
theorem dX8_endsTerm_158 : decode cX8_endsTerm 158 = .ok (.iload_n 1, 1) := by decide +kernel
theorem dX8_endsTerm_159 : decode cX8_endsTerm 159 = .ok (.iastore, 1) := by decide +kernel
theorem dX8_endsTerm_160 : decode cX8_endsTerm 160 = .ok (.aload_n 0, 1) := by decide +kernel
theorem dX8_endsTerm_161 : decode cX8_endsTerm 161 = .ok (.getfield 69, 3) := by decide +kernel
theorem dX8_endsTerm_164 : decode cX8_endsTerm 164 = .ok (.aload_n 0, 1) := by decide +kernel
theorem dX8_endsTerm_165 : decode cX8_endsTerm 165 = .ok (.getfield 214, 3) := by decide +kernel
theorem dX8_endsTerm_168 : decode cX8_endsTerm 168 = .ok (.iconst 0, 1) := by decide +kernel
theorem dX8_endsTerm_169 : decode cX8_endsTerm 169 = .ok (.bastore, 1) := by decide +kernel
theorem dX8_endsTerm_170 : decode cX8_endsTerm 170 = .ok (.return_, 1) := by decide +kernel
theorem dX8_reads_0 : decode cX8_reads 0 = .ok (.iload_n 1, 1) := by decide +kernel
theorem dX8_reads_1 : decode cX8_reads 1 = .ok (.bipush 49, 2) := by decide +kernel
theorem dX8_reads_3 : decode cX8_reads 3 = .ok (.bipush 57, 2) := by decide +kernel
theorem dX8_reads_5 : decode cX8_reads 5 = .ok (.invokestatic 86, 3) := by decide +kernel
theorem dX8_reads_8 : decode cX8_reads 8 = .ok (.ifCond .eq 19, 3) := by decide +kernel
theorem dX8_reads_11 : decode cX8_reads 11 = .ok (.aload_n 0, 1) := by decide +kernel
theorem dX8_reads_12 : decode cX8_reads 12 = .ok (.getfield 73, 3) := by decide +kernel
theorem dX8_reads_15 : decode cX8_reads 15 = .ok (.aload_n 0, 1) := by decide +kernel
theorem dX8_reads_16 : decode cX8_reads 16 = .ok (.getfield 214, 3) := by decide +kernel
theorem dX8_reads_19 : decode cX8_reads 19 = .ok (.iload_n 1, 1) := by decide +kernel
theorem dX8_reads_20 : decode cX8_reads 20 = .ok (.bipush 48, 2) := by decide +kernel
theorem dX8_reads_22 : decode cX8_reads 22 = .ok (.isub, 1) := by decide +kernel
theorem dX8_reads_23 : decode cX8_reads 23 = .ok (.iastore, 1) := by decide +kernel
theorem dX8_reads_24 : decode cX8_reads 24 = .ok (.goto 133, 3) := by decide +kernel
theorem dX8_reads_27 : decode cX8_reads 27 = .ok (.iload_n 1, 1) := by decide +kernel
theorem dX8_reads_28 : decode cX8_reads 28 = .ok (.bipush 97, 2) := by decide +kernel
theorem dX8_reads_30 : decode cX8_reads 30 = .ok (.bipush 104, 2) := by decide +kernel
theorem dX8_reads_32 : decode cX8_reads 32 = .ok (.invokestatic 86, 3) := by decide +kernel
theorem dX8_reads_35 : decode cX8_reads 35 = .ok (.ifCond .eq 18, 3) := by decide +kernel
theorem dX8_reads_38 : decode cX8_reads 38 = .ok (.aload_n 0, 1) := by decide +kernel
theorem dX8_reads_39 : decode cX8_reads 39 = .ok (.aload_n 0, 1) := by decide +kernel
theorem dX8_reads_40 : decode cX8_reads 40 = .ok (.getfield 76, 3) := by decide +kernel
theorem dX8_reads_43 : decode cX8_reads 43 = .ok (.iload_n 1, 1) := by decide +kernel
theorem dX8_reads_44 : decode cX8_reads 44 = .ok (.bipush 97, 2) := by decide +kernel
theorem dX8_reads_46 : decode cX8_reads 46 = .ok (.isub, 1) := by decide +kernel
theorem dX8_reads_47 : decode cX8_reads 47 = .ok (.invokevirtual 131, 3) := by decide +kernel
theorem dX8_reads_50 : decode cX8_reads 50 = .ok (.goto 107, 3) := by decide +kernel
theorem dX8_reads_53 : decode cX8_reads 53 = .ok (.iload_n 1, 1) := by decide +kernel
theorem dX8_reads_54 : decode cX8_reads 54 = .ok (.bipush 40, 2) := by decide +kernel
theorem dX8_reads_56 : decode cX8_reads 56 = .ok (.if_icmp .ne 20, 3) := by decide +kernel
theorem dX8_reads_59 : decode cX8_reads 59 = .ok (.aload_n 0, 1) := by decide +kernel
theorem dX8_reads_60 : decode cX8_reads 60 = .ok (.dup, 1) := by decide +kernel
theorem dX8_reads_61 : decode cX8_reads 61 = .ok (.getfield 214, 3) := by decide +kernel
theorem dX8_reads_64 : decode cX8_reads 64 = .ok (.iconst 1, 1) := by decide +kernel
theorem dX8_reads_65 : decode cX8_reads 65 = .ok (.iadd, 1) := by decide +kernel
theorem dX8_reads_66 : decode cX8_reads 66 = .ok (.putfield 214, 3) := by decide +kernel
theorem dX8_reads_69 : decode cX8_reads 69 = .ok (.aload_n 0, 1) := by decide +kernel
theorem dX8_reads_70 : decode cX8_reads 70 = .ok (.invokevirtual 227, 3) := by decide +kernel
theorem dX8_reads_73 : decode cX8_reads 73 = .ok (.goto 84, 3) := by decide +kernel
theorem dX8_reads_76 : decode cX8_reads 76 = .ok (.iload_n 1, 1) := by decide +kernel
theorem dX8_reads_77 : decode cX8_reads 77 = .ok (.bipush 39, 2) := by decide +kernel
theorem dX8_reads_79 : decode cX8_reads 79 = .ok (.if_icmp .ne 33, 3) := by decide +kernel
theorem dX8_reads_82 : decode cX8_reads 82 = .ok (.iconst 1, 1) := by decide +kernel
theorem dX8_reads_83 : decode cX8_reads 83 = .ok (.istore_n 2, 1) := by decide +kernel
theorem dX8_reads_84 : decode cX8_reads 84 = .ok (.iload_n 2, 1) := by decide +kernel
theorem dX8_reads_85 : decode cX8_reads 85 = .ok (.bipush 8, 2) := by decide +kernel
theorem dX8_reads_87 : decode cX8_reads 87 = .ok (.if_icmp .ge 22, 3) := by decide +kernel
theorem dX8_reads_90 : decode cX8_reads 90 = .ok (.aload_n 0, 1) := by decide +kernel
theorem dX8_reads_91 : decode cX8_reads 91 = .ok (.getfield 76, 3) := by decide +kernel
theorem dX8_reads_94 : decode cX8_reads 94 = .ok (.iload_n 2, 1) := by decide +kernel
theorem dX8_reads_95 : decode cX8_reads 95 = .ok (.aload_n 0, 1) := by decide +kernel
theorem dX8_reads_96 : decode cX8_reads 96 = .ok (.getfield 76, 3) := by decide +kernel
theorem dX8_reads_99 : decode cX8_reads 99 = .ok (.iload_n 2, 1) := by decide +kernel
theorem dX8_reads_100 : decode cX8_reads 100 = .ok (.laload, 1) := by decide +kernel
theorem dX8_reads_101 : decode cX8_reads 101 = .ok (.lneg, 1) := by decide +kernel
theorem dX8_reads_102 : decode cX8_reads 102 = .ok (.lastore, 1) := by decide +kernel
theorem dX8_reads_103 : decode cX8_reads 103 = .ok (.iinc 2 1, 3) := by decide +kernel
theorem dX8_reads_106 : decode cX8_reads 106 = .ok (.goto (-22), 3) := by decide +kernel
theorem dX8_reads_109 : decode cX8_reads 109 = .ok (.goto 48, 3) := by decide +kernel
theorem dX8_reads_112 : decode cX8_reads 112 = .ok (.aload_n 0, 1) := by decide +kernel
theorem dX8_reads_113 : decode cX8_reads 113 = .ok (.invokevirtual 230, 3) := by decide +kernel
theorem dX8_reads_116 : decode cX8_reads 116 = .ok (.iload_n 1, 1) := by decide +kernel
theorem dX8_reads_117 : decode cX8_reads 117 = .ok (.bipush 42, 2) := by decide +kernel
theorem dX8_reads_119 : decode cX8_reads 119 = .ok (.if_icmp .eq 18, 3) := by decide +kernel
theorem dX8_reads_122 : decode cX8_reads 122 = .ok (.aload_n 0, 1) := by decide +kernel
theorem dX8_reads_123 : decode cX8_reads 123 = .ok (.iload_n 1, 1) := by decide +kernel
theorem dX8_reads_124 : decode cX8_reads 124 = .ok (.bipush 45, 2) := by decide +kernel
theorem dX8_reads_126 : decode cX8_reads 126 = .ok (.if_icmp .ne 7, 3) := by decide +kernel
theorem dX8_reads_129 : decode cX8_reads 129 = .ok (.iconst (-1), 1) := by decide +kernel
theorem dX8_reads_130 : decode cX8_reads 130 = .ok (.goto 4, 3) := by decide +kernel
theorem dX8_reads_133 : decode cX8_reads 133 = .ok (.iconst 1, 1) := by decide +kernel
theorem dX8_reads_134 : decode cX8_reads 134 = .ok (.invokevirtual 233, 3) := by decide +kernel
theorem dX8_reads_137 : decode cX8_reads 137 = .ok (.aload_n 0, 1) := by decide +kernel
theorem dX8_reads_138 : decode cX8_reads 138 = .ok (.dup, 1) := by decide +kernel
theorem dX8_reads_139 : decode cX8_reads 139 = .ok (.getfield 214, 3) := by decide +kernel
theorem dX8_reads_142 : decode cX8_reads 142 = .ok (.iload_n 1, 1) := by decide +kernel
theorem dX8_reads_143 : decode cX8_reads 143 = .ok (.bipush 41, 2) := by decide +kernel
theorem dX8_reads_145 : decode cX8_reads 145 = .ok (.if_icmp .ne 7, 3) := by decide +kernel
theorem dX8_reads_148 : decode cX8_reads 148 = .ok (.iconst 1, 1) := by decide +kernel
theorem dX8_reads_149 : decode cX8_reads 149 = .ok (.goto 4, 3) := by decide +kernel
theorem dX8_reads_152 : decode cX8_reads 152 = .ok (.iconst 0, 1) := by decide +kernel
theorem dX8_reads_153 : decode cX8_reads 153 = .ok (.isub, 1) := by decide +kernel
theorem dX8_reads_154 : decode cX8_reads 154 = .ok (.putfield 214, 3) := by decide +kernel
theorem dX8_reads_157 : decode cX8_reads 157 = .ok (.return_, 1) := by decide +kernel
theorem dX8_carryOut_0 : decode cX8_carryOut 0 = .ok (.aload_n 0, 1) := by decide +kernel
theorem dX8_carryOut_1 : decode cX8_carryOut 1 = .ok (.iconst 0, 1) := by decide +kernel
theorem dX8_carryOut_2 : decode cX8_carryOut 2 = .ok (.putfield 83, 3) := by decide +kernel
theorem dX8_carryOut_5 : decode cX8_carryOut 5 = .ok (.aload_n 0, 1) := by decide +kernel
theorem dX8_carryOut_6 : decode cX8_carryOut 6 = .ok (.invokevirtual 237, 3) := by decide +kernel
theorem dX8_carryOut_9 : decode cX8_carryOut 9 = .ok (.istore_n 1, 1) := by decide +kernel
theorem dX8_carryOut_10 : decode cX8_carryOut 10 = .ok (.iload_n 1, 1) := by decide +kernel
theorem dX8_carryOut_11 : decode cX8_carryOut 11 = .ok (.iconst (-1), 1) := by decide +kernel
theorem dX8_carryOut_12 : decode cX8_carryOut 12 = .ok (.if_icmp .eq 8, 3) := by decide +kernel
theorem dX8_carryOut_15 : decode cX8_carryOut 15 = .ok (.bipush (-10), 2) := by decide +kernel
theorem dX8_carryOut_17 : decode cX8_carryOut 17 = .ok (.iload_n 1, 1) := by decide +kernel
theorem dX8_carryOut_18 : decode cX8_carryOut 18 = .ok (.isub, 1) := by decide +kernel
theorem dX8_carryOut_19 : decode cX8_carryOut 19 = .ok (.ireturn, 1) := by decide +kernel
theorem dX8_carryOut_20 : decode cX8_carryOut 20 = .ok (.aload_n 0, 1) := by decide +kernel
theorem dX8_carryOut_21 : decode cX8_carryOut 21 = .ok (.invokevirtual 128, 3) := by decide +kernel
theorem dX8_carryOut_24 : decode cX8_carryOut 24 = .ok (.iconst 0, 1) := by decide +kernel
theorem dX8_carryOut_25 : decode cX8_carryOut 25 = .ok (.istore_n 2, 1) := by decide +kernel
theorem dX8_carryOut_26 : decode cX8_carryOut 26 = .ok (.iconst 0, 1) := by decide +kernel
theorem dX8_carryOut_27 : decode cX8_carryOut 27 = .ok (.istore_n 3, 1) := by decide +kernel
theorem dX8_carryOut_28 : decode cX8_carryOut 28 = .ok (.aload_n 0, 1) := by decide +kernel
theorem dX8_carryOut_29 : decode cX8_carryOut 29 = .ok (.iconst 1, 1) := by decide +kernel
theorem dX8_carryOut_30 : decode cX8_carryOut 30 = .ok (.putfield 220, 3) := by decide +kernel
theorem dX8_carryOut_33 : decode cX8_carryOut 33 = .ok (.iload_n 3, 1) := by decide +kernel
theorem dX8_carryOut_34 : decode cX8_carryOut 34 = .ok (.aload_n 0, 1) := by decide +kernel
theorem dX8_carryOut_35 : decode cX8_carryOut 35 = .ok (.getfield 211, 3) := by decide +kernel
theorem dX8_carryOut_38 : decode cX8_carryOut 38 = .ok (.if_icmp .ge 129, 3) := by decide +kernel
theorem dX8_carryOut_41 : decode cX8_carryOut 41 = .ok (.aload_n 0, 1) := by decide +kernel
theorem dX8_carryOut_42 : decode cX8_carryOut 42 = .ok (.getfield 220, 3) := by decide +kernel
theorem dX8_carryOut_45 : decode cX8_carryOut 45 = .ok (.ifCond .eq 122, 3) := by decide +kernel
theorem dX8_carryOut_48 : decode cX8_carryOut 48 = .ok (.aload_n 0, 1) := by decide +kernel
theorem dX8_carryOut_49 : decode cX8_carryOut 49 = .ok (.getfield 16, 3) := by decide +kernel
theorem dX8_carryOut_52 : decode cX8_carryOut 52 = .ok (.iload_n 3, 1) := by decide +kernel
theorem dX8_carryOut_53 : decode cX8_carryOut 53 = .ok (.iaload, 1) := by decide +kernel
theorem dX8_carryOut_54 : decode cX8_carryOut 54 = .ok (.bipush 97, 2) := by decide +kernel
theorem dX8_carryOut_56 : decode cX8_carryOut 56 = .ok (.isub, 1) := by decide +kernel
theorem dX8_carryOut_57 : decode cX8_carryOut 57 = .ok (.istore 4, 2) := by decide +kernel
theorem dX8_carryOut_59 : decode cX8_carryOut 59 = .ok (.aload_n 0, 1) := by decide +kernel
theorem dX8_carryOut_60 : decode cX8_carryOut 60 = .ok (.iconst 0, 1) := by decide +kernel
theorem dX8_carryOut_61 : decode cX8_carryOut 61 = .ok (.putfield 214, 3) := by decide +kernel
theorem dX8_carryOut_64 : decode cX8_carryOut 64 = .ok (.aload_n 0, 1) := by decide +kernel
theorem dX8_carryOut_65 : decode cX8_carryOut 65 = .ok (.iconst 0, 1) := by decide +kernel
theorem dX8_carryOut_66 : decode cX8_carryOut 66 = .ok (.putfield 224, 3) := by decide +kernel
theorem dX8_carryOut_69 : decode cX8_carryOut 69 = .ok (.aload_n 0, 1) := by decide +kernel
theorem dX8_carryOut_70 : decode cX8_carryOut 70 = .ok (.invokevirtual 227, 3) := by decide +kernel
theorem dX8_carryOut_73 : decode cX8_carryOut 73 = .ok (.iinc 3 2, 3) := by decide +kernel
theorem dX8_carryOut_76 : decode cX8_carryOut 76 = .ok (.aload_n 0, 1) := by decide +kernel
theorem dX8_carryOut_77 : decode cX8_carryOut 77 = .ok (.getfield 16, 3) := by decide +kernel
theorem dX8_carryOut_80 : decode cX8_carryOut 80 = .ok (.iload_n 3, 1) := by decide +kernel
theorem dX8_carryOut_81 : decode cX8_carryOut 81 = .ok (.iaload, 1) := by decide +kernel
theorem dX8_carryOut_82 : decode cX8_carryOut 82 = .ok (.bipush 59, 2) := by decide +kernel
theorem dX8_carryOut_84 : decode cX8_carryOut 84 = .ok (.if_icmp .eq 26, 3) := by decide +kernel
theorem dX8_carryOut_87 : decode cX8_carryOut 87 = .ok (.aload_n 0, 1) := by decide +kernel
theorem dX8_carryOut_88 : decode cX8_carryOut 88 = .ok (.getfield 220, 3) := by decide +kernel
theorem dX8_carryOut_91 : decode cX8_carryOut 91 = .ok (.ifCond .eq 19, 3) := by decide +kernel
theorem dX8_carryOut_94 : decode cX8_carryOut 94 = .ok (.aload_n 0, 1) := by decide +kernel
theorem dX8_carryOut_95 : decode cX8_carryOut 95 = .ok (.aload_n 0, 1) := by decide +kernel
theorem dX8_carryOut_96 : decode cX8_carryOut 96 = .ok (.getfield 16, 3) := by decide +kernel
theorem dX8_carryOut_99 : decode cX8_carryOut 99 = .ok (.iload_n 3, 1) := by decide +kernel
theorem dX8_carryOut_100 : decode cX8_carryOut 100 = .ok (.iaload, 1) := by decide +kernel
theorem dX8_carryOut_101 : decode cX8_carryOut 101 = .ok (.invokevirtual 241, 3) := by decide +kernel
theorem dX8_carryOut_104 : decode cX8_carryOut 104 = .ok (.iinc 3 1, 3) := by decide +kernel
theorem dX8_carryOut_107 : decode cX8_carryOut 107 = .ok (.goto (-31), 3) := by decide +kernel
theorem dX8_carryOut_110 : decode cX8_carryOut 110 = .ok (.aload_n 0, 1) := by decide +kernel
theorem dX8_carryOut_111 : decode cX8_carryOut 111 = .ok (.getfield 220, 3) := by decide +kernel
theorem dX8_carryOut_114 : decode cX8_carryOut 114 = .ok (.ifCond .eq 16, 3) := by decide +kernel
theorem dX8_carryOut_117 : decode cX8_carryOut 117 = .ok (.aload_n 0, 1) := by decide +kernel
theorem dX8_carryOut_118 : decode cX8_carryOut 118 = .ok (.aload_n 0, 1) := by decide +kernel
theorem dX8_carryOut_119 : decode cX8_carryOut 119 = .ok (.getfield 16, 3) := by decide +kernel
theorem dX8_carryOut_122 : decode cX8_carryOut 122 = .ok (.iload_n 3, 1) := by decide +kernel
theorem dX8_carryOut_123 : decode cX8_carryOut 123 = .ok (.iaload, 1) := by decide +kernel
theorem dX8_carryOut_124 : decode cX8_carryOut 124 = .ok (.invokevirtual 241, 3) := by decide +kernel
theorem dX8_carryOut_127 : decode cX8_carryOut 127 = .ok (.iinc 3 1, 3) := by decide +kernel
theorem dX8_carryOut_130 : decode cX8_carryOut 130 = .ok (.aload_n 0, 1) := by decide +kernel
theorem dX8_carryOut_131 : decode cX8_carryOut 131 = .ok (.getfield 220, 3) := by decide +kernel
theorem dX8_carryOut_134 : decode cX8_carryOut 134 = .ok (.ifCond .eq 30, 3) := by decide +kernel
theorem dX8_carryOut_137 : decode cX8_carryOut 137 = .ok (.aload_n 0, 1) := by decide +kernel
theorem dX8_carryOut_138 : decode cX8_carryOut 138 = .ok (.aload_n 0, 1) := by decide +kernel
theorem dX8_carryOut_139 : decode cX8_carryOut 139 = .ok (.getfield 76, 3) := by decide +kernel
theorem dX8_carryOut_142 : decode cX8_carryOut 142 = .ok (.iload 4, 2) := by decide +kernel
theorem dX8_carryOut_144 : decode cX8_carryOut 144 = .ok (.invokevirtual 139, 3) := by decide +kernel
theorem dX8_carryOut_147 : decode cX8_carryOut 147 = .ok (.aload_n 0, 1) := by decide +kernel
theorem dX8_carryOut_148 : decode cX8_carryOut 148 = .ok (.getfield 7, 3) := by decide +kernel
theorem dX8_carryOut_151 : decode cX8_carryOut 151 = .ok (.bipush 65, 2) := by decide +kernel
theorem dX8_carryOut_153 : decode cX8_carryOut 153 = .ok (.dup2, 1) := by decide +kernel
theorem dX8_carryOut_154 : decode cX8_carryOut 154 = .ok (.iaload, 1) := by decide +kernel
theorem dX8_carryOut_155 : decode cX8_carryOut 155 = .ok (.aload_n 0, 1) := by decide +kernel
theorem dX8_carryOut_156 : decode cX8_carryOut 156 = .ok (.getfield 224, 3) := by decide +kernel
theorem dX8_carryOut_159 : decode cX8_carryOut 159 = .ok (.iadd, 1) := by decide +kernel
theorem dX8_carryOut_160 : decode cX8_carryOut 160 = .ok (.iastore, 1) := by decide +kernel
theorem dX8_carryOut_161 : decode cX8_carryOut 161 = .ok (.iinc 2 1, 3) := by decide +kernel
theorem dX8_carryOut_164 : decode cX8_carryOut 164 = .ok (.goto (-131), 3) := by decide +kernel
theorem dX8_carryOut_167 : decode cX8_carryOut 167 = .ok (.iload_n 2, 1) := by decide +kernel
theorem dX8_carryOut_168 : decode cX8_carryOut 168 = .ok (.ireturn, 1) := by decide +kernel
theorem dX8_undo_0 : decode cX8_undo 0 = .ok (.aload_n 0, 1) := by decide +kernel
theorem dX8_undo_1 : decode cX8_undo 1 = .ok (.aload_n 0, 1) := by decide +kernel
theorem dX8_undo_2 : decode cX8_undo 2 = .ok (.getfield 90, 3) := by decide +kernel
theorem dX8_undo_5 : decode cX8_undo 5 = .ok (.ifCond .ne 7, 3) := by decide +kernel
theorem dX8_undo_8 : decode cX8_undo 8 = .ok (.iconst 1, 1) := by decide +kernel
theorem dX8_undo_9 : decode cX8_undo 9 = .ok (.goto 4, 3) := by decide +kernel
theorem dX8_undo_12 : decode cX8_undo 12 = .ok (.iconst 0, 1) := by decide +kernel
theorem dX8_undo_13 : decode cX8_undo 13 = .ok (.invokevirtual 125, 3) := by decide +kernel
theorem dX8_undo_16 : decode cX8_undo 16 = .ok (.ifCond .eq 5, 3) := by decide +kernel
theorem dX8_undo_19 : decode cX8_undo 19 = .ok (.iconst 0, 1) := by decide +kernel
theorem dX8_undo_20 : decode cX8_undo 20 = .ok (.ireturn, 1) := by decide +kernel
theorem dX8_undo_21 : decode cX8_undo 21 = .ok (.aload_n 0, 1) := by decide +kernel
theorem dX8_undo_22 : decode cX8_undo 22 = .ok (.dup, 1) := by decide +kernel
theorem dX8_undo_23 : decode cX8_undo 23 = .ok (.getfield 90, 3) := by decide +kernel
theorem dX8_undo_26 : decode cX8_undo 26 = .ok (.iconst 1, 1) := by decide +kernel
theorem dX8_undo_27 : decode cX8_undo 27 = .ok (.isub, 1) := by decide +kernel
theorem dX8_undo_28 : decode cX8_undo 28 = .ok (.putfield 90, 3) := by decide +kernel
theorem dX8_undo_31 : decode cX8_undo 31 = .ok (.iconst 0, 1) := by decide +kernel
theorem dX8_undo_32 : decode cX8_undo 32 = .ok (.istore_n 1, 1) := by decide +kernel
theorem dX8_undo_33 : decode cX8_undo 33 = .ok (.iload_n 1, 1) := by decide +kernel
theorem dX8_undo_34 : decode cX8_undo 34 = .ok (.bipush 67, 2) := by decide +kernel
theorem dX8_undo_36 : decode cX8_undo 36 = .ok (.if_icmp .ge 29, 3) := by decide +kernel
theorem dX8_undo_39 : decode cX8_undo 39 = .ok (.aload_n 0, 1) := by decide +kernel
theorem dX8_undo_40 : decode cX8_undo 40 = .ok (.getfield 7, 3) := by decide +kernel
theorem dX8_undo_43 : decode cX8_undo 43 = .ok (.iload_n 1, 1) := by decide +kernel
theorem dX8_undo_44 : decode cX8_undo 44 = .ok (.aload_n 0, 1) := by decide +kernel
theorem dX8_undo_45 : decode cX8_undo 45 = .ok (.getfield 13, 3) := by decide +kernel
theorem dX8_undo_48 : decode cX8_undo 48 = .ok (.bipush 67, 2) := by decide +kernel
theorem dX8_undo_50 : decode cX8_undo 50 = .ok (.aload_n 0, 1) := by decide +kernel
theorem dX8_undo_51 : decode cX8_undo 51 = .ok (.getfield 90, 3) := by decide +kernel
theorem dX8_undo_54 : decode cX8_undo 54 = .ok (.imul, 1) := by decide +kernel
theorem dX8_undo_55 : decode cX8_undo 55 = .ok (.iload_n 1, 1) := by decide +kernel
theorem dX8_undo_56 : decode cX8_undo 56 = .ok (.iadd, 1) := by decide +kernel
theorem dX8_undo_57 : decode cX8_undo 57 = .ok (.iaload, 1) := by decide +kernel
theorem dX8_undo_58 : decode cX8_undo 58 = .ok (.iastore, 1) := by decide +kernel
theorem dX8_undo_59 : decode cX8_undo 59 = .ok (.iinc 1 1, 3) := by decide +kernel
theorem dX8_undo_62 : decode cX8_undo 62 = .ok (.goto (-29), 3) := by decide +kernel
theorem dX8_undo_65 : decode cX8_undo 65 = .ok (.aload_n 0, 1) := by decide +kernel
theorem dX8_undo_66 : decode cX8_undo 66 = .ok (.getfield 90, 3) := by decide +kernel
theorem dX8_undo_69 : decode cX8_undo 69 = .ok (.ireturn, 1) := by decide +kernel
theorem dX8_digest_0 : decode cX8_digest 0 = .ok (.aload_n 0, 1) := by decide +kernel
theorem dX8_digest_1 : decode cX8_digest 1 = .ok (.iconst 0, 1) := by decide +kernel
theorem dX8_digest_2 : decode cX8_digest 2 = .ok (.putfield 83, 3) := by decide +kernel
theorem dX8_digest_5 : decode cX8_digest 5 = .ok (.ldc2_w 244, 3) := by decide +kernel
theorem dX8_digest_8 : decode cX8_digest 8 = .ok (.aload_n 0, 1) := by decide +kernel
theorem dX8_digest_9 : decode cX8_digest 9 = .ok (.getfield 211, 3) := by decide +kernel
theorem dX8_digest_12 : decode cX8_digest 12 = .ok (.i2l, 1) := by decide +kernel
theorem dX8_digest_13 : decode cX8_digest 13 = .ok (.ladd, 1) := by decide +kernel
theorem dX8_digest_14 : decode cX8_digest 14 = .ok (.lstore_n 1, 1) := by decide +kernel
theorem dX8_digest_15 : decode cX8_digest 15 = .ok (.iconst 0, 1) := by decide +kernel
theorem dX8_digest_16 : decode cX8_digest 16 = .ok (.istore_n 3, 1) := by decide +kernel
theorem dX8_digest_17 : decode cX8_digest 17 = .ok (.iload_n 3, 1) := by decide +kernel
theorem dX8_digest_18 : decode cX8_digest 18 = .ok (.bipush 6, 2) := by decide +kernel
theorem dX8_digest_20 : decode cX8_digest 20 = .ok (.if_icmp .ge 22, 3) := by decide +kernel
theorem dX8_digest_23 : decode cX8_digest 23 = .ok (.ldc2_w 246, 3) := by decide +kernel
theorem dX8_digest_26 : decode cX8_digest 26 = .ok (.lload_n 1, 1) := by decide +kernel
theorem dX8_digest_27 : decode cX8_digest 27 = .ok (.lmul, 1) := by decide +kernel
theorem dX8_digest_28 : decode cX8_digest 28 = .ok (.aload_n 0, 1) := by decide +kernel
theorem dX8_digest_29 : decode cX8_digest 29 = .ok (.iload_n 3, 1) := by decide +kernel
theorem dX8_digest_30 : decode cX8_digest 30 = .ok (.invokevirtual 198, 3) := by decide +kernel
theorem dX8_digest_33 : decode cX8_digest 33 = .ok (.i2l, 1) := by decide +kernel
theorem dX8_digest_34 : decode cX8_digest 34 = .ok (.ladd, 1) := by decide +kernel
theorem dX8_digest_35 : decode cX8_digest 35 = .ok (.lstore_n 1, 1) := by decide +kernel
theorem dX8_digest_36 : decode cX8_digest 36 = .ok (.iinc 3 1, 3) := by decide +kernel
theorem dX8_digest_39 : decode cX8_digest 39 = .ok (.goto (-22), 3) := by decide +kernel
theorem dX8_digest_42 : decode cX8_digest 42 = .ok (.iconst 0, 1) := by decide +kernel
theorem dX8_digest_43 : decode cX8_digest 43 = .ok (.istore_n 3, 1) := by decide +kernel
theorem dX8_digest_44 : decode cX8_digest 44 = .ok (.iload_n 3, 1) := by decide +kernel
theorem dX8_digest_45 : decode cX8_digest 45 = .ok (.bipush 8, 2) := by decide +kernel
theorem dX8_digest_47 : decode cX8_digest 47 = .ok (.if_icmp .ge 71, 3) := by decide +kernel
theorem dX8_digest_50 : decode cX8_digest 50 = .ok (.iconst 0, 1) := by decide +kernel
theorem dX8_digest_51 : decode cX8_digest 51 = .ok (.istore 4, 2) := by decide +kernel
theorem dX8_digest_53 : decode cX8_digest 53 = .ok (.iload 4, 2) := by decide +kernel
theorem dX8_digest_55 : decode cX8_digest 55 = .ok (.bipush 8, 2) := by decide +kernel
theorem dX8_digest_57 : decode cX8_digest 57 = .ok (.if_icmp .ge 29, 3) := by decide +kernel
theorem dX8_digest_60 : decode cX8_digest 60 = .ok (.ldc2_w 246, 3) := by decide +kernel
theorem dX8_digest_63 : decode cX8_digest 63 = .ok (.lload_n 1, 1) := by decide +kernel
theorem dX8_digest_64 : decode cX8_digest 64 = .ok (.lmul, 1) := by decide +kernel
theorem dX8_digest_65 : decode cX8_digest 65 = .ok (.aload_n 0, 1) := by decide +kernel
theorem dX8_digest_66 : decode cX8_digest 66 = .ok (.getfield 7, 3) := by decide +kernel
theorem dX8_digest_69 : decode cX8_digest 69 = .ok (.bipush 8, 2) := by decide +kernel
theorem dX8_digest_71 : decode cX8_digest 71 = .ok (.iload_n 3, 1) := by decide +kernel
theorem dX8_digest_72 : decode cX8_digest 72 = .ok (.imul, 1) := by decide +kernel
theorem dX8_digest_73 : decode cX8_digest 73 = .ok (.iload 4, 2) := by decide +kernel
theorem dX8_digest_75 : decode cX8_digest 75 = .ok (.iadd, 1) := by decide +kernel
theorem dX8_digest_76 : decode cX8_digest 76 = .ok (.iaload, 1) := by decide +kernel
theorem dX8_digest_77 : decode cX8_digest 77 = .ok (.i2l, 1) := by decide +kernel
theorem dX8_digest_78 : decode cX8_digest 78 = .ok (.ladd, 1) := by decide +kernel
theorem dX8_digest_79 : decode cX8_digest 79 = .ok (.lstore_n 1, 1) := by decide +kernel
theorem dX8_digest_80 : decode cX8_digest 80 = .ok (.iinc 4 1, 3) := by decide +kernel
theorem dX8_digest_83 : decode cX8_digest 83 = .ok (.goto (-30), 3) := by decide +kernel
theorem dX8_digest_86 : decode cX8_digest 86 = .ok (.ldc2_w 246, 3) := by decide +kernel
theorem dX8_digest_89 : decode cX8_digest 89 = .ok (.lload_n 1, 1) := by decide +kernel
theorem dX8_digest_90 : decode cX8_digest 90 = .ok (.lmul, 1) := by decide +kernel
theorem dX8_digest_91 : decode cX8_digest 91 = .ok (.aload_n 0, 1) := by decide +kernel
theorem dX8_digest_92 : decode cX8_digest 92 = .ok (.iload_n 3, 1) := by decide +kernel
theorem dX8_digest_93 : decode cX8_digest 93 = .ok (.invokevirtual 191, 3) := by decide +kernel
theorem dX8_digest_96 : decode cX8_digest 96 = .ok (.i2l, 1) := by decide +kernel
theorem dX8_digest_97 : decode cX8_digest 97 = .ok (.ladd, 1) := by decide +kernel
theorem dX8_digest_98 : decode cX8_digest 98 = .ok (.lstore_n 1, 1) := by decide +kernel
theorem dX8_digest_99 : decode cX8_digest 99 = .ok (.ldc2_w 246, 3) := by decide +kernel
theorem dX8_digest_102 : decode cX8_digest 102 = .ok (.lload_n 1, 1) := by decide +kernel
theorem dX8_digest_103 : decode cX8_digest 103 = .ok (.lmul, 1) := by decide +kernel
theorem dX8_digest_104 : decode cX8_digest 104 = .ok (.aload_n 0, 1) := by decide +kernel
theorem dX8_digest_105 : decode cX8_digest 105 = .ok (.iload_n 3, 1) := by decide +kernel
theorem dX8_digest_106 : decode cX8_digest 106 = .ok (.invokevirtual 195, 3) := by decide +kernel
theorem dX8_digest_109 : decode cX8_digest 109 = .ok (.i2l, 1) := by decide +kernel
theorem dX8_digest_110 : decode cX8_digest 110 = .ok (.ladd, 1) := by decide +kernel
theorem dX8_digest_111 : decode cX8_digest 111 = .ok (.lstore_n 1, 1) := by decide +kernel
theorem dX8_digest_112 : decode cX8_digest 112 = .ok (.iinc 3 1, 3) := by decide +kernel
theorem dX8_digest_115 : decode cX8_digest 115 = .ok (.goto (-71), 3) := by decide +kernel
theorem dX8_digest_118 : decode cX8_digest 118 = .ok (.ldc2_w 246, 3) := by decide +kernel
theorem dX8_digest_121 : decode cX8_digest 121 = .ok (.lload_n 1, 1) := by decide +kernel
theorem dX8_digest_122 : decode cX8_digest 122 = .ok (.lmul, 1) := by decide +kernel
theorem dX8_digest_123 : decode cX8_digest 123 = .ok (.aload_n 0, 1) := by decide +kernel
theorem dX8_digest_124 : decode cX8_digest 124 = .ok (.getfield 90, 3) := by decide +kernel
theorem dX8_digest_127 : decode cX8_digest 127 = .ok (.i2l, 1) := by decide +kernel
theorem dX8_digest_128 : decode cX8_digest 128 = .ok (.ladd, 1) := by decide +kernel
theorem dX8_digest_129 : decode cX8_digest 129 = .ok (.lreturn, 1) := by decide +kernel
end
section
theorem dL_set_0 : decode cL_set 0 = .ok (.aload 4, 2) := by decide +kernel
theorem dL_set_2 : decode cL_set 2 = .ok (.iconst 0, 1) := by decide +kernel
theorem dL_set_3 : decode cL_set 3 = .ok (.aload_n 0, 1) := by decide +kernel
theorem dL_set_4 : decode cL_set 4 = .ok (.iload_n 1, 1) := by decide +kernel
theorem dL_set_5 : decode cL_set 5 = .ok (.iload_n 2, 1) := by decide +kernel
theorem dL_set_6 : decode cL_set 6 = .ok (.iload_n 3, 1) := by decide +kernel
theorem dL_set_7 : decode cL_set 7 = .ok (.invokevirtual 7, 3) := by decide +kernel
theorem dL_set_10 : decode cL_set 10 = .ok (.i2l, 1) := by decide +kernel
theorem dL_set_11 : decode cL_set 11 = .ok (.lastore, 1) := by decide +kernel
theorem dL_set_12 : decode cL_set 12 = .ok (.goto 11, 3) := by decide +kernel
theorem dL_set_15 : decode cL_set 15 = .ok (.astore 5, 2) := by decide +kernel
theorem dL_set_17 : decode cL_set 17 = .ok (.iconst 1, 1) := by decide +kernel
theorem dL_set_18 : decode cL_set 18 = .ok (.ireturn, 1) := by decide +kernel
theorem dL_set_19 : decode cL_set 19 = .ok (.astore 5, 2) := by decide +kernel
theorem dL_set_21 : decode cL_set 21 = .ok (.iconst 2, 1) := by decide +kernel
theorem dL_set_22 : decode cL_set 22 = .ok (.ireturn, 1) := by decide +kernel
theorem dL_set_23 : decode cL_set 23 = .ok (.iconst 0, 1) := by decide +kernel
theorem dL_set_24 : decode cL_set 24 = .ok (.ireturn, 1) := by decide +kernel
theorem dL_setFour_0 : decode cL_setFour 0 = .ok (.aload 7, 2) := by decide +kernel
theorem dL_setFour_2 : decode cL_setFour 2 = .ok (.iconst 0, 1) := by decide +kernel
theorem dL_setFour_3 : decode cL_setFour 3 = .ok (.aload_n 0, 1) := by decide +kernel
theorem dL_setFour_4 : decode cL_setFour 4 = .ok (.iload_n 1, 1) := by decide +kernel
theorem dL_setFour_5 : decode cL_setFour 5 = .ok (.iload_n 2, 1) := by decide +kernel
theorem dL_setFour_6 : decode cL_setFour 6 = .ok (.iload_n 3, 1) := by decide +kernel
theorem dL_setFour_7 : decode cL_setFour 7 = .ok (.iload 4, 2) := by decide +kernel
theorem dL_setFour_9 : decode cL_setFour 9 = .ok (.iload 5, 2) := by decide +kernel
theorem dL_setFour_11 : decode cL_setFour 11 = .ok (.iload 6, 2) := by decide +kernel
theorem dL_setFour_13 : decode cL_setFour 13 = .ok (.invokevirtual 17, 3) := by decide +kernel
theorem dL_setFour_16 : decode cL_setFour 16 = .ok (.lastore, 1) := by decide +kernel
theorem dL_setFour_17 : decode cL_setFour 17 = .ok (.goto 11, 3) := by decide +kernel
theorem dL_setFour_20 : decode cL_setFour 20 = .ok (.astore 8, 2) := by decide +kernel
theorem dL_setFour_22 : decode cL_setFour 22 = .ok (.iconst 1, 1) := by decide +kernel
theorem dL_setFour_23 : decode cL_setFour 23 = .ok (.ireturn, 1) := by decide +kernel
theorem dL_setFour_24 : decode cL_setFour 24 = .ok (.astore 8, 2) := by decide +kernel
theorem dL_setFour_26 : decode cL_setFour 26 = .ok (.iconst 2, 1) := by decide +kernel
theorem dL_setFour_27 : decode cL_setFour 27 = .ok (.ireturn, 1) := by decide +kernel
theorem dL_setFour_28 : decode cL_setFour 28 = .ok (.iconst 0, 1) := by decide +kernel
theorem dL_setFour_29 : decode cL_setFour 29 = .ok (.ireturn, 1) := by decide +kernel
theorem dL_setOrder_0 : decode cL_setOrder 0 = .ok (.aload_n 2, 1) := by decide +kernel
theorem dL_setOrder_1 : decode cL_setOrder 1 = .ok (.iconst 0, 1) := by decide +kernel
theorem dL_setOrder_2 : decode cL_setOrder 2 = .ok (.aload_n 0, 1) := by decide +kernel
theorem dL_setOrder_3 : decode cL_setOrder 3 = .ok (.iload_n 1, 1) := by decide +kernel
theorem dL_setOrder_4 : decode cL_setOrder 4 = .ok (.invokevirtual 21, 3) := by decide +kernel
theorem dL_setOrder_7 : decode cL_setOrder 7 = .ok (.i2l, 1) := by decide +kernel
theorem dL_setOrder_8 : decode cL_setOrder 8 = .ok (.lastore, 1) := by decide +kernel
theorem dL_setOrder_9 : decode cL_setOrder 9 = .ok (.goto 6, 3) := by decide +kernel
theorem dL_setOrder_12 : decode cL_setOrder 12 = .ok (.astore_n 3, 1) := by decide +kernel
theorem dL_setOrder_13 : decode cL_setOrder 13 = .ok (.iconst 1, 1) := by decide +kernel
theorem dL_setOrder_14 : decode cL_setOrder 14 = .ok (.ireturn, 1) := by decide +kernel
theorem dL_setOrder_15 : decode cL_setOrder 15 = .ok (.iconst 0, 1) := by decide +kernel
theorem dL_setOrder_16 : decode cL_setOrder 16 = .ok (.ireturn, 1) := by decide +kernel
theorem dL_load_0 : decode cL_load 0 = .ok (.aload_n 3, 1) := by decide +kernel
theorem dL_load_1 : decode cL_load 1 = .ok (.iconst 0, 1) := by decide +kernel
theorem dL_load_2 : decode cL_load 2 = .ok (.aload_n 0, 1) := by decide +kernel
theorem dL_load_3 : decode cL_load 3 = .ok (.iload_n 1, 1) := by decide +kernel
theorem dL_load_4 : decode cL_load 4 = .ok (.iload_n 2, 1) := by decide +kernel
theorem dL_load_5 : decode cL_load 5 = .ok (.invokevirtual 25, 3) := by decide +kernel
theorem dL_load_8 : decode cL_load 8 = .ok (.i2l, 1) := by decide +kernel
theorem dL_load_9 : decode cL_load 9 = .ok (.lastore, 1) := by decide +kernel
theorem dL_load_10 : decode cL_load 10 = .ok (.goto 7, 3) := by decide +kernel
theorem dL_load_13 : decode cL_load 13 = .ok (.astore 4, 2) := by decide +kernel
theorem dL_load_15 : decode cL_load 15 = .ok (.iconst 1, 1) := by decide +kernel
theorem dL_load_16 : decode cL_load 16 = .ok (.ireturn, 1) := by decide +kernel
theorem dL_load_17 : decode cL_load 17 = .ok (.iconst 0, 1) := by decide +kernel
theorem dL_load_18 : decode cL_load 18 = .ok (.ireturn, 1) := by decide +kernel
theorem dL_add_0 : decode cL_add 0 = .ok (.aload 5, 2) := by decide +kernel
theorem dL_add_2 : decode cL_add 2 = .ok (.iconst 0, 1) := by decide +kernel
theorem dL_add_3 : decode cL_add 3 = .ok (.aload_n 0, 1) := by decide +kernel
theorem dL_add_4 : decode cL_add 4 = .ok (.iload_n 1, 1) := by decide +kernel
theorem dL_add_5 : decode cL_add 5 = .ok (.iload_n 2, 1) := by decide +kernel
theorem dL_add_6 : decode cL_add 6 = .ok (.iload_n 3, 1) := by decide +kernel
theorem dL_add_7 : decode cL_add 7 = .ok (.iload 4, 2) := by decide +kernel
theorem dL_add_9 : decode cL_add 9 = .ok (.invokevirtual 29, 3) := by decide +kernel
theorem dL_add_12 : decode cL_add 12 = .ok (.lastore, 1) := by decide +kernel
theorem dL_add_13 : decode cL_add 13 = .ok (.goto 11, 3) := by decide +kernel
theorem dL_add_16 : decode cL_add 16 = .ok (.astore 6, 2) := by decide +kernel
theorem dL_add_18 : decode cL_add 18 = .ok (.iconst 1, 1) := by decide +kernel
theorem dL_add_19 : decode cL_add 19 = .ok (.ireturn, 1) := by decide +kernel
theorem dL_add_20 : decode cL_add 20 = .ok (.astore 6, 2) := by decide +kernel
theorem dL_add_22 : decode cL_add 22 = .ok (.iconst 2, 1) := by decide +kernel
theorem dL_add_23 : decode cL_add 23 = .ok (.ireturn, 1) := by decide +kernel
theorem dL_add_24 : decode cL_add 24 = .ok (.iconst 0, 1) := by decide +kernel
theorem dL_add_25 : decode cL_add 25 = .ok (.ireturn, 1) := by decide +kernel
theorem dL_multiply_0 : decode cL_multiply 0 = .ok (.aload 4, 2) := by decide +kernel
theorem dL_multiply_2 : decode cL_multiply 2 = .ok (.iconst 0, 1) := by decide +kernel
theorem dL_multiply_3 : decode cL_multiply 3 = .ok (.aload_n 0, 1) := by decide +kernel
theorem dL_multiply_4 : decode cL_multiply 4 = .ok (.iload_n 1, 1) := by decide +kernel
theorem dL_multiply_5 : decode cL_multiply 5 = .ok (.iload_n 2, 1) := by decide +kernel
theorem dL_multiply_6 : decode cL_multiply 6 = .ok (.iload_n 3, 1) := by decide +kernel
theorem dL_multiply_7 : decode cL_multiply 7 = .ok (.invokevirtual 35, 3) := by decide +kernel
theorem dL_multiply_10 : decode cL_multiply 10 = .ok (.lastore, 1) := by decide +kernel
theorem dL_multiply_11 : decode cL_multiply 11 = .ok (.goto 11, 3) := by decide +kernel
theorem dL_multiply_14 : decode cL_multiply 14 = .ok (.astore 5, 2) := by decide +kernel
theorem dL_multiply_16 : decode cL_multiply 16 = .ok (.iconst 1, 1) := by decide +kernel
theorem dL_multiply_17 : decode cL_multiply 17 = .ok (.ireturn, 1) := by decide +kernel
theorem dL_multiply_18 : decode cL_multiply 18 = .ok (.astore 5, 2) := by decide +kernel
theorem dL_multiply_20 : decode cL_multiply 20 = .ok (.iconst 2, 1) := by decide +kernel
theorem dL_multiply_21 : decode cL_multiply 21 = .ok (.ireturn, 1) := by decide +kernel
theorem dL_multiply_22 : decode cL_multiply 22 = .ok (.iconst 0, 1) := by decide +kernel
theorem dL_multiply_23 : decode cL_multiply 23 = .ok (.ireturn, 1) := by decide +kernel
theorem dL_conjugate_0 : decode cL_conjugate 0 = .ok (.aload_n 2, 1) := by decide +kernel
theorem dL_conjugate_1 : decode cL_conjugate 1 = .ok (.iconst 0, 1) := by decide +kernel
theorem dL_conjugate_2 : decode cL_conjugate 2 = .ok (.aload_n 0, 1) := by decide +kernel
theorem dL_conjugate_3 : decode cL_conjugate 3 = .ok (.iload_n 1, 1) := by decide +kernel
theorem dL_conjugate_4 : decode cL_conjugate 4 = .ok (.invokevirtual 39, 3) := by decide +kernel
theorem dL_conjugate_7 : decode cL_conjugate 7 = .ok (.i2l, 1) := by decide +kernel
theorem dL_conjugate_8 : decode cL_conjugate 8 = .ok (.lastore, 1) := by decide +kernel
theorem dL_conjugate_9 : decode cL_conjugate 9 = .ok (.goto 6, 3) := by decide +kernel
theorem dL_conjugate_12 : decode cL_conjugate 12 = .ok (.astore_n 3, 1) := by decide +kernel
theorem dL_conjugate_13 : decode cL_conjugate 13 = .ok (.iconst 1, 1) := by decide +kernel
theorem dL_conjugate_14 : decode cL_conjugate 14 = .ok (.ireturn, 1) := by decide +kernel
theorem dL_conjugate_15 : decode cL_conjugate 15 = .ok (.iconst 0, 1) := by decide +kernel
theorem dL_conjugate_16 : decode cL_conjugate 16 = .ok (.ireturn, 1) := by decide +kernel
theorem dL_commutator_0 : decode cL_commutator 0 = .ok (.aload 4, 2) := by decide +kernel
theorem dL_commutator_2 : decode cL_commutator 2 = .ok (.iconst 0, 1) := by decide +kernel
theorem dL_commutator_3 : decode cL_commutator 3 = .ok (.aload_n 0, 1) := by decide +kernel
theorem dL_commutator_4 : decode cL_commutator 4 = .ok (.iload_n 1, 1) := by decide +kernel
theorem dL_commutator_5 : decode cL_commutator 5 = .ok (.iload_n 2, 1) := by decide +kernel
theorem dL_commutator_6 : decode cL_commutator 6 = .ok (.iload_n 3, 1) := by decide +kernel
theorem dL_commutator_7 : decode cL_commutator 7 = .ok (.invokevirtual 42, 3) := by decide +kernel
theorem dL_commutator_10 : decode cL_commutator 10 = .ok (.lastore, 1) := by decide +kernel
theorem dL_commutator_11 : decode cL_commutator 11 = .ok (.goto 11, 3) := by decide +kernel
theorem dL_commutator_14 : decode cL_commutator 14 = .ok (.astore 5, 2) := by decide +kernel
theorem dL_commutator_16 : decode cL_commutator 16 = .ok (.iconst 1, 1) := by decide +kernel
theorem dL_commutator_17 : decode cL_commutator 17 = .ok (.ireturn, 1) := by decide +kernel
theorem dL_commutator_18 : decode cL_commutator 18 = .ok (.astore 5, 2) := by decide +kernel
theorem dL_commutator_20 : decode cL_commutator 20 = .ok (.iconst 2, 1) := by decide +kernel
theorem dL_commutator_21 : decode cL_commutator 21 = .ok (.ireturn, 1) := by decide +kernel
theorem dL_commutator_22 : decode cL_commutator 22 = .ok (.iconst 0, 1) := by decide +kernel
theorem dL_commutator_23 : decode cL_commutator 23 = .ok (.ireturn, 1) := by decide +kernel
theorem dL_associator_0 : decode cL_associator 0 = .ok (.aload 5, 2) := by decide +kernel
theorem dL_associator_2 : decode cL_associator 2 = .ok (.iconst 0, 1) := by decide +kernel
theorem dL_associator_3 : decode cL_associator 3 = .ok (.aload_n 0, 1) := by decide +kernel
theorem dL_associator_4 : decode cL_associator 4 = .ok (.iload_n 1, 1) := by decide +kernel
theorem dL_associator_5 : decode cL_associator 5 = .ok (.iload_n 2, 1) := by decide +kernel
theorem dL_associator_6 : decode cL_associator 6 = .ok (.iload_n 3, 1) := by decide +kernel
theorem dL_associator_7 : decode cL_associator 7 = .ok (.iload 4, 2) := by decide +kernel
theorem dL_associator_9 : decode cL_associator 9 = .ok (.invokevirtual 45, 3) := by decide +kernel
theorem dL_associator_12 : decode cL_associator 12 = .ok (.lastore, 1) := by decide +kernel
theorem dL_associator_13 : decode cL_associator 13 = .ok (.goto 11, 3) := by decide +kernel
theorem dL_associator_16 : decode cL_associator 16 = .ok (.astore 6, 2) := by decide +kernel
theorem dL_associator_18 : decode cL_associator 18 = .ok (.iconst 1, 1) := by decide +kernel
theorem dL_associator_19 : decode cL_associator 19 = .ok (.ireturn, 1) := by decide +kernel
theorem dL_associator_20 : decode cL_associator 20 = .ok (.astore 6, 2) := by decide +kernel
theorem dL_associator_22 : decode cL_associator 22 = .ok (.iconst 2, 1) := by decide +kernel
theorem dL_associator_23 : decode cL_associator 23 = .ok (.ireturn, 1) := by decide +kernel
theorem dL_associator_24 : decode cL_associator 24 = .ok (.iconst 0, 1) := by decide +kernel
theorem dL_associator_25 : decode cL_associator 25 = .ok (.ireturn, 1) := by decide +kernel
theorem dL_divide_0 : decode cL_divide 0 = .ok (.aload 5, 2) := by decide +kernel
theorem dL_divide_2 : decode cL_divide 2 = .ok (.iconst 0, 1) := by decide +kernel
theorem dL_divide_3 : decode cL_divide 3 = .ok (.aload_n 0, 1) := by decide +kernel
theorem dL_divide_4 : decode cL_divide 4 = .ok (.iload_n 1, 1) := by decide +kernel
theorem dL_divide_5 : decode cL_divide 5 = .ok (.iload_n 2, 1) := by decide +kernel
theorem dL_divide_6 : decode cL_divide 6 = .ok (.iload_n 3, 1) := by decide +kernel
theorem dL_divide_7 : decode cL_divide 7 = .ok (.iload 4, 2) := by decide +kernel
theorem dL_divide_9 : decode cL_divide 9 = .ok (.invokevirtual 49, 3) := by decide +kernel
theorem dL_divide_12 : decode cL_divide 12 = .ok (.lastore, 1) := by decide +kernel
theorem dL_divide_13 : decode cL_divide 13 = .ok (.goto 19, 3) := by decide +kernel
theorem dL_divide_16 : decode cL_divide 16 = .ok (.astore 6, 2) := by decide +kernel
theorem dL_divide_18 : decode cL_divide 18 = .ok (.iconst 1, 1) := by decide +kernel
theorem dL_divide_19 : decode cL_divide 19 = .ok (.ireturn, 1) := by decide +kernel
theorem dL_divide_20 : decode cL_divide 20 = .ok (.astore 6, 2) := by decide +kernel
theorem dL_divide_22 : decode cL_divide 22 = .ok (.iconst 2, 1) := by decide +kernel
theorem dL_divide_23 : decode cL_divide 23 = .ok (.ireturn, 1) := by decide +kernel
theorem dL_divide_24 : decode cL_divide 24 = .ok (.astore 6, 2) := by decide +kernel
theorem dL_divide_26 : decode cL_divide 26 = .ok (.iconst 3, 1) := by decide +kernel
theorem dL_divide_27 : decode cL_divide 27 = .ok (.ireturn, 1) := by decide +kernel
theorem dL_divide_28 : decode cL_divide 28 = .ok (.astore 6, 2) := by decide +kernel
theorem dL_divide_30 : decode cL_divide 30 = .ok (.iconst 4, 1) := by decide +kernel
theorem dL_divide_31 : decode cL_divide 31 = .ok (.ireturn, 1) := by decide +kernel
theorem dL_divide_32 : decode cL_divide 32 = .ok (.iconst 0, 1) := by decide +kernel
theorem dL_divide_33 : decode cL_divide 33 = .ok (.ireturn, 1) := by decide +kernel
theorem dL_coordinate_0 : decode cL_coordinate 0 = .ok (.aload_n 3, 1) := by decide +kernel
theorem dL_coordinate_1 : decode cL_coordinate 1 = .ok (.iconst 0, 1) := by decide +kernel
theorem dL_coordinate_2 : decode cL_coordinate 2 = .ok (.aload_n 0, 1) := by decide +kernel
theorem dL_coordinate_3 : decode cL_coordinate 3 = .ok (.iload_n 1, 1) := by decide +kernel
theorem dL_coordinate_4 : decode cL_coordinate 4 = .ok (.iload_n 2, 1) := by decide +kernel
theorem dL_coordinate_5 : decode cL_coordinate 5 = .ok (.invokevirtual 54, 3) := by decide +kernel
theorem dL_coordinate_8 : decode cL_coordinate 8 = .ok (.i2l, 1) := by decide +kernel
theorem dL_coordinate_9 : decode cL_coordinate 9 = .ok (.lastore, 1) := by decide +kernel
theorem dL_coordinate_10 : decode cL_coordinate 10 = .ok (.goto 7, 3) := by decide +kernel
theorem dL_coordinate_13 : decode cL_coordinate 13 = .ok (.astore 4, 2) := by decide +kernel
theorem dL_coordinate_15 : decode cL_coordinate 15 = .ok (.iconst 1, 1) := by decide +kernel
theorem dL_coordinate_16 : decode cL_coordinate 16 = .ok (.ireturn, 1) := by decide +kernel
theorem dL_coordinate_17 : decode cL_coordinate 17 = .ok (.iconst 0, 1) := by decide +kernel
theorem dL_coordinate_18 : decode cL_coordinate 18 = .ok (.ireturn, 1) := by decide +kernel
theorem dL_norm_0 : decode cL_norm 0 = .ok (.aload_n 2, 1) := by decide +kernel
theorem dL_norm_1 : decode cL_norm 1 = .ok (.iconst 0, 1) := by decide +kernel
theorem dL_norm_2 : decode cL_norm 2 = .ok (.aload_n 0, 1) := by decide +kernel
theorem dL_norm_3 : decode cL_norm 3 = .ok (.iload_n 1, 1) := by decide +kernel
theorem dL_norm_4 : decode cL_norm 4 = .ok (.invokevirtual 57, 3) := by decide +kernel
theorem dL_norm_7 : decode cL_norm 7 = .ok (.lastore, 1) := by decide +kernel
theorem dL_norm_8 : decode cL_norm 8 = .ok (.goto 6, 3) := by decide +kernel
theorem dL_norm_11 : decode cL_norm 11 = .ok (.astore_n 3, 1) := by decide +kernel
theorem dL_norm_12 : decode cL_norm 12 = .ok (.iconst 1, 1) := by decide +kernel
theorem dL_norm_13 : decode cL_norm 13 = .ok (.ireturn, 1) := by decide +kernel
theorem dL_norm_14 : decode cL_norm 14 = .ok (.iconst 0, 1) := by decide +kernel
theorem dL_norm_15 : decode cL_norm 15 = .ok (.ireturn, 1) := by decide +kernel
theorem dL_dot_0 : decode cL_dot 0 = .ok (.aload_n 3, 1) := by decide +kernel
theorem dL_dot_1 : decode cL_dot 1 = .ok (.iconst 0, 1) := by decide +kernel
theorem dL_dot_2 : decode cL_dot 2 = .ok (.aload_n 0, 1) := by decide +kernel
theorem dL_dot_3 : decode cL_dot 3 = .ok (.iload_n 1, 1) := by decide +kernel
theorem dL_dot_4 : decode cL_dot 4 = .ok (.iload_n 2, 1) := by decide +kernel
theorem dL_dot_5 : decode cL_dot 5 = .ok (.invokevirtual 61, 3) := by decide +kernel
theorem dL_dot_8 : decode cL_dot 8 = .ok (.lastore, 1) := by decide +kernel
theorem dL_dot_9 : decode cL_dot 9 = .ok (.goto 7, 3) := by decide +kernel
theorem dL_dot_12 : decode cL_dot 12 = .ok (.astore 4, 2) := by decide +kernel
theorem dL_dot_14 : decode cL_dot 14 = .ok (.iconst 1, 1) := by decide +kernel
theorem dL_dot_15 : decode cL_dot 15 = .ok (.ireturn, 1) := by decide +kernel
theorem dL_dot_16 : decode cL_dot 16 = .ok (.iconst 0, 1) := by decide +kernel
theorem dL_dot_17 : decode cL_dot 17 = .ok (.ireturn, 1) := by decide +kernel
theorem dL_ordersOf_0 : decode cL_ordersOf 0 = .ok (.aload_n 2, 1) := by decide +kernel
theorem dL_ordersOf_1 : decode cL_ordersOf 1 = .ok (.iconst 0, 1) := by decide +kernel
theorem dL_ordersOf_2 : decode cL_ordersOf 2 = .ok (.aload_n 0, 1) := by decide +kernel
theorem dL_ordersOf_3 : decode cL_ordersOf 3 = .ok (.iload_n 1, 1) := by decide +kernel
theorem dL_ordersOf_4 : decode cL_ordersOf 4 = .ok (.invokevirtual 65, 3) := by decide +kernel
theorem dL_ordersOf_7 : decode cL_ordersOf 7 = .ok (.i2l, 1) := by decide +kernel
theorem dL_ordersOf_8 : decode cL_ordersOf 8 = .ok (.lastore, 1) := by decide +kernel
theorem dL_ordersOf_9 : decode cL_ordersOf 9 = .ok (.goto 6, 3) := by decide +kernel
theorem dL_ordersOf_12 : decode cL_ordersOf 12 = .ok (.astore_n 3, 1) := by decide +kernel
theorem dL_ordersOf_13 : decode cL_ordersOf 13 = .ok (.iconst 1, 1) := by decide +kernel
theorem dL_ordersOf_14 : decode cL_ordersOf 14 = .ok (.ireturn, 1) := by decide +kernel
theorem dL_ordersOf_15 : decode cL_ordersOf 15 = .ok (.iconst 0, 1) := by decide +kernel
theorem dL_ordersOf_16 : decode cL_ordersOf 16 = .ok (.ireturn, 1) := by decide +kernel
theorem dL_left_0 : decode cL_left 0 = .ok (.aload 4, 2) := by decide +kernel
theorem dL_left_2 : decode cL_left 2 = .ok (.iconst 0, 1) := by decide +kernel
theorem dL_left_3 : decode cL_left 3 = .ok (.aload_n 0, 1) := by decide +kernel
theorem dL_left_4 : decode cL_left 4 = .ok (.iload_n 1, 1) := by decide +kernel
theorem dL_left_5 : decode cL_left 5 = .ok (.iload_n 2, 1) := by decide +kernel
theorem dL_left_6 : decode cL_left 6 = .ok (.iload_n 3, 1) := by decide +kernel
theorem dL_left_7 : decode cL_left 7 = .ok (.invokevirtual 68, 3) := by decide +kernel
theorem dL_left_10 : decode cL_left 10 = .ok (.i2l, 1) := by decide +kernel
theorem dL_left_11 : decode cL_left 11 = .ok (.lastore, 1) := by decide +kernel
theorem dL_left_12 : decode cL_left 12 = .ok (.goto 7, 3) := by decide +kernel
theorem dL_left_15 : decode cL_left 15 = .ok (.astore 5, 2) := by decide +kernel
theorem dL_left_17 : decode cL_left 17 = .ok (.iconst 1, 1) := by decide +kernel
theorem dL_left_18 : decode cL_left 18 = .ok (.ireturn, 1) := by decide +kernel
theorem dL_left_19 : decode cL_left 19 = .ok (.iconst 0, 1) := by decide +kernel
theorem dL_left_20 : decode cL_left 20 = .ok (.ireturn, 1) := by decide +kernel
theorem dL_unitOf_0 : decode cL_unitOf 0 = .ok (.aload_n 2, 1) := by decide +kernel
theorem dL_unitOf_1 : decode cL_unitOf 1 = .ok (.iconst 0, 1) := by decide +kernel
theorem dL_unitOf_2 : decode cL_unitOf 2 = .ok (.aload_n 0, 1) := by decide +kernel
theorem dL_unitOf_3 : decode cL_unitOf 3 = .ok (.iload_n 1, 1) := by decide +kernel
theorem dL_unitOf_4 : decode cL_unitOf 4 = .ok (.invokevirtual 71, 3) := by decide +kernel
theorem dL_unitOf_7 : decode cL_unitOf 7 = .ok (.i2l, 1) := by decide +kernel
theorem dL_unitOf_8 : decode cL_unitOf 8 = .ok (.lastore, 1) := by decide +kernel
theorem dL_unitOf_9 : decode cL_unitOf 9 = .ok (.goto 6, 3) := by decide +kernel
theorem dL_unitOf_12 : decode cL_unitOf 12 = .ok (.astore_n 3, 1) := by decide +kernel
theorem dL_unitOf_13 : decode cL_unitOf 13 = .ok (.iconst 1, 1) := by decide +kernel
theorem dL_unitOf_14 : decode cL_unitOf 14 = .ok (.ireturn, 1) := by decide +kernel
theorem dL_unitOf_15 : decode cL_unitOf 15 = .ok (.iconst 0, 1) := by decide +kernel
theorem dL_unitOf_16 : decode cL_unitOf 16 = .ok (.ireturn, 1) := by decide +kernel
theorem dL_value_0 : decode cL_value 0 = .ok (.aload_n 2, 1) := by decide +kernel
theorem dL_value_1 : decode cL_value 1 = .ok (.iconst 0, 1) := by decide +kernel
theorem dL_value_2 : decode cL_value 2 = .ok (.aload_n 0, 1) := by decide +kernel
theorem dL_value_3 : decode cL_value 3 = .ok (.iload_n 1, 1) := by decide +kernel
theorem dL_value_4 : decode cL_value 4 = .ok (.invokevirtual 74, 3) := by decide +kernel
theorem dL_value_7 : decode cL_value 7 = .ok (.i2l, 1) := by decide +kernel
theorem dL_value_8 : decode cL_value 8 = .ok (.lastore, 1) := by decide +kernel
theorem dL_value_9 : decode cL_value 9 = .ok (.goto 6, 3) := by decide +kernel
theorem dL_value_12 : decode cL_value 12 = .ok (.astore_n 3, 1) := by decide +kernel
theorem dL_value_13 : decode cL_value 13 = .ok (.iconst 1, 1) := by decide +kernel
theorem dL_value_14 : decode cL_value 14 = .ok (.ireturn, 1) := by decide +kernel
theorem dL_value_15 : decode cL_value 15 = .ok (.iconst 0, 1) := by decide +kernel
theorem dL_value_16 : decode cL_value 16 = .ok (.ireturn, 1) := by decide +kernel
theorem dL_dimension_0 : decode cL_dimension 0 = .ok (.aload_n 2, 1) := by decide +kernel
theorem dL_dimension_1 : decode cL_dimension 1 = .ok (.iconst 0, 1) := by decide +kernel
theorem dL_dimension_2 : decode cL_dimension 2 = .ok (.aload_n 0, 1) := by decide +kernel
theorem dL_dimension_3 : decode cL_dimension 3 = .ok (.iload_n 1, 1) := by decide +kernel
theorem dL_dimension_4 : decode cL_dimension 4 = .ok (.invokevirtual 77, 3) := by decide +kernel
theorem dL_dimension_7 : decode cL_dimension 7 = .ok (.i2l, 1) := by decide +kernel
theorem dL_dimension_8 : decode cL_dimension 8 = .ok (.lastore, 1) := by decide +kernel
theorem dL_dimension_9 : decode cL_dimension 9 = .ok (.goto 6, 3) := by decide +kernel
theorem dL_dimension_12 : decode cL_dimension 12 = .ok (.astore_n 3, 1) := by decide +kernel
theorem dL_dimension_13 : decode cL_dimension 13 = .ok (.iconst 1, 1) := by decide +kernel
theorem dL_dimension_14 : decode cL_dimension 14 = .ok (.ireturn, 1) := by decide +kernel
theorem dL_dimension_15 : decode cL_dimension 15 = .ok (.iconst 0, 1) := by decide +kernel
theorem dL_dimension_16 : decode cL_dimension 16 = .ok (.ireturn, 1) := by decide +kernel
theorem dL_commute_0 : decode cL_commute 0 = .ok (.aload_n 3, 1) := by decide +kernel
theorem dL_commute_1 : decode cL_commute 1 = .ok (.iconst 0, 1) := by decide +kernel
theorem dL_commute_2 : decode cL_commute 2 = .ok (.aload_n 0, 1) := by decide +kernel
theorem dL_commute_3 : decode cL_commute 3 = .ok (.iload_n 1, 1) := by decide +kernel
theorem dL_commute_4 : decode cL_commute 4 = .ok (.iload_n 2, 1) := by decide +kernel
theorem dL_commute_5 : decode cL_commute 5 = .ok (.invokevirtual 80, 3) := by decide +kernel
theorem dL_commute_8 : decode cL_commute 8 = .ok (.ifCond .eq 7, 3) := by decide +kernel
theorem dL_commute_11 : decode cL_commute 11 = .ok (.lconst 1, 1) := by decide +kernel
theorem dL_commute_12 : decode cL_commute 12 = .ok (.goto 4, 3) := by decide +kernel
theorem dL_commute_15 : decode cL_commute 15 = .ok (.lconst 0, 1) := by decide +kernel
theorem dL_commute_16 : decode cL_commute 16 = .ok (.lastore, 1) := by decide +kernel
theorem dL_commute_17 : decode cL_commute 17 = .ok (.goto 7, 3) := by decide +kernel
theorem dL_commute_20 : decode cL_commute 20 = .ok (.astore 4, 2) := by decide +kernel
theorem dL_commute_22 : decode cL_commute 22 = .ok (.iconst 1, 1) := by decide +kernel
theorem dL_commute_23 : decode cL_commute 23 = .ok (.ireturn, 1) := by decide +kernel
theorem dL_commute_24 : decode cL_commute 24 = .ok (.iconst 0, 1) := by decide +kernel
theorem dL_commute_25 : decode cL_commute 25 = .ok (.ireturn, 1) := by decide +kernel
theorem dL_associate_0 : decode cL_associate 0 = .ok (.aload 4, 2) := by decide +kernel
theorem dL_associate_2 : decode cL_associate 2 = .ok (.iconst 0, 1) := by decide +kernel
theorem dL_associate_3 : decode cL_associate 3 = .ok (.aload_n 0, 1) := by decide +kernel
theorem dL_associate_4 : decode cL_associate 4 = .ok (.iload_n 1, 1) := by decide +kernel
theorem dL_associate_5 : decode cL_associate 5 = .ok (.iload_n 2, 1) := by decide +kernel
theorem dL_associate_6 : decode cL_associate 6 = .ok (.iload_n 3, 1) := by decide +kernel
theorem dL_associate_7 : decode cL_associate 7 = .ok (.invokevirtual 84, 3) := by decide +kernel
theorem dL_associate_10 : decode cL_associate 10 = .ok (.ifCond .eq 7, 3) := by decide +kernel
theorem dL_associate_13 : decode cL_associate 13 = .ok (.lconst 1, 1) := by decide +kernel
theorem dL_associate_14 : decode cL_associate 14 = .ok (.goto 4, 3) := by decide +kernel
theorem dL_associate_17 : decode cL_associate 17 = .ok (.lconst 0, 1) := by decide +kernel
theorem dL_associate_18 : decode cL_associate 18 = .ok (.lastore, 1) := by decide +kernel
theorem dL_associate_19 : decode cL_associate 19 = .ok (.goto 7, 3) := by decide +kernel
theorem dL_associate_22 : decode cL_associate 22 = .ok (.astore 5, 2) := by decide +kernel
theorem dL_associate_24 : decode cL_associate 24 = .ok (.iconst 1, 1) := by decide +kernel
theorem dL_associate_25 : decode cL_associate 25 = .ok (.ireturn, 1) := by decide +kernel
theorem dL_associate_26 : decode cL_associate 26 = .ok (.iconst 0, 1) := by decide +kernel
theorem dL_associate_27 : decode cL_associate 27 = .ok (.ireturn, 1) := by decide +kernel
theorem dL_elements_0 : decode cL_elements 0 = .ok (.aload_n 2, 1) := by decide +kernel
theorem dL_elements_1 : decode cL_elements 1 = .ok (.iconst 0, 1) := by decide +kernel
theorem dL_elements_2 : decode cL_elements 2 = .ok (.aload_n 0, 1) := by decide +kernel
theorem dL_elements_3 : decode cL_elements 3 = .ok (.iload_n 1, 1) := by decide +kernel
theorem dL_elements_4 : decode cL_elements 4 = .ok (.invokevirtual 88, 3) := by decide +kernel
theorem dL_elements_7 : decode cL_elements 7 = .ok (.lastore, 1) := by decide +kernel
theorem dL_elements_8 : decode cL_elements 8 = .ok (.goto 6, 3) := by decide +kernel
theorem dL_elements_11 : decode cL_elements 11 = .ok (.astore_n 3, 1) := by decide +kernel
theorem dL_elements_12 : decode cL_elements 12 = .ok (.iconst 1, 1) := by decide +kernel
theorem dL_elements_13 : decode cL_elements 13 = .ok (.ireturn, 1) := by decide +kernel
theorem dL_elements_14 : decode cL_elements 14 = .ok (.iconst 0, 1) := by decide +kernel
theorem dL_elements_15 : decode cL_elements 15 = .ok (.ireturn, 1) := by decide +kernel
theorem dL_steps_0 : decode cL_steps 0 = .ok (.aload_n 3, 1) := by decide +kernel
theorem dL_steps_1 : decode cL_steps 1 = .ok (.iconst 0, 1) := by decide +kernel
theorem dL_steps_2 : decode cL_steps 2 = .ok (.aload_n 0, 1) := by decide +kernel
theorem dL_steps_3 : decode cL_steps 3 = .ok (.iload_n 1, 1) := by decide +kernel
theorem dL_steps_4 : decode cL_steps 4 = .ok (.iload_n 2, 1) := by decide +kernel
theorem dL_steps_5 : decode cL_steps 5 = .ok (.invokevirtual 91, 3) := by decide +kernel
theorem dL_steps_8 : decode cL_steps 8 = .ok (.i2l, 1) := by decide +kernel
theorem dL_steps_9 : decode cL_steps 9 = .ok (.lastore, 1) := by decide +kernel
theorem dL_steps_10 : decode cL_steps 10 = .ok (.goto 11, 3) := by decide +kernel
theorem dL_steps_13 : decode cL_steps 13 = .ok (.astore 4, 2) := by decide +kernel
theorem dL_steps_15 : decode cL_steps 15 = .ok (.iconst 1, 1) := by decide +kernel
theorem dL_steps_16 : decode cL_steps 16 = .ok (.ireturn, 1) := by decide +kernel
theorem dL_steps_17 : decode cL_steps 17 = .ok (.astore 4, 2) := by decide +kernel
theorem dL_steps_19 : decode cL_steps 19 = .ok (.iconst 2, 1) := by decide +kernel
theorem dL_steps_20 : decode cL_steps 20 = .ok (.ireturn, 1) := by decide +kernel
theorem dL_steps_21 : decode cL_steps 21 = .ok (.iconst 0, 1) := by decide +kernel
theorem dL_steps_22 : decode cL_steps 22 = .ok (.ireturn, 1) := by decide +kernel
theorem dL_lastNorm_0 : decode cL_lastNorm 0 = .ok (.aload_n 3, 1) := by decide +kernel
theorem dL_lastNorm_1 : decode cL_lastNorm 1 = .ok (.iconst 0, 1) := by decide +kernel
theorem dL_lastNorm_2 : decode cL_lastNorm 2 = .ok (.aload_n 0, 1) := by decide +kernel
theorem dL_lastNorm_3 : decode cL_lastNorm 3 = .ok (.iload_n 1, 1) := by decide +kernel
theorem dL_lastNorm_4 : decode cL_lastNorm 4 = .ok (.iload_n 2, 1) := by decide +kernel
theorem dL_lastNorm_5 : decode cL_lastNorm 5 = .ok (.invokevirtual 94, 3) := by decide +kernel
theorem dL_lastNorm_8 : decode cL_lastNorm 8 = .ok (.lastore, 1) := by decide +kernel
theorem dL_lastNorm_9 : decode cL_lastNorm 9 = .ok (.goto 11, 3) := by decide +kernel
theorem dL_lastNorm_12 : decode cL_lastNorm 12 = .ok (.astore 4, 2) := by decide +kernel
theorem dL_lastNorm_14 : decode cL_lastNorm 14 = .ok (.iconst 1, 1) := by decide +kernel
theorem dL_lastNorm_15 : decode cL_lastNorm 15 = .ok (.ireturn, 1) := by decide +kernel
theorem dL_lastNorm_16 : decode cL_lastNorm 16 = .ok (.astore 4, 2) := by decide +kernel
theorem dL_lastNorm_18 : decode cL_lastNorm 18 = .ok (.iconst 2, 1) := by decide +kernel
theorem dL_lastNorm_19 : decode cL_lastNorm 19 = .ok (.ireturn, 1) := by decide +kernel
theorem dL_lastNorm_20 : decode cL_lastNorm 20 = .ok (.iconst 0, 1) := by decide +kernel
theorem dL_lastNorm_21 : decode cL_lastNorm 21 = .ok (.ireturn, 1) := by decide +kernel
theorem dL_commuting_0 : decode cL_commuting 0 = .ok (.aload_n 2, 1) := by decide +kernel
theorem dL_commuting_1 : decode cL_commuting 1 = .ok (.iconst 0, 1) := by decide +kernel
theorem dL_commuting_2 : decode cL_commuting 2 = .ok (.aload_n 0, 1) := by decide +kernel
theorem dL_commuting_3 : decode cL_commuting 3 = .ok (.iload_n 1, 1) := by decide +kernel
theorem dL_commuting_4 : decode cL_commuting 4 = .ok (.invokevirtual 97, 3) := by decide +kernel
theorem dL_commuting_7 : decode cL_commuting 7 = .ok (.i2l, 1) := by decide +kernel
theorem dL_commuting_8 : decode cL_commuting 8 = .ok (.lastore, 1) := by decide +kernel
theorem dL_commuting_9 : decode cL_commuting 9 = .ok (.goto 6, 3) := by decide +kernel
theorem dL_commuting_12 : decode cL_commuting 12 = .ok (.astore_n 3, 1) := by decide +kernel
theorem dL_commuting_13 : decode cL_commuting 13 = .ok (.iconst 1, 1) := by decide +kernel
theorem dL_commuting_14 : decode cL_commuting 14 = .ok (.ireturn, 1) := by decide +kernel
theorem dL_commuting_15 : decode cL_commuting 15 = .ok (.iconst 0, 1) := by decide +kernel
theorem dL_commuting_16 : decode cL_commuting 16 = .ok (.ireturn, 1) := by decide +kernel
theorem dL_append_0 : decode cL_append 0 = .ok (.aload_n 2, 1) := by decide +kernel
theorem dL_append_1 : decode cL_append 1 = .ok (.iconst 0, 1) := by decide +kernel
theorem dL_append_2 : decode cL_append 2 = .ok (.aload_n 0, 1) := by decide +kernel
theorem dL_append_3 : decode cL_append 3 = .ok (.iload_n 1, 1) := by decide +kernel
theorem dL_append_4 : decode cL_append 4 = .ok (.invokevirtual 100, 3) := by decide +kernel
theorem dL_append_7 : decode cL_append 7 = .ok (.i2l, 1) := by decide +kernel
theorem dL_append_8 : decode cL_append 8 = .ok (.lastore, 1) := by decide +kernel
theorem dL_append_9 : decode cL_append 9 = .ok (.goto 9, 3) := by decide +kernel
theorem dL_append_12 : decode cL_append 12 = .ok (.astore_n 3, 1) := by decide +kernel
theorem dL_append_13 : decode cL_append 13 = .ok (.iconst 1, 1) := by decide +kernel
theorem dL_append_14 : decode cL_append 14 = .ok (.ireturn, 1) := by decide +kernel
theorem dL_append_15 : decode cL_append 15 = .ok (.astore_n 3, 1) := by decide +kernel
theorem dL_append_16 : decode cL_append 16 = .ok (.iconst 2, 1) := by decide +kernel
theorem dL_append_17 : decode cL_append 17 = .ok (.ireturn, 1) := by decide +kernel
theorem dL_append_18 : decode cL_append 18 = .ok (.iconst 0, 1) := by decide +kernel
theorem dL_append_19 : decode cL_append 19 = .ok (.ireturn, 1) := by decide +kernel
theorem dL_undo_0 : decode cL_undo 0 = .ok (.aload_n 1, 1) := by decide +kernel
theorem dL_undo_1 : decode cL_undo 1 = .ok (.iconst 0, 1) := by decide +kernel
theorem dL_undo_2 : decode cL_undo 2 = .ok (.aload_n 0, 1) := by decide +kernel
theorem dL_undo_3 : decode cL_undo 3 = .ok (.invokevirtual 103, 3) := by decide +kernel
theorem dL_undo_6 : decode cL_undo 6 = .ok (.i2l, 1) := by decide +kernel
theorem dL_undo_7 : decode cL_undo 7 = .ok (.lastore, 1) := by decide +kernel
theorem dL_undo_8 : decode cL_undo 8 = .ok (.goto 6, 3) := by decide +kernel
theorem dL_undo_11 : decode cL_undo 11 = .ok (.astore_n 2, 1) := by decide +kernel
theorem dL_undo_12 : decode cL_undo 12 = .ok (.iconst 1, 1) := by decide +kernel
theorem dL_undo_13 : decode cL_undo 13 = .ok (.ireturn, 1) := by decide +kernel
theorem dL_undo_14 : decode cL_undo 14 = .ok (.iconst 0, 1) := by decide +kernel
theorem dL_undo_15 : decode cL_undo 15 = .ok (.ireturn, 1) := by decide +kernel
end
section
/-! ===== BEGIN words of one list among another's, by their places ===== -/
theorem goodIn_r {big : List Cond} (ws : List Cond) (ps : List Nat) (hp : ws = ps.filterMap (fun i => big[i]?)) (h : ws.all goodWord = true) : GoodIn big ws := by
  intro w hw
  have h1 := List.all_eq_true.mp h w hw
  rw [hp] at hw
  obtain ⟨i, -, hi⟩ := List.mem_filterMap.mp hw
  have hm : w ∈ big := by first | exact List.mem_of_getElem? hi | exact List.getElem?_mem hi
  exact ⟨hm, good_of_word h1⟩
theorem goodIn_app {big a b : List Cond} (ha : GoodIn big a) (hb : GoodIn big b) : GoodIn big (a ++ b) := fun w h => (List.mem_append.mp h).elim (ha w) (hb w)
theorem goodIn_ca {big a b : List Cond} {c : Cond} (ha : GoodIn big (c :: a)) (hb : GoodIn big b) : GoodIn big (c :: (a ++ b)) := fun w h => (List.mem_cons.mp h).elim (fun e => ha w (List.mem_cons.mpr (Or.inl e))) (fun h => (List.mem_append.mp h).elim (fun h => ha w (List.mem_cons.mpr (Or.inr h))) (hb w))
theorem goodIn_sub {big ws : List Cond} (hm : ∀ w ∈ ws, w ∈ big) (h : ws.all goodWord = true) : GoodIn big ws := fun w hw => ⟨hm w hw, good_of_word (List.all_eq_true.mp h w hw)⟩
/-! ===== END ===== -/
/-! ===== BEGIN exceptions that leave a method, and their catching by the caller (launches without stack traces) ===== -/
section VXA
/-! The laws vx_back, vx_callV, vx_callS, vx_callSW, vx_throw0, vx_throwS follow proofs of the library, with one case more: JvmDerived/Free/Laws.lean (Back.of_free), Shelf42/LK1.lean (callV, callS), Shelf/KitTraced.lean (throwNew0V, throwNewS). -/
/-- where a method has thrown q: the class by its name, the cell, what was written, the world -/
def vx_T (XC : String → State → State → Prop) (st : State) (q : Addr) (t : State) (mc ms : Nat) (free : Addr → Prop) : Prop :=
  ∃ (E : String) (ce : Cell) (L : List Loc), XC E st t ∧ t.heap[q]? = some ce ∧ ce.vm = .none ∧ st.vm.findClass E = some ce.cls ∧ st.WarmedH t.vm ∧ st.sameButNew ({ t with vm := st.vm } : State) L mc ms ∧ ∀ z ∈ L, free z.base
def vx_Q (Qc : Array Value → State → Outcome → State → Prop) (XC : String → State → State → Prop) (mc ms : Nat) (free : Addr → Prop) : Array Value → State → Outcome → State → Prop := fun a st o t =>
  (Qc a st o t ∧ ∃ L, FrameEnd st o t L mc ms ∧ ∀ q ∈ L, free q.base) ∨ ∃ q, o = .threw q ∧ vx_T XC st q t mc ms free
/-- a callee that returns or throws -/
def vx_Met (l : Launch) (y : MethodName) (ws : List Cond) (rm : Room) (Pc : Array Value → State → Prop) (Qc : Array Value → State → Outcome → State → Prop) (XC : String → State → State → Prop) (mc ms : Nat) (free : Addr → Prop) : Prop :=
  MetFree l y (headSpec ws rm) Pc (fun _ _ _ _ _ => True) (vx_Q Qc XC mc ms free)
def vx_Post (XC : String → State → State → Prop) (mc ms : Nat) (free : Addr → Prop) : Pt → Array Value → Addr → Pt → Prop := fun A a q B =>
  ∃ (g : JFrame) (mk : MethodId) (t : State) (L : List Loc) (E : String) (ce : Cell), B.U.heap = t.heap ∧ B.U.vm = t.vm ∧ XC E (A.U.calling g mk a) t ∧ t.heap[q]? = some ce ∧ ce.vm = .none ∧ A.U.vm.findClass E = some ce.cls ∧ B.locs = A.locs ++ L ∧ (∀ z ∈ L, free z.base) ∧ B.cells = A.cells + mc ∧ B.slots = A.slots + ms
def vx_Back (l : Launch) (R : Room) (p : Program) (e : Env) (below : List Frame) (s : State) (sargs : Array Value) (y : MethodName) (len W9 : Nat)
    (Pre : Pt → Array Value → Prop) (Post : Pt → Array Value → Option Value → Pt → Prop) (PostX : Pt → Array Value → Addr → Pt → Prop) : Prop :=
  ∀ (m : MethodId) (meth : Method) (c : Code) (A : Pt) (g : JFrame) (ig : Instr) (mk : MethodId) (a : Array Value),
    Stand p l e R s m sargs below meth c A.U A.locs A.cells A.slots → g.method = m → g.locals.size = c.maxLocals → decode c.code g.pc = .ok (ig, len) →
    2 * g.monitorRoom + (g.stack.map fun v => v.category).sum ≤ W9 → A.U.methodNamed? y = some mk → Pre A a →
    (∃ (v : Option Value) (B : Pt), Stand p l e R s m sargs below meth c B.U B.locs B.cells B.slots ∧ Post A a v B ∧
      Steps p.tables e below (doInvoke e (A.U.setTop g) [] mk a).1 (B.U.setTop { g with pc := g.pc + len, stack := v.toList ++ g.stack })) ∨
    (∃ (q : Addr) (B : Pt), Stand p l e R s m sargs below meth c B.U B.locs B.cells B.slots ∧ PostX A a q B ∧
      Steps p.tables e below (doInvoke e (A.U.setTop g) [] mk a).1 ((B.U.setTop g).pushFrame (.throwing q)))
section Payer
variable {l : Launch} {R : Room} {p : Program} {e : Env} {below : List Frame} {s : State} {sargs : Array Value} {y : MethodName} {len W9 : Nat}
theorem vx_back {ws : List Cond} {rm : Room} {Pc : Array Value → State → Prop} {Qc : Array Value → State → Outcome → State → Prop} {XC : String → State → State → Prop} {mc ms : Nat} {free : Addr → Prop} {bytes : ByteArray} {maxL : Nat} {ret : Option FieldType}
    (hM : vx_Met l y ws rm Pc Qc XC mc ms free) (hblind : FrameBlind Pc) (hrc : rm.cells = mc) (hrs : rm.slots = ms)
    (hframes : rm.frames + 1 ≤ R.frames) (hlocals : W9 + (maxL + 11) + rm.locals ≤ R.locals)
    (hws : ∀ w ∈ ws, ∀ a' U, s.WarmedH U.vm → w.before a' U = true) (hcode : Cond.code y bytes maxL ret ∈ ws) (hinit : ∀ a' U, s.WarmedH U.vm → (Cond.initialized y.cls).before a' U = true) :
    vx_Back l R p e below s sargs y len W9 (PreOf R mc ms Pc) (PostOf Qc mc ms free) (vx_Post XC mc ms free) := by
  intro m meth c A g ig mk a X hg hsize hdg hW hn hp
  have h1 : (headSpec ws rm).pre.before a A.U = true := atoms_intro fun w hw => hws w hw _ _ X.warmed
  have h2 : (Cond.code y bytes maxL ret).before a A.U = true := hws _ hcode _ _ X.warmed
  have h3 : (Cond.initialized y.cls).before a A.U = true := hinit _ _ X.warmed
  have h4 : A.cells + (headSpec ws rm).room.cells ≤ R.cells := by rw [show (headSpec ws rm).room.cells = mc from hrc]; exact hp.1
  have h5 : A.slots + (headSpec ws rm).room.slots ≤ R.slots := by rw [show (headSpec ws rm).room.slots = ms from hrs]; exact hp.2.1
  have hPc : Pc a (A.U.calling g mk a) := hblind _ _ _ _ hp.2.2
  obtain ⟨U, Ls, c0, s0⟩ := A
  dsimp only [Pt.U, Pt.locs, Pt.cells, Pt.slots] at h1 h2 h3 h4 h5 X hn hPc ⊢
  obtain ⟨methY, cY, hmY, hcY, -, hlY, -, -, -, -⟩ := Cond.code_spec hn h2
  obtain ⟨kY, hkY, -⟩ := className_of_methodNamed hn
  have hinitY : kY.init = .initialized := Cond.initialized_spec (findClass_of_methodNamed hn) hkY h3
  have h : At U g.method c below := by rw [hg]; exact X.here
  have hlocals9 : W9 + (maxL + 11) + (headSpec ws rm).room.locals ≤ R.locals := hlocals
  have happ : (headSpec ws rm).appliesLoose y e.platform (U.calling g mk a) = true :=
    Spec.appliesLoose_calling (g := g) h hdg hn hkY hinitY
      (X.room_calling (g := g) (R' := (headSpec ws rm).room) hsize hmY hcY hframes (by rw [hlY]; omega) h4 h5) h1
  obtain ⟨mid, hmid⟩ := h.above
  have hfr : (U.setTop g).frames = (.java g :: mid) ++ below := by rw [State.frames_setTop' g h.top, hmid]; rfl
  obtain ⟨o, s₂, hsteps, -, hend, hq⟩ := Steps.callFree hM p X.admits X.cas X.clock (acts := []) hfr happ hPc trivial
  have hq' : vx_Q Qc XC mc ms free a (U.calling g mk a) o s₂ := hq
  rw [State.frames_setTop' g h.top] at hend
  obtain ⟨g₀, hg0⟩ := Option.isSome_iff_exists.mp h.top
  obtain ⟨r, hr⟩ := State.topJava?_eq_some.mp hg0
  have hr' : (({ U with heap := s₂.heap, slotsUsed := s₂.slotsUsed } : State).setVm s₂.vm).frames = .java g₀ :: r := hr
  rcases hq' with ⟨hqc, L, hfe, hL⟩ | ⟨q, rfl, E, ce, L, hx, hce, hcv, hcl, hW₂, hsm, hL⟩
  · obtain ⟨⟨v, rfl⟩, hW₂, e2, q2, q3, q4, q5, q6⟩ := id hfe
    have e3 : s₂ = ({ (U.calling g mk a).setFrames s₂.frames with heap := s₂.heap, slotsUsed := s₂.slotsUsed } : State).setVm s₂.vm := by
      have : s₂ = ({ s₂ with vm := (U.calling g mk a).vm } : State).setVm s₂.vm := rfl
      rw [e2] at this
      exact this
    obtain ⟨c₂, i₂, len₂, hc₂, hd₂, hf₂⟩ := hend
    have hW' : U.WarmedH s₂.vm := hW₂
    have hcc : c₂ = c := by
      have h1 : s₂.code? g.method = U.code? g.method := by
        rw [State.code?_eq, State.code?_eq, hW'.alike.method?]
      exact Option.some.inj (hc₂.symm.trans (h1.trans h.code))
    subst hcc
    have hlen : len₂ = len := by rw [hdg] at hd₂; cases hd₂; rfl
    subst hlen
    have hs₂ : s₂ = (({ U with heap := s₂.heap, slotsUsed := s₂.slotsUsed } : State).setVm s₂.vm).setTop { g with pc := g.pc + len₂, stack := v.toList ++ g.stack } := by
      refine e3.trans ?_
      rw [hf₂, State.calling_eq h.top, State.setFrames_setFrames, State.setTop_of_frames _ hr', hr]
      rfl
    have hsame : U.sameButNew ({ U with heap := s₂.heap, slotsUsed := s₂.slotsUsed } : State) L mc ms := by
      refine ⟨?_, q2, q3, q4, q5, q6⟩
      obtain ⟨t, ht, -⟩ := State.frames_cons hr
      show ({ U with heap := s₂.heap, slotsUsed := s₂.slotsUsed } : State) = { U.setFrames U.frames with heap := s₂.heap, slotsUsed := s₂.slotsUsed }
      rw [State.setFrames_self ht]
    subst hg
    refine Or.inl ⟨v, ⟨(({ U with heap := s₂.heap, slotsUsed := s₂.slotsUsed } : State).setVm s₂.vm), Ls ++ L, c0 + mc, s0 + ms⟩,
      ⟨X.admits, X.cas, X.clock, X.frames, X.room, X.hears, X.method, X.code, (X.here.setHeapUsed s₂.heap s₂.slotsUsed).setVm hW'.alike, X.tail, State.WarmedH.trans X.warmed hW', X.limits, X.bytes, X.same.trans (hsame.setVm s.vm)⟩,
      ⟨g, mk, s₂, L, rfl, rfl, hqc, rfl, hL, rfl, rfl⟩, ?_⟩
    show Steps p.tables e below _ ((({ U with heap := s₂.heap, slotsUsed := s₂.slotsUsed } : State).setVm s₂.vm).setTop { g with pc := g.pc + len₂, stack := v.toList ++ g.stack })
    rw [← hs₂]
    exact hsteps
  · obtain ⟨e2, q2, q3, q4, q5, q6⟩ := id hsm
    have e3 : s₂ = ({ (U.calling g mk a).setFrames s₂.frames with heap := s₂.heap, slotsUsed := s₂.slotsUsed } : State).setVm s₂.vm := by
      have : s₂ = ({ s₂ with vm := (U.calling g mk a).vm } : State).setVm s₂.vm := rfl
      rw [e2] at this
      exact this
    have hf₂ : s₂.frames = .throwing q :: .java g :: U.frames.tail := hend
    have hW' : U.WarmedH s₂.vm := hW₂
    have hs₂ : s₂ = ((({ U with heap := s₂.heap, slotsUsed := s₂.slotsUsed } : State).setVm s₂.vm).setTop g).pushFrame (.throwing q) := by
      refine e3.trans ?_
      rw [hf₂, State.calling_eq h.top, State.setFrames_setFrames, State.pushFrame, State.frames_setTop _ hr', State.setTop_of_frames _ hr', State.setFrames_setFrames, hr]
      rfl
    have hsame : U.sameButNew ({ U with heap := s₂.heap, slotsUsed := s₂.slotsUsed } : State) L mc ms := by
      refine ⟨?_, q2, q3, q4, q5, q6⟩
      obtain ⟨t, ht, -⟩ := State.frames_cons hr
      show ({ U with heap := s₂.heap, slotsUsed := s₂.slotsUsed } : State) = { U.setFrames U.frames with heap := s₂.heap, slotsUsed := s₂.slotsUsed }
      rw [State.setFrames_self ht]
    subst hg
    refine Or.inr ⟨q, ⟨(({ U with heap := s₂.heap, slotsUsed := s₂.slotsUsed } : State).setVm s₂.vm), Ls ++ L, c0 + mc, s0 + ms⟩,
      ⟨X.admits, X.cas, X.clock, X.frames, X.room, X.hears, X.method, X.code, (X.here.setHeapUsed s₂.heap s₂.slotsUsed).setVm hW'.alike, X.tail, State.WarmedH.trans X.warmed hW', X.limits, X.bytes, X.same.trans (hsame.setVm s.vm)⟩,
      ⟨g, mk, s₂, L, E, ce, rfl, rfl, hx, hce, hcv, hcl, rfl, hL, rfl, rfl⟩, ?_⟩
    show Steps p.tables e below _ (((({ U with heap := s₂.heap, slotsUsed := s₂.slotsUsed } : State).setVm s₂.vm).setTop g).pushFrame (.throwing q))
    rw [← hs₂]
    exact hsteps
end Payer
section Calls
variable {p : Program} {l : Launch} {e : Env} {R : Room} {s : State} {m : MethodId} {args : Array Value} {below : List Frame} {meth : Method} {c : Code} {T : State} {locs : List Loc} {cells slots : Nat}
theorem vx_callV (X : Stand p l e R s m args below meth c T locs cells slots) (hexec : p.tables.exec = Jvm.exec) {own C : String} {index : Nat} {y : MethodName} {bytes : ByteArray} {maxL : Nat} {ret : Option FieldType}
    (hown : s.vm.findClass own = some m.cls) (hlink : (Cond.methodLink own index y).before args s = true) (hinst : (Cond.instanceMethod y).before args s = true) (hsel : (Cond.selects C y y).before args s = true)
    (hcode : (Cond.code y bytes maxL ret).before args s = true) (hy : y.cls ≠ "java/lang/invoke/MethodHandle" ∧ y.cls ≠ "java/lang/invoke/VarHandle")
    {W9 : Nat} {Pre : Pt → Array Value → Prop} {Post : Pt → Array Value → Option Value → Pt → Prop} {PostX : Pt → Array Value → Addr → Pt → Prop} (hK : vx_Back l R p e below s args y 3 W9 Pre Post PostX)
    {b : Addr} {cellB : Cell} (hcell : T.heap[b]? = some cellB) (hobj : cellB.vm.isStatics = false) (hcls : s.vm.findClass C = some cellB.cls)
    {g : JFrame} (hg : g.method = m) (hsize : g.locals.size = c.maxLocals) {argsL rest : List Value} (hlen : ∀ sig, parseMethodDescriptor y.desc = some sig → argsL.length = sig.parameters.length)
    (hstack : g.stack = argsL.reverse ++ .ref b :: rest) (hW : 2 * g.monitorRoom + (rest.map fun v => v.category).sum ≤ W9) (hdg : decode c.code g.pc = .ok (.invokevirtual index, 3))
    (hpre : ∀ vm₁, s.WarmedH vm₁ → Pre ⟨T.setVm vm₁, locs, cells, slots⟩ (Value.ref b :: argsL).toArray) :
    (∃ (v : Option Value) (vm₁ : Vm) (B : Pt), s.WarmedH vm₁ ∧ Stand p l e R s m args below meth c B.U B.locs B.cells B.slots ∧ Post ⟨T.setVm vm₁, locs, cells, slots⟩ (Value.ref b :: argsL).toArray v B ∧
      ∀ target, Steps p.tables e below (B.U.setTop { g with pc := g.pc + 3, stack := v.toList ++ rest }) target → Steps p.tables e below (T.setTop g) target) ∨
    (∃ (q : Addr) (vm₁ : Vm) (B : Pt), s.WarmedH vm₁ ∧ Stand p l e R s m args below meth c B.U B.locs B.cells B.slots ∧ PostX ⟨T.setVm vm₁, locs, cells, slots⟩ (Value.ref b :: argsL).toArray q B ∧
      Steps p.tables e below (T.setTop g) ((B.U.setTop { g with stack := rest }).pushFrame (.throwing q))) := by
  obtain ⟨mk, methM, hnamed, hmethM, hstM, habM⟩ := Cond.instanceMethod_spec hinst
  obtain ⟨methM', cM, hmethM', -, -, -, -, -, -, hsigM⟩ := Cond.code_spec hnamed hcode
  cases hmethM.symm.trans hmethM'
  obtain ⟨c2, r2, m2, q1, q2, q3, q4, kP, hkP, hkPi⟩ := Cond.selects_spec hsel
  cases hcls.symm.trans q1
  cases (State.methodFound?_of_named hnamed hy).symm.trans q2
  cases hnamed.symm.trans q3
  have hselP : selectMethod e.platform s.vm cellB.cls mk = .method mk := by rw [Launch.admits_selectMethod X.admits]; exact q4
  obtain ⟨vm₁, X₁, hstep₁⟩ := X.invokevirtual hexec hown hlink hnamed hmethM hstM hkP hkPi hy (a := b) (cell := cellB) hcell
    (fun z h => by rw [h] at hobj; cases hobj) hselP hmethM habM hkP hkPi (g := g) hg (argsL := argsL) (rest := rest) (hlen _ hsigM) hstack hdg
  rcases hK m meth c ⟨T.setVm vm₁, locs, cells, slots⟩ { g with stack := rest } (.invokevirtual index) mk (Value.ref b :: argsL).toArray X₁ hg hsize hdg hW (X₁.named hnamed) (hpre vm₁ X₁.warmed) with ⟨v, B, X', hpost, hsteps⟩ | ⟨q, B, X', hpost, hsteps⟩
  · exact Or.inl ⟨v, vm₁, B, X₁.warmed, X', hpost, fun target h => hstep₁ _ fun acts => by rw [doInvoke_state]; exact hsteps.trans h⟩
  · exact Or.inr ⟨q, vm₁, B, X₁.warmed, X', hpost, hstep₁ _ fun acts => by rw [doInvoke_state]; exact hsteps⟩
theorem vx_callS (X : Stand p l e R s m args below meth c T locs cells slots) (hexec : p.tables.exec = Jvm.exec) {own : String} {index : Nat} {y : MethodName} {bytes : ByteArray} {maxL : Nat} {ret : Option FieldType}
    (hown : s.vm.findClass own = some m.cls) (hlink : (Cond.methodLink own index y).before args s = true) (hstat : (Cond.static y).before args s = true) (hinit : (Cond.initialized y.cls).before args s = true)
    (hcode : (Cond.code y bytes maxL ret).before args s = true) (hy : y.cls ≠ "java/lang/invoke/MethodHandle" ∧ y.cls ≠ "java/lang/invoke/VarHandle")
    {W9 : Nat} {Pre : Pt → Array Value → Prop} {Post : Pt → Array Value → Option Value → Pt → Prop} {PostX : Pt → Array Value → Addr → Pt → Prop} (hK : vx_Back l R p e below s args y 3 W9 Pre Post PostX)
    {g : JFrame} (hg : g.method = m) (hsize : g.locals.size = c.maxLocals) {argsL rest : List Value} (hlen : ∀ sig, parseMethodDescriptor y.desc = some sig → argsL.length = sig.parameters.length)
    (hstack : g.stack = argsL.reverse ++ rest) (hW : 2 * g.monitorRoom + (rest.map fun v => v.category).sum ≤ W9) (hdg : decode c.code g.pc = .ok (.invokestatic index, 3))
    (hpre : ∀ vm₁, s.WarmedH vm₁ → Pre ⟨T.setVm vm₁, locs, cells, slots⟩ argsL.toArray) :
    (∃ (v : Option Value) (vm₁ : Vm) (B : Pt), s.WarmedH vm₁ ∧ Stand p l e R s m args below meth c B.U B.locs B.cells B.slots ∧ Post ⟨T.setVm vm₁, locs, cells, slots⟩ argsL.toArray v B ∧
      ∀ target, Steps p.tables e below (B.U.setTop { g with pc := g.pc + 3, stack := v.toList ++ rest }) target → Steps p.tables e below (T.setTop g) target) ∨
    (∃ (q : Addr) (vm₁ : Vm) (B : Pt), s.WarmedH vm₁ ∧ Stand p l e R s m args below meth c B.U B.locs B.cells B.slots ∧ PostX ⟨T.setVm vm₁, locs, cells, slots⟩ argsL.toArray q B ∧
      Steps p.tables e below (T.setTop g) ((B.U.setTop { g with stack := rest }).pushFrame (.throwing q))) := by
  obtain ⟨mk, hnamed⟩ := Cond.code_named hcode
  obtain ⟨methM, cM, hmethM, -, -, -, -, -, -, hsigM⟩ := Cond.code_spec hnamed hcode
  have hstatic : methM.isStatic = true := Cond.static_spec hnamed hmethM hstat
  obtain ⟨kP, hkP, -⟩ := className_of_methodNamed hnamed
  have hinitP : kP.init = .initialized := Cond.initialized_spec (findClass_of_methodNamed hnamed) hkP hinit
  obtain ⟨vm₁, X₁, hstep₁⟩ := X.invokestatic hexec hown hlink hnamed hmethM hstatic hkP hinitP hy (g := g) hg (argsL := argsL) (rest := rest) (hlen _ hsigM) hstack hdg
  rcases hK m meth c ⟨T.setVm vm₁, locs, cells, slots⟩ { g with stack := rest } (.invokestatic index) mk argsL.toArray X₁ hg hsize hdg hW (X₁.named hnamed) (hpre vm₁ X₁.warmed) with ⟨v, B, X', hpost, hsteps⟩ | ⟨q, B, X', hpost, hsteps⟩
  · exact Or.inl ⟨v, vm₁, B, X₁.warmed, X', hpost, fun target h => hstep₁ _ fun acts => by rw [doInvoke_state]; exact hsteps.trans h⟩
  · exact Or.inr ⟨q, vm₁, B, X₁.warmed, X', hpost, hstep₁ _ fun acts => by rw [doInvoke_state]; exact hsteps⟩
end Calls
theorem vx_cls {s : State} {T : State} {vm₁ : Vm} {E : String} {k : ClassId} (hW : s.WarmedH vm₁) (h : (T.setVm vm₁).vm.findClass E = some k) : s.vm.findClass E = some k := by
  have h1 : vm₁.findClass E = some k := h
  rw [hW.alike.findClass] at h1
  exact h1
/-- the method's frame g, with q thrown over it -/
def vx_W (p : Program) (l : Launch) (e : Env) (R : Room) (s : State) (m : MethodId) (args : Array Value) (below : List Frame) (meth : Method) (c : Code) (H : Heap) (locs : List Loc) (cells slots : Nat) (Q : State → Prop) (g : JFrame) (q : Addr) : Prop :=
  ∀ T : State, T.heap = H → Stand p l e R s m args below meth c T locs cells slots → ∃ t, Steps p.tables e below ((T.setTop g).pushFrame (.throwing q)) t ∧ Q t
def vx_Run (p : Program) (l : Launch) (e : Env) (R : Room) (s : State) (m : MethodId) (args : Array Value) (below : List Frame) (meth : Method) (c : Code) (H : Heap) (locs : List Loc) (cells slots mc ms : Nat) (g : JFrame) (rest : List Value) (Qa : State → Outcome → State → Prop) (XC : String → State → State → Prop) (free : Addr → Prop) : Prop :=
  ∀ T : State, T.heap = H → Stand p l e R s m args below meth c T locs cells slots →
    (∃ (v : Option Value) (st₀ t T' : State) (L : List Loc), st₀.heap = H ∧ Stand p l e R s m args below meth c T' (locs ++ L) (cells + mc) (slots + ms) ∧ (∀ q ∈ L, free q.base) ∧ T'.heap = t.heap ∧ T'.vm = t.vm ∧ Qa st₀ (.returned v) t ∧
      Goes p e below T g T' { g with pc := g.pc + 3, stack := v.toList ++ rest }) ∨
    (∃ (q : Addr) (st₀ t T' : State) (L : List Loc) (E : String) (ce : Cell), st₀.heap = H ∧ Stand p l e R s m args below meth c T' (locs ++ L) (cells + mc) (slots + ms) ∧ (∀ z ∈ L, free z.base) ∧ T'.heap = t.heap ∧ T'.vm = t.vm ∧ XC E st₀ t ∧ t.heap[q]? = some ce ∧ ce.vm = .none ∧ s.vm.findClass E = some ce.cls ∧
      Steps p.tables e below (T.setTop g) ((T'.setTop { g with stack := rest }).pushFrame (.throwing q)))
def vx_X {S : Type} (px : S → Prop) (B : String → S → State → Prop) (A : Nat → Prop) : String → State → State → Prop := fun E st t => ∃ u : S, px u ∧ B E u t ∧ va_F A st t
section Runs
variable {p : Program} {l : Launch} {e : Env} {R : Room} {s : State} {m : MethodId} {args : Array Value} {below : List Frame} {meth : Method} {c : Code} {H : Heap} {locs : List Loc} {cells slots : Nat}
variable {y : MethodName} {bytes cc : ByteArray} {maxL nL mc ms n index : Nat} {ret : Option FieldType} {ws : List Cond} {rm : Room} {Pc : Array Value → State → Prop} {Qc : Array Value → State → Outcome → State → Prop} {XC : String → State → State → Prop} {free : Addr → Prop} {Ts : List Cond} {own C : String} {b : Addr} {As rest : List Value} {g : JFrame}
theorem vx_callBack (cb : CallB R s args own index y bytes maxL ret ws rm mc ms n) (hM : vx_Met l y ws rm Pc Qc XC mc ms free) (hbl : FrameBlind Pc) : vx_Back l R p e below s args y 3 8 (PreOf R mc ms Pc) (PostOf Qc mc ms free) (vx_Post XC mc ms free) := by
  obtain ⟨hrc, hrs, hfr, hlo, hws, hcw, -, hini, -⟩ := cb
  exact vx_back (bytes := bytes) (maxL := maxL) (ret := ret) hM hbl hrc hrs hfr hlo hws hcw (fun a' U hW => word_at hW (Or.inl (by first | rfl | simp [Cond.onTables, Cond.keeps, Cond.steady])) hini)
theorem vx_runV (S : CallFix p m c cc nL s args Ts own) (hM : vx_Met l y ws rm Pc Qc XC mc ms free) (cw : CallW R s args own C index y bytes maxL ret ws rm mc ms n) (hp : PreV s H C b Pc As)
    (hg : g.method = m) (hn : As.length = n) (hsize : g.locals.size = nL) (hstack : g.stack = As.reverse ++ .ref b :: rest) (hW : 2 * g.monitorRoom + (rest.map fun v => v.category).sum ≤ 8) (hdg : decode cc g.pc = .ok (.invokevirtual index, 3)) (hf : cells + mc ≤ R.cells ∧ slots + ms ≤ R.slots) :
    vx_Run p l e R s m args below meth c H locs cells slots mc ms g rest (Qc (Value.ref b :: As).toArray) XC free := by
  have hK : vx_Back l R p e below s args y 3 8 (PreOf R mc ms Pc) (PostOf Qc mc ms free) (vx_Post XC mc ms free) := vx_callBack cw.1 hM hp.1
  obtain ⟨⟨-, -, -, -, -, -, hcode, -, hy, hlen, hl⟩, hin, hse⟩ := cw
  obtain ⟨hx, hb, hml, ho, -⟩ := S
  obtain ⟨-, ⟨cellB, hcB, hoB, hclB⟩, hPc⟩ := hp
  intro T hT X
  rcases vx_callV X hx (C := C) (bytes := bytes) (maxL := maxL) (ret := ret) ho hl hin hse hcode hy hK (by rw [hT]; exact hcB) hoB hclB hg (hsize.trans hml.symm) (argsL := As) (rest := rest) (fun sig h => hn.trans (hlen sig h)) hstack hW (by rw [hb]; exact hdg)
    (fun vm₁ hW₁ => ⟨hf.1, hf.2, hPc (T.setVm vm₁) hT hW₁⟩) with ⟨v, vm₁, ⟨U', l2, c2, s2⟩, hW₁, X', ⟨g', mk, t, L, e1, e2, hq, h1, hL, h2, h3⟩, st⟩ | ⟨q, vm₁, ⟨U', l2, c2, s2⟩, hW₁, X', ⟨g', mk, t, L, E, ce, e1, e2, hq, hce, hcv, hcl, h1, hL, h2, h3⟩, st⟩
  · dsimp only [Pt.U, Pt.locs, Pt.cells, Pt.slots] at X' e1 e2 h1 h2 h3 st
    subst h1; subst h2; subst h3
    exact Or.inl ⟨v, (T.setVm vm₁).calling g' mk (Value.ref b :: As).toArray, t, U', L, hT, X', hL, e1, e2, hq, st⟩
  · dsimp only [Pt.U, Pt.locs, Pt.cells, Pt.slots] at X' e1 e2 h1 h2 h3 st hcl
    subst h1; subst h2; subst h3
    exact Or.inr ⟨q, (T.setVm vm₁).calling g' mk (Value.ref b :: As).toArray, t, U', L, E, ce, hT, X', hL, e1, e2, hq, hce, hcv, vx_cls hW₁ hcl, st⟩
theorem vx_runS (S : CallFix p m c cc nL s args Ts own) (hM : vx_Met l y ws rm Pc Qc XC mc ms free) (cw : CallB R s args own index y bytes maxL ret ws rm mc ms n ∧ (Cond.static y).before args s = true) (hp : PreS s H Pc As)
    (hg : g.method = m) (hn : As.length = n) (hsize : g.locals.size = nL) (hstack : g.stack = As.reverse ++ rest) (hW : 2 * g.monitorRoom + (rest.map fun v => v.category).sum ≤ 8) (hdg : decode cc g.pc = .ok (.invokestatic index, 3)) (hf : cells + mc ≤ R.cells ∧ slots + ms ≤ R.slots) :
    vx_Run p l e R s m args below meth c H locs cells slots mc ms g rest (Qc As.toArray) XC free := by
  have hK : vx_Back l R p e below s args y 3 8 (PreOf R mc ms Pc) (PostOf Qc mc ms free) (vx_Post XC mc ms free) := vx_callBack cw.1 hM hp.1
  obtain ⟨⟨-, -, -, -, -, -, hcode, hini, hy, hlen, hl⟩, hstt⟩ := cw
  obtain ⟨hx, hb, hml, ho, -⟩ := S
  intro T hT X
  rcases vx_callS X hx (bytes := bytes) (maxL := maxL) (ret := ret) ho hl hstt hini hcode hy hK hg (hsize.trans hml.symm) (argsL := As) (rest := rest) (fun sig h => hn.trans (hlen sig h)) hstack hW (by rw [hb]; exact hdg)
    (fun vm₁ hW₁ => ⟨hf.1, hf.2, hp.2 (T.setVm vm₁) hT hW₁⟩) with ⟨v, vm₁, ⟨U', l2, c2, s2⟩, hW₁, X', ⟨g', mk, t, L, e1, e2, hq, h1, hL, h2, h3⟩, st⟩ | ⟨q, vm₁, ⟨U', l2, c2, s2⟩, hW₁, X', ⟨g', mk, t, L, E, ce, e1, e2, hq, hce, hcv, hcl, h1, hL, h2, h3⟩, st⟩
  · dsimp only [Pt.U, Pt.locs, Pt.cells, Pt.slots] at X' e1 e2 h1 h2 h3 st
    subst h1; subst h2; subst h3
    exact Or.inl ⟨v, (T.setVm vm₁).calling g' mk As.toArray, t, U', L, hT, X', hL, e1, e2, hq, st⟩
  · dsimp only [Pt.U, Pt.locs, Pt.cells, Pt.slots] at X' e1 e2 h1 h2 h3 st hcl
    subst h1; subst h2; subst h3
    exact Or.inr ⟨q, (T.setVm vm₁).calling g' mk As.toArray, t, U', L, E, ce, hT, X', hL, e1, e2, hq, hce, hcv, vx_cls hW₁ hcl, st⟩
end Runs
section Rows
variable {p : Program} {l : Launch} {e : Env} {R : Room} {s : State} {m : MethodId} {args : Array Value} {below : List Frame} {meth : Method} {c : Code} {H : Heap} {locs : List Loc} {cells slots : Nat} {Q : State → Prop}
variable {mc ms : Nat} {free : Addr → Prop} {A0 A1 : Nat → Prop} {H0 : Heap} {a : Array Value} {pc : Nat} {ls : Array Slot} {st0 rest : List Value}
theorem vx_keep {st₀ t T' : State} {L : List Loc} (h0 : st₀.heap = H) (e1 : T'.heap = t.heap) (hS : va_S A0 H0 H locs) (hA : ∀ q, q < H.size → A1 q → A0 q) (hf : ∀ q, free q → A0 q) (hL : ∀ q ∈ L, free q.base) (hF : va_F A1 st₀ t) :
    H.size ≤ T'.heap.size ∧ (∀ q : Nat, q < H.size → ¬ A1 q → T'.heap[q]? = H[q]?) ∧ va_S A0 H0 T'.heap (locs ++ L) := by
  obtain ⟨hz, hk⟩ := hF
  rw [h0] at hz hk
  exact ⟨by rw [e1]; exact hz, fun q h1 h2 => by rw [e1]; exact hk q h1 h2,
    ⟨Nat.le_trans hS.1 (by rw [e1]; exact hz), fun q h1 h2 => by rw [e1, hk q (Nat.lt_of_lt_of_le h1 hS.1) (fun z => h2 (hA q (Nat.lt_of_lt_of_le h1 hS.1) z))]; exact hS.2.1 q h1 h2, fun q hq => by
      rcases List.mem_append.mp hq with h | h
      · exact hS.2.2 q h
      · exact hf _ (hL q h)⟩⟩
theorem vx_calli {S SX : Type} {post : Int32 → S → Prop} {px : SX → Prop} {B : S → State → Prop} {BX : String → SX → State → Prop} {AX : Nat → Prop} (hr : vx_Run p l e R s m args below meth c H locs cells slots mc ms (F0 m pc ls st0) rest (va_Qi post B A1 a) (vx_X px BX AX) free) (hS : va_S A0 H0 H locs) (hA : ∀ q, q < H.size → A1 q → A0 q) (hf : ∀ q, free q → A0 q) (hAX : ∀ q, q < H.size → AX q → A0 q)
    (kx : ∀ (E : String) (ce : Cell) (q9 : Addr) (u : SX) (t : State) (H1 : Heap) (locs1 : List Loc), t.heap = H1 → s.vm.Alike t.vm → px u → BX E u t → H.size ≤ H1.size → (∀ q : Nat, q < H.size → ¬ AX q → H1[q]? = H[q]?) → va_S A0 H0 H1 locs1 → H1[q9]? = some ce → ce.vm = .none → s.vm.findClass E = some ce.cls → vx_W p l e R s m args below meth c H1 locs1 (cells + mc) (slots + ms) Q (F0 m pc ls rest) q9)
    (kk : ∀ (r : Int32) (u : S) (t : State) (H1 : Heap) (locs1 : List Loc), t.heap = H1 → s.vm.Alike t.vm → post r u → B u t → H.size ≤ H1.size → (∀ q : Nat, q < H.size → ¬ A1 q → H1[q]? = H[q]?) → va_S A0 H0 H1 locs1 → W p l e R s m args below meth c H1 locs1 (cells + mc) (slots + ms) Q (F0 m (pc + 3) ls (.int r :: rest))) : W p l e R s m args below meth c H locs cells slots Q (F0 m pc ls st0) := by
  intro T hT X
  rcases hr T hT X with ⟨v, st₀, t, T', L, h0, X', hL, e1, e2, ⟨⟨r, u, hv, hp, hb⟩, hF⟩, st⟩ | ⟨q, st₀, t, T', L, E, ce, h0, X', hL, e1, e2, ⟨u, hp, hb, hF⟩, hce, hcv, hcl, st⟩
  · cases hv
    obtain ⟨k1, k2, k3⟩ := vx_keep h0 e1 hS hA hf hL hF
    obtain ⟨t2, a1, b1⟩ := kk r u t T'.heap (locs ++ L) e1.symm (by rw [← e2]; exact X'.warmed.alike) hp hb k1 k2 k3 T' rfl X'
    exact ⟨t2, st t2 a1, b1⟩
  · obtain ⟨k1, k2, k3⟩ := vx_keep h0 e1 hS hAX hf hL hF
    obtain ⟨t2, a1, b1⟩ := kx E ce q u t T'.heap (locs ++ L) e1.symm (by rw [← e2]; exact X'.warmed.alike) hp hb k1 k2 k3 (by rw [e1]; exact hce) hcv hcl T' rfl X'
    exact ⟨t2, st.trans a1, b1⟩
theorem vx_calll {S SX : Type} {post : Int64 → S → Prop} {px : SX → Prop} {B : S → State → Prop} {BX : String → SX → State → Prop} {AX : Nat → Prop} (hr : vx_Run p l e R s m args below meth c H locs cells slots mc ms (F0 m pc ls st0) rest (va_Ql post B A1 a) (vx_X px BX AX) free) (hS : va_S A0 H0 H locs) (hA : ∀ q, q < H.size → A1 q → A0 q) (hf : ∀ q, free q → A0 q) (hAX : ∀ q, q < H.size → AX q → A0 q)
    (kx : ∀ (E : String) (ce : Cell) (q9 : Addr) (u : SX) (t : State) (H1 : Heap) (locs1 : List Loc), t.heap = H1 → s.vm.Alike t.vm → px u → BX E u t → H.size ≤ H1.size → (∀ q : Nat, q < H.size → ¬ AX q → H1[q]? = H[q]?) → va_S A0 H0 H1 locs1 → H1[q9]? = some ce → ce.vm = .none → s.vm.findClass E = some ce.cls → vx_W p l e R s m args below meth c H1 locs1 (cells + mc) (slots + ms) Q (F0 m pc ls rest) q9)
    (kk : ∀ (r : Int64) (u : S) (t : State) (H1 : Heap) (locs1 : List Loc), t.heap = H1 → s.vm.Alike t.vm → post r u → B u t → H.size ≤ H1.size → (∀ q : Nat, q < H.size → ¬ A1 q → H1[q]? = H[q]?) → va_S A0 H0 H1 locs1 → W p l e R s m args below meth c H1 locs1 (cells + mc) (slots + ms) Q (F0 m (pc + 3) ls (.long r :: rest))) : W p l e R s m args below meth c H locs cells slots Q (F0 m pc ls st0) := by
  intro T hT X
  rcases hr T hT X with ⟨v, st₀, t, T', L, h0, X', hL, e1, e2, ⟨⟨r, u, hv, hp, hb⟩, hF⟩, st⟩ | ⟨q, st₀, t, T', L, E, ce, h0, X', hL, e1, e2, ⟨u, hp, hb, hF⟩, hce, hcv, hcl, st⟩
  · cases hv
    obtain ⟨k1, k2, k3⟩ := vx_keep h0 e1 hS hA hf hL hF
    obtain ⟨t2, a1, b1⟩ := kk r u t T'.heap (locs ++ L) e1.symm (by rw [← e2]; exact X'.warmed.alike) hp hb k1 k2 k3 T' rfl X'
    exact ⟨t2, st t2 a1, b1⟩
  · obtain ⟨k1, k2, k3⟩ := vx_keep h0 e1 hS hAX hf hL hF
    obtain ⟨t2, a1, b1⟩ := kx E ce q u t T'.heap (locs ++ L) e1.symm (by rw [← e2]; exact X'.warmed.alike) hp hb k1 k2 k3 (by rw [e1]; exact hce) hcv hcl T' rfl X'
    exact ⟨t2, st.trans a1, b1⟩
theorem vx_callf {S SX : Type} {post : UInt32 → S → Prop} {px : SX → Prop} {B : S → State → Prop} {BX : String → SX → State → Prop} {AX : Nat → Prop} (hr : vx_Run p l e R s m args below meth c H locs cells slots mc ms (F0 m pc ls st0) rest (va_Qf post B A1 a) (vx_X px BX AX) free) (hS : va_S A0 H0 H locs) (hA : ∀ q, q < H.size → A1 q → A0 q) (hf : ∀ q, free q → A0 q) (hAX : ∀ q, q < H.size → AX q → A0 q)
    (kx : ∀ (E : String) (ce : Cell) (q9 : Addr) (u : SX) (t : State) (H1 : Heap) (locs1 : List Loc), t.heap = H1 → s.vm.Alike t.vm → px u → BX E u t → H.size ≤ H1.size → (∀ q : Nat, q < H.size → ¬ AX q → H1[q]? = H[q]?) → va_S A0 H0 H1 locs1 → H1[q9]? = some ce → ce.vm = .none → s.vm.findClass E = some ce.cls → vx_W p l e R s m args below meth c H1 locs1 (cells + mc) (slots + ms) Q (F0 m pc ls rest) q9)
    (kk : ∀ (r : UInt32) (u : S) (t : State) (H1 : Heap) (locs1 : List Loc), t.heap = H1 → s.vm.Alike t.vm → post r u → B u t → H.size ≤ H1.size → (∀ q : Nat, q < H.size → ¬ A1 q → H1[q]? = H[q]?) → va_S A0 H0 H1 locs1 → W p l e R s m args below meth c H1 locs1 (cells + mc) (slots + ms) Q (F0 m (pc + 3) ls (.float r :: rest))) : W p l e R s m args below meth c H locs cells slots Q (F0 m pc ls st0) := by
  intro T hT X
  rcases hr T hT X with ⟨v, st₀, t, T', L, h0, X', hL, e1, e2, ⟨⟨r, u, hv, hp, hb⟩, hF⟩, st⟩ | ⟨q, st₀, t, T', L, E, ce, h0, X', hL, e1, e2, ⟨u, hp, hb, hF⟩, hce, hcv, hcl, st⟩
  · cases hv
    obtain ⟨k1, k2, k3⟩ := vx_keep h0 e1 hS hA hf hL hF
    obtain ⟨t2, a1, b1⟩ := kk r u t T'.heap (locs ++ L) e1.symm (by rw [← e2]; exact X'.warmed.alike) hp hb k1 k2 k3 T' rfl X'
    exact ⟨t2, st t2 a1, b1⟩
  · obtain ⟨k1, k2, k3⟩ := vx_keep h0 e1 hS hAX hf hL hF
    obtain ⟨t2, a1, b1⟩ := kx E ce q u t T'.heap (locs ++ L) e1.symm (by rw [← e2]; exact X'.warmed.alike) hp hb k1 k2 k3 (by rw [e1]; exact hce) hcv hcl T' rfl X'
    exact ⟨t2, st.trans a1, b1⟩
theorem vx_calld {S SX : Type} {post : UInt64 → S → Prop} {px : SX → Prop} {B : S → State → Prop} {BX : String → SX → State → Prop} {AX : Nat → Prop} (hr : vx_Run p l e R s m args below meth c H locs cells slots mc ms (F0 m pc ls st0) rest (va_Qd post B A1 a) (vx_X px BX AX) free) (hS : va_S A0 H0 H locs) (hA : ∀ q, q < H.size → A1 q → A0 q) (hf : ∀ q, free q → A0 q) (hAX : ∀ q, q < H.size → AX q → A0 q)
    (kx : ∀ (E : String) (ce : Cell) (q9 : Addr) (u : SX) (t : State) (H1 : Heap) (locs1 : List Loc), t.heap = H1 → s.vm.Alike t.vm → px u → BX E u t → H.size ≤ H1.size → (∀ q : Nat, q < H.size → ¬ AX q → H1[q]? = H[q]?) → va_S A0 H0 H1 locs1 → H1[q9]? = some ce → ce.vm = .none → s.vm.findClass E = some ce.cls → vx_W p l e R s m args below meth c H1 locs1 (cells + mc) (slots + ms) Q (F0 m pc ls rest) q9)
    (kk : ∀ (r : UInt64) (u : S) (t : State) (H1 : Heap) (locs1 : List Loc), t.heap = H1 → s.vm.Alike t.vm → post r u → B u t → H.size ≤ H1.size → (∀ q : Nat, q < H.size → ¬ A1 q → H1[q]? = H[q]?) → va_S A0 H0 H1 locs1 → W p l e R s m args below meth c H1 locs1 (cells + mc) (slots + ms) Q (F0 m (pc + 3) ls (.double r :: rest))) : W p l e R s m args below meth c H locs cells slots Q (F0 m pc ls st0) := by
  intro T hT X
  rcases hr T hT X with ⟨v, st₀, t, T', L, h0, X', hL, e1, e2, ⟨⟨r, u, hv, hp, hb⟩, hF⟩, st⟩ | ⟨q, st₀, t, T', L, E, ce, h0, X', hL, e1, e2, ⟨u, hp, hb, hF⟩, hce, hcv, hcl, st⟩
  · cases hv
    obtain ⟨k1, k2, k3⟩ := vx_keep h0 e1 hS hA hf hL hF
    obtain ⟨t2, a1, b1⟩ := kk r u t T'.heap (locs ++ L) e1.symm (by rw [← e2]; exact X'.warmed.alike) hp hb k1 k2 k3 T' rfl X'
    exact ⟨t2, st t2 a1, b1⟩
  · obtain ⟨k1, k2, k3⟩ := vx_keep h0 e1 hS hAX hf hL hF
    obtain ⟨t2, a1, b1⟩ := kx E ce q u t T'.heap (locs ++ L) e1.symm (by rw [← e2]; exact X'.warmed.alike) hp hb k1 k2 k3 (by rw [e1]; exact hce) hcv hcl T' rfl X'
    exact ⟨t2, st.trans a1, b1⟩
theorem vx_callv {S SX : Type} {post : S → Prop} {px : SX → Prop} {B : S → State → Prop} {BX : String → SX → State → Prop} {AX : Nat → Prop} (hr : vx_Run p l e R s m args below meth c H locs cells slots mc ms (F0 m pc ls st0) rest (va_Qv post B A1 a) (vx_X px BX AX) free) (hS : va_S A0 H0 H locs) (hA : ∀ q, q < H.size → A1 q → A0 q) (hf : ∀ q, free q → A0 q) (hAX : ∀ q, q < H.size → AX q → A0 q)
    (kx : ∀ (E : String) (ce : Cell) (q9 : Addr) (u : SX) (t : State) (H1 : Heap) (locs1 : List Loc), t.heap = H1 → s.vm.Alike t.vm → px u → BX E u t → H.size ≤ H1.size → (∀ q : Nat, q < H.size → ¬ AX q → H1[q]? = H[q]?) → va_S A0 H0 H1 locs1 → H1[q9]? = some ce → ce.vm = .none → s.vm.findClass E = some ce.cls → vx_W p l e R s m args below meth c H1 locs1 (cells + mc) (slots + ms) Q (F0 m pc ls rest) q9)
    (kk : ∀ (u : S) (t : State) (H1 : Heap) (locs1 : List Loc), t.heap = H1 → s.vm.Alike t.vm → post u → B u t → H.size ≤ H1.size → (∀ q : Nat, q < H.size → ¬ A1 q → H1[q]? = H[q]?) → va_S A0 H0 H1 locs1 → W p l e R s m args below meth c H1 locs1 (cells + mc) (slots + ms) Q (F0 m (pc + 3) ls (rest))) : W p l e R s m args below meth c H locs cells slots Q (F0 m pc ls st0) := by
  intro T hT X
  rcases hr T hT X with ⟨v, st₀, t, T', L, h0, X', hL, e1, e2, ⟨⟨u, hv, hp, hb⟩, hF⟩, st⟩ | ⟨q, st₀, t, T', L, E, ce, h0, X', hL, e1, e2, ⟨u, hp, hb, hF⟩, hce, hcv, hcl, st⟩
  · cases hv
    obtain ⟨k1, k2, k3⟩ := vx_keep h0 e1 hS hA hf hL hF
    obtain ⟨t2, a1, b1⟩ := kk u t T'.heap (locs ++ L) e1.symm (by rw [← e2]; exact X'.warmed.alike) hp hb k1 k2 k3 T' rfl X'
    exact ⟨t2, st t2 a1, b1⟩
  · obtain ⟨k1, k2, k3⟩ := vx_keep h0 e1 hS hAX hf hL hF
    obtain ⟨t2, a1, b1⟩ := kx E ce q u t T'.heap (locs ++ L) e1.symm (by rw [← e2]; exact X'.warmed.alike) hp hb k1 k2 k3 (by rw [e1]; exact hce) hcv hcl T' rfl X'
    exact ⟨t2, st.trans a1, b1⟩
/-- caught by the row x of this method's table; the rows ahead don't take it -/
theorem vx_catch {own name : String} {E : String} {ce : Cell} {q : Addr} (hown : s.vm.findClass own = some m.cls) (pre : List ExceptionTableEntry) (x : ExceptionTableEntry) (suf : List ExceptionTableEntry) (hsplit : c.exceptionTable.toList = pre ++ x :: suf)
    (hpass : ∀ z ∈ pre, covers z pc = false ∨ (z.catchType ≠ 0 ∧ ∃ nm : String, (Cond.classLink own z.catchType nm).before args s = true ∧ va_Nc E nm s)) (hx : covers x pc = true) (h0 : x.catchType ≠ 0)
    (hlink : (Cond.classLink own x.catchType name).before args s = true) (hcast : (Cond.castable E name).before args s = true) (hcell : H[q]? = some ce) (hv : ce.vm = .none) (hcl : s.vm.findClass E = some ce.cls)
    (kk : W p l e R s m args below meth c H locs cells slots Q (F0 m x.handlerPc ls [.ref q])) : vx_W p l e R s m args below meth c H locs cells slots Q (F0 m pc ls rest) q := by
  intro T hT X
  have hpl : e.platform.magicAccessors = ({} : Platform).magicAccessors := by rw [X.admits.platform]
  obtain ⟨c3, c4, hc3, hc4, hasg⟩ := Cond.castable_spec hcast
  cases Option.some.inj (hc3.symm.trans hcl)
  obtain ⟨c5, hc5, hcl5⟩ := Cond.classLink_spec hown hlink e.platform hpl
  cases Option.some.inj (hc4.symm.trans hc5)
  obtain ⟨vm', X', st⟩ := X.thenCaughtThrough q (g := F0 m pc ls rest) rfl (Steps.refl _) (by rw [hT]; exact hcell) (by rw [hv]; rfl) (by obtain ⟨k9, h9, -⟩ := Vm.findClass_spec hcl; exact ⟨k9, h9⟩) pre x suf hsplit
    (fun z hz => by
      rcases hpass z hz with h | ⟨hz0, nm, hl1, hn1⟩
      · exact Or.inl h
      · obtain ⟨c6, hc6, hcl6⟩ := Cond.classLink_spec hown hl1 e.platform hpl
        obtain ⟨a8, b8, h1, h2, h3⟩ := hn1
        cases Option.some.inj (h1.symm.trans hcl)
        cases Option.some.inj (h2.symm.trans hc6)
        exact Or.inr ⟨hz0, _, hcl6, h3⟩) hx (Or.inr ⟨h0, c4, hcl5, hasg⟩)
  obtain ⟨t, a1, b1⟩ := kk (T.setVm vm') hT X'
  exact ⟨t, st.trans a1, b1⟩
end Rows
section Ends
variable {p : Program} {l : Launch} {e : Env} {R : Room} {s : State} {m : MethodId} {args : Array Value} {below : List Frame} {meth : Method} {c : Code} {H : Heap} {locs : List Loc} {cells slots : Nat} {Q : State → Prop}
variable {mc ms : Nat} {free : Addr → Prop} {A0 A1 : Nat → Prop} {H0 : Heap} {a : Array Value} {ls : Array Slot} {st0 rest : List Value}
variable {Qc : Array Value → State → Outcome → State → Prop} {XC : String → State → State → Prop}
/-- what a body that may throw owes at its end -/
def vx_MQ (below : List Frame) (Qc : Array Value → State → Outcome → State → Prop) (XC : String → State → State → Prop) (a : Array Value) (s : State) (mc ms : Nat) (free : Addr → Prop) : State → Prop := fun t =>
  ∃ o, t.status = .running ∧ Ended t below o ∧ vx_Q Qc XC mc ms free a s o t
theorem vx_ret {g : JFrame} {mc ms : Nat} (k : W p l e R s m args below meth c H locs cells slots (MQ below Qc args s mc ms free) g) : W p l e R s m args below meth c H locs cells slots (vx_MQ below Qc XC args s mc ms free) g := by
  intro T hT X
  obtain ⟨t, a1, o, b1, b2, b3, b4⟩ := k T hT X
  exact ⟨t, a1, o, b1, b2, Or.inl ⟨b3, b4⟩⟩
/-- not caught here: it goes on to the caller -/
theorem vx_widen {g : JFrame} {q : Addr} {k n : Nat} (h1 : cells ≤ k) (h2 : slots ≤ n) (kk : vx_W p l e R s m args below meth c H locs k n Q g q) : vx_W p l e R s m args below meth c H locs cells slots Q g q := fun T hT X => kk T hT (stand_widen X h1 h2)
theorem vx_out {pc : Nat} {E : String} {ce : Cell} {q : Addr} {mc ms : Nat} (hout : ∀ x ∈ c.exceptionTable.toList, covers x pc = false) (hlocks : meth.locks = false) (hcell : H[q]? = some ce) (hv : ce.vm = .none) (hcl : s.vm.findClass E = some ce.cls)
    (hx : ∀ t : State, t.heap = H → s.vm.Alike t.vm → XC E s t) (hf : ∀ z ∈ locs, free z.base) (hc : cells ≤ mc) (hs : slots ≤ ms) :
    vx_W p l e R s m args below meth c H locs cells slots (vx_MQ below Qc XC args s mc ms free) (F0 m pc ls rest) q := by
  intro T hT X
  obtain ⟨st1, hrun, hend, hW, hsm⟩ := X.leaveThrown q (g := F0 m pc ls rest) rfl rfl rfl hout hlocks
  have hcell9 : (T.setFrames (.throwing q :: below)).heap[q]? = some ce := by
    show T.heap[q]? = some ce
    rw [hT]; exact hcell
  exact ⟨_, st1, .threw q, hrun, hend, Or.inr ⟨q, rfl, E, ce, locs, hx _ hT hW.alike, hcell9, hv, hcl, hW, hsm.mono hc hs, hf⟩⟩
theorem vx_frame {U : State} {k n : Nat} (h : s.sameButNew ({ U with vm := s.vm } : State) locs k n) : s.heap.size ≤ U.heap.size ∧ ∀ q : Nat, q < s.heap.size → (∀ z ∈ locs, z.base ≠ q) → U.heap[q]? = s.heap[q]? := by
  obtain ⟨-, h2, -, -, -, h6⟩ := h
  refine ⟨h2, fun q hq hz => ?_⟩
  obtain ⟨c9, e1, e2, e3, e4⟩ := h6 q _ (Array.getElem?_eq_getElem hq)
  have hs : c9.slots = (s.heap[q]).slots := Array.ext_getElem? fun i => e4 i fun hm => hz _ hm rfl
  have h9 : c9 = s.heap[q] := by
    rw [hs] at e2
    exact e2
  have e5 : U.heap[q]? = some c9 := e1
  rw [e5, h9, Array.getElem?_eq_getElem hq]
/-- the words of a throw but the four that speak of the heap -/
def vx_no (w : Cond) : Bool := decide (w ≠ .isRef (.static Bundle.tN "UNASSIGNED_STACK" Bundle.steD)) && decide (w ≠ .isRef (.static Bundle.tN "SUPPRESSED_SENTINEL" Bundle.listD)) && decide (w ≠ .laysStatic Bundle.tN "UNASSIGNED_STACK" Bundle.steD) && decide (w ≠ .laysStatic Bundle.tN "SUPPRESSED_SENTINEL" Bundle.listD)
def vx_at0 (own : String) (ic : Nat) (X : String) (names : List String) : List Cond := (Bundle.ownAtoms0 own ic X names).filter vx_no
def vx_atS (own : String) (ic : Nat) (X : String) (names : List String) : List Cond := (Bundle.ownAtoms own ic X names).filter vx_no
/-- a word that the tables alone decide, or a good one -/
def vx_ot (w : Cond) : Bool := w.onTables || goodWord w
theorem vx_ot_at {args a' : Array Value} {s U : State} {w : Cond} (hW : s.WarmedH U.vm) (hvm : s.vm = U.vm) (hg : vx_ot w = true) (h : w.before args s = true) : w.before a' U = true := by
  simp only [vx_ot, Bool.or_eq_true] at hg
  rcases hg with hg | hg
  · exact va_tabs hg hvm h
  · exact word_at hW (good_of_word hg) h
/-- a list's words: the good ones out of the method's own list, the others by premises of their own -/
theorem vx_hat {args : Array Value} {s : State} {L B : List Cond} (h1 : ∀ w ∈ L.filter goodWord, w.before args s = true) (h2 : ∀ w ∈ L.filter (fun w => !goodWord w), w ∈ B) (h3 : ∀ w ∈ B, w.before args s = true) : ∀ w ∈ L, w.before args s = true := by
  intro w hw
  by_cases g : goodWord w = true
  · exact h1 w (List.mem_filter.mpr ⟨hw, g⟩)
  · refine h3 w (h2 w (List.mem_filter.mpr ⟨hw, ?_⟩))
    show (!goodWord w) = true
    cases hgw : goodWord w
    · rfl
    · exact absurd hgw g
theorem vx_c {args : Array Value} {s : State} {w : Cond} {B : List Cond} (h : w.before args s = true) (t : ∀ w ∈ B, w.before args s = true) : ∀ w' ∈ w :: B, w'.before args s = true := fun w' h' => (List.mem_cons.mp h').elim (fun e => by rw [e]; exact h) (t w')
theorem vx_n {args : Array Value} {s : State} : ∀ w ∈ ([] : List Cond), w.before args s = true := fun _ h => nomatch h
theorem vx_own {args : Array Value} {s : State} {L : List Cond} (h1 : ∀ w ∈ L.filter vx_no, w.before args s = true)
    (hU : (Cond.isRef (.static Bundle.tN "UNASSIGNED_STACK" Bundle.steD)).before args s = true) (hN : (Cond.isRef (.static Bundle.tN "SUPPRESSED_SENTINEL" Bundle.listD)).before args s = true)
    (lU : (Cond.laysStatic Bundle.tN "UNASSIGNED_STACK" Bundle.steD).before args s = true) (lN : (Cond.laysStatic Bundle.tN "SUPPRESSED_SENTINEL" Bundle.listD).before args s = true) : ∀ w ∈ L, w.before args s = true := by
  intro w hw
  by_cases e1 : w = .isRef (.static Bundle.tN "UNASSIGNED_STACK" Bundle.steD)
  · rw [e1]; exact hU
  · by_cases e2 : w = .isRef (.static Bundle.tN "SUPPRESSED_SENTINEL" Bundle.listD)
    · rw [e2]; exact hN
    · by_cases e3 : w = .laysStatic Bundle.tN "UNASSIGNED_STACK" Bundle.steD
      · rw [e3]; exact lU
      · by_cases e4 : w = .laysStatic Bundle.tN "SUPPRESSED_SENTINEL" Bundle.listD
        · rw [e4]; exact lN
        · exact h1 w (List.mem_filter.mpr ⟨hw, by unfold vx_no; rw [decide_eq_true e1, decide_eq_true e2, decide_eq_true e3, decide_eq_true e4]; rfl⟩)
/-- where a static field lies, its class's statics cell in H -/
def vx_L (C n d : String) (A : Nat → Prop) (U : State) (H : Heap) : Prop := ∃ (c : ClassId) (k : Class) (i : Nat) (f : Field) (a : Nat) (cell : Cell), U.vm.findClass C = some c ∧ U.fieldFound? C n d = some (c, k, i, f) ∧ f.isStatic = true ∧ k.statics = some a ∧ H[a]? = some cell ∧ cell.vm.isStatics = true ∧ cell.cls = c ∧ f.slot < cell.slots.size ∧ k.staticTypes[f.slot]? = some f.type ∧ ¬ A a
theorem vx_L.moved {C n d : String} {A : Nat → Prop} {u U : State} {H : Heap} (hvm : u.vm.Alike U.vm) (h : vx_L C n d A u H) : vx_L C n d A U H := by
  obtain ⟨c, k, i, f, a, cell, h1, h2, h3, h4, h5, h6, h7, h8, h9, h10⟩ := h
  obtain ⟨k', hi', he⟩ := State.fieldFound?_setVm hvm h2
  exact ⟨c, k', i, f, a, cell, by rw [hvm.findClass]; exact h1, hi', h3, by rw [he]; exact h4, h5, h6, h7, h8, by rw [he]; exact h9, h10⟩
theorem vx_L.kept {C n d : String} {A : Nat → Prop} {U : State} {H H1 : Heap} (h : vx_L C n d A U H) (hq : ∀ a : Nat, a < H.size → ¬ A a → H1[a]? = H[a]?) : vx_L C n d A U H1 := by
  obtain ⟨c, k, i, f, a, cell, h1, h2, h3, h4, h5, h6, h7, h8, h9, h10⟩ := h
  exact ⟨c, k, i, f, a, cell, h1, h2, h3, h4, by rw [hq a (Array.getElem?_eq_some_iff.mp h5).1 h10]; exact h5, h6, h7, h8, h9, h10⟩
theorem vx_L.narrow {C n d : String} {A B : Nat → Prop} {U : State} {H : Heap} (h : vx_L C n d A U H) (hAB : ∀ q, B q → A q) : vx_L C n d B U H := by
  obtain ⟨c, k, i, f, a, cell, h1, h2, h3, h4, h5, h6, h7, h8, h9, h10⟩ := h
  exact ⟨c, k, i, f, a, cell, h1, h2, h3, h4, h5, h6, h7, h8, h9, fun z => h10 (hAB _ z)⟩
theorem vx_L.word {C n d : String} {A : Nat → Prop} {s : State} {args : Array Value} (h : vx_L C n d A s s.heap) : (Cond.laysStatic C n d).before args s = true := by
  obtain ⟨c, k, i, f, a, cell, h1, h2, h3, h4, h5, h6, h7, h8, h9, -⟩ := h
  show (Cond.laysStatic C n d).holds args s none s [] = true
  exact Cond.laysStatic_of h1 h2 h3 h4 h5 h6 h7 h8 h9
/-- .. and what it holds: null or some reference -/
def vx_Zq (C n d : String) (A : Nat → Prop) (U : State) (H : Heap) : Prop := va_Zq C n d A U H ∧ vx_L C n d A U H
theorem vx_Zq.moved {C n d : String} {A : Nat → Prop} {u U : State} {H : Heap} (hvm : u.vm.Alike U.vm) (h : vx_Zq C n d A u H) : vx_Zq C n d A U H := ⟨va_Zq.moved hvm h.1, vx_L.moved hvm h.2⟩
theorem vx_Zq.kept {C n d : String} {A : Nat → Prop} {U : State} {H H1 : Heap} (h : vx_Zq C n d A U H) (hq : ∀ a : Nat, a < H.size → ¬ A a → H1[a]? = H[a]?) : vx_Zq C n d A U H1 := ⟨va_Zq.kept h.1 hq, vx_L.kept h.2 hq⟩
theorem vx_Zq.narrow {C n d : String} {A B : Nat → Prop} {U : State} {H : Heap} (h : vx_Zq C n d A U H) (hAB : ∀ q, B q → A q) : vx_Zq C n d B U H := ⟨va_Zq.narrow h.1 hAB, vx_L.narrow h.2 hAB⟩
theorem vx_Zqof {args : Array Value} {s : State} {C n d : String} {A : Nat → Prop} (hl : (Cond.laysStatic C n d).before args s = true) (hini : (Cond.initialized C).before args s = true) (h : (Cond.isRef (.static C n d)).before args s = true) (hA : ∀ a : Nat, a < s.heap.size → ¬ A a) : vx_Zq C n d A s s.heap := by
  refine ⟨va_Zqof hl hini h hA, ?_⟩
  obtain ⟨c, k, i, f, a, cell, h1, h2, h3, h4, h5, h6, h7, h8, h9⟩ := Cond.laysStatic_spec hl
  exact ⟨c, k, i, f, a, cell, h1, h2, h3, h4, h5, h6, h7, h8, h9, hA a (Array.getElem?_eq_some_iff.mp h5).1⟩
theorem vx_isRef {C n d : String} {v : Value} {A : Nat → Prop} {s : State} {args : Array Value} (h : va_Z C n d v A s s.heap) (hv : v.isRef = true) : (Cond.isRef (.static C n d)).before args s = true := by
  obtain ⟨cf, kf, fi, f, a, cell, h1, h2, h3, h4, h5, h6, h7, -⟩ := h
  have he : (Term.static C n d).eval args s none [] s = some v := by
    simp [Term.eval, State.fieldNamed?, h1, h2, h4, h5, h6, h7]
  simp only [Cond.before, Cond.holds, Cond.value, he]
  cases v <;> simp_all [Value.isRef]
theorem vx_isRefq {C n d : String} {A : Nat → Prop} {s : State} {args : Array Value} (h : va_Zq C n d A s s.heap) : (Cond.isRef (.static C n d)).before args s = true := by
  rcases h with h | ⟨t, h⟩
  · exact vx_isRef h rfl
  · exact vx_isRef h rfl
/-- the same frame, seen from here: as if the method were called anew in this heap -/
theorem vx_rebase {T : State} (X : Stand p l e R s m args below meth c T locs cells slots) {R' : Room} (hf : R'.frames ≤ R.frames) (hl : R'.locals ≤ R.locals) (hc : cells + R'.cells ≤ R.cells) (hs : slots + R'.slots ≤ R.slots) :
    Stand p l e R' ((T.setVm s.vm).setFrames (.invoking m args :: below)) m args below meth c T [] 0 0 := by
  have htop : (T.setVm s.vm).topJava?.isSome := X.here.top
  have hF : ((T.setVm s.vm).setFrames (.invoking m args :: below)).frames = .invoking m args :: below := State.frames_setFrames _ (State.cur_lt_of_top htop)
  obtain ⟨g₀, hg0⟩ := Option.isSome_iff_exists.mp htop
  obtain ⟨r, hr⟩ := State.topJava?_eq_some.mp hg0
  have hl9 : e.platform.stackLimits (T.setVm s.vm).me = e.platform.stackLimits s.me := X.limits
  have hb9 : (T.setVm s.vm).me.stackBytes = s.me.stackBytes := X.bytes
  refine ⟨X.admits, X.cas, X.clock, hF, ?_, X.hears, X.method, X.code, X.here, X.tail, X.warmed, ?_, ?_, ?_⟩
  · have h := X.room
    have hU : ((T.setVm s.vm).setFrames (.invoking m args :: below)).localsInUse = s.localsInUse := by
      rw [State.localsInUse_invoking hF (meth := meth) (c := c) X.method X.code, State.localsInUse_invoking X.frames X.method X.code]
    simp only [State.hasRoom, Bool.and_eq_true, decide_eq_true_eq] at h ⊢
    obtain ⟨⟨⟨⟨h1, h2, h3, h4, h5, h6⟩, h7⟩, h8⟩, h9⟩ := h
    rw [X.frames, List.length_cons] at h2 h3
    have q1 := X.heapSize
    have q2 := X.used
    simp only [hF, hU, List.length_cons, State.stackLimits_setFrames, State.stackBytes_setFrames, hl9, hb9]
    refine ⟨⟨⟨⟨by omega, by omega, by omega, by omega, by omega, h6⟩, ?_⟩, ?_⟩, X.book⟩
    · show T.heap.size + R'.cells ≤ e.platform.maxCells
      omega
    · show T.slotsUsed + R'.slots ≤ e.platform.maxSlots
      omega
  · rw [State.stackLimits_setFrames]; rfl
  · rw [State.stackBytes_setFrames]; rfl
  · refine ⟨?_, Nat.le_refl _, Nat.le_refl _, ?_, ?_, fun a c9 h9 => ⟨c9, h9, rfl, rfl, fun _ _ => rfl⟩⟩
    · obtain ⟨t, ht, -⟩ := State.frames_cons hr
      show T.setVm s.vm = { ((T.setVm s.vm).setFrames (.invoking m args :: below)).setFrames (T.setVm s.vm).frames with heap := T.heap, slotsUsed := T.slotsUsed }
      rw [State.setFrames_setFrames, State.setFrames_self ht]
      rfl
    · show T.slotsUsed = T.slotsUsed + ((T.heap.toList.drop T.heap.size).map (·.slots.size)).sum
      rw [List.drop_eq_nil_of_le (Nat.le_of_eq Array.length_toList)]
      rfl
    · show ((T.heap.toList.drop T.heap.size).map (·.slots.size)).sum ≤ 0
      rw [List.drop_eq_nil_of_le (Nat.le_of_eq Array.length_toList)]
      exact Nat.le_refl _
/-- 'throw new E()': new; dup; invokespecial; athrow -/
theorem vx_throw0 {cc : ByteArray} {pc : Nat} (hexec : p.tables.exec = Jvm.exec) (hb : c.code = cc) (hl : l.stackTraces = false) {own cls : String} {names : List String} {ik ic mc ms : Nat} {A : Nat → Prop}
    (hown : s.vm.findClass own = some m.cls) (hcls : Bundle.fit cls = true) (hnames : ∀ n ∈ names, Bundle.fit n = true)
    (hk : (Cond.classLink own ik cls).before args s = true) (hini : (Cond.initialized cls).before args s = true) (hat : ∀ w ∈ vx_at0 own ic cls names, w.before args s = true)
    (hgood : ∀ w ∈ Cond.classLink own ik cls :: Cond.initialized cls :: vx_at0 own ic cls names, vx_ot w = true)
    (hU : vx_Zq Bundle.tN "UNASSIGNED_STACK" Bundle.steD A s s.heap) (hN : vx_Zq Bundle.tN "SUPPRESSED_SENTINEL" Bundle.listD A s s.heap) (hS : va_S A s.heap H locs) (hsize : ls.size = c.maxLocals)
    (d0 : decode cc pc = .ok (.new ik, 3)) (d3 : decode cc (pc + 3) = .ok (.dup, 1)) (d4 : decode cc (pc + 4) = .ok (.invokespecial ic, 3)) (d7 : decode cc (pc + 7) = .ok (.athrow, 1))
    (hout : ∀ x ∈ c.exceptionTable.toList, covers x (pc + 7) = false)
    (hRframes : names.length + 3 < R.frames) (hRlocals : (rest.map fun v => v.category).sum + (13 * (names.length + 1) + 42) ≤ R.locals) (hRcells : cells + 1 ≤ R.cells) (hRslots : slots + 6 ≤ R.slots) (hlocks : meth.locks = false)
    (hx : ∀ t : State, s.vm.Alike t.vm → H.size ≤ t.heap.size → (∀ q : Nat, q < H.size → t.heap[q]? = H[q]?) → XC cls s t)
    (hf : ∀ z ∈ locs, free z.base) (hc : cells + 1 ≤ mc) (hs : slots + 6 ≤ ms) :
    W p l e R s m args below meth c H locs cells slots (vx_MQ below Qc XC args s mc ms free) (F0 m pc ls rest) := by
  intro T hT X
  have htr : e.platform.stackTraces = false := (show e.platform.stackTraces = l.stackTraces by rw [X.admits.platform]).trans hl
  have Y := vx_rebase X (R' := { frames := R.frames, locals := R.locals, cells := 1, slots := 6 }) (Nat.le_refl _) (Nat.le_refl _) hRcells hRslots
  obtain ⟨s', hA⟩ : ∃ z, z = (T.setVm s.vm).setFrames (.invoking m args :: below) := ⟨_, rfl⟩
  rw [← hA] at Y
  have hvm : s'.vm = s.vm := by rw [hA]; rfl
  have hhp : s'.heap = H := by rw [hA]; exact hT
  have hW0 : s.WarmedH s'.vm := by rw [hvm]; exact State.WarmedH.refl s
  have hat' : ∀ w ∈ vx_at0 own ic cls names, w.before args s' = true := fun w hw => vx_ot_at hW0 hvm.symm (hgood w (List.mem_cons_of_mem _ (List.mem_cons_of_mem _ hw))) (hat w hw)
  have hk' : (Cond.classLink own ik cls).before args s' = true := vx_ot_at hW0 hvm.symm (hgood _ List.mem_cons_self) hk
  have hini' : (Cond.initialized cls).before args s' = true := vx_ot_at hW0 hvm.symm (hgood _ (List.mem_cons_of_mem _ List.mem_cons_self)) hini
  have hU' : vx_Zq Bundle.tN "UNASSIGNED_STACK" Bundle.steD A s' s'.heap := by rw [hhp]; exact vx_Zq.moved hW0.alike (hU.kept hS.2.1)
  have hN' : vx_Zq Bundle.tN "SUPPRESSED_SENTINEL" Bundle.listD A s' s'.heap := by rw [hhp]; exact vx_Zq.moved hW0.alike (hN.kept hS.2.1)
  have h : ∀ w ∈ Bundle.ownAtoms0 own ic cls names, w.before args s' = true := vx_own hat' (vx_isRefq hU'.1) (vx_isRefq hN'.1) hU'.2.word hN'.2.word
  have hown' : s'.vm.findClass own = some m.cls := by rw [hvm]; exact hown
  have hins : (Cond.instantiable cls 6).before args s' = true := h _ (by simp [Bundle.ownAtoms0])
  obtain ⟨vm₁, cX, kX, hfX, hkX, -, -, X₁, st1⟩ := Y.newCold hexec (own := own) (C := cls) (index := ik) (n := 6) hown' hk' hins hini'
    (g := F0 m pc ls rest) rfl (by rw [hb]; exact d0) (Nat.le_refl _) (Nat.le_refl _)
  generalize hT1 : (T.setVm vm₁).pushCell { cls := cX, slots := kX.instanceTypes.map defaultValue, vm := .none } = T1 at X₁ st1
  have hcat : (Value.ref T.heap.size).category = 1 := rfl
  have hcellA : T1.heap[T.heap.size]? = some (freshCell cX kX) := by rw [← hT1]; exact State.heap_pushCell_size _ _
  have d3' : decode c.code (pc + 3) = .ok (.dup, 1) := by rw [hb]; exact d3
  obtain ⟨U, hsteps, hrun, hend, hW, hsame, ce, hce, hO⟩ := X₁.ctorThrow0 hexec htr (own := own) (cls := cls) (names := names) (ic := ic) hown' hcls hnames h (fun x hx => nomatch hx) hfX hkX hcellA (by rw [hhp, hT]; exact Nat.le_refl _)
    (g := { method := m, pc := pc + 4, locals := ls, stack := .ref T.heap.size :: .ref T.heap.size :: rest, locked := none }) rfl hsize rfl rfl (rest := rest) rfl
    (by rw [hb]; exact d4) (by rw [hb]; exact d7) hout hRframes (by simp only [List.map_cons, List.sum_cons, hcat]; omega) hlocks
  obtain ⟨f1, f2⟩ := vx_frame hsame
  rw [hhp] at f1 f2
  have hWs : s.WarmedH U.vm := State.WarmedH.trans hW0 hW
  have hcl : s.vm.findClass cls = some ce.cls := by
    have h9 := hO.cls
    rw [hvm] at h9
    exact h9
  have hall : s.sameButNew ({ U with vm := s.vm } : State) locs mc ms := by
    subst hA
    obtain ⟨e1, e2⟩ := hsame
    rw [State.setFrames_setFrames] at e1
    have h2 : (T.setVm s.vm).sameButNew ({ U with vm := s.vm } : State) [] (0 + 1) (0 + 6) := ⟨e1, e2⟩
    have h3 := X.same.trans h2
    rw [List.append_nil] at h3
    exact h3.mono hc hs
  refine ⟨U, ?_, .threw T.heap.size, hrun, hend, Or.inr ⟨T.heap.size, rfl, cls, ce, locs, hx U hWs.alike f1 (fun q hq => f2 q hq (fun z hz => nomatch hz)), hce, hO.vm, hcl, hWs, hall, hf⟩⟩
  refine st1 _ ?_
  show Steps p.tables e below (T1.setTop { method := m, pc := pc + 3, locals := ls, stack := .ref T.heap.size :: rest, locked := none }) _
  jvm_step X₁.here [X₁.here.top, hexec, d3', Value.category]
  exact hsteps
/-- 'throw new E("text")': new; dup; ldc; invokespecial; athrow -/
theorem vx_throwS {cc : ByteArray} {pc : Nat} (hexec : p.tables.exec = Jvm.exec) (hb : c.code = cc) (hl : l.stackTraces = false) {own cls text : String} {names : List String} {ik is ic mc ms sa : Nat} {A : Nat → Prop}
    (hown : s.vm.findClass own = some m.cls) (hcls : Bundle.fit cls = true) (hnames : ∀ n ∈ names, Bundle.fit n = true)
    (hk : (Cond.classLink own ik cls).before args s = true) (hini : (Cond.initialized cls).before args s = true) (hstr : vk_R own is text sa s) (hat : ∀ w ∈ vx_atS own ic cls names, w.before args s = true)
    (hgood : ∀ w ∈ Cond.classLink own ik cls :: Cond.initialized cls :: vx_atS own ic cls names, vx_ot w = true)
    (hU : vx_Zq Bundle.tN "UNASSIGNED_STACK" Bundle.steD A s s.heap) (hN : vx_Zq Bundle.tN "SUPPRESSED_SENTINEL" Bundle.listD A s s.heap) (hS : va_S A s.heap H locs) (hsize : ls.size = c.maxLocals)
    (d0 : decode cc pc = .ok (.new ik, 3)) (d3 : decode cc (pc + 3) = .ok (.dup, 1)) (d4 : decode cc (pc + 4) = .ok (.ldc is, 2)) (d6 : decode cc (pc + 6) = .ok (.invokespecial ic, 3)) (d9 : decode cc (pc + 9) = .ok (.athrow, 1))
    (hout : ∀ x ∈ c.exceptionTable.toList, covers x (pc + 9) = false)
    (hRframes : names.length + 3 < R.frames) (hRlocals : (rest.map fun v => v.category).sum + (13 * (names.length + 1) + 43) ≤ R.locals) (hRcells : cells + 1 ≤ R.cells) (hRslots : slots + 6 ≤ R.slots) (hlocks : meth.locks = false)
    (hx : ∀ t : State, s.vm.Alike t.vm → H.size ≤ t.heap.size → (∀ q : Nat, q < H.size → t.heap[q]? = H[q]?) → XC cls s t)
    (hf : ∀ z ∈ locs, free z.base) (hc : cells + 1 ≤ mc) (hs : slots + 6 ≤ ms) :
    W p l e R s m args below meth c H locs cells slots (vx_MQ below Qc XC args s mc ms free) (F0 m pc ls rest) := by
  intro T hT X
  have htr : e.platform.stackTraces = false := (show e.platform.stackTraces = l.stackTraces by rw [X.admits.platform]).trans hl
  have Y := vx_rebase X (R' := { frames := R.frames, locals := R.locals, cells := 1, slots := 6 }) (Nat.le_refl _) (Nat.le_refl _) hRcells hRslots
  obtain ⟨s', hA⟩ : ∃ z, z = (T.setVm s.vm).setFrames (.invoking m args :: below) := ⟨_, rfl⟩
  rw [← hA] at Y
  have hvm : s'.vm = s.vm := by rw [hA]; rfl
  have hhp : s'.heap = H := by rw [hA]; exact hT
  have hW0 : s.WarmedH s'.vm := by rw [hvm]; exact State.WarmedH.refl s
  have hat' : ∀ w ∈ vx_atS own ic cls names, w.before args s' = true := fun w hw => vx_ot_at hW0 hvm.symm (hgood w (List.mem_cons_of_mem _ (List.mem_cons_of_mem _ hw))) (hat w hw)
  have hk' : (Cond.classLink own ik cls).before args s' = true := vx_ot_at hW0 hvm.symm (hgood _ List.mem_cons_self) hk
  have hini' : (Cond.initialized cls).before args s' = true := vx_ot_at hW0 hvm.symm (hgood _ (List.mem_cons_of_mem _ List.mem_cons_self)) hini
  have hU' : vx_Zq Bundle.tN "UNASSIGNED_STACK" Bundle.steD A s' s'.heap := by rw [hhp]; exact vx_Zq.moved hW0.alike (hU.kept hS.2.1)
  have hN' : vx_Zq Bundle.tN "SUPPRESSED_SENTINEL" Bundle.listD A s' s'.heap := by rw [hhp]; exact vx_Zq.moved hW0.alike (hN.kept hS.2.1)
  have h : ∀ w ∈ Bundle.ownAtoms own ic cls names, w.before args s' = true := vx_own hat' (vx_isRefq hU'.1) (vx_isRefq hN'.1) hU'.2.word hN'.2.word
  have hown' : s'.vm.findClass own = some m.cls := by rw [hvm]; exact hown
  have hins : (Cond.instantiable cls 6).before args s' = true := h _ (by simp [Bundle.ownAtoms])
  obtain ⟨vm₁, cX, kX, hfX, hkX, -, -, X₁, st1⟩ := Y.newCold hexec (own := own) (C := cls) (index := ik) (n := 6) hown' hk' hins hini'
    (g := F0 m pc ls rest) rfl (by rw [hb]; exact d0) (Nat.le_refl _) (Nat.le_refl _)
  generalize hT1 : (T.setVm vm₁).pushCell { cls := cX, slots := kX.instanceTypes.map defaultValue, vm := .none } = T1 at X₁ st1
  have hcat : (Value.ref T.heap.size).category = 1 := rfl
  have hcellA : T1.heap[T.heap.size]? = some (freshCell cX kX) := by rw [← hT1]; exact State.heap_pushCell_size _ _
  have d3' : decode c.code (pc + 3) = .ok (.dup, 1) := by rw [hb]; exact d3
  have d4' : decode c.code (pc + 4) = .ok (.ldc is, 2) := by rw [hb]; exact d4
  have hstr' : vk_R own is text sa s' := vk_R.warm hW0 hstr
  obtain ⟨U, hsteps, hrun, hend, hW, hsame, ce, hce, hO⟩ := X₁.ctorThrowS hexec htr (own := own) (cls := cls) (names := names) (ic := ic) hown' hcls hnames h (fun x hx => nomatch hx) hfX hkX hcellA (by rw [hhp, hT]; exact Nat.le_refl _) (msg := .ref sa) rfl
    (g := { method := m, pc := pc + 6, locals := ls, stack := .ref sa :: .ref T.heap.size :: .ref T.heap.size :: rest, locked := none }) rfl hsize rfl rfl (rest := rest) rfl
    (by rw [hb]; exact d6) (by rw [hb]; exact d9) hout hRframes (by simp only [List.map_cons, List.sum_cons, hcat]; omega) hlocks
  obtain ⟨f1, f2⟩ := vx_frame hsame
  rw [hhp] at f1 f2
  have hWs : s.WarmedH U.vm := State.WarmedH.trans hW0 hW
  have hcl : s.vm.findClass cls = some ce.cls := by
    have h9 := hO.cls
    rw [hvm] at h9
    exact h9
  have hall : s.sameButNew ({ U with vm := s.vm } : State) locs mc ms := by
    subst hA
    obtain ⟨e1, e2⟩ := hsame
    rw [State.setFrames_setFrames] at e1
    have h2 : (T.setVm s.vm).sameButNew ({ U with vm := s.vm } : State) [] (0 + 1) (0 + 6) := ⟨e1, e2⟩
    have h3 := X.same.trans h2
    rw [List.append_nil] at h3
    exact h3.mono hc hs
  refine ⟨U, ?_, .threw T.heap.size, hrun, hend, Or.inr ⟨T.heap.size, rfl, cls, ce, locs, hx U hWs.alike f1 (fun q hq => f2 q hq (fun z hz => nomatch hz)), hce, hO.vm, hcl, hWs, hall, hf⟩⟩
  refine st1 _ ?_
  show Steps p.tables e below (T1.setTop { method := m, pc := pc + 3, locals := ls, stack := .ref T.heap.size :: rest, locked := none }) _
  jvm_step X₁.here [X₁.here.top, hexec, d3', Value.category]
  exact X₁.ldcString hexec (own := own) (text := text) (index := is) (a := sa) hown' hstr'.1 hstr'.2
    (g := { method := m, pc := pc + 4, locals := ls, stack := .ref T.heap.size :: .ref T.heap.size :: rest, locked := none }) rfl d4' _ hsteps
/-- 'throw new E("text")', the text by a wide index -/
theorem vx_throwSW {cc : ByteArray} {pc : Nat} (hexec : p.tables.exec = Jvm.exec) (hb : c.code = cc) (hl : l.stackTraces = false) {own cls text : String} {names : List String} {ik is ic mc ms sa : Nat} {A : Nat → Prop}
    (hown : s.vm.findClass own = some m.cls) (hcls : Bundle.fit cls = true) (hnames : ∀ n ∈ names, Bundle.fit n = true)
    (hk : (Cond.classLink own ik cls).before args s = true) (hini : (Cond.initialized cls).before args s = true) (hstr : vk_R own is text sa s) (hat : ∀ w ∈ vx_atS own ic cls names, w.before args s = true)
    (hgood : ∀ w ∈ Cond.classLink own ik cls :: Cond.initialized cls :: vx_atS own ic cls names, vx_ot w = true)
    (hU : vx_Zq Bundle.tN "UNASSIGNED_STACK" Bundle.steD A s s.heap) (hN : vx_Zq Bundle.tN "SUPPRESSED_SENTINEL" Bundle.listD A s s.heap) (hS : va_S A s.heap H locs) (hsize : ls.size = c.maxLocals)
    (d0 : decode cc pc = .ok (.new ik, 3)) (d3 : decode cc (pc + 3) = .ok (.dup, 1)) (d4 : decode cc (pc + 4) = .ok (.ldc_w is, 3)) (d7 : decode cc (pc + 7) = .ok (.invokespecial ic, 3)) (d10 : decode cc (pc + 10) = .ok (.athrow, 1))
    (hout : ∀ x ∈ c.exceptionTable.toList, covers x (pc + 10) = false)
    (hRframes : names.length + 3 < R.frames) (hRlocals : (rest.map fun v => v.category).sum + (13 * (names.length + 1) + 43) ≤ R.locals) (hRcells : cells + 1 ≤ R.cells) (hRslots : slots + 6 ≤ R.slots) (hlocks : meth.locks = false)
    (hx : ∀ t : State, s.vm.Alike t.vm → H.size ≤ t.heap.size → (∀ q : Nat, q < H.size → t.heap[q]? = H[q]?) → XC cls s t)
    (hf : ∀ z ∈ locs, free z.base) (hc : cells + 1 ≤ mc) (hs : slots + 6 ≤ ms) :
    W p l e R s m args below meth c H locs cells slots (vx_MQ below Qc XC args s mc ms free) (F0 m pc ls rest) := by
  intro T hT X
  have htr : e.platform.stackTraces = false := (show e.platform.stackTraces = l.stackTraces by rw [X.admits.platform]).trans hl
  have Y := vx_rebase X (R' := { frames := R.frames, locals := R.locals, cells := 1, slots := 6 }) (Nat.le_refl _) (Nat.le_refl _) hRcells hRslots
  obtain ⟨s', hA⟩ : ∃ z, z = (T.setVm s.vm).setFrames (.invoking m args :: below) := ⟨_, rfl⟩
  rw [← hA] at Y
  have hvm : s'.vm = s.vm := by rw [hA]; rfl
  have hhp : s'.heap = H := by rw [hA]; exact hT
  have hW0 : s.WarmedH s'.vm := by rw [hvm]; exact State.WarmedH.refl s
  have hat' : ∀ w ∈ vx_atS own ic cls names, w.before args s' = true := fun w hw => vx_ot_at hW0 hvm.symm (hgood w (List.mem_cons_of_mem _ (List.mem_cons_of_mem _ hw))) (hat w hw)
  have hk' : (Cond.classLink own ik cls).before args s' = true := vx_ot_at hW0 hvm.symm (hgood _ List.mem_cons_self) hk
  have hini' : (Cond.initialized cls).before args s' = true := vx_ot_at hW0 hvm.symm (hgood _ (List.mem_cons_of_mem _ List.mem_cons_self)) hini
  have hU' : vx_Zq Bundle.tN "UNASSIGNED_STACK" Bundle.steD A s' s'.heap := by rw [hhp]; exact vx_Zq.moved hW0.alike (hU.kept hS.2.1)
  have hN' : vx_Zq Bundle.tN "SUPPRESSED_SENTINEL" Bundle.listD A s' s'.heap := by rw [hhp]; exact vx_Zq.moved hW0.alike (hN.kept hS.2.1)
  have h : ∀ w ∈ Bundle.ownAtoms own ic cls names, w.before args s' = true := vx_own hat' (vx_isRefq hU'.1) (vx_isRefq hN'.1) hU'.2.word hN'.2.word
  have hown' : s'.vm.findClass own = some m.cls := by rw [hvm]; exact hown
  have hins : (Cond.instantiable cls 6).before args s' = true := h _ (by simp [Bundle.ownAtoms])
  obtain ⟨vm₁, cX, kX, hfX, hkX, -, -, X₁, st1⟩ := Y.newCold hexec (own := own) (C := cls) (index := ik) (n := 6) hown' hk' hins hini'
    (g := F0 m pc ls rest) rfl (by rw [hb]; exact d0) (Nat.le_refl _) (Nat.le_refl _)
  generalize hT1 : (T.setVm vm₁).pushCell { cls := cX, slots := kX.instanceTypes.map defaultValue, vm := .none } = T1 at X₁ st1
  have hcat : (Value.ref T.heap.size).category = 1 := rfl
  have hcellA : T1.heap[T.heap.size]? = some (freshCell cX kX) := by rw [← hT1]; exact State.heap_pushCell_size _ _
  have d3' : decode c.code (pc + 3) = .ok (.dup, 1) := by rw [hb]; exact d3
  have d4' : decode c.code (pc + 4) = .ok (.ldc_w is, 3) := by rw [hb]; exact d4
  have hstr' : vk_R own is text sa s' := vk_R.warm hW0 hstr
  obtain ⟨U, hsteps, hrun, hend, hW, hsame, ce, hce, hO⟩ := X₁.ctorThrowS hexec htr (own := own) (cls := cls) (names := names) (ic := ic) hown' hcls hnames h (fun x hx => nomatch hx) hfX hkX hcellA (by rw [hhp, hT]; exact Nat.le_refl _) (msg := .ref sa) rfl
    (g := { method := m, pc := pc + 7, locals := ls, stack := .ref sa :: .ref T.heap.size :: .ref T.heap.size :: rest, locked := none }) rfl hsize rfl rfl (rest := rest) rfl
    (by rw [hb]; exact d7) (by rw [hb]; exact d10) hout hRframes (by simp only [List.map_cons, List.sum_cons, hcat]; omega) hlocks
  obtain ⟨f1, f2⟩ := vx_frame hsame
  rw [hhp] at f1 f2
  have hWs : s.WarmedH U.vm := State.WarmedH.trans hW0 hW
  have hcl : s.vm.findClass cls = some ce.cls := by
    have h9 := hO.cls
    rw [hvm] at h9
    exact h9
  have hall : s.sameButNew ({ U with vm := s.vm } : State) locs mc ms := by
    subst hA
    obtain ⟨e1, e2⟩ := hsame
    rw [State.setFrames_setFrames] at e1
    have h2 : (T.setVm s.vm).sameButNew ({ U with vm := s.vm } : State) [] (0 + 1) (0 + 6) := ⟨e1, e2⟩
    have h3 := X.same.trans h2
    rw [List.append_nil] at h3
    exact h3.mono hc hs
  refine ⟨U, ?_, .threw T.heap.size, hrun, hend, Or.inr ⟨T.heap.size, rfl, cls, ce, locs, hx U hWs.alike f1 (fun q hq => f2 q hq (fun z hz => nomatch hz)), hce, hO.vm, hcl, hWs, hall, hf⟩⟩
  refine st1 _ ?_
  show Steps p.tables e below (T1.setTop { method := m, pc := pc + 3, locals := ls, stack := .ref T.heap.size :: rest, locked := none }) _
  jvm_step X₁.here [X₁.here.top, hexec, d3', Value.category]
  exact X₁.ldcStringW hexec (own := own) (text := text) (index := is) (a := sa) hown' hstr'.1 hstr'.2
    (g := { method := m, pc := pc + 4, locals := ls, stack := .ref T.heap.size :: .ref T.heap.size :: rest, locked := none }) rfl d4' _ hsteps
end Ends
section Bodies
variable {l : Launch}
theorem vx_ofW {y : MethodName} {ws ws' : List Cond} {rm : Room} {Pc : Array Value → State → Prop} {Qc : Array Value → State → Outcome → State → Prop} {XC : String → State → State → Prop} {mc ms : Nat} {free : Addr → Prop} {cc : ByteArray} {maxL : Nat} {ret : Option FieldType}
    (hy : plainName y.cls = true) (hw : ws = Cond.code y cc maxL ret :: ws')
    (body : ∀ p e s m args below meth c s₁, BodyLoose p l y (headSpec ws rm) cc maxL ret e s m args below meth c s₁ → c.maxLocals = maxL → (∀ x ∈ c.exceptionTable.toList, False) → Pc args s →
      W p l e (headSpec ws rm).room s m args below meth c s.heap [] 0 0 (vx_MQ below Qc XC args s mc ms free) (entryFrame m args maxL)) : vx_Met l y ws rm Pc Qc XC mc ms free := by
  refine MetFree.of_bodyS (code := cc) (maxLocals := maxL) (ret := ret) hy ?_ ?_
  · intro args s m h hn
    obtain ⟨meth, c, h1, h2, h3, h4, h5, h6, -, -⟩ := Cond.code_spec hn (atoms_spec (ws := ws) h _ (by rw [hw]; exact List.mem_cons_self))
    exact ⟨meth, c, h1, h2, h3, h4, h5, h6⟩
  · intro p e s m args below meth c s₁ B hml hP _
    have hh0 : s₁.heap = s.heap := by rw [B.state]; rfl
    have ht : ∀ x ∈ c.exceptionTable.toList, False := by
      obtain ⟨meth9, c9, h1, h2, -, -, -, -, h7, -⟩ := Cond.code_spec B.named (atoms_spec (ws := ws) B.pre _ (by rw [hw]; exact List.mem_cons_self))
      cases Option.some.inj (h1.symm.trans B.method)
      cases Option.some.inj (h2.symm.trans (Stand.of_body B).code)
      intro x hx
      rw [Array.isEmpty_iff.mp h7] at hx
      cases hx
    obtain ⟨t, a1, o, b1, b2, b3⟩ := body p e s m args below meth c s₁ B hml ht hP s₁ hh0 (Stand.of_body B)
    exact ⟨t, o, a1, b1, b2, b3⟩
/-- the table of a body with handlers -/
theorem vx_table {p : Program} {x y : MethodName} {S : Spec} {cc bytes : ByteArray} {maxL maxL' : Nat} {ret ret' : Option FieldType} {e : Env} {s s₁ : State} {m : MethodId} {args : Array Value} {below : List Frame} {meth : Method} {c : Code} {hh : List (Nat × Nat × Nat × Nat)}
    (B : BodyLoose p l y S cc maxL ret e s m args below meth c s₁) (h : (Cond.codeWith y bytes maxL' ret' hh).before args s = true) : c.exceptionTable.toList = tableOf hh := by
  obtain ⟨m9, meth9, c9, hn9, h1, h2, -, -, h6, -⟩ := Cond.codeWith_spec h
  cases Option.some.inj (hn9.symm.trans B.named)
  cases Option.some.inj (h1.symm.trans B.method)
  cases Option.some.inj (h2.symm.trans (Stand.of_body B).code)
  rw [← h6, table_eq]
end Bodies
end VXA
/-! ===== END ===== -/
/-! ===== BEGIN a static call of a method with an exception table ===== -/
section VXS
variable {p : Program} {l : Launch} {e : Env} {R : Room} {s : State} {m : MethodId} {args : Array Value} {below : List Frame} {meth : Method} {c : Code} {T : State} {H : Heap} {locs : List Loc} {cells slots : Nat}
abbrev vx_CSW (R : Room) (s : State) (args : Array Value) (own : String) (index : Nat) (y : MethodName) (bytes : ByteArray) (maxL : Nat) (ret : Option FieldType) (hh : List (Nat × Nat × Nat × Nat)) (ws : List Cond) (rm : Room) (mc ms n : Nat) : Prop :=
  (rm.cells = mc ∧ rm.slots = ms ∧ rm.frames + 1 ≤ R.frames ∧ 8 + (maxL + 11) + rm.locals ≤ R.locals ∧ (∀ w ∈ ws, ∀ (a' : Array Value) (U : State), s.WarmedH U.vm → w.before a' U = true) ∧ Cond.codeWith y bytes maxL ret hh ∈ ws) ∧
  (Cond.codeWith y bytes maxL ret hh).before args s = true ∧ (Cond.initialized y.cls).before args s = true ∧ (y.cls ≠ "java/lang/invoke/MethodHandle" ∧ y.cls ≠ "java/lang/invoke/VarHandle") ∧
  (∀ sig, parseMethodDescriptor y.desc = some sig → n = sig.parameters.length) ∧ (Cond.methodLink own index y).before args s = true ∧ (Cond.static y).before args s = true
theorem vx_cwSW {own : String} {index maxL mc ms : Nat} {y : MethodName} {bytes : ByteArray} {ret : Option FieldType} {hh : List (Nat × Nat × Nat × Nat)} {Ts ws ws' : List Cond} {rm : Room} (n : Nat) (ht : ∀ w ∈ Ts, w.before args s = true) (hT : GoodIn Ts (va_wsS own index y ws)) (hw : ws = Cond.codeWith y bytes maxL ret hh :: ws') (hrc : rm.cells = mc) (hrs : rm.slots = ms)
    (hd : y.cls ≠ "java/lang/invoke/MethodHandle" ∧ y.cls ≠ "java/lang/invoke/VarHandle" ∧ (parseMethodDescriptor y.desc).map (fun d => d.parameters.length) = some n) (hR : rm.frames + 1 ≤ R.frames ∧ 8 + (maxL + 11) + rm.locals ≤ R.locals) :
    vx_CSW R s args own index y bytes maxL ret hh ws rm mc ms n := by
  have ok : ∀ w ∈ va_wsS own index y ws, w.before args s = true := fun w h => ht w (hT w h).1
  have hG : GoodIn Ts ws := fun w h => hT w (by unfold va_wsS; exact List.mem_append_right _ h)
  have hc : Cond.codeWith y bytes maxL ret hh ∈ ws := by rw [hw]; exact List.mem_cons_self
  refine ⟨⟨hrc, hrs, hR.1, hR.2, pay_in ht hG, hc⟩, ht _ (hG _ hc).1, ok _ (by simp [va_wsS]), ⟨hd.1, hd.2.1⟩, fun sig h => ?_, ok _ (by simp [va_wsS]), ok _ (by simp [va_wsS])⟩
  have h2 := hd.2.2
  rw [h] at h2
  exact (Option.some.inj h2).symm
theorem vx_callSW (X : Stand p l e R s m args below meth c T locs cells slots) (hexec : p.tables.exec = Jvm.exec) {own : String} {index : Nat} {y : MethodName} {bytes : ByteArray} {maxL : Nat} {ret : Option FieldType} {hh : List (Nat × Nat × Nat × Nat)}
    (hown : s.vm.findClass own = some m.cls) (hlink : (Cond.methodLink own index y).before args s = true) (hstat : (Cond.static y).before args s = true) (hinit : (Cond.initialized y.cls).before args s = true)
    (hcode : (Cond.codeWith y bytes maxL ret hh).before args s = true) (hy : y.cls ≠ "java/lang/invoke/MethodHandle" ∧ y.cls ≠ "java/lang/invoke/VarHandle")
    {W9 : Nat} {Pre : Pt → Array Value → Prop} {Post : Pt → Array Value → Option Value → Pt → Prop} (hK : Back l R p e below s args y 3 W9 Pre Post)
    {g : JFrame} (hg : g.method = m) (hsize : g.locals.size = c.maxLocals) {argsL rest : List Value} (hlen : ∀ sig, parseMethodDescriptor y.desc = some sig → argsL.length = sig.parameters.length)
    (hstack : g.stack = argsL.reverse ++ rest) (hW : 2 * g.monitorRoom + (rest.map fun v => v.category).sum ≤ W9) (hdg : decode c.code g.pc = .ok (.invokestatic index, 3))
    (hpre : ∀ vm₁, s.WarmedH vm₁ → Pre ⟨T.setVm vm₁, locs, cells, slots⟩ argsL.toArray) :
    ∃ (v : Option Value) (vm₁ : Vm) (B : Pt), s.WarmedH vm₁ ∧ Stand p l e R s m args below meth c B.U B.locs B.cells B.slots ∧ Post ⟨T.setVm vm₁, locs, cells, slots⟩ argsL.toArray v B ∧
      ∀ target, Steps p.tables e below (B.U.setTop { g with pc := g.pc + 3, stack := v.toList ++ rest }) target → Steps p.tables e below (T.setTop g) target := by
  obtain ⟨mk, methM, cM, hnamed, hmethM, -, -, -, -, -, -, hsigM⟩ := Cond.codeWith_spec hcode
  have hstatic : methM.isStatic = true := Cond.static_spec hnamed hmethM hstat
  obtain ⟨kP, hkP, -⟩ := className_of_methodNamed hnamed
  have hinitP : kP.init = .initialized := Cond.initialized_spec (findClass_of_methodNamed hnamed) hkP hinit
  obtain ⟨vm₁, X₁, hstep₁⟩ := X.invokestatic hexec hown hlink hnamed hmethM hstatic hkP hinitP hy (g := g) hg (argsL := argsL) (rest := rest) (hlen _ hsigM) hstack hdg
  obtain ⟨v, B, X', hpost, hsteps⟩ := hK m meth c ⟨T.setVm vm₁, locs, cells, slots⟩ { g with stack := rest } (.invokestatic index) mk argsL.toArray X₁ hg hsize hdg hW (X₁.named hnamed) (hpre vm₁ X₁.warmed)
  exact ⟨v, vm₁, B, X₁.warmed, X', hpost, fun target h => hstep₁ _ fun acts => by rw [doInvoke_state]; exact hsteps.trans h⟩
theorem vx_runSW {y : MethodName} {bytes cc : ByteArray} {maxL nL mc ms n index : Nat} {ret : Option FieldType} {hh : List (Nat × Nat × Nat × Nat)} {ws : List Cond} {rm : Room} {Pc : Array Value → State → Prop} {Qc : Array Value → State → Outcome → State → Prop} {free : Addr → Prop} {Ts : List Cond} {own : String} {As rest : List Value} {g : JFrame}
    (S : CallFix p m c cc nL s args Ts own) (hM : Met l y ws rm Pc Qc mc ms free) (cw : vx_CSW R s args own index y bytes maxL ret hh ws rm mc ms n) (hp : PreS s H Pc As)
    (hg : g.method = m) (hn : As.length = n) (hsize : g.locals.size = nL) (hstack : g.stack = As.reverse ++ rest) (hW : 2 * g.monitorRoom + (rest.map fun v => v.category).sum ≤ 8) (hdg : decode cc g.pc = .ok (.invokestatic index, 3)) (hf : cells + mc ≤ R.cells ∧ slots + ms ≤ R.slots) :
    va_Run p l e R s m args below meth c H locs cells slots mc ms g rest (Qc As.toArray) (free) := by
  obtain ⟨⟨hrc, hrs, hfr, hlo, hws, hcw⟩, hcode, hini, hy, hlen, hl, hstt⟩ := cw
  have hK : Back l R p e below s args y 3 8 (PreOf R mc ms Pc) (PostOf Qc mc ms free) := va_backW (hh := hh) (bytes := bytes) (maxL := maxL) (ret := ret) hM hp.1 hrc hrs hfr hlo hws hcw (fun a' U hW => word_at hW (Or.inl (by first | rfl | simp [Cond.onTables, Cond.keeps, Cond.steady])) hini)
  obtain ⟨hx, hb, hml, ho, -⟩ := S
  intro T hT X
  obtain ⟨v, vm₁, ⟨U', l2, c2, s2⟩, hW₁, X', ⟨g', mk, t, L, e1, e2, hq, h1, hL, h2, h3⟩, st⟩ := vx_callSW X hx (hh := hh) (bytes := bytes) (maxL := maxL) (ret := ret) ho hl hstt hini hcode hy hK hg (hsize.trans hml.symm) (argsL := As) (rest := rest) (fun sig h => hn.trans (hlen sig h)) hstack hW (by rw [hb]; exact hdg)
    (fun vm₁ hW₁ => ⟨hf.1, hf.2, hp.2 (T.setVm vm₁) hT hW₁⟩)
  dsimp only [Pt.U, Pt.locs, Pt.cells, Pt.slots] at X' e1 e2 h1 h2 h3 st
  subst h1; subst h2; subst h3
  exact ⟨v, (T.setVm vm₁).calling g' mk As.toArray, t, U', L, hT, X', hL, e1, e2, hq, st⟩
/-- not caught here, past rows that name other classes: it goes on to the caller -/
theorem vx_outP {p : Program} {l : Launch} {e : Env} {R : Room} {s : State} {m : MethodId} {args : Array Value} {below : List Frame} {meth : Method} {c : Code} {H : Heap} {locs : List Loc} {cells slots : Nat} {free : Addr → Prop} {ls : Array Slot} {rest : List Value} {Qc : Array Value → State → Outcome → State → Prop} {XC : String → State → State → Prop}
    {pc : Nat} {own E : String} {ce : Cell} {q : Addr} {mc ms : Nat} (hown : s.vm.findClass own = some m.cls) (hlocks : meth.locks = false)
    (hpass : ∀ z ∈ c.exceptionTable.toList, covers z pc = false ∨ (z.catchType ≠ 0 ∧ ∃ nm : String, (Cond.classLink own z.catchType nm).before args s = true ∧ va_Nc E nm s)) (hcell : H[q]? = some ce) (hv : ce.vm = .none) (hcl : s.vm.findClass E = some ce.cls)
    (hx : ∀ t : State, t.heap = H → s.vm.Alike t.vm → XC E s t) (hf : ∀ z ∈ locs, free z.base) (hc : cells ≤ mc) (hs : slots ≤ ms) :
    vx_W p l e R s m args below meth c H locs cells slots (vx_MQ below Qc XC args s mc ms free) (F0 m pc ls rest) q := by
  intro T hT X
  have hpl : e.platform.magicAccessors = ({} : Platform).magicAccessors := by rw [X.admits.platform]
  obtain ⟨vm', hW', X', st⟩ := X.outThrough hlocks q (g := F0 m pc ls rest) rfl rfl rfl (cell := ce) (by rw [hT]; exact hcell) (by rw [hv]; rfl)
    (by obtain ⟨k9, h9, -⟩ := Vm.findClass_spec hcl; exact ⟨k9, h9⟩) (fun z hz => by
      rcases hpass z hz with h | ⟨hz0, nm, hl1, hn1⟩
      · exact Or.inl h
      · obtain ⟨c6, hc6, hcl6⟩ := Cond.classLink_spec hown hl1 e.platform hpl
        obtain ⟨a8, b8, h1, h2, h3⟩ := hn1
        cases Option.some.inj (h1.symm.trans hcl)
        cases Option.some.inj (h2.symm.trans hc6)
        exact Or.inr ⟨hz0, _, hcl6, h3⟩)
  obtain ⟨g₀, hfr⟩ := X'.frames_eq
  have hcell9 : ((T.setVm vm').setFrames (.throwing q :: below)).heap[q]? = some ce := by
    show T.heap[q]? = some ce
    rw [hT]; exact hcell
  have hend : Ended ((T.setVm vm').setFrames (.throwing q :: below)) below (.threw q) := State.frames_setFrames _ (State.cur_lt_of_frames hfr)
  refine ⟨(T.setVm vm').setFrames (.throwing q :: below), ?_, .threw q, X'.here.running, hend, Or.inr ⟨q, rfl, E, ce, locs, hx _ hT (X'.ends _).1.alike, hcell9, hv, hcl, (X'.ends _).1, (X'.ends _).2.mono hc hs, hf⟩⟩
  rw [X.pushThrowing_eq]
  exact st
/-- a thing of a world lies in the heap -/
theorem vx_lt {D : va_G} {cl : List vw_C} {ws : va_W} {H1 : Heap} (h : va_P D cl ws H1) {k : Nat} {q : Nat × va_E} (hk : ws[k]? = some q) : q.1 < H1.size := (h k q hk).lt
end VXS
/-! ===== END ===== -/
/-! ===== BEGIN methods with a table of their own: called by a name, returning or throwing ===== -/
section VXH
/-! vx_backW, vx_callVX, vx_callSX, vx_callVW, vx_runVW, vx_runVX, vx_runSX, vx_ofWH follow the same proofs as their sisters above (Free/Laws.lean, Shelf42/LK1.lean); vx_outP calls Shelf42/NT130.lean (outThrough). -/
section
variable {l : Launch} {R : Room} {p : Program} {e : Env} {below : List Frame} {s : State} {sargs : Array Value} {y : MethodName} {len W9 : Nat}
theorem vx_backW {ws : List Cond} {rm : Room} {Pc : Array Value → State → Prop} {Qc : Array Value → State → Outcome → State → Prop} {XC : String → State → State → Prop} {mc ms : Nat} {free : Addr → Prop} {bytes : ByteArray} {maxL : Nat} {ret : Option FieldType} {hh : List (Nat × Nat × Nat × Nat)}
    (hM : vx_Met l y ws rm Pc Qc XC mc ms free) (hblind : FrameBlind Pc) (hrc : rm.cells = mc) (hrs : rm.slots = ms)
    (hframes : rm.frames + 1 ≤ R.frames) (hlocals : W9 + (maxL + 11) + rm.locals ≤ R.locals)
    (hws : ∀ w ∈ ws, ∀ a' U, s.WarmedH U.vm → w.before a' U = true) (hcode : Cond.codeWith y bytes maxL ret hh ∈ ws) (hinit : ∀ a' U, s.WarmedH U.vm → (Cond.initialized y.cls).before a' U = true) :
    vx_Back l R p e below s sargs y len W9 (PreOf R mc ms Pc) (PostOf Qc mc ms free) (vx_Post XC mc ms free) := by
  intro m meth c A g ig mk a X hg hsize hdg hW hn hp
  have h1 : (headSpec ws rm).pre.before a A.U = true := atoms_intro fun w hw => hws w hw _ _ X.warmed
  have h2 : (Cond.codeWith y bytes maxL ret hh).before a A.U = true := hws _ hcode _ _ X.warmed
  have h3 : (Cond.initialized y.cls).before a A.U = true := hinit _ _ X.warmed
  have h4 : A.cells + (headSpec ws rm).room.cells ≤ R.cells := by rw [show (headSpec ws rm).room.cells = mc from hrc]; exact hp.1
  have h5 : A.slots + (headSpec ws rm).room.slots ≤ R.slots := by rw [show (headSpec ws rm).room.slots = ms from hrs]; exact hp.2.1
  have hPc : Pc a (A.U.calling g mk a) := hblind _ _ _ _ hp.2.2
  obtain ⟨U, Ls, c0, s0⟩ := A
  dsimp only [Pt.U, Pt.locs, Pt.cells, Pt.slots] at h1 h2 h3 h4 h5 X hn hPc ⊢
  obtain ⟨m9, methY, cY, hn9, hmY, hcY, -, hlY, -⟩ := Cond.codeWith_spec h2
  cases Option.some.inj (hn9.symm.trans hn)
  obtain ⟨kY, hkY, -⟩ := className_of_methodNamed hn
  have hinitY : kY.init = .initialized := Cond.initialized_spec (findClass_of_methodNamed hn) hkY h3
  have h : At U g.method c below := by rw [hg]; exact X.here
  have hlocals9 : W9 + (maxL + 11) + (headSpec ws rm).room.locals ≤ R.locals := hlocals
  have happ : (headSpec ws rm).appliesLoose y e.platform (U.calling g mk a) = true :=
    Spec.appliesLoose_calling (g := g) h hdg hn hkY hinitY
      (X.room_calling (g := g) (R' := (headSpec ws rm).room) hsize hmY hcY hframes (by rw [hlY]; omega) h4 h5) h1
  obtain ⟨mid, hmid⟩ := h.above
  have hfr : (U.setTop g).frames = (.java g :: mid) ++ below := by rw [State.frames_setTop' g h.top, hmid]; rfl
  obtain ⟨o, s₂, hsteps, -, hend, hq⟩ := Steps.callFree hM p X.admits X.cas X.clock (acts := []) hfr happ hPc trivial
  have hq' : vx_Q Qc XC mc ms free a (U.calling g mk a) o s₂ := hq
  rw [State.frames_setTop' g h.top] at hend
  obtain ⟨g₀, hg0⟩ := Option.isSome_iff_exists.mp h.top
  obtain ⟨r, hr⟩ := State.topJava?_eq_some.mp hg0
  have hr' : (({ U with heap := s₂.heap, slotsUsed := s₂.slotsUsed } : State).setVm s₂.vm).frames = .java g₀ :: r := hr
  rcases hq' with ⟨hqc, L, hfe, hL⟩ | ⟨q, rfl, E, ce, L, hx, hce, hcv, hcl, hW₂, hsm, hL⟩
  · obtain ⟨⟨v, rfl⟩, hW₂, e2, q2, q3, q4, q5, q6⟩ := id hfe
    have e3 : s₂ = ({ (U.calling g mk a).setFrames s₂.frames with heap := s₂.heap, slotsUsed := s₂.slotsUsed } : State).setVm s₂.vm := by
      have : s₂ = ({ s₂ with vm := (U.calling g mk a).vm } : State).setVm s₂.vm := rfl
      rw [e2] at this
      exact this
    obtain ⟨c₂, i₂, len₂, hc₂, hd₂, hf₂⟩ := hend
    have hW' : U.WarmedH s₂.vm := hW₂
    have hcc : c₂ = c := by
      have h1 : s₂.code? g.method = U.code? g.method := by
        rw [State.code?_eq, State.code?_eq, hW'.alike.method?]
      exact Option.some.inj (hc₂.symm.trans (h1.trans h.code))
    subst hcc
    have hlen : len₂ = len := by rw [hdg] at hd₂; cases hd₂; rfl
    subst hlen
    have hs₂ : s₂ = (({ U with heap := s₂.heap, slotsUsed := s₂.slotsUsed } : State).setVm s₂.vm).setTop { g with pc := g.pc + len₂, stack := v.toList ++ g.stack } := by
      refine e3.trans ?_
      rw [hf₂, State.calling_eq h.top, State.setFrames_setFrames, State.setTop_of_frames _ hr', hr]
      rfl
    have hsame : U.sameButNew ({ U with heap := s₂.heap, slotsUsed := s₂.slotsUsed } : State) L mc ms := by
      refine ⟨?_, q2, q3, q4, q5, q6⟩
      obtain ⟨t, ht, -⟩ := State.frames_cons hr
      show ({ U with heap := s₂.heap, slotsUsed := s₂.slotsUsed } : State) = { U.setFrames U.frames with heap := s₂.heap, slotsUsed := s₂.slotsUsed }
      rw [State.setFrames_self ht]
    subst hg
    refine Or.inl ⟨v, ⟨(({ U with heap := s₂.heap, slotsUsed := s₂.slotsUsed } : State).setVm s₂.vm), Ls ++ L, c0 + mc, s0 + ms⟩,
      ⟨X.admits, X.cas, X.clock, X.frames, X.room, X.hears, X.method, X.code, (X.here.setHeapUsed s₂.heap s₂.slotsUsed).setVm hW'.alike, X.tail, State.WarmedH.trans X.warmed hW', X.limits, X.bytes, X.same.trans (hsame.setVm s.vm)⟩,
      ⟨g, mk, s₂, L, rfl, rfl, hqc, rfl, hL, rfl, rfl⟩, ?_⟩
    show Steps p.tables e below _ ((({ U with heap := s₂.heap, slotsUsed := s₂.slotsUsed } : State).setVm s₂.vm).setTop { g with pc := g.pc + len₂, stack := v.toList ++ g.stack })
    rw [← hs₂]
    exact hsteps
  · obtain ⟨e2, q2, q3, q4, q5, q6⟩ := id hsm
    have e3 : s₂ = ({ (U.calling g mk a).setFrames s₂.frames with heap := s₂.heap, slotsUsed := s₂.slotsUsed } : State).setVm s₂.vm := by
      have : s₂ = ({ s₂ with vm := (U.calling g mk a).vm } : State).setVm s₂.vm := rfl
      rw [e2] at this
      exact this
    have hf₂ : s₂.frames = .throwing q :: .java g :: U.frames.tail := hend
    have hW' : U.WarmedH s₂.vm := hW₂
    have hs₂ : s₂ = ((({ U with heap := s₂.heap, slotsUsed := s₂.slotsUsed } : State).setVm s₂.vm).setTop g).pushFrame (.throwing q) := by
      refine e3.trans ?_
      rw [hf₂, State.calling_eq h.top, State.setFrames_setFrames, State.pushFrame, State.frames_setTop _ hr', State.setTop_of_frames _ hr', State.setFrames_setFrames, hr]
      rfl
    have hsame : U.sameButNew ({ U with heap := s₂.heap, slotsUsed := s₂.slotsUsed } : State) L mc ms := by
      refine ⟨?_, q2, q3, q4, q5, q6⟩
      obtain ⟨t, ht, -⟩ := State.frames_cons hr
      show ({ U with heap := s₂.heap, slotsUsed := s₂.slotsUsed } : State) = { U.setFrames U.frames with heap := s₂.heap, slotsUsed := s₂.slotsUsed }
      rw [State.setFrames_self ht]
    subst hg
    refine Or.inr ⟨q, ⟨(({ U with heap := s₂.heap, slotsUsed := s₂.slotsUsed } : State).setVm s₂.vm), Ls ++ L, c0 + mc, s0 + ms⟩,
      ⟨X.admits, X.cas, X.clock, X.frames, X.room, X.hears, X.method, X.code, (X.here.setHeapUsed s₂.heap s₂.slotsUsed).setVm hW'.alike, X.tail, State.WarmedH.trans X.warmed hW', X.limits, X.bytes, X.same.trans (hsame.setVm s.vm)⟩,
      ⟨g, mk, s₂, L, E, ce, rfl, rfl, hx, hce, hcv, hcl, rfl, hL, rfl, rfl⟩, ?_⟩
    show Steps p.tables e below _ (((({ U with heap := s₂.heap, slotsUsed := s₂.slotsUsed } : State).setVm s₂.vm).setTop g).pushFrame (.throwing q))
    rw [← hs₂]
    exact hsteps
end
variable {p : Program} {l : Launch} {e : Env} {R : Room} {s : State} {m : MethodId} {args : Array Value} {below : List Frame} {meth : Method} {c : Code} {T : State} {H : Heap} {locs : List Loc} {cells slots : Nat}
theorem vx_callVX (X : Stand p l e R s m args below meth c T locs cells slots) (hexec : p.tables.exec = Jvm.exec) {own C : String} {index : Nat} {y : MethodName} {bytes : ByteArray} {maxL : Nat} {ret : Option FieldType} {hh : List (Nat × Nat × Nat × Nat)}
    (hown : s.vm.findClass own = some m.cls) (hlink : (Cond.methodLink own index y).before args s = true) (hinst : (Cond.instanceMethod y).before args s = true) (hsel : (Cond.selects C y y).before args s = true)
    (hcode : (Cond.codeWith y bytes maxL ret hh).before args s = true) (hy : y.cls ≠ "java/lang/invoke/MethodHandle" ∧ y.cls ≠ "java/lang/invoke/VarHandle")
    {W9 : Nat} {Pre : Pt → Array Value → Prop} {Post : Pt → Array Value → Option Value → Pt → Prop} {PostX : Pt → Array Value → Addr → Pt → Prop} (hK : vx_Back l R p e below s args y 3 W9 Pre Post PostX)
    {b : Addr} {cellB : Cell} (hcell : T.heap[b]? = some cellB) (hobj : cellB.vm.isStatics = false) (hcls : s.vm.findClass C = some cellB.cls)
    {g : JFrame} (hg : g.method = m) (hsize : g.locals.size = c.maxLocals) {argsL rest : List Value} (hlen : ∀ sig, parseMethodDescriptor y.desc = some sig → argsL.length = sig.parameters.length)
    (hstack : g.stack = argsL.reverse ++ .ref b :: rest) (hW : 2 * g.monitorRoom + (rest.map fun v => v.category).sum ≤ W9) (hdg : decode c.code g.pc = .ok (.invokevirtual index, 3))
    (hpre : ∀ vm₁, s.WarmedH vm₁ → Pre ⟨T.setVm vm₁, locs, cells, slots⟩ (Value.ref b :: argsL).toArray) :
    (∃ (v : Option Value) (vm₁ : Vm) (B : Pt), s.WarmedH vm₁ ∧ Stand p l e R s m args below meth c B.U B.locs B.cells B.slots ∧ Post ⟨T.setVm vm₁, locs, cells, slots⟩ (Value.ref b :: argsL).toArray v B ∧
      ∀ target, Steps p.tables e below (B.U.setTop { g with pc := g.pc + 3, stack := v.toList ++ rest }) target → Steps p.tables e below (T.setTop g) target) ∨
    (∃ (q : Addr) (vm₁ : Vm) (B : Pt), s.WarmedH vm₁ ∧ Stand p l e R s m args below meth c B.U B.locs B.cells B.slots ∧ PostX ⟨T.setVm vm₁, locs, cells, slots⟩ (Value.ref b :: argsL).toArray q B ∧
      Steps p.tables e below (T.setTop g) ((B.U.setTop { g with stack := rest }).pushFrame (.throwing q))) := by
  obtain ⟨mk, methM, hnamed, hmethM, hstM, habM⟩ := Cond.instanceMethod_spec hinst
  obtain ⟨m8, methM', cM, hn8, hmethM', -, -, -, -, -, -, hsigM⟩ := Cond.codeWith_spec hcode
  cases Option.some.inj (hn8.symm.trans hnamed)
  cases hmethM.symm.trans hmethM'
  obtain ⟨c2, r2, m2, q1, q2, q3, q4, kP, hkP, hkPi⟩ := Cond.selects_spec hsel
  cases hcls.symm.trans q1
  cases (State.methodFound?_of_named hnamed hy).symm.trans q2
  cases hnamed.symm.trans q3
  have hselP : selectMethod e.platform s.vm cellB.cls mk = .method mk := by rw [Launch.admits_selectMethod X.admits]; exact q4
  obtain ⟨vm₁, X₁, hstep₁⟩ := X.invokevirtual hexec hown hlink hnamed hmethM hstM hkP hkPi hy (a := b) (cell := cellB) hcell
    (fun z h => by rw [h] at hobj; cases hobj) hselP hmethM habM hkP hkPi (g := g) hg (argsL := argsL) (rest := rest) (hlen _ hsigM) hstack hdg
  rcases hK m meth c ⟨T.setVm vm₁, locs, cells, slots⟩ { g with stack := rest } (.invokevirtual index) mk (Value.ref b :: argsL).toArray X₁ hg hsize hdg hW (X₁.named hnamed) (hpre vm₁ X₁.warmed) with ⟨v, B, X', hpost, hsteps⟩ | ⟨q, B, X', hpost, hsteps⟩
  · exact Or.inl ⟨v, vm₁, B, X₁.warmed, X', hpost, fun target h => hstep₁ _ fun acts => by rw [doInvoke_state]; exact hsteps.trans h⟩
  · exact Or.inr ⟨q, vm₁, B, X₁.warmed, X', hpost, hstep₁ _ fun acts => by rw [doInvoke_state]; exact hsteps⟩
theorem vx_callSX (X : Stand p l e R s m args below meth c T locs cells slots) (hexec : p.tables.exec = Jvm.exec) {own : String} {index : Nat} {y : MethodName} {bytes : ByteArray} {maxL : Nat} {ret : Option FieldType} {hh : List (Nat × Nat × Nat × Nat)}
    (hown : s.vm.findClass own = some m.cls) (hlink : (Cond.methodLink own index y).before args s = true) (hstat : (Cond.static y).before args s = true) (hinit : (Cond.initialized y.cls).before args s = true)
    (hcode : (Cond.codeWith y bytes maxL ret hh).before args s = true) (hy : y.cls ≠ "java/lang/invoke/MethodHandle" ∧ y.cls ≠ "java/lang/invoke/VarHandle")
    {W9 : Nat} {Pre : Pt → Array Value → Prop} {Post : Pt → Array Value → Option Value → Pt → Prop} {PostX : Pt → Array Value → Addr → Pt → Prop} (hK : vx_Back l R p e below s args y 3 W9 Pre Post PostX)
    {g : JFrame} (hg : g.method = m) (hsize : g.locals.size = c.maxLocals) {argsL rest : List Value} (hlen : ∀ sig, parseMethodDescriptor y.desc = some sig → argsL.length = sig.parameters.length)
    (hstack : g.stack = argsL.reverse ++ rest) (hW : 2 * g.monitorRoom + (rest.map fun v => v.category).sum ≤ W9) (hdg : decode c.code g.pc = .ok (.invokestatic index, 3))
    (hpre : ∀ vm₁, s.WarmedH vm₁ → Pre ⟨T.setVm vm₁, locs, cells, slots⟩ argsL.toArray) :
    (∃ (v : Option Value) (vm₁ : Vm) (B : Pt), s.WarmedH vm₁ ∧ Stand p l e R s m args below meth c B.U B.locs B.cells B.slots ∧ Post ⟨T.setVm vm₁, locs, cells, slots⟩ argsL.toArray v B ∧
      ∀ target, Steps p.tables e below (B.U.setTop { g with pc := g.pc + 3, stack := v.toList ++ rest }) target → Steps p.tables e below (T.setTop g) target) ∨
    (∃ (q : Addr) (vm₁ : Vm) (B : Pt), s.WarmedH vm₁ ∧ Stand p l e R s m args below meth c B.U B.locs B.cells B.slots ∧ PostX ⟨T.setVm vm₁, locs, cells, slots⟩ argsL.toArray q B ∧
      Steps p.tables e below (T.setTop g) ((B.U.setTop { g with stack := rest }).pushFrame (.throwing q))) := by
  obtain ⟨mk, methM, cM, hnamed, hmethM, -, -, -, -, -, -, hsigM⟩ := Cond.codeWith_spec hcode
  have hstatic : methM.isStatic = true := Cond.static_spec hnamed hmethM hstat
  obtain ⟨kP, hkP, -⟩ := className_of_methodNamed hnamed
  have hinitP : kP.init = .initialized := Cond.initialized_spec (findClass_of_methodNamed hnamed) hkP hinit
  obtain ⟨vm₁, X₁, hstep₁⟩ := X.invokestatic hexec hown hlink hnamed hmethM hstatic hkP hinitP hy (g := g) hg (argsL := argsL) (rest := rest) (hlen _ hsigM) hstack hdg
  rcases hK m meth c ⟨T.setVm vm₁, locs, cells, slots⟩ { g with stack := rest } (.invokestatic index) mk argsL.toArray X₁ hg hsize hdg hW (X₁.named hnamed) (hpre vm₁ X₁.warmed) with ⟨v, B, X', hpost, hsteps⟩ | ⟨q, B, X', hpost, hsteps⟩
  · exact Or.inl ⟨v, vm₁, B, X₁.warmed, X', hpost, fun target h => hstep₁ _ fun acts => by rw [doInvoke_state]; exact hsteps.trans h⟩
  · exact Or.inr ⟨q, vm₁, B, X₁.warmed, X', hpost, hstep₁ _ fun acts => by rw [doInvoke_state]; exact hsteps⟩
theorem vx_callVW (X : Stand p l e R s m args below meth c T locs cells slots) (hexec : p.tables.exec = Jvm.exec) {own C : String} {index : Nat} {y : MethodName} {bytes : ByteArray} {maxL : Nat} {ret : Option FieldType} {hh : List (Nat × Nat × Nat × Nat)}
    (hown : s.vm.findClass own = some m.cls) (hlink : (Cond.methodLink own index y).before args s = true) (hinst : (Cond.instanceMethod y).before args s = true) (hsel : (Cond.selects C y y).before args s = true)
    (hcode : (Cond.codeWith y bytes maxL ret hh).before args s = true) (hy : y.cls ≠ "java/lang/invoke/MethodHandle" ∧ y.cls ≠ "java/lang/invoke/VarHandle")
    {W9 : Nat} {Pre : Pt → Array Value → Prop} {Post : Pt → Array Value → Option Value → Pt → Prop} (hK : Back l R p e below s args y 3 W9 Pre Post)
    {b : Addr} {cellB : Cell} (hcell : T.heap[b]? = some cellB) (hobj : cellB.vm.isStatics = false) (hcls : s.vm.findClass C = some cellB.cls)
    {g : JFrame} (hg : g.method = m) (hsize : g.locals.size = c.maxLocals) {argsL rest : List Value} (hlen : ∀ sig, parseMethodDescriptor y.desc = some sig → argsL.length = sig.parameters.length)
    (hstack : g.stack = argsL.reverse ++ .ref b :: rest) (hW : 2 * g.monitorRoom + (rest.map fun v => v.category).sum ≤ W9) (hdg : decode c.code g.pc = .ok (.invokevirtual index, 3))
    (hpre : ∀ vm₁, s.WarmedH vm₁ → Pre ⟨T.setVm vm₁, locs, cells, slots⟩ (Value.ref b :: argsL).toArray) :
    ∃ (v : Option Value) (vm₁ : Vm) (B : Pt), s.WarmedH vm₁ ∧ Stand p l e R s m args below meth c B.U B.locs B.cells B.slots ∧ Post ⟨T.setVm vm₁, locs, cells, slots⟩ (Value.ref b :: argsL).toArray v B ∧
      ∀ target, Steps p.tables e below (B.U.setTop { g with pc := g.pc + 3, stack := v.toList ++ rest }) target → Steps p.tables e below (T.setTop g) target := by
  obtain ⟨mk, methM, hnamed, hmethM, hstM, habM⟩ := Cond.instanceMethod_spec hinst
  obtain ⟨m8, methM', cM, hn8, hmethM', -, -, -, -, -, -, hsigM⟩ := Cond.codeWith_spec hcode
  cases Option.some.inj (hn8.symm.trans hnamed)
  cases hmethM.symm.trans hmethM'
  obtain ⟨c2, r2, m2, q1, q2, q3, q4, kP, hkP, hkPi⟩ := Cond.selects_spec hsel
  cases hcls.symm.trans q1
  cases (State.methodFound?_of_named hnamed hy).symm.trans q2
  cases hnamed.symm.trans q3
  have hselP : selectMethod e.platform s.vm cellB.cls mk = .method mk := by rw [Launch.admits_selectMethod X.admits]; exact q4
  obtain ⟨vm₁, X₁, hstep₁⟩ := X.invokevirtual hexec hown hlink hnamed hmethM hstM hkP hkPi hy (a := b) (cell := cellB) hcell
    (fun z h => by rw [h] at hobj; cases hobj) hselP hmethM habM hkP hkPi (g := g) hg (argsL := argsL) (rest := rest) (hlen _ hsigM) hstack hdg
  obtain ⟨v, B, X', hpost, hsteps⟩ := hK m meth c ⟨T.setVm vm₁, locs, cells, slots⟩ { g with stack := rest } (.invokevirtual index) mk (Value.ref b :: argsL).toArray X₁ hg hsize hdg hW (X₁.named hnamed) (hpre vm₁ X₁.warmed)
  exact ⟨v, vm₁, B, X₁.warmed, X', hpost, fun target h => hstep₁ _ fun acts => by rw [doInvoke_state]; exact hsteps.trans h⟩
abbrev vx_CVW (R : Room) (s : State) (args : Array Value) (own C : String) (index : Nat) (y : MethodName) (bytes : ByteArray) (maxL : Nat) (ret : Option FieldType) (hh : List (Nat × Nat × Nat × Nat)) (ws : List Cond) (rm : Room) (mc ms n : Nat) : Prop :=
  (rm.cells = mc ∧ rm.slots = ms ∧ rm.frames + 1 ≤ R.frames ∧ 8 + (maxL + 11) + rm.locals ≤ R.locals ∧ (∀ w ∈ ws, ∀ (a' : Array Value) (U : State), s.WarmedH U.vm → w.before a' U = true) ∧ Cond.codeWith y bytes maxL ret hh ∈ ws) ∧
  (Cond.codeWith y bytes maxL ret hh).before args s = true ∧ (Cond.initialized y.cls).before args s = true ∧ (y.cls ≠ "java/lang/invoke/MethodHandle" ∧ y.cls ≠ "java/lang/invoke/VarHandle") ∧
  (∀ sig, parseMethodDescriptor y.desc = some sig → n = sig.parameters.length) ∧ (Cond.methodLink own index y).before args s = true ∧ (Cond.instanceMethod y).before args s = true ∧ (Cond.selects C y y).before args s = true
theorem vx_cwVW {own C : String} {index maxL mc ms : Nat} {y : MethodName} {bytes : ByteArray} {ret : Option FieldType} {hh : List (Nat × Nat × Nat × Nat)} {Ts ws ws' : List Cond} {rm : Room} (n : Nat) (ht : ∀ w ∈ Ts, w.before args s = true) (hT : GoodIn Ts (wsV own index C y ws)) (hw : ws = Cond.codeWith y bytes maxL ret hh :: ws') (hrc : rm.cells = mc) (hrs : rm.slots = ms)
    (hd : y.cls = C ∧ y.cls ≠ "java/lang/invoke/MethodHandle" ∧ y.cls ≠ "java/lang/invoke/VarHandle" ∧ (parseMethodDescriptor y.desc).map (fun d => d.parameters.length) = some n) (hR : rm.frames + 1 ≤ R.frames ∧ 8 + (maxL + 11) + rm.locals ≤ R.locals) :
    vx_CVW R s args own C index y bytes maxL ret hh ws rm mc ms n := by
  obtain ⟨hC, hd⟩ := hd
  subst hC
  have ok : ∀ w ∈ wsV own index y.cls y ws, w.before args s = true := fun w h => ht w (hT w h).1
  have hG : GoodIn Ts ws := fun w h => hT w (by unfold wsV; exact List.mem_append_right _ h)
  have hc : Cond.codeWith y bytes maxL ret hh ∈ ws := by rw [hw]; exact List.mem_cons_self
  refine ⟨⟨hrc, hrs, hR.1, hR.2, pay_in ht hG, hc⟩, ht _ (hG _ hc).1, ok _ (by simp [wsV]), ⟨hd.1, hd.2.1⟩, fun sig h => ?_, ok _ (by simp [wsV]), ok _ (by simp [wsV]), ok _ (by simp [wsV])⟩
  have h2 := hd.2.2
  rw [h] at h2
  exact (Option.some.inj h2).symm
theorem vx_runVW {y : MethodName} {bytes cc : ByteArray} {maxL nL mc ms n index : Nat} {ret : Option FieldType} {hh : List (Nat × Nat × Nat × Nat)} {ws : List Cond} {rm : Room} {Pc : Array Value → State → Prop} {Qc : Array Value → State → Outcome → State → Prop} {free : Addr → Prop} {Ts : List Cond} {own C : String} {b : Addr} {As rest : List Value} {g : JFrame}
    (S : CallFix p m c cc nL s args Ts own) (hM : Met l y ws rm Pc Qc mc ms free) (cw : vx_CVW R s args own C index y bytes maxL ret hh ws rm mc ms n) (hp : PreV s H C b Pc As)
    (hg : g.method = m) (hn : As.length = n) (hsize : g.locals.size = nL) (hstack : g.stack = As.reverse ++ .ref b :: rest) (hW : 2 * g.monitorRoom + (rest.map fun v => v.category).sum ≤ 8) (hdg : decode cc g.pc = .ok (.invokevirtual index, 3)) (hf : cells + mc ≤ R.cells ∧ slots + ms ≤ R.slots) :
    va_Run p l e R s m args below meth c H locs cells slots mc ms g rest (Qc (Value.ref b :: As).toArray) free := by
  obtain ⟨⟨hrc, hrs, hfr, hlo, hws, hcw⟩, hcode, hini, hy, hlen, hl, hin, hse⟩ := cw
  have hK : Back l R p e below s args y 3 8 (PreOf R mc ms Pc) (PostOf Qc mc ms free) := va_backW (hh := hh) (bytes := bytes) (maxL := maxL) (ret := ret) hM hp.1 hrc hrs hfr hlo hws hcw (fun a' U hW => word_at hW (Or.inl (by first | rfl | simp [Cond.onTables, Cond.keeps, Cond.steady])) hini)
  obtain ⟨hx, hb, hml, ho, -⟩ := S
  obtain ⟨-, ⟨cellB, hcB, hoB, hclB⟩, hPc⟩ := hp
  intro T hT X
  obtain ⟨v, vm₁, ⟨U', l2, c2, s2⟩, hW₁, X', ⟨g', mk, t, L, e1, e2, hq, h1, hL, h2, h3⟩, st⟩ := vx_callVW X hx (C := C) (hh := hh) (bytes := bytes) (maxL := maxL) (ret := ret) ho hl hin hse hcode hy hK (by rw [hT]; exact hcB) hoB hclB hg (hsize.trans hml.symm) (argsL := As) (rest := rest) (fun sig h => hn.trans (hlen sig h)) hstack hW (by rw [hb]; exact hdg)
    (fun vm₁ hW₁ => ⟨hf.1, hf.2, hPc (T.setVm vm₁) hT hW₁⟩)
  dsimp only [Pt.U, Pt.locs, Pt.cells, Pt.slots] at X' e1 e2 h1 h2 h3 st
  subst h1; subst h2; subst h3
  exact ⟨v, (T.setVm vm₁).calling g' mk (Value.ref b :: As).toArray, t, U', L, hT, X', hL, e1, e2, hq, st⟩
section
variable {y : MethodName} {bytes cc : ByteArray} {maxL nL mc ms n index : Nat} {ret : Option FieldType} {ws : List Cond} {rm : Room} {Pc : Array Value → State → Prop} {Qc : Array Value → State → Outcome → State → Prop} {XC : String → State → State → Prop} {free : Addr → Prop} {Ts : List Cond} {own C : String} {b : Addr} {As rest : List Value} {g : JFrame}
theorem vx_runVX {hh : List (Nat × Nat × Nat × Nat)} (S : CallFix p m c cc nL s args Ts own) (hM : vx_Met l y ws rm Pc Qc XC mc ms free) (cw : vx_CVW R s args own C index y bytes maxL ret hh ws rm mc ms n) (hp : PreV s H C b Pc As)
    (hg : g.method = m) (hn : As.length = n) (hsize : g.locals.size = nL) (hstack : g.stack = As.reverse ++ .ref b :: rest) (hW : 2 * g.monitorRoom + (rest.map fun v => v.category).sum ≤ 8) (hdg : decode cc g.pc = .ok (.invokevirtual index, 3)) (hf : cells + mc ≤ R.cells ∧ slots + ms ≤ R.slots) :
    vx_Run p l e R s m args below meth c H locs cells slots mc ms g rest (Qc (Value.ref b :: As).toArray) XC free := by
  obtain ⟨⟨hrc, hrs, hfr, hlo, hws, hcw⟩, hcode, hini, hy, hlen, hl, hin, hse⟩ := cw
  have hK : vx_Back l R p e below s args y 3 8 (PreOf R mc ms Pc) (PostOf Qc mc ms free) (vx_Post XC mc ms free) := vx_backW (hh := hh) (bytes := bytes) (maxL := maxL) (ret := ret) hM hp.1 hrc hrs hfr hlo hws hcw (fun a' U hW => word_at hW (Or.inl (by first | rfl | simp [Cond.onTables, Cond.keeps, Cond.steady])) hini)
  obtain ⟨hx, hb, hml, ho, -⟩ := S
  obtain ⟨-, ⟨cellB, hcB, hoB, hclB⟩, hPc⟩ := hp
  intro T hT X
  rcases vx_callVX X hx (C := C) (hh := hh) (bytes := bytes) (maxL := maxL) (ret := ret) ho hl hin hse hcode hy hK (by rw [hT]; exact hcB) hoB hclB hg (hsize.trans hml.symm) (argsL := As) (rest := rest) (fun sig h => hn.trans (hlen sig h)) hstack hW (by rw [hb]; exact hdg)
    (fun vm₁ hW₁ => ⟨hf.1, hf.2, hPc (T.setVm vm₁) hT hW₁⟩) with ⟨v, vm₁, ⟨U', l2, c2, s2⟩, hW₁, X', ⟨g', mk, t, L, e1, e2, hq, h1, hL, h2, h3⟩, st⟩ | ⟨q, vm₁, ⟨U', l2, c2, s2⟩, hW₁, X', ⟨g', mk, t, L, E, ce, e1, e2, hq, hce, hcv, hcl, h1, hL, h2, h3⟩, st⟩
  · dsimp only [Pt.U, Pt.locs, Pt.cells, Pt.slots] at X' e1 e2 h1 h2 h3 st
    subst h1; subst h2; subst h3
    exact Or.inl ⟨v, (T.setVm vm₁).calling g' mk (Value.ref b :: As).toArray, t, U', L, hT, X', hL, e1, e2, hq, st⟩
  · dsimp only [Pt.U, Pt.locs, Pt.cells, Pt.slots] at X' e1 e2 h1 h2 h3 st hcl
    subst h1; subst h2; subst h3
    exact Or.inr ⟨q, (T.setVm vm₁).calling g' mk (Value.ref b :: As).toArray, t, U', L, E, ce, hT, X', hL, e1, e2, hq, hce, hcv, vx_cls hW₁ hcl, st⟩
theorem vx_runSX {hh : List (Nat × Nat × Nat × Nat)} (S : CallFix p m c cc nL s args Ts own) (hM : vx_Met l y ws rm Pc Qc XC mc ms free) (cw : vx_CSW R s args own index y bytes maxL ret hh ws rm mc ms n) (hp : PreS s H Pc As)
    (hg : g.method = m) (hn : As.length = n) (hsize : g.locals.size = nL) (hstack : g.stack = As.reverse ++ rest) (hW : 2 * g.monitorRoom + (rest.map fun v => v.category).sum ≤ 8) (hdg : decode cc g.pc = .ok (.invokestatic index, 3)) (hf : cells + mc ≤ R.cells ∧ slots + ms ≤ R.slots) :
    vx_Run p l e R s m args below meth c H locs cells slots mc ms g rest (Qc As.toArray) XC free := by
  obtain ⟨⟨hrc, hrs, hfr, hlo, hws, hcw⟩, hcode, hini, hy, hlen, hl, hstt⟩ := cw
  have hK : vx_Back l R p e below s args y 3 8 (PreOf R mc ms Pc) (PostOf Qc mc ms free) (vx_Post XC mc ms free) := vx_backW (hh := hh) (bytes := bytes) (maxL := maxL) (ret := ret) hM hp.1 hrc hrs hfr hlo hws hcw (fun a' U hW => word_at hW (Or.inl (by first | rfl | simp [Cond.onTables, Cond.keeps, Cond.steady])) hini)
  obtain ⟨hx, hb, hml, ho, -⟩ := S
  intro T hT X
  rcases vx_callSX X hx (hh := hh) (bytes := bytes) (maxL := maxL) (ret := ret) ho hl hstt hini hcode hy hK hg (hsize.trans hml.symm) (argsL := As) (rest := rest) (fun sig h => hn.trans (hlen sig h)) hstack hW (by rw [hb]; exact hdg)
    (fun vm₁ hW₁ => ⟨hf.1, hf.2, hp.2 (T.setVm vm₁) hT hW₁⟩) with ⟨v, vm₁, ⟨U', l2, c2, s2⟩, hW₁, X', ⟨g', mk, t, L, e1, e2, hq, h1, hL, h2, h3⟩, st⟩ | ⟨q, vm₁, ⟨U', l2, c2, s2⟩, hW₁, X', ⟨g', mk, t, L, E, ce, e1, e2, hq, hce, hcv, hcl, h1, hL, h2, h3⟩, st⟩
  · dsimp only [Pt.U, Pt.locs, Pt.cells, Pt.slots] at X' e1 e2 h1 h2 h3 st
    subst h1; subst h2; subst h3
    exact Or.inl ⟨v, (T.setVm vm₁).calling g' mk As.toArray, t, U', L, hT, X', hL, e1, e2, hq, st⟩
  · dsimp only [Pt.U, Pt.locs, Pt.cells, Pt.slots] at X' e1 e2 h1 h2 h3 st hcl
    subst h1; subst h2; subst h3
    exact Or.inr ⟨q, (T.setVm vm₁).calling g' mk As.toArray, t, U', L, E, ce, hT, X', hL, e1, e2, hq, hce, hcv, vx_cls hW₁ hcl, st⟩
end
end VXH
theorem vx_ofWH {l : Launch} {y : MethodName} {ws ws' : List Cond} {rm : Room} {Pc : Array Value → State → Prop} {Qc : Array Value → State → Outcome → State → Prop} {XC : String → State → State → Prop} {mc ms : Nat} {free : Addr → Prop} {cc : ByteArray} {maxL : Nat} {ret : Option FieldType} {hh : List (Nat × Nat × Nat × Nat)}
    (hy : plainName y.cls = true) (hw : ws = Cond.codeWith y cc maxL ret hh :: ws')
    (body : ∀ p e s m args below meth c s₁, BodyLoose p l y (headSpec ws rm) cc maxL ret e s m args below meth c s₁ → c.maxLocals = maxL → Pc args s →
      W p l e (headSpec ws rm).room s m args below meth c s.heap [] 0 0 (vx_MQ below Qc XC args s mc ms free) (entryFrame m args maxL)) : vx_Met l y ws rm Pc Qc XC mc ms free := by
  refine MetFree.of_bodyS (code := cc) (maxLocals := maxL) (ret := ret) hy ?_ ?_
  · intro args s m h hn
    obtain ⟨m9, meth, c, hn9, h1, h2, h3, h4, -, h5, h6, -⟩ := Cond.codeWith_spec (atoms_spec (ws := ws) h _ (by rw [hw]; exact List.mem_cons_self))
    cases hn.symm.trans hn9
    exact ⟨meth, c, h1, h2, h3, h4, h5, h6⟩
  · intro p e s m args below meth c s₁ B hml hP _
    have hh0 : s₁.heap = s.heap := by rw [B.state]; rfl
    obtain ⟨t, a1, o, b1, b2, b3⟩ := body p e s m args below meth c s₁ B hml hP s₁ hh0 (Stand.of_body B)
    exact ⟨t, o, a1, b1, b2, b3⟩
/-! ===== END ===== -/
/-! ===== BEGIN what the machine throws by itself, no traces kept ===== -/
section VXM
set_option maxHeartbeats 1000000 in
/-- the machine throws cls with the message text, no traces kept: from its note over the frame g to 'throwing' over the same frame (follows the proofs of Stand.vmThrowsMessage, Shelf/KitTracedVmS.lean, and Stand.throwsMessageColdBareV, StandMessageColdV.lean, without the step out of the frame) -/
theorem vx_vmAt {p : Program} {l : Launch} {e : Env} {R : Room} {s : State} {m₀ : MethodId} {args : Array Value} {below : List Frame} {meth : Method} {c : Code} {W : State} {locs : List Loc} {cells slots : Nat}
    (X : Stand p l e R s m₀ args below meth c W locs cells slots) (hexec : p.tables.exec = Jvm.exec) (htr : e.platform.stackTraces = false) {cls : String} {names : List String} {text : String}
    (hcls : Bundle.fit cls = true) (hnames : ∀ n ∈ names, Bundle.fit n = true) (hsoe : (cls == "java/lang/StackOverflowError") = false) (hoom : (cls == "java/lang/OutOfMemoryError") = false)
    (h : ∀ a ∈ Bundle.messageArmAtoms cls names, a.before args s = true)
    (hlocs : ∀ x ∈ locs, ∀ cell, s.heap[x.base]? = some cell → cell.vm.isStatics = false)
    (htext : (text == notModelled) = false) (hlimit : ¬ (stringBytes (stringToUtf16 text)).size > e.platform.arrayLengthLimit) (hheap : ¬ (stringBytes (stringToUtf16 text)).size * componentBytes .byte > e.platform.maxHeapBytes)
    {g : JFrame} (hg : g.method = m₀) (hsize : g.locals.size = c.maxLocals)
    (hRframes : names.length + 4 < R.frames) (hRlocals : 2 * g.monitorRoom + (g.stack.map fun v => v.category).sum + 10240 ≤ R.locals) (hshort : 13 * names.length + 55 ≤ 10240)
    (hRcells : cells + 3 ≤ R.cells) (hRslots : slots + ((stringBytes (stringToUtf16 text)).size + 4 + 6) ≤ R.slots) (hlocks : meth.locks = false) :
    ∃ (S : State) (q : Addr) (ce : Cell), (∀ target, Steps p.tables e below ((S.setTop g).pushFrame (.throwing q)) target → Steps p.tables e below ((W.setTop g).pushFrame (.throwNew cls (some text) none)) target) ∧
      Stand p l e R s m₀ args below meth c S locs (cells + 3) (slots + ((stringBytes (stringToUtf16 text)).size + 4 + 6)) ∧ S.heap[q]? = some ce ∧ s.vm.findClass cls = some ce.cls ∧ ce.vm = .none := by
  have howns : e.platform.frameOwnsMonitors = true := by rw [X.admits.platform]
  have hfin : e.platform.finalization = false := by rw [X.admits.platform]
  have hpl : e.platform.magicAccessors = ({} : Platform).magicAccessors := by rw [X.admits.platform]
  have a : ∀ x, x ∈ Bundle.messageArmAtoms cls names → x.holds args s none s [] = true := fun x hx => h x hx
  obtain ⟨T, Z0, L, -, Y⟩ := ThrowableC.of_atoms (args := args) howns hfin hpl (fun x hx => h x (by simp [Bundle.messageArmAtoms, hx]))
  obtain ⟨Z, M, LZ, LM, hnZ⟩ := Init0T.ofS_atoms (args := args) hpl L Y (fun x hx => h x (by simp [Bundle.messageArmAtoms, hx]))
  obtain ⟨P1, Ps, hlen, L1, hL, hP1m, hlink1, hlink⟩ := Bundle.chainS (args := args) hpl hnZ names cls hcls hnames (fun x hx => h x (by simp [Bundle.messageArmAtoms, hx]))
  obtain ⟨Zs, LZs, hn4, hfitv, hfitc⟩ := StringT.of_atoms (args := args) (fun x hx => h x (by simp [Bundle.messageArmAtoms, hx]))
  have hfound : s.vm.findClass cls = some P1.m.cls := findClass_of_methodNamed hP1m
  obtain ⟨c1, kX, hc1, hk, hord, -, -, hn6⟩ := Cond.instantiable_spec (a (.instantiable cls 6) (by simp [Bundle.messageArmAtoms]))
  cases Option.some.inj (hc1.symm.trans hfound)
  have hinit := Cond.initialized_spec hfound hk (a (.initialized cls) (by simp [Bundle.messageArmAtoms]))
  have hctor : kX.findMethod "<init>" "(Ljava/lang/String;)V" = some P1.m.idx := findMethod_of_methodNamed hP1m hk
  have hsel0 : selectMethod e.platform s.vm P1.m.cls T.fill0 = .method T.fill0 := by
    obtain ⟨c2, r2, m2, q1, q2, q3, q4, -⟩ := Cond.selects_spec (a (.selects cls Bundle.tFill0 Bundle.tFill0) (by simp [Bundle.messageArmAtoms]))
    cases Option.some.inj (q1.symm.trans hfound)
    cases Option.some.inj (q2.symm.trans (State.methodFound?_of_named Y.fill0 (by decide)))
    cases Option.some.inj (q3.symm.trans Y.fill0)
    rw [Launch.admits_selectMethod X.admits]; exact q4
  have hselF : selectMethod e.platform s.vm P1.m.cls T.fill = .method T.fill := by
    obtain ⟨c2, r2, m2, q1, q2, q3, q4, -⟩ := Cond.selects_spec (a (.selects cls Bundle.tFill Bundle.tFill) (by simp [Bundle.messageArmAtoms]))
    cases Option.some.inj (q1.symm.trans hfound)
    cases Option.some.inj (q2.symm.trans (State.methodFound?_of_named Y.fill (by decide)))
    cases Option.some.inj (q3.symm.trans Y.fill)
    rw [Launch.admits_selectMethod X.admits]; exact q4
  obtain ⟨cellS0, hcS0, hiss⟩ := Y.statics
  obtain ⟨u0, hu0⟩ := Cond.staticRefV Y.unassigned L.unassignedStatic L.statics hcS0 hiss (a (.isRef (.static Bundle.tN "UNASSIGNED_STACK" Bundle.steD)) (by simp [Bundle.messageArmAtoms]))
  obtain ⟨sen, hsen⟩ := Cond.staticRefV Y.sentinel L.sentinelStatic L.statics hcS0 hiss (a (.isRef (.static Bundle.tN "SUPPRESSED_SENTINEL" Bundle.listD)) (by simp [Bundle.messageArmAtoms]))
  obtain ⟨ci198, i198, fB, hk198, hg198, ha198, hsB, -, hnB, htB, hffB⟩ := Cond.ownField (t := .object "java/lang/Object") Y.found L.cls (by decide +kernel) (a (.fieldLink Bundle.tN 198 Bundle.tN "backtrace" "Ljava/lang/Object;") (by simp [Bundle.messageArmAtoms])) (a (.lays Bundle.tN Bundle.tN "backtrace" "Ljava/lang/Object;") (by simp [Bundle.messageArmAtoms])) e.platform hpl
  obtain ⟨cellS, hcS', heS, -, hkeep⟩ := X.same.2.2.2.2.2 T.aS cellS0 hcS0
  have hcellS : W.heap[T.aS]? = some cellS := hcS'
  have hout' : ∀ i, (⟨T.aS, i⟩ : Loc) ∉ locs := fun i hmem => by
    have := hlocs _ hmem cellS0 hcS0
    rw [hiss] at this; cases this
  have hknownS : cellS.vm ≠ .unknown := by
    rw [heS]; intro hu
    rw [show cellS0.vm = .unknown from hu] at hiss
    cases hiss
  have hvU : cellS.slots[T.fUnassigned.slot]? = some u0.v := by rw [hkeep _ (hout' _)]; exact hu0
  have hvSen : cellS.slots[T.fSentinel.slot]? = some sen.v := by rw [hkeep _ (hout' _)]; exact hsen
  obtain ⟨iM, hffM⟩ := Y.msg
  obtain ⟨tyC, dC, hdC, hdnC⟩ := Cond.laysAt hfound hk Y.cause (a (.lays cls Bundle.tN "cause" "Ljava/lang/Throwable;") (by simp [Bundle.messageArmAtoms]))
  obtain ⟨tyS, dS, hdS, hdnS⟩ := Cond.laysAt hfound hk Y.stack (a (.lays cls Bundle.tN "stackTrace" Bundle.steD) (by simp [Bundle.messageArmAtoms]))
  obtain ⟨tyP, dP, hdP, hdnP⟩ := Cond.laysAt hfound hk Y.supp (a (.lays cls Bundle.tN "suppressedExceptions" Bundle.listD) (by simp [Bundle.messageArmAtoms]))
  obtain ⟨tyM, dM, hdM, hdnM⟩ := Cond.laysAt hfound hk hffM (a (.lays cls Bundle.tN "detailMessage" "Ljava/lang/String;") (by simp [Bundle.messageArmAtoms]))
  obtain ⟨tyB, dB, hdB, hdnB⟩ := Cond.laysAt hfound hk hffB (a (.lays cls Bundle.tN "backtrace" "Ljava/lang/Object;") (by simp [Bundle.messageArmAtoms]))
  have bC := Cond.laysApart hdB hdC hdnB hdnC (by rw [hnB, Y.causeName]; decide)
  have bS := Cond.laysApart hdB hdS hdnB hdnS (by rw [hnB, Y.stackName]; decide)
  have bP := Cond.laysApart hdB hdP hdnB hdnP (by rw [hnB, Y.suppName]; decide)
  have hbk : ((preparedCellV T.toThrowableT (freshCell P1.m.cls kX) (W.heap.size + 2) u0 sen).withEntry W.cur).slots[fB.slot]? = some .null := by
    have := fresh_default (c := P1.m.cls) tyB
    rw [htB] at this
    simpa [preparedCellV, Cell.setSlot, Cell.withEntry, Array.getElem?_setIfInBounds, bC, bS, bP, bC.symm, bS.symm, bP.symm, defaultValue] using this
  have tkC := Takes.of_laid (v := .ref (W.heap.size + 2)) hk hord tyC (by rw [Y.causeType]; rfl)
  have tkS := Takes.of_laid (v := u0.v) hk hord tyS (by rw [Y.stackType]; exact fits_refV_array _ u0)
  have tkP := Takes.of_laid (v := sen.v) hk hord tyP (by rw [Y.suppType]; exact fits_refV_object _ sen)
  have tkM := Takes.of_laid (v := .ref (W.heap.size + 1)) hk hord tyM (by rw [Y.msgType]; rfl)
  have hskip : SkipFacts T e.platform s (fun u => u) u0 ((preparedCellV T.toThrowableT (freshCell P1.m.cls kX) (W.heap.size + 2) u0 sen).withEntry W.cur) := ⟨{ ci198 := ci198, i198 := i198, fBack := fB }, ⟨hk198, hg198, ha198, hsB⟩, hbk, fun _ _ => rfl⟩
  have h0 : At W g.method c below := by rw [hg]; exact X.here
  obtain ⟨hbeyond, hfreeW⟩ := X.vmMayThrow hsize (.throwNew cls (some text) none) (fun f hf => by cases hf) rfl hRlocals
  have hfr' : W.frames.length + Ps.length + 4 < (e.platform.stackLimits W.me).1 := by have := X.framesAbove hRframes; omega
  have hwd' : (stackUse (.java g :: W.frames.tail)).2 + 13 * Ps.length + 55 ≤ (e.platform.stackLimits W.me).2 := by have := X.stackAbove hsize (K := 13 * Ps.length + 55) (by omega); omega
  have hslots : W.slotsUsed + (stringBytes (stringToUtf16 text)).size + Zs.kS.instanceTypes.size + kX.instanceTypes.size ≤ e.platform.maxSlots := by
    have := X.slotsAbove hRslots
    rw [hn4, hn6]
    omega
  obtain ⟨vm', hW', st⟩ := Steps.vmThrowsMessageColdByV p (s₀ := s) (S := W) (g := g) h0 hexec T L Z LZ M LM X.warmed (t := W.cur) rfl Zs LZs P1 L1 Ps hL hlink1 hlink hsoe hoom hfound hk hinit hord hctor
    (Launch.admits_hotImplicitExceptions X.admits) hbeyond hfreeW htext hlimit hheap (X.cellsAbove hRcells) hslots (hfitv _) (hfitc _)
    (Nn := fun u => u) heapOnly_id (fun _ _ => rfl) (fun _ => rfl) (fun u x y => setCell_twice _ _ _ _) (fun _ => Nat.le_refl _) (cN := ((preparedCellV T.toThrowableT (freshCell P1.m.cls kX) (W.heap.size + 2) u0 sen).withEntry W.cur))
    hsel0 hcellS hknownS hvU tkS (fun _ hu => hu) (fun _ hu => hu) rfl rfl rfl (by simp [preparedCellV, Cell.setSlot, Cell.withEntry]) hskip (fun _ _ hA hW _ hroom _ hrest => L.nativeOff p htr hA hW hroom hrest) hselF hvSen tkC tkP tkM Y.objLocals rfl hfr' hwd'
  rw [plainBareV_eq T.toThrowableT (W.heap.size + 2) u0 sen (.ref (W.heap.size + 1)) W.cur rfl rfl] at st
  obtain ⟨-, -, w3, w4, -, -, -⟩ := withThrown_facts e.platform W Zs text P1.m.cls kX
  have X3 := ((X.pushed (bytesOf Zs.cB (stringToUtf16 text))).pushed (stringAt Zs.cS Zs.kS Zs.fv Zs.fc (stringToUtf16 text) W.heap.size)).pushed (freshCell P1.m.cls kX)
  rw [← withString_eq] at X3
  have X4 := X3.noted hW'
  have ha : (W.heap.size + 2) < ((withThrown W Zs text P1.m.cls kX).setVm vm').heap.size := by show _ < (withThrown W Zs text P1.m.cls kX).heap.size; rw [w3]; omega
  have hcell : ((withThrown W Zs text P1.m.cls kX).setVm vm').heap[(W.heap.size + 2)]? = some (freshCell P1.m.cls kX) := w4
  have X5 := ((((X4.stored hcell T.fCause.slot (.ref (W.heap.size + 2))).storedAgain ha T.fStack.slot u0.v).storedAgain ha T.fSupp.slot sen.v).storedAgain ha T.fStack.slot u0.v).storedAgain ha T.fMsg.slot (.ref (W.heap.size + 1))
  obtain ⟨g₁, hfrM⟩ := X5.frames_eq
  have hU : ((((withThrown W Zs text P1.m.cls kX).setVm vm').setCell (W.heap.size + 2) (plainBareV T.toThrowableT (freshCell P1.m.cls kX) (W.heap.size + 2) u0 sen (.ref (W.heap.size + 1)))).setTop g).pushFrame (.throwing (W.heap.size + 2)) = (((withThrown W Zs text P1.m.cls kX).setVm vm').setCell (W.heap.size + 2) (plainBareV T.toThrowableT (freshCell P1.m.cls kX) (W.heap.size + 2) u0 sen (.ref (W.heap.size + 1)))).setFrames (.throwing (W.heap.size + 2) :: .java g :: below) := by
    rw [State.pushFrame, State.frames_setTop _ hfrM, State.setTop_of_frames _ hfrM, State.setFrames_setFrames]
  have b1 : (bytesOf Zs.cB (stringToUtf16 text)).slots.size = (stringBytes (stringToUtf16 text)).size := by
    rw [(Cell.writeAll_facts _ _).2.2]; simp [bytes0]
  have b2 : (stringAt Zs.cS Zs.kS Zs.fv Zs.fc (stringToUtf16 text) W.heap.size).slots.size = 4 := by simp [string0, Cell.setSlot, hn4]
  have b3 : (freshCell P1.m.cls kX).slots.size = 6 := by simp [hn6]
  rw [b1, b2, b3] at X5
  have e9 : slots + (stringBytes (stringToUtf16 text)).size + 4 + 6 = slots + ((stringBytes (stringToUtf16 text)).size + 4 + 6) := by omega
  rw [e9] at X5
  simp only [List.append_assoc, List.cons_append, List.nil_append] at X5
  refine ⟨((withThrown W Zs text P1.m.cls kX).setVm vm').setCell (W.heap.size + 2) (plainBareV T.toThrowableT (freshCell P1.m.cls kX) (W.heap.size + 2) u0 sen (.ref (W.heap.size + 1))), W.heap.size + 2, _, fun target ht => st _ (by rw [X.tail, ← hU]; exact ht),
    X5.forget (fun y hy => ?_), heapAt_setCell_self _ ha, hfound, rfl⟩
  simp only [List.mem_cons, List.not_mem_nil, or_false] at hy
  have hge : s.heap.size ≤ W.heap.size := X.same.2.1
  rcases hy with rfl | rfl | rfl | rfl | rfl <;> exact Nat.le_trans hge (Nat.le_add_right _ 2)
set_option maxHeartbeats 1000000 in
/-- the machine throws NullPointerException, no traces kept: from its note over the frame g to 'throwing' over the same frame (follows the proof of Stand.vmThrowsNpe, Shelf42/KT2.lean; throwsNpeColdBareVAt, Shelf42/NT91.lean, called) -/
theorem vx_npeAt {p : Program} {l : Launch} {e : Env} {R : Room} {s : State} {m₀ : MethodId} {args : Array Value} {below : List Frame} {meth : Method} {c : Code} {W : State} {locs : List Loc} {cells slots : Nat}
    (X : Stand p l e R s m₀ args below meth c W locs cells slots) (hexec : p.tables.exec = Jvm.exec) (htr : e.platform.stackTraces = false) {n : Nat}
    (h : ∀ a ∈ Bundle.npeArmAtoms n, a.before args s = true)
    (hlocs : ∀ x ∈ locs, ∀ cell, s.heap[x.base]? = some cell → cell.vm.isStatics = false)
    {g : JFrame} (hg : g.method = m₀) (hsize : g.locals.size = c.maxLocals)
    (hRframes : 7 < R.frames) (hRlocals : 2 * g.monitorRoom + (g.stack.map fun v => v.category).sum + 10240 ≤ R.locals)
    (hRcells : cells + 1 ≤ R.cells) (hRslots : slots + n ≤ R.slots) (hlocks : meth.locks = false) :
    ∃ (S : State) (q : Addr) (ce : Cell), (∀ target, Steps p.tables e below ((S.setTop g).pushFrame (.throwing q)) target → Steps p.tables e below ((W.setTop g).pushFrame (.throwNew "java/lang/NullPointerException" none none)) target) ∧
      Stand p l e R s m₀ args below meth c S locs (cells + 1) (slots + n) ∧ S.heap[q]? = some ce ∧ s.vm.findClass "java/lang/NullPointerException" = some ce.cls ∧ ce.vm = .none := by
  have howns : e.platform.frameOwnsMonitors = true := by rw [X.admits.platform]
  have hfin : e.platform.finalization = false := by rw [X.admits.platform]
  have hpl : e.platform.magicAccessors = ({} : Platform).magicAccessors := by rw [X.admits.platform]
  have hpl2 : e.platform.arrayCloneIsPublic = true := by rw [X.admits.platform]
  have a' : ∀ x, x ∈ Bundle.npeArmAtoms n → x.holds args s none s [] = true := fun x hx => h x hx
  obtain ⟨T, Z, L, LZ, Y⟩ := ThrowableC.of_atoms (args := args) howns hfin hpl (fun x hx => h x (by simp [Bundle.npeArmAtoms, hx]))
  obtain ⟨N, LN, hcN, hnNF, hordN, hffS⟩ := NpeC.of_atoms (args := args) hpl hpl2 L Y (fun x hx => h x (by simp [Bundle.npeArmAtoms, hx]))
  obtain ⟨P1, L1, hP1m, hP1s⟩ := PassC.of_atoms (args := args) (s := s) hpl (X := Bundle.nN) (Y := Bundle.rN) (by decide) (by decide) LibCode.NullPointerException.Init0.at_0 LibCode.NullPointerException.Init0.at_1 LibCode.NullPointerException.Init0.at_4 (fun x hx => h x (by simp [Bundle.npeArmAtoms, hx]))
  obtain ⟨PR, LR, hPRm, hPRs⟩ := PassC.of_atoms (args := args) (s := s) hpl (X := Bundle.rN) (Y := Bundle.eN) (by decide) (by decide) LibCode.RuntimeException.Init0.at_0 LibCode.RuntimeException.Init0.at_1 LibCode.RuntimeException.Init0.at_4 (fun x hx => h x (by simp [Bundle.npeArmAtoms, hx]))
  obtain ⟨PE, LEx, hPEm, hPEs⟩ := PassC.of_atoms (args := args) (s := s) hpl (X := Bundle.eN) (Y := Bundle.tN) (by decide) (by decide) LibCode.Exception.Init0.at_0 LibCode.Exception.Init0.at_1 LibCode.Exception.Init0.at_4 (fun x hx => h x (by simp [Bundle.npeArmAtoms, hx]))
  have hfound : s.vm.findClass Bundle.nN = some P1.m.cls := findClass_of_methodNamed hP1m
  have ecls : N.cN = P1.m.cls := Option.some.inj (hcN.symm.trans hfound)
  have hk : s.vm.classes[P1.m.cls]? = some N.kN := by rw [← ecls]; exact LN.cls
  have hinit := Cond.initialized_spec hfound hk (a' (.initialized Bundle.nN) (by simp [Bundle.npeArmAtoms]))
  have hctor : N.kN.findMethod "<init>" "()V" = some P1.m.idx := findMethod_of_methodNamed hP1m hk
  obtain ⟨c1, k1, hc1, hk1, -, -, -, hn⟩ := Cond.instantiable_spec (a' (.instantiable Bundle.nN n) (by simp [Bundle.npeArmAtoms]))
  cases Option.some.inj (hc1.symm.trans hfound)
  cases Option.some.inj (hk1.symm.trans hk)
  have hfsz : (freshCell P1.m.cls N.kN).slots.size = n := by simp [hn]
  have hlink1 : P1.sup = PR.m := Option.some.inj (hP1s.symm.trans hPRm)
  have hlinkR : PR.sup = PE.m := Option.some.inj (hPRs.symm.trans hPEm)
  have hlinkE : PE.sup = Z.m T.toThrowableT := Option.some.inj (hPEs.symm.trans Y.init0)
  have hLs : ∀ P, P ∈ [PR, PE] → P.Links0 e.platform s := fun P hP => by
    simp only [List.mem_cons, List.not_mem_nil, or_false] at hP
    rcases hP with rfl | rfl
    · exact LR
    · exact LEx
  have hsel0 : selectMethod e.platform s.vm P1.m.cls T.fill0 = .method T.fill0 := by
    obtain ⟨c2, r2, m2, q1, q2, q3, q4, -⟩ := Cond.selects_spec (a' (.selects Bundle.nN Bundle.tFill0 Bundle.tFill0) (by simp [Bundle.npeArmAtoms]))
    cases Option.some.inj (q1.symm.trans hfound)
    cases Option.some.inj (q2.symm.trans (State.methodFound?_of_named Y.fill0 (by decide)))
    cases Option.some.inj (q3.symm.trans Y.fill0)
    rw [Launch.admits_selectMethod X.admits]; exact q4
  have hselF : selectMethod e.platform s.vm P1.m.cls T.fill = .method N.fill := by
    obtain ⟨c2, r2, m2, q1, q2, q3, q4, -⟩ := Cond.selects_spec (a' (.selects Bundle.nN Bundle.tFill Bundle.nFill) (by simp [Bundle.npeArmAtoms]))
    cases Option.some.inj (q1.symm.trans hfound)
    cases Option.some.inj (q2.symm.trans (State.methodFound?_of_named Y.fill (by decide)))
    cases Option.some.inj (q3.symm.trans hnNF)
    rw [Launch.admits_selectMethod X.admits]; exact q4
  obtain ⟨cellS0, hcS0, hiss⟩ := Y.statics
  obtain ⟨u0, hu0⟩ := Cond.staticRefV Y.unassigned L.unassignedStatic L.statics hcS0 hiss (a' (.isRef (.static Bundle.tN "UNASSIGNED_STACK" Bundle.steD)) (by simp [Bundle.npeArmAtoms]))
  obtain ⟨sen, hsen⟩ := Cond.staticRefV Y.sentinel L.sentinelStatic L.statics hcS0 hiss (a' (.isRef (.static Bundle.tN "SUPPRESSED_SENTINEL" Bundle.listD)) (by simp [Bundle.npeArmAtoms]))
  obtain ⟨ci198, i198, fB, hk198, hg198, ha198, hsB, -, hnB, htB, hffB⟩ := Cond.ownField (t := .object "java/lang/Object") Y.found L.cls (by decide +kernel) (a' (.fieldLink Bundle.tN 198 Bundle.tN "backtrace" Bundle.objD) (by simp [Bundle.npeArmAtoms])) (a' (.lays Bundle.tN Bundle.tN "backtrace" Bundle.objD) (by simp [Bundle.npeArmAtoms])) e.platform hpl
  obtain ⟨cellS, hcS', heS, -, hkeep⟩ := X.same.2.2.2.2.2 T.aS cellS0 hcS0
  have hcellS : W.heap[T.aS]? = some cellS := hcS'
  have hout' : ∀ i, (⟨T.aS, i⟩ : Loc) ∉ locs := fun i hmem => by
    have := hlocs _ hmem cellS0 hcS0
    rw [hiss] at this; cases this
  have hknownS : cellS.vm ≠ .unknown := by
    rw [heS]; intro hu
    rw [show cellS0.vm = .unknown from hu] at hiss
    cases hiss
  have hvU : cellS.slots[T.fUnassigned.slot]? = some u0.v := by rw [hkeep _ (hout' _)]; exact hu0
  have hvSen : cellS.slots[T.fSentinel.slot]? = some sen.v := by rw [hkeep _ (hout' _)]; exact hsen
  obtain ⟨tyC, dC, hdC, hdnC⟩ := Cond.laysAt hfound hk Y.cause (a' (.lays Bundle.nN Bundle.tN "cause" "Ljava/lang/Throwable;") (by simp [Bundle.npeArmAtoms]))
  obtain ⟨tyS, dS, hdS, hdnS⟩ := Cond.laysAt hfound hk Y.stack (a' (.lays Bundle.nN Bundle.tN "stackTrace" Bundle.steD) (by simp [Bundle.npeArmAtoms]))
  obtain ⟨tyP, dP, hdP, hdnP⟩ := Cond.laysAt hfound hk Y.supp (a' (.lays Bundle.nN Bundle.tN "suppressedExceptions" Bundle.listD) (by simp [Bundle.npeArmAtoms]))
  obtain ⟨tyX, dX, hdX, hdnX⟩ := Cond.laysAt hfound hk hffS (a' (.lays Bundle.nN Bundle.nN "extendedMessageState" "I") (by simp [Bundle.npeArmAtoms, Bundle.npeAtoms]))
  obtain ⟨hnX, htX⟩ := State.fieldFound?_type hffS (t := .int) (by decide +kernel)
  have xC := Cond.laysApart hdC hdX hdnC hdnX (by rw [hnX, Y.causeName]; decide)
  have xS := Cond.laysApart hdS hdX hdnS hdnX (by rw [hnX, Y.stackName]; decide)
  have xP := Cond.laysApart hdP hdX hdnP hdnX (by rw [hnX, Y.suppName]; decide)
  have hv0 : (freshCell P1.m.cls N.kN).slots[N.fState.slot]? = some (.int 0) := by
    have := fresh_default (c := P1.m.cls) tyX
    rw [htX] at this; exact this
  obtain ⟨tyB, dB, hdB, hdnB⟩ := Cond.laysAt hfound hk hffB (a' (.lays Bundle.nN Bundle.tN "backtrace" Bundle.objD) (by simp [Bundle.npeArmAtoms]))
  have bC := Cond.laysApart hdB hdC hdnB hdnC (by rw [hnB, Y.causeName]; decide)
  have bS := Cond.laysApart hdB hdS hdnB hdnS (by rw [hnB, Y.stackName]; decide)
  have bP := Cond.laysApart hdB hdP hdnB hdnP (by rw [hnB, Y.suppName]; decide)
  have bX := Cond.laysApart hdB hdX hdnB hdnX (by rw [hnB, hnX]; decide)
  have hbk : ((npeCell N.toNpeT (preparedCellV T.toThrowableT (freshCell P1.m.cls N.kN) W.heap.size u0 sen) W.cur).withEntry W.cur).slots[fB.slot]? = some .null := by
    have := fresh_default (c := P1.m.cls) tyB
    rw [htB] at this
    simpa [npeCell, preparedCellV, Cell.setSlot, Cell.withEntry, Array.getElem?_setIfInBounds, bC, bS, bP, bX, bC.symm, bS.symm, bP.symm, bX.symm, defaultValue] using this
  have tkC := Takes.of_laid (v := .ref W.heap.size) hk hordN tyC (by rw [Y.causeType]; rfl)
  have tkS := Takes.of_laid (v := u0.v) hk hordN tyS (by rw [Y.stackType]; exact fits_refV_array _ u0)
  have tkP := Takes.of_laid (v := sen.v) hk hordN tyP (by rw [Y.suppType]; exact fits_refV_object _ sen)
  have tkX := Takes.of_laid (v := .int 1) hk hordN tyX (by rw [htX]; rfl)
  have hskip : SkipFacts T e.platform s (fun u => u) u0 ((npeCell N.toNpeT (preparedCellV T.toThrowableT (freshCell P1.m.cls N.kN) W.heap.size u0 sen) W.cur).withEntry W.cur) := ⟨{ ci198 := ci198, i198 := i198, fBack := fB }, ⟨hk198, hg198, ha198, hsB⟩, hbk, fun _ _ => rfl⟩
  obtain ⟨vm', X3, st, -⟩ := X.throwsNpeColdBareVAt hexec hg hsize T L Z LZ N LN P1 L1 [PR, PE] hLs hlink1 ⟨hlinkR, hlinkE, trivial⟩ hfound hk hinit hordN hctor hsel0 hselF hcellS hknownS hvU hvSen
    hv0 xC xS xP tkC tkS tkP tkX Y.objLocals hskip (fun _ _ hA hW _ hroom _ hrest => L.nativeOff p htr hA hW hroom hrest) (by simpa using hRframes) hRlocals (by simp) hRcells (by rw [hn]; exact hRslots)
  have hlt : W.heap.size < ((W.pushCell (freshCell P1.m.cls N.kN)).setVm vm').heap.size := by
    show W.heap.size < (W.pushCell (freshCell P1.m.cls N.kN)).heap.size
    rw [State.heap_size_pushCell]; omega
  rw [hfsz] at X3
  obtain ⟨g₁, hfrM⟩ := X3.frames_eq
  have hU : ((((W.pushCell (freshCell P1.m.cls N.kN)).setVm vm').setCell W.heap.size (npeBareV T.toThrowableT N.toNpeT (freshCell P1.m.cls N.kN) W.heap.size u0 sen)).setTop g).pushFrame (.throwing W.heap.size) = (((W.pushCell (freshCell P1.m.cls N.kN)).setVm vm').setCell W.heap.size (npeBareV T.toThrowableT N.toNpeT (freshCell P1.m.cls N.kN) W.heap.size u0 sen)).setFrames (.throwing W.heap.size :: .java g :: below) := by
    rw [State.pushFrame, State.frames_setTop _ hfrM, State.setTop_of_frames _ hfrM, State.setFrames_setFrames]
  refine ⟨_, W.heap.size, _, fun target ht => st.trans (by rw [← hU]; exact ht), X3.forget (fun y hy => ?_), heapAt_setCell_self _ hlt, hfound, rfl⟩
  simp only [List.mem_cons, List.not_mem_nil, or_false] at hy
  have hge : s.heap.size ≤ W.heap.size := X.same.2.1
  rcases hy with rfl | rfl | rfl | rfl | rfl <;> exact hge
/-- the words of a machine's NullPointerException, but the four that speak of the heap -/
def vx_atN (n : Nat) : List Cond := (Bundle.npeArmAtoms n).filter vx_no
/-- the words of a machine's throw with a message, but the four that speak of the heap -/
def vx_atM (X : String) (names : List String) : List Cond := (Bundle.messageArmAtoms X names).filter vx_no
section
variable {p : Program} {l : Launch} {e : Env} {R : Room} {s : State} {m : MethodId} {args : Array Value} {below : List Frame} {meth : Method} {c : Code} {H : Heap} {locs : List Loc} {cells slots : Nat}
/-- a frame seen from a rebased start, seen from the first start again -/
theorem vx_back9 {T S : State} {R' : Room} {k n : Nat} (X : Stand p l e R s m args below meth c T locs cells slots) (Y : Stand p l e R' ((T.setVm s.vm).setFrames (.invoking m args :: below)) m args below meth c T [] 0 0) (Z : Stand p l e R' ((T.setVm s.vm).setFrames (.invoking m args :: below)) m args below meth c S [] k n) :
    Stand p l e R s m args below meth c S locs (cells + k) (slots + n) := by
  have hW0 : s.WarmedH ((T.setVm s.vm).setFrames (.invoking m args :: below)).vm := State.WarmedH.refl s
  refine { admits := X.admits, cas := X.cas, clock := X.clock, frames := X.frames, room := X.room, hears := X.hears, method := X.method, code := X.code, here := Z.here, tail := Z.tail, warmed := State.WarmedH.trans hW0 Z.warmed, limits := Z.limits.trans (Y.limits.symm.trans X.limits), bytes := Z.bytes.trans (Y.bytes.symm.trans X.bytes), same := ?_ }
  obtain ⟨e1, e2⟩ := Z.same
  rw [State.setFrames_setFrames] at e1
  have h2 : (T.setVm s.vm).sameButNew (S.setVm s.vm) [] k n := ⟨e1, e2⟩
  have h3 := X.same.trans h2
  rw [List.append_nil] at h3
  exact h3
/-- from the machine's note that E is thrown here with this text -/
def vx_Note (p : Program) (l : Launch) (e : Env) (R : Room) (s : State) (m : MethodId) (args : Array Value) (below : List Frame) (meth : Method) (c : Code) (H : Heap) (locs : List Loc) (cells slots : Nat) (Q : State → Prop) (g : JFrame) (E text : String) : Prop :=
  ∀ T : State, T.heap = H → Stand p l e R s m args below meth c T locs cells slots → ∃ t, Steps p.tables e below ((T.setTop g).pushFrame (.throwNew E (some text) none)) t ∧ Q t
theorem vx_vm {pc : Nat} {ls : Array Slot} {rest : List Value} {Q : State → Prop} (hexec : p.tables.exec = Jvm.exec) (hl : l.stackTraces = false) {cls text : String} {names : List String} {nb : Nat} {A : Nat → Prop}
    (hcls : Bundle.fit cls = true) (hnames : ∀ n ∈ names, Bundle.fit n = true) (hsoe : (cls == "java/lang/StackOverflowError") = false) (hoom : (cls == "java/lang/OutOfMemoryError") = false)
    (hat : ∀ w ∈ vx_atM cls names, w.before args s = true) (hgood : ∀ w ∈ vx_atM cls names, vx_ot w = true)
    (hU : vx_Zq Bundle.tN "UNASSIGNED_STACK" Bundle.steD A s s.heap) (hN : vx_Zq Bundle.tN "SUPPRESSED_SENTINEL" Bundle.listD A s s.heap) (hS : va_S A s.heap H locs) (hsize : ls.size = c.maxLocals)
    (htext : (text == notModelled) = false) (hnb : (stringBytes (stringToUtf16 text)).size ≤ nb) (hnb1 : nb ≤ 1000)
    (hRframes : names.length + 4 < R.frames) (hRlocals : (rest.map fun v => v.category).sum + 10240 ≤ R.locals) (hshort : 13 * names.length + 55 ≤ 10240) (hRcells : cells + 3 ≤ R.cells) (hRslots : slots + (nb + 10) ≤ R.slots) (hlocks : meth.locks = false)
    (k : ∀ (H1 : Heap) (q9 : Addr) (ce : Cell), H.size ≤ H1.size → (∀ q : Nat, q < H.size → H1[q]? = H[q]?) → va_S A s.heap H1 locs → H1[q9]? = some ce → ce.vm = .none → s.vm.findClass cls = some ce.cls → vx_W p l e R s m args below meth c H1 locs (cells + 3) (slots + (nb + 10)) Q (F0 m pc ls rest) q9) :
    vx_Note p l e R s m args below meth c H locs cells slots Q (F0 m pc ls rest) cls text := by
  intro T hT X
  have htr : e.platform.stackTraces = false := (show e.platform.stackTraces = l.stackTraces by rw [X.admits.platform]).trans hl
  have Y := vx_rebase X (R' := { frames := R.frames, locals := R.locals, cells := 3, slots := nb + 10 }) (Nat.le_refl _) (Nat.le_refl _) hRcells hRslots
  have hhp : ((T.setVm s.vm).setFrames (.invoking m args :: below)).heap = H := hT
  have hW0 : s.WarmedH ((T.setVm s.vm).setFrames (.invoking m args :: below)).vm := State.WarmedH.refl s
  have hat' : ∀ w ∈ vx_atM cls names, w.before args ((T.setVm s.vm).setFrames (.invoking m args :: below)) = true := fun w hw => vx_ot_at hW0 rfl (hgood w hw) (hat w hw)
  have hU' : vx_Zq Bundle.tN "UNASSIGNED_STACK" Bundle.steD A ((T.setVm s.vm).setFrames (.invoking m args :: below)) ((T.setVm s.vm).setFrames (.invoking m args :: below)).heap := by rw [hhp]; exact vx_Zq.moved hW0.alike (hU.kept hS.2.1)
  have hN' : vx_Zq Bundle.tN "SUPPRESSED_SENTINEL" Bundle.listD A ((T.setVm s.vm).setFrames (.invoking m args :: below)) ((T.setVm s.vm).setFrames (.invoking m args :: below)).heap := by rw [hhp]; exact vx_Zq.moved hW0.alike (hN.kept hS.2.1)
  obtain ⟨S, q, ce, st, Z, hce, hcl', hv⟩ := vx_vmAt Y hexec htr (cls := cls) (names := names) (text := text) hcls hnames hsoe hoom (vx_own hat' (vx_isRefq hU'.1) (vx_isRefq hN'.1) hU'.2.word hN'.2.word) (fun x hx => nomatch hx) htext
    (by rw [Launch.admits_arrayLengthLimit X.admits]; omega) (by rw [Launch.admits_maxHeapBytes X.admits]; simp only [componentBytes]; omega)
    (g := F0 m pc ls rest) rfl hsize hRframes (by show 2 * 0 + (rest.map fun v => v.category).sum + 10240 ≤ R.locals; omega) hshort (by show 0 + 3 ≤ 3; omega) (by show 0 + (_ + 4 + 6) ≤ nb + 10; omega) hlocks
  obtain ⟨f1, f2⟩ := vx_frame Z.same
  have f1' : H.size ≤ S.heap.size := by rw [← hT]; exact f1
  have f2' : ∀ q : Nat, q < H.size → S.heap[q]? = H[q]? := fun q hq => by
    rw [← hT]
    exact f2 q (by rw [← hT] at hq; exact hq) (fun z hz => nomatch hz)
  have X5 := vx_back9 X Y Z
  have X6 : Stand p l e R s m args below meth c S locs (cells + 3) (slots + (nb + 10)) := { X5 with same := X5.same.mono (by omega) (by omega) }
  obtain ⟨t, a1, b1⟩ := k S.heap q ce f1' f2' ⟨Nat.le_trans hS.1 f1', fun q h1 h2 => (f2' q (Nat.lt_of_lt_of_le h1 hS.1)).trans (hS.2.1 q h1 h2), hS.2.2⟩ hce hv hcl' S rfl X6
  exact ⟨t, st t a1, b1⟩
/-- from the machine's note that NullPointerException is thrown here -/
def vx_NoteN (p : Program) (l : Launch) (e : Env) (R : Room) (s : State) (m : MethodId) (args : Array Value) (below : List Frame) (meth : Method) (c : Code) (H : Heap) (locs : List Loc) (cells slots : Nat) (Q : State → Prop) (g : JFrame) : Prop :=
  ∀ T : State, T.heap = H → Stand p l e R s m args below meth c T locs cells slots → ∃ t, Steps p.tables e below ((T.setTop g).pushFrame (.throwNew "java/lang/NullPointerException" none none)) t ∧ Q t
theorem vx_npe {pc : Nat} {ls : Array Slot} {rest : List Value} {Q : State → Prop} (hexec : p.tables.exec = Jvm.exec) (hl : l.stackTraces = false) {nb : Nat} {A : Nat → Prop}
    (hat : ∀ w ∈ vx_atN nb, w.before args s = true) (hgood : ∀ w ∈ vx_atN nb, vx_ot w = true)
    (hU : vx_Zq Bundle.tN "UNASSIGNED_STACK" Bundle.steD A s s.heap) (hN : vx_Zq Bundle.tN "SUPPRESSED_SENTINEL" Bundle.listD A s s.heap) (hS : va_S A s.heap H locs) (hsize : ls.size = c.maxLocals)
    (hRframes : 7 < R.frames) (hRlocals : (rest.map fun v => v.category).sum + 10240 ≤ R.locals) (hRcells : cells + 1 ≤ R.cells) (hRslots : slots + nb ≤ R.slots) (hlocks : meth.locks = false)
    (k : ∀ (H1 : Heap) (q9 : Addr) (ce : Cell), H.size ≤ H1.size → (∀ q : Nat, q < H.size → H1[q]? = H[q]?) → va_S A s.heap H1 locs → H1[q9]? = some ce → ce.vm = .none → s.vm.findClass "java/lang/NullPointerException" = some ce.cls → vx_W p l e R s m args below meth c H1 locs (cells + 1) (slots + nb) Q (F0 m pc ls rest) q9) :
    vx_NoteN p l e R s m args below meth c H locs cells slots Q (F0 m pc ls rest) := by
  intro T hT X
  have htr : e.platform.stackTraces = false := (show e.platform.stackTraces = l.stackTraces by rw [X.admits.platform]).trans hl
  have Y := vx_rebase X (R' := { frames := R.frames, locals := R.locals, cells := 1, slots := nb }) (Nat.le_refl _) (Nat.le_refl _) hRcells hRslots
  have hhp : ((T.setVm s.vm).setFrames (.invoking m args :: below)).heap = H := hT
  have hW0 : s.WarmedH ((T.setVm s.vm).setFrames (.invoking m args :: below)).vm := State.WarmedH.refl s
  have hat' : ∀ w ∈ vx_atN nb, w.before args ((T.setVm s.vm).setFrames (.invoking m args :: below)) = true := fun w hw => vx_ot_at hW0 rfl (hgood w hw) (hat w hw)
  have hU' : vx_Zq Bundle.tN "UNASSIGNED_STACK" Bundle.steD A ((T.setVm s.vm).setFrames (.invoking m args :: below)) ((T.setVm s.vm).setFrames (.invoking m args :: below)).heap := by rw [hhp]; exact vx_Zq.moved hW0.alike (hU.kept hS.2.1)
  have hN' : vx_Zq Bundle.tN "SUPPRESSED_SENTINEL" Bundle.listD A ((T.setVm s.vm).setFrames (.invoking m args :: below)) ((T.setVm s.vm).setFrames (.invoking m args :: below)).heap := by rw [hhp]; exact vx_Zq.moved hW0.alike (hN.kept hS.2.1)
  obtain ⟨S, q, ce, st, Z, hce, hcl', hv⟩ := vx_npeAt Y hexec htr (n := nb) (vx_own hat' (vx_isRefq hU'.1) (vx_isRefq hN'.1) hU'.2.word hN'.2.word) (fun x hx => nomatch hx)
    (g := F0 m pc ls rest) rfl hsize hRframes (by show 2 * 0 + (rest.map fun v => v.category).sum + 10240 ≤ R.locals; omega) (by show 0 + 1 ≤ 1; omega) (by show 0 + nb ≤ nb; omega) hlocks
  obtain ⟨f1, f2⟩ := vx_frame Z.same
  have f1' : H.size ≤ S.heap.size := by rw [← hT]; exact f1
  have f2' : ∀ q : Nat, q < H.size → S.heap[q]? = H[q]? := fun q hq => by
    rw [← hT]
    exact f2 q (by rw [← hT] at hq; exact hq) (fun z hz => nomatch hz)
  have X5 := vx_back9 X Y Z
  have X6 : Stand p l e R s m args below meth c S locs (cells + 1) (slots + nb) := { X5 with same := X5.same.mono (by omega) (by omega) }
  obtain ⟨t, a1, b1⟩ := k S.heap q ce f1' f2' ⟨Nat.le_trans hS.1 f1', fun q h1 h2 => (f2' q (Nat.lt_of_lt_of_le h1 hS.1)).trans (hS.2.1 q h1 h2), hS.2.2⟩ hce hv hcl' S rfl X6
  exact ⟨t, st t a1, b1⟩
variable {Q : State → Prop} {cc : ByteArray} {pc : Nat} {ls : Array Slot} {rest : List Value}
theorem vx_idivZ (hexec : p.tables.exec = Jvm.exec) (hb : c.code = cc) {a b : Int32} (h0 : b = 0) (d : decode cc pc = .ok (.idiv, 1)) (k : vx_Note p l e R s m args below meth c H locs cells slots Q (F0 m pc ls rest) "java/lang/ArithmeticException" "/ by zero") :
    W p l e R s m args below meth c H locs cells slots Q (F0 m pc ls (.int b :: .int a :: rest)) := by
  intro T hT X
  obtain ⟨t, st, q⟩ := k T hT X
  exact ⟨t, X.idivZero hexec (g := F0 m pc ls (.int b :: .int a :: rest)) rfl (a := a) (rest := rest) (by rw [h0]) (by rw [hb]; exact d) t st, q⟩
theorem vx_iremZ (hexec : p.tables.exec = Jvm.exec) (hb : c.code = cc) {a b : Int32} (h0 : b = 0) (d : decode cc pc = .ok (.irem, 1)) (k : vx_Note p l e R s m args below meth c H locs cells slots Q (F0 m pc ls rest) "java/lang/ArithmeticException" "/ by zero") :
    W p l e R s m args below meth c H locs cells slots Q (F0 m pc ls (.int b :: .int a :: rest)) := by
  intro T hT X
  obtain ⟨t, st, q⟩ := k T hT X
  exact ⟨t, X.iremZero hexec (g := F0 m pc ls (.int b :: .int a :: rest)) rfl (a := a) (rest := rest) (by rw [h0]) (by rw [hb]; exact d) t st, q⟩
theorem vx_ldivZ (hexec : p.tables.exec = Jvm.exec) (hb : c.code = cc) {a b : Int64} (h0 : b = 0) (d : decode cc pc = .ok (.ldiv, 1)) (k : vx_Note p l e R s m args below meth c H locs cells slots Q (F0 m pc ls rest) "java/lang/ArithmeticException" "/ by zero") :
    W p l e R s m args below meth c H locs cells slots Q (F0 m pc ls (.long b :: .long a :: rest)) := by
  intro T hT X
  obtain ⟨t, st, q⟩ := k T hT X
  exact ⟨t, X.ldivZero hexec (g := F0 m pc ls (.long b :: .long a :: rest)) rfl (a := a) (rest := rest) (by rw [h0]) (by rw [hb]; exact d) t st, q⟩
theorem vx_lremZ (hexec : p.tables.exec = Jvm.exec) (hb : c.code = cc) {a b : Int64} (h0 : b = 0) (d : decode cc pc = .ok (.lrem, 1)) (k : vx_Note p l e R s m args below meth c H locs cells slots Q (F0 m pc ls rest) "java/lang/ArithmeticException" "/ by zero") :
    W p l e R s m args below meth c H locs cells slots Q (F0 m pc ls (.long b :: .long a :: rest)) := by
  intro T hT X
  obtain ⟨t, st, q⟩ := k T hT X
  exact ⟨t, X.lremZero hexec (g := F0 m pc ls (.long b :: .long a :: rest)) rfl (a := a) (rest := rest) (by rw [h0]) (by rw [hb]; exact d) t st, q⟩
theorem vx_ialdZ {D : va_G} {cl : List vw_C} {ws : va_W} {tys : List (ClassId × FieldType)} {a : Nat} (hexec : p.tables.exec = Jvm.exec) (hb : c.code = cc) (hK : va_K D cl tys s) (hP : va_P D cl ws H) (q0 t0 : Nat) {cA : ClassId} {n : Nat} {f : Nat → Int32} (ha : ws[q0]? = some (a, .inl (cA, n, .inl f))) (ht : tys[t0]? = some (cA, .int)) {i : Int32} (hout : ¬ vp_in i n) (hdg : decode cc pc = .ok (.iaload, 1))
    (k : ∀ tx : String, tx = (toString "Index " ++ toString i ++ toString " out of bounds for length " ++ toString n : String) → vx_Note p l e R s m args below meth c H locs cells slots Q (F0 m pc ls rest) "java/lang/ArrayIndexOutOfBoundsException" tx) : W p l e R s m args below meth c H locs cells slots Q (F0 m pc ls (.int i :: .ref a :: rest)) := by
  intro T hT X
  obtain ⟨t, st, q⟩ := k _ rfl T hT X
  refine ⟨t, ?_, q⟩
  have h1 := X.ialoadOut hexec (by rw [hT]; exact hP q0 _ ha) ((hK.2 t0 _ ht).1 n (fun j => .int (f j))) (j := i) (by show (i < 0 ∨ (arrV _ _ _).slots.size ≤ _); rw [arrV_size]; exact Classical.byContradiction hout) (g := F0 m pc ls (.int i :: .ref a :: rest)) rfl (rest := rest) rfl (by rw [hb]; exact hdg) t
  simp only [arrV_size] at h1
  exact h1 st
theorem vx_iastZ {D : va_G} {cl : List vw_C} {ws : va_W} {tys : List (ClassId × FieldType)} {a : Nat} (hexec : p.tables.exec = Jvm.exec) (hb : c.code = cc) (hK : va_K D cl tys s) (hP : va_P D cl ws H) (q0 t0 : Nat) {cA : ClassId} {n : Nat} {f : Nat → Int32} (ha : ws[q0]? = some (a, .inl (cA, n, .inl f))) (ht : tys[t0]? = some (cA, .int)) {i : Int32} {x : Int32} (hout : ¬ vp_in i n) (hdg : decode cc pc = .ok (.iastore, 1))
    (k : ∀ tx : String, tx = (toString "Index " ++ toString i ++ toString " out of bounds for length " ++ toString n : String) → vx_Note p l e R s m args below meth c H locs cells slots Q (F0 m pc ls rest) "java/lang/ArrayIndexOutOfBoundsException" tx) : W p l e R s m args below meth c H locs cells slots Q (F0 m pc ls (.int x :: .int i :: .ref a :: rest)) := by
  intro T hT X
  obtain ⟨t, st, q⟩ := k _ rfl T hT X
  refine ⟨t, ?_, q⟩
  have h1 := X.iastoreOut hexec (by rw [hT]; exact hP q0 _ ha) ((hK.2 t0 _ ht).1 n (fun j => .int (f j))) (j := i) (by show (i < 0 ∨ (arrV _ _ _).slots.size ≤ _); rw [arrV_size]; exact Classical.byContradiction hout) (g := F0 m pc ls (.int x :: .int i :: .ref a :: rest)) rfl (rest := rest) rfl (by rw [hb]; exact hdg) t
  simp only [arrV_size] at h1
  exact h1 st
theorem vx_baldZ {D : va_G} {cl : List vw_C} {ws : va_W} {tys : List (ClassId × FieldType)} {a : Nat} (hexec : p.tables.exec = Jvm.exec) (hb : c.code = cc) (hK : va_K D cl tys s) (hP : va_P D cl ws H) (q0 t0 : Nat) {cA : ClassId} {n : Nat} {f : Nat → Int32} (ha : ws[q0]? = some (a, .inl (cA, n, .inl f))) (ht : tys[t0]? = some (cA, .byte)) {i : Int32} (hout : ¬ vp_in i n) (hdg : decode cc pc = .ok (.baload, 1))
    (k : ∀ tx : String, tx = (toString "Index " ++ toString i ++ toString " out of bounds for length " ++ toString n : String) → vx_Note p l e R s m args below meth c H locs cells slots Q (F0 m pc ls rest) "java/lang/ArrayIndexOutOfBoundsException" tx) : W p l e R s m args below meth c H locs cells slots Q (F0 m pc ls (.int i :: .ref a :: rest)) := by
  intro T hT X
  obtain ⟨t, st, q⟩ := k _ rfl T hT X
  refine ⟨t, ?_, q⟩
  have h1 := X.baloadOut hexec (by rw [hT]; exact hP q0 _ ha) ((hK.2 t0 _ ht).1 n (fun j => .int (f j))) (j := i) (by show (i < 0 ∨ (arrV _ _ _).slots.size ≤ _); rw [arrV_size]; exact Classical.byContradiction hout) (g := F0 m pc ls (.int i :: .ref a :: rest)) rfl (rest := rest) rfl (by rw [hb]; exact hdg) t
  simp only [arrV_size] at h1
  exact h1 st
theorem vx_bastZ {D : va_G} {cl : List vw_C} {ws : va_W} {tys : List (ClassId × FieldType)} {a : Nat} (hexec : p.tables.exec = Jvm.exec) (hb : c.code = cc) (hK : va_K D cl tys s) (hP : va_P D cl ws H) (q0 t0 : Nat) {cA : ClassId} {n : Nat} {f : Nat → Int32} (ha : ws[q0]? = some (a, .inl (cA, n, .inl f))) (ht : tys[t0]? = some (cA, .byte)) {i : Int32} {x : Int32} (hout : ¬ vp_in i n) (hdg : decode cc pc = .ok (.bastore, 1))
    (k : ∀ tx : String, tx = (toString "Index " ++ toString i ++ toString " out of bounds for length " ++ toString n : String) → vx_Note p l e R s m args below meth c H locs cells slots Q (F0 m pc ls rest) "java/lang/ArrayIndexOutOfBoundsException" tx) : W p l e R s m args below meth c H locs cells slots Q (F0 m pc ls (.int x :: .int i :: .ref a :: rest)) := by
  intro T hT X
  obtain ⟨t, st, q⟩ := k _ rfl T hT X
  refine ⟨t, ?_, q⟩
  have h1 := X.bastoreOut hexec (by rw [hT]; exact hP q0 _ ha) ((hK.2 t0 _ ht).1 n (fun j => .int (f j))) (j := i) (by show (i < 0 ∨ (arrV _ _ _).slots.size ≤ _); rw [arrV_size]; exact Classical.byContradiction hout) (g := F0 m pc ls (.int x :: .int i :: .ref a :: rest)) rfl (rest := rest) rfl (by rw [hb]; exact hdg) t
  simp only [arrV_size] at h1
  exact h1 st
theorem vx_zaldZ {D : va_G} {cl : List vw_C} {ws : va_W} {tys : List (ClassId × FieldType)} {a : Nat} (hexec : p.tables.exec = Jvm.exec) (hb : c.code = cc) (hK : va_K D cl tys s) (hP : va_P D cl ws H) (q0 t0 : Nat) {cA : ClassId} {n : Nat} {f : Nat → Int32} (ha : ws[q0]? = some (a, .inl (cA, n, .inl f))) (ht : tys[t0]? = some (cA, .boolean)) {i : Int32} (hout : ¬ vp_in i n) (hdg : decode cc pc = .ok (.baload, 1))
    (k : ∀ tx : String, tx = (toString "Index " ++ toString i ++ toString " out of bounds for length " ++ toString n : String) → vx_Note p l e R s m args below meth c H locs cells slots Q (F0 m pc ls rest) "java/lang/ArrayIndexOutOfBoundsException" tx) : W p l e R s m args below meth c H locs cells slots Q (F0 m pc ls (.int i :: .ref a :: rest)) := by
  intro T hT X
  obtain ⟨t, st, q⟩ := k _ rfl T hT X
  refine ⟨t, ?_, q⟩
  have h1 := X.baloadOut hexec (by rw [hT]; exact hP q0 _ ha) ((hK.2 t0 _ ht).1 n (fun j => .int (f j))) (j := i) (by show (i < 0 ∨ (arrV _ _ _).slots.size ≤ _); rw [arrV_size]; exact Classical.byContradiction hout) (g := F0 m pc ls (.int i :: .ref a :: rest)) rfl (rest := rest) rfl (by rw [hb]; exact hdg) t
  simp only [arrV_size] at h1
  exact h1 st
theorem vx_zastZ {D : va_G} {cl : List vw_C} {ws : va_W} {tys : List (ClassId × FieldType)} {a : Nat} (hexec : p.tables.exec = Jvm.exec) (hb : c.code = cc) (hK : va_K D cl tys s) (hP : va_P D cl ws H) (q0 t0 : Nat) {cA : ClassId} {n : Nat} {f : Nat → Int32} (ha : ws[q0]? = some (a, .inl (cA, n, .inl f))) (ht : tys[t0]? = some (cA, .boolean)) {i : Int32} {x : Int32} (hout : ¬ vp_in i n) (hdg : decode cc pc = .ok (.bastore, 1))
    (k : ∀ tx : String, tx = (toString "Index " ++ toString i ++ toString " out of bounds for length " ++ toString n : String) → vx_Note p l e R s m args below meth c H locs cells slots Q (F0 m pc ls rest) "java/lang/ArrayIndexOutOfBoundsException" tx) : W p l e R s m args below meth c H locs cells slots Q (F0 m pc ls (.int x :: .int i :: .ref a :: rest)) := by
  intro T hT X
  obtain ⟨t, st, q⟩ := k _ rfl T hT X
  refine ⟨t, ?_, q⟩
  have h1 := X.bastoreOut hexec (by rw [hT]; exact hP q0 _ ha) ((hK.2 t0 _ ht).1 n (fun j => .int (f j))) (j := i) (by show (i < 0 ∨ (arrV _ _ _).slots.size ≤ _); rw [arrV_size]; exact Classical.byContradiction hout) (g := F0 m pc ls (.int x :: .int i :: .ref a :: rest)) rfl (rest := rest) rfl (by rw [hb]; exact hdg) t
  simp only [arrV_size] at h1
  exact h1 st
theorem vx_caldZ {D : va_G} {cl : List vw_C} {ws : va_W} {tys : List (ClassId × FieldType)} {a : Nat} (hexec : p.tables.exec = Jvm.exec) (hb : c.code = cc) (hK : va_K D cl tys s) (hP : va_P D cl ws H) (q0 t0 : Nat) {cA : ClassId} {n : Nat} {f : Nat → Int32} (ha : ws[q0]? = some (a, .inl (cA, n, .inl f))) (ht : tys[t0]? = some (cA, .char)) {i : Int32} (hout : ¬ vp_in i n) (hdg : decode cc pc = .ok (.caload, 1))
    (k : ∀ tx : String, tx = (toString "Index " ++ toString i ++ toString " out of bounds for length " ++ toString n : String) → vx_Note p l e R s m args below meth c H locs cells slots Q (F0 m pc ls rest) "java/lang/ArrayIndexOutOfBoundsException" tx) : W p l e R s m args below meth c H locs cells slots Q (F0 m pc ls (.int i :: .ref a :: rest)) := by
  intro T hT X
  obtain ⟨t, st, q⟩ := k _ rfl T hT X
  refine ⟨t, ?_, q⟩
  have h1 := X.caloadOut hexec (by rw [hT]; exact hP q0 _ ha) ((hK.2 t0 _ ht).1 n (fun j => .int (f j))) (j := i) (by show (i < 0 ∨ (arrV _ _ _).slots.size ≤ _); rw [arrV_size]; exact Classical.byContradiction hout) (g := F0 m pc ls (.int i :: .ref a :: rest)) rfl (rest := rest) rfl (by rw [hb]; exact hdg) t
  simp only [arrV_size] at h1
  exact h1 st
theorem vx_castZ {D : va_G} {cl : List vw_C} {ws : va_W} {tys : List (ClassId × FieldType)} {a : Nat} (hexec : p.tables.exec = Jvm.exec) (hb : c.code = cc) (hK : va_K D cl tys s) (hP : va_P D cl ws H) (q0 t0 : Nat) {cA : ClassId} {n : Nat} {f : Nat → Int32} (ha : ws[q0]? = some (a, .inl (cA, n, .inl f))) (ht : tys[t0]? = some (cA, .char)) {i : Int32} {x : Int32} (hout : ¬ vp_in i n) (hdg : decode cc pc = .ok (.castore, 1))
    (k : ∀ tx : String, tx = (toString "Index " ++ toString i ++ toString " out of bounds for length " ++ toString n : String) → vx_Note p l e R s m args below meth c H locs cells slots Q (F0 m pc ls rest) "java/lang/ArrayIndexOutOfBoundsException" tx) : W p l e R s m args below meth c H locs cells slots Q (F0 m pc ls (.int x :: .int i :: .ref a :: rest)) := by
  intro T hT X
  obtain ⟨t, st, q⟩ := k _ rfl T hT X
  refine ⟨t, ?_, q⟩
  have h1 := X.castoreOut hexec (by rw [hT]; exact hP q0 _ ha) ((hK.2 t0 _ ht).1 n (fun j => .int (f j))) (j := i) (by show (i < 0 ∨ (arrV _ _ _).slots.size ≤ _); rw [arrV_size]; exact Classical.byContradiction hout) (g := F0 m pc ls (.int x :: .int i :: .ref a :: rest)) rfl (rest := rest) rfl (by rw [hb]; exact hdg) t
  simp only [arrV_size] at h1
  exact h1 st
theorem vx_saldZ {D : va_G} {cl : List vw_C} {ws : va_W} {tys : List (ClassId × FieldType)} {a : Nat} (hexec : p.tables.exec = Jvm.exec) (hb : c.code = cc) (hK : va_K D cl tys s) (hP : va_P D cl ws H) (q0 t0 : Nat) {cA : ClassId} {n : Nat} {f : Nat → Int32} (ha : ws[q0]? = some (a, .inl (cA, n, .inl f))) (ht : tys[t0]? = some (cA, .short)) {i : Int32} (hout : ¬ vp_in i n) (hdg : decode cc pc = .ok (.saload, 1))
    (k : ∀ tx : String, tx = (toString "Index " ++ toString i ++ toString " out of bounds for length " ++ toString n : String) → vx_Note p l e R s m args below meth c H locs cells slots Q (F0 m pc ls rest) "java/lang/ArrayIndexOutOfBoundsException" tx) : W p l e R s m args below meth c H locs cells slots Q (F0 m pc ls (.int i :: .ref a :: rest)) := by
  intro T hT X
  obtain ⟨t, st, q⟩ := k _ rfl T hT X
  refine ⟨t, ?_, q⟩
  have h1 := X.saloadOut hexec (by rw [hT]; exact hP q0 _ ha) ((hK.2 t0 _ ht).1 n (fun j => .int (f j))) (j := i) (by show (i < 0 ∨ (arrV _ _ _).slots.size ≤ _); rw [arrV_size]; exact Classical.byContradiction hout) (g := F0 m pc ls (.int i :: .ref a :: rest)) rfl (rest := rest) rfl (by rw [hb]; exact hdg) t
  simp only [arrV_size] at h1
  exact h1 st
theorem vx_sastZ {D : va_G} {cl : List vw_C} {ws : va_W} {tys : List (ClassId × FieldType)} {a : Nat} (hexec : p.tables.exec = Jvm.exec) (hb : c.code = cc) (hK : va_K D cl tys s) (hP : va_P D cl ws H) (q0 t0 : Nat) {cA : ClassId} {n : Nat} {f : Nat → Int32} (ha : ws[q0]? = some (a, .inl (cA, n, .inl f))) (ht : tys[t0]? = some (cA, .short)) {i : Int32} {x : Int32} (hout : ¬ vp_in i n) (hdg : decode cc pc = .ok (.sastore, 1))
    (k : ∀ tx : String, tx = (toString "Index " ++ toString i ++ toString " out of bounds for length " ++ toString n : String) → vx_Note p l e R s m args below meth c H locs cells slots Q (F0 m pc ls rest) "java/lang/ArrayIndexOutOfBoundsException" tx) : W p l e R s m args below meth c H locs cells slots Q (F0 m pc ls (.int x :: .int i :: .ref a :: rest)) := by
  intro T hT X
  obtain ⟨t, st, q⟩ := k _ rfl T hT X
  refine ⟨t, ?_, q⟩
  have h1 := X.sastoreOut hexec (by rw [hT]; exact hP q0 _ ha) ((hK.2 t0 _ ht).1 n (fun j => .int (f j))) (j := i) (by show (i < 0 ∨ (arrV _ _ _).slots.size ≤ _); rw [arrV_size]; exact Classical.byContradiction hout) (g := F0 m pc ls (.int x :: .int i :: .ref a :: rest)) rfl (rest := rest) rfl (by rw [hb]; exact hdg) t
  simp only [arrV_size] at h1
  exact h1 st
theorem vx_laldZ {D : va_G} {cl : List vw_C} {ws : va_W} {tys : List (ClassId × FieldType)} {a : Nat} (hexec : p.tables.exec = Jvm.exec) (hb : c.code = cc) (hK : va_K D cl tys s) (hP : va_P D cl ws H) (q0 t0 : Nat) {cA : ClassId} {n : Nat} {f : Nat → Int64} (ha : ws[q0]? = some (a, .inl (cA, n, .inr (.inl f)))) (ht : tys[t0]? = some (cA, .long)) {i : Int32} (hout : ¬ vp_in i n) (hdg : decode cc pc = .ok (.laload, 1))
    (k : ∀ tx : String, tx = (toString "Index " ++ toString i ++ toString " out of bounds for length " ++ toString n : String) → vx_Note p l e R s m args below meth c H locs cells slots Q (F0 m pc ls rest) "java/lang/ArrayIndexOutOfBoundsException" tx) : W p l e R s m args below meth c H locs cells slots Q (F0 m pc ls (.int i :: .ref a :: rest)) := by
  intro T hT X
  obtain ⟨t, st, q⟩ := k _ rfl T hT X
  refine ⟨t, ?_, q⟩
  have h1 := X.laloadOut hexec (by rw [hT]; exact hP q0 _ ha) ((hK.2 t0 _ ht).1 n (fun j => .long (f j))) (j := i) (by show (i < 0 ∨ (arrV _ _ _).slots.size ≤ _); rw [arrV_size]; exact Classical.byContradiction hout) (g := F0 m pc ls (.int i :: .ref a :: rest)) rfl (rest := rest) rfl (by rw [hb]; exact hdg) t
  simp only [arrV_size] at h1
  exact h1 st
theorem vx_lastZ {D : va_G} {cl : List vw_C} {ws : va_W} {tys : List (ClassId × FieldType)} {a : Nat} (hexec : p.tables.exec = Jvm.exec) (hb : c.code = cc) (hK : va_K D cl tys s) (hP : va_P D cl ws H) (q0 t0 : Nat) {cA : ClassId} {n : Nat} {f : Nat → Int64} (ha : ws[q0]? = some (a, .inl (cA, n, .inr (.inl f)))) (ht : tys[t0]? = some (cA, .long)) {i : Int32} {x : Int64} (hout : ¬ vp_in i n) (hdg : decode cc pc = .ok (.lastore, 1))
    (k : ∀ tx : String, tx = (toString "Index " ++ toString i ++ toString " out of bounds for length " ++ toString n : String) → vx_Note p l e R s m args below meth c H locs cells slots Q (F0 m pc ls rest) "java/lang/ArrayIndexOutOfBoundsException" tx) : W p l e R s m args below meth c H locs cells slots Q (F0 m pc ls (.long x :: .int i :: .ref a :: rest)) := by
  intro T hT X
  obtain ⟨t, st, q⟩ := k _ rfl T hT X
  refine ⟨t, ?_, q⟩
  have h1 := X.lastoreOut hexec (by rw [hT]; exact hP q0 _ ha) ((hK.2 t0 _ ht).1 n (fun j => .long (f j))) (j := i) (by show (i < 0 ∨ (arrV _ _ _).slots.size ≤ _); rw [arrV_size]; exact Classical.byContradiction hout) (g := F0 m pc ls (.long x :: .int i :: .ref a :: rest)) rfl (rest := rest) rfl (by rw [hb]; exact hdg) t
  simp only [arrV_size] at h1
  exact h1 st
theorem vx_faldZ {D : va_G} {cl : List vw_C} {ws : va_W} {tys : List (ClassId × FieldType)} {a : Nat} (hexec : p.tables.exec = Jvm.exec) (hb : c.code = cc) (hK : va_K D cl tys s) (hP : va_P D cl ws H) (q0 t0 : Nat) {cA : ClassId} {n : Nat} {f : Nat → UInt32} (ha : ws[q0]? = some (a, .inl (cA, n, .inr (.inr (.inl f))))) (ht : tys[t0]? = some (cA, .float)) {i : Int32} (hout : ¬ vp_in i n) (hdg : decode cc pc = .ok (.faload, 1))
    (k : ∀ tx : String, tx = (toString "Index " ++ toString i ++ toString " out of bounds for length " ++ toString n : String) → vx_Note p l e R s m args below meth c H locs cells slots Q (F0 m pc ls rest) "java/lang/ArrayIndexOutOfBoundsException" tx) : W p l e R s m args below meth c H locs cells slots Q (F0 m pc ls (.int i :: .ref a :: rest)) := by
  intro T hT X
  obtain ⟨t, st, q⟩ := k _ rfl T hT X
  refine ⟨t, ?_, q⟩
  have h1 := X.faloadOut hexec (by rw [hT]; exact hP q0 _ ha) ((hK.2 t0 _ ht).1 n (fun j => .float (f j))) (j := i) (by show (i < 0 ∨ (arrV _ _ _).slots.size ≤ _); rw [arrV_size]; exact Classical.byContradiction hout) (g := F0 m pc ls (.int i :: .ref a :: rest)) rfl (rest := rest) rfl (by rw [hb]; exact hdg) t
  simp only [arrV_size] at h1
  exact h1 st
theorem vx_fastZ {D : va_G} {cl : List vw_C} {ws : va_W} {tys : List (ClassId × FieldType)} {a : Nat} (hexec : p.tables.exec = Jvm.exec) (hb : c.code = cc) (hK : va_K D cl tys s) (hP : va_P D cl ws H) (q0 t0 : Nat) {cA : ClassId} {n : Nat} {f : Nat → UInt32} (ha : ws[q0]? = some (a, .inl (cA, n, .inr (.inr (.inl f))))) (ht : tys[t0]? = some (cA, .float)) {i : Int32} {x : UInt32} (hout : ¬ vp_in i n) (hdg : decode cc pc = .ok (.fastore, 1))
    (k : ∀ tx : String, tx = (toString "Index " ++ toString i ++ toString " out of bounds for length " ++ toString n : String) → vx_Note p l e R s m args below meth c H locs cells slots Q (F0 m pc ls rest) "java/lang/ArrayIndexOutOfBoundsException" tx) : W p l e R s m args below meth c H locs cells slots Q (F0 m pc ls (.float x :: .int i :: .ref a :: rest)) := by
  intro T hT X
  obtain ⟨t, st, q⟩ := k _ rfl T hT X
  refine ⟨t, ?_, q⟩
  have h1 := X.fastoreOut hexec (by rw [hT]; exact hP q0 _ ha) ((hK.2 t0 _ ht).1 n (fun j => .float (f j))) (j := i) (by show (i < 0 ∨ (arrV _ _ _).slots.size ≤ _); rw [arrV_size]; exact Classical.byContradiction hout) (g := F0 m pc ls (.float x :: .int i :: .ref a :: rest)) rfl (rest := rest) rfl (by rw [hb]; exact hdg) t
  simp only [arrV_size] at h1
  exact h1 st
theorem vx_daldZ {D : va_G} {cl : List vw_C} {ws : va_W} {tys : List (ClassId × FieldType)} {a : Nat} (hexec : p.tables.exec = Jvm.exec) (hb : c.code = cc) (hK : va_K D cl tys s) (hP : va_P D cl ws H) (q0 t0 : Nat) {cA : ClassId} {n : Nat} {f : Nat → UInt64} (ha : ws[q0]? = some (a, .inl (cA, n, .inr (.inr (.inr (.inl f)))))) (ht : tys[t0]? = some (cA, .double)) {i : Int32} (hout : ¬ vp_in i n) (hdg : decode cc pc = .ok (.daload, 1))
    (k : ∀ tx : String, tx = (toString "Index " ++ toString i ++ toString " out of bounds for length " ++ toString n : String) → vx_Note p l e R s m args below meth c H locs cells slots Q (F0 m pc ls rest) "java/lang/ArrayIndexOutOfBoundsException" tx) : W p l e R s m args below meth c H locs cells slots Q (F0 m pc ls (.int i :: .ref a :: rest)) := by
  intro T hT X
  obtain ⟨t, st, q⟩ := k _ rfl T hT X
  refine ⟨t, ?_, q⟩
  have h1 := X.daloadOut hexec (by rw [hT]; exact hP q0 _ ha) ((hK.2 t0 _ ht).1 n (fun j => .double (f j))) (j := i) (by show (i < 0 ∨ (arrV _ _ _).slots.size ≤ _); rw [arrV_size]; exact Classical.byContradiction hout) (g := F0 m pc ls (.int i :: .ref a :: rest)) rfl (rest := rest) rfl (by rw [hb]; exact hdg) t
  simp only [arrV_size] at h1
  exact h1 st
theorem vx_dastZ {D : va_G} {cl : List vw_C} {ws : va_W} {tys : List (ClassId × FieldType)} {a : Nat} (hexec : p.tables.exec = Jvm.exec) (hb : c.code = cc) (hK : va_K D cl tys s) (hP : va_P D cl ws H) (q0 t0 : Nat) {cA : ClassId} {n : Nat} {f : Nat → UInt64} (ha : ws[q0]? = some (a, .inl (cA, n, .inr (.inr (.inr (.inl f)))))) (ht : tys[t0]? = some (cA, .double)) {i : Int32} {x : UInt64} (hout : ¬ vp_in i n) (hdg : decode cc pc = .ok (.dastore, 1))
    (k : ∀ tx : String, tx = (toString "Index " ++ toString i ++ toString " out of bounds for length " ++ toString n : String) → vx_Note p l e R s m args below meth c H locs cells slots Q (F0 m pc ls rest) "java/lang/ArrayIndexOutOfBoundsException" tx) : W p l e R s m args below meth c H locs cells slots Q (F0 m pc ls (.double x :: .int i :: .ref a :: rest)) := by
  intro T hT X
  obtain ⟨t, st, q⟩ := k _ rfl T hT X
  refine ⟨t, ?_, q⟩
  have h1 := X.dastoreOut hexec (by rw [hT]; exact hP q0 _ ha) ((hK.2 t0 _ ht).1 n (fun j => .double (f j))) (j := i) (by show (i < 0 ∨ (arrV _ _ _).slots.size ≤ _); rw [arrV_size]; exact Classical.byContradiction hout) (g := F0 m pc ls (.double x :: .int i :: .ref a :: rest)) rfl (rest := rest) rfl (by rw [hb]; exact hdg) t
  simp only [arrV_size] at h1
  exact h1 st
theorem vx_arraylengthN (hexec : p.tables.exec = Jvm.exec) (hb : c.code = cc) (hdg : decode cc pc = .ok (.arraylength, 1)) (k : vx_NoteN p l e R s m args below meth c H locs cells slots Q (F0 m pc ls rest)) : W p l e R s m args below meth c H locs cells slots Q (F0 m pc ls (.null :: rest)) := by
  intro T hT X
  obtain ⟨t, st, q⟩ := k T hT X
  exact ⟨t, X.arraylengthNull hexec (g := F0 m pc ls (.null :: rest)) rfl (rest := rest) rfl (by rw [hb]; exact hdg) t st, q⟩
theorem vx_ialoadN (hexec : p.tables.exec = Jvm.exec) (hb : c.code = cc) {i : Int32} (hdg : decode cc pc = .ok (.iaload, 1)) (k : vx_NoteN p l e R s m args below meth c H locs cells slots Q (F0 m pc ls rest)) : W p l e R s m args below meth c H locs cells slots Q (F0 m pc ls (.int i :: .null :: rest)) := by
  intro T hT X
  obtain ⟨t, st, q⟩ := k T hT X
  exact ⟨t, X.ialoadNull hexec (g := F0 m pc ls (.int i :: .null :: rest)) rfl (rest := rest) rfl (by rw [hb]; exact hdg) t st, q⟩
theorem vx_laloadN (hexec : p.tables.exec = Jvm.exec) (hb : c.code = cc) {i : Int32} (hdg : decode cc pc = .ok (.laload, 1)) (k : vx_NoteN p l e R s m args below meth c H locs cells slots Q (F0 m pc ls rest)) : W p l e R s m args below meth c H locs cells slots Q (F0 m pc ls (.int i :: .null :: rest)) := by
  intro T hT X
  obtain ⟨t, st, q⟩ := k T hT X
  exact ⟨t, X.laloadNull hexec (g := F0 m pc ls (.int i :: .null :: rest)) rfl (rest := rest) rfl (by rw [hb]; exact hdg) t st, q⟩
theorem vx_faloadN (hexec : p.tables.exec = Jvm.exec) (hb : c.code = cc) {i : Int32} (hdg : decode cc pc = .ok (.faload, 1)) (k : vx_NoteN p l e R s m args below meth c H locs cells slots Q (F0 m pc ls rest)) : W p l e R s m args below meth c H locs cells slots Q (F0 m pc ls (.int i :: .null :: rest)) := by
  intro T hT X
  obtain ⟨t, st, q⟩ := k T hT X
  exact ⟨t, X.faloadNull hexec (g := F0 m pc ls (.int i :: .null :: rest)) rfl (rest := rest) rfl (by rw [hb]; exact hdg) t st, q⟩
theorem vx_daloadN (hexec : p.tables.exec = Jvm.exec) (hb : c.code = cc) {i : Int32} (hdg : decode cc pc = .ok (.daload, 1)) (k : vx_NoteN p l e R s m args below meth c H locs cells slots Q (F0 m pc ls rest)) : W p l e R s m args below meth c H locs cells slots Q (F0 m pc ls (.int i :: .null :: rest)) := by
  intro T hT X
  obtain ⟨t, st, q⟩ := k T hT X
  exact ⟨t, X.daloadNull hexec (g := F0 m pc ls (.int i :: .null :: rest)) rfl (rest := rest) rfl (by rw [hb]; exact hdg) t st, q⟩
theorem vx_aaloadN (hexec : p.tables.exec = Jvm.exec) (hb : c.code = cc) {i : Int32} (hdg : decode cc pc = .ok (.aaload, 1)) (k : vx_NoteN p l e R s m args below meth c H locs cells slots Q (F0 m pc ls rest)) : W p l e R s m args below meth c H locs cells slots Q (F0 m pc ls (.int i :: .null :: rest)) := by
  intro T hT X
  obtain ⟨t, st, q⟩ := k T hT X
  exact ⟨t, X.aaloadNull hexec (g := F0 m pc ls (.int i :: .null :: rest)) rfl (rest := rest) rfl (by rw [hb]; exact hdg) t st, q⟩
theorem vx_baloadN (hexec : p.tables.exec = Jvm.exec) (hb : c.code = cc) {i : Int32} (hdg : decode cc pc = .ok (.baload, 1)) (k : vx_NoteN p l e R s m args below meth c H locs cells slots Q (F0 m pc ls rest)) : W p l e R s m args below meth c H locs cells slots Q (F0 m pc ls (.int i :: .null :: rest)) := by
  intro T hT X
  obtain ⟨t, st, q⟩ := k T hT X
  exact ⟨t, X.baloadNull hexec (g := F0 m pc ls (.int i :: .null :: rest)) rfl (rest := rest) rfl (by rw [hb]; exact hdg) t st, q⟩
theorem vx_caloadN (hexec : p.tables.exec = Jvm.exec) (hb : c.code = cc) {i : Int32} (hdg : decode cc pc = .ok (.caload, 1)) (k : vx_NoteN p l e R s m args below meth c H locs cells slots Q (F0 m pc ls rest)) : W p l e R s m args below meth c H locs cells slots Q (F0 m pc ls (.int i :: .null :: rest)) := by
  intro T hT X
  obtain ⟨t, st, q⟩ := k T hT X
  exact ⟨t, X.caloadNull hexec (g := F0 m pc ls (.int i :: .null :: rest)) rfl (rest := rest) rfl (by rw [hb]; exact hdg) t st, q⟩
theorem vx_saloadN (hexec : p.tables.exec = Jvm.exec) (hb : c.code = cc) {i : Int32} (hdg : decode cc pc = .ok (.saload, 1)) (k : vx_NoteN p l e R s m args below meth c H locs cells slots Q (F0 m pc ls rest)) : W p l e R s m args below meth c H locs cells slots Q (F0 m pc ls (.int i :: .null :: rest)) := by
  intro T hT X
  obtain ⟨t, st, q⟩ := k T hT X
  exact ⟨t, X.saloadNull hexec (g := F0 m pc ls (.int i :: .null :: rest)) rfl (rest := rest) rfl (by rw [hb]; exact hdg) t st, q⟩
theorem vx_iastoreN (hexec : p.tables.exec = Jvm.exec) (hb : c.code = cc) {x : Int32} {i : Int32} (hdg : decode cc pc = .ok (.iastore, 1)) (k : vx_NoteN p l e R s m args below meth c H locs cells slots Q (F0 m pc ls rest)) : W p l e R s m args below meth c H locs cells slots Q (F0 m pc ls (.int x :: .int i :: .null :: rest)) := by
  intro T hT X
  obtain ⟨t, st, q⟩ := k T hT X
  exact ⟨t, X.iastoreNull hexec (g := F0 m pc ls (.int x :: .int i :: .null :: rest)) rfl (rest := rest) rfl (by rw [hb]; exact hdg) t st, q⟩
theorem vx_lastoreN (hexec : p.tables.exec = Jvm.exec) (hb : c.code = cc) {x : Int64} {i : Int32} (hdg : decode cc pc = .ok (.lastore, 1)) (k : vx_NoteN p l e R s m args below meth c H locs cells slots Q (F0 m pc ls rest)) : W p l e R s m args below meth c H locs cells slots Q (F0 m pc ls (.long x :: .int i :: .null :: rest)) := by
  intro T hT X
  obtain ⟨t, st, q⟩ := k T hT X
  exact ⟨t, X.lastoreNull hexec (g := F0 m pc ls (.long x :: .int i :: .null :: rest)) rfl (rest := rest) rfl (by rw [hb]; exact hdg) t st, q⟩
theorem vx_fastoreN (hexec : p.tables.exec = Jvm.exec) (hb : c.code = cc) {x : UInt32} {i : Int32} (hdg : decode cc pc = .ok (.fastore, 1)) (k : vx_NoteN p l e R s m args below meth c H locs cells slots Q (F0 m pc ls rest)) : W p l e R s m args below meth c H locs cells slots Q (F0 m pc ls (.float x :: .int i :: .null :: rest)) := by
  intro T hT X
  obtain ⟨t, st, q⟩ := k T hT X
  exact ⟨t, X.fastoreNull hexec (g := F0 m pc ls (.float x :: .int i :: .null :: rest)) rfl (rest := rest) rfl (by rw [hb]; exact hdg) t st, q⟩
theorem vx_dastoreN (hexec : p.tables.exec = Jvm.exec) (hb : c.code = cc) {x : UInt64} {i : Int32} (hdg : decode cc pc = .ok (.dastore, 1)) (k : vx_NoteN p l e R s m args below meth c H locs cells slots Q (F0 m pc ls rest)) : W p l e R s m args below meth c H locs cells slots Q (F0 m pc ls (.double x :: .int i :: .null :: rest)) := by
  intro T hT X
  obtain ⟨t, st, q⟩ := k T hT X
  exact ⟨t, X.dastoreNull hexec (g := F0 m pc ls (.double x :: .int i :: .null :: rest)) rfl (rest := rest) rfl (by rw [hb]; exact hdg) t st, q⟩
theorem vx_bastoreN (hexec : p.tables.exec = Jvm.exec) (hb : c.code = cc) {x : Int32} {i : Int32} (hdg : decode cc pc = .ok (.bastore, 1)) (k : vx_NoteN p l e R s m args below meth c H locs cells slots Q (F0 m pc ls rest)) : W p l e R s m args below meth c H locs cells slots Q (F0 m pc ls (.int x :: .int i :: .null :: rest)) := by
  intro T hT X
  obtain ⟨t, st, q⟩ := k T hT X
  exact ⟨t, X.bastoreNull hexec (g := F0 m pc ls (.int x :: .int i :: .null :: rest)) rfl (rest := rest) rfl (by rw [hb]; exact hdg) t st, q⟩
theorem vx_castoreN (hexec : p.tables.exec = Jvm.exec) (hb : c.code = cc) {x : Int32} {i : Int32} (hdg : decode cc pc = .ok (.castore, 1)) (k : vx_NoteN p l e R s m args below meth c H locs cells slots Q (F0 m pc ls rest)) : W p l e R s m args below meth c H locs cells slots Q (F0 m pc ls (.int x :: .int i :: .null :: rest)) := by
  intro T hT X
  obtain ⟨t, st, q⟩ := k T hT X
  exact ⟨t, X.castoreNull hexec (g := F0 m pc ls (.int x :: .int i :: .null :: rest)) rfl (rest := rest) rfl (by rw [hb]; exact hdg) t st, q⟩
theorem vx_sastoreN (hexec : p.tables.exec = Jvm.exec) (hb : c.code = cc) {x : Int32} {i : Int32} (hdg : decode cc pc = .ok (.sastore, 1)) (k : vx_NoteN p l e R s m args below meth c H locs cells slots Q (F0 m pc ls rest)) : W p l e R s m args below meth c H locs cells slots Q (F0 m pc ls (.int x :: .int i :: .null :: rest)) := by
  intro T hT X
  obtain ⟨t, st, q⟩ := k T hT X
  exact ⟨t, X.sastoreNull hexec (g := F0 m pc ls (.int x :: .int i :: .null :: rest)) rfl (rest := rest) rfl (by rw [hb]; exact hdg) t st, q⟩
theorem vx_invokeN {own C : String} {index maxL : Nat} {y : MethodName} {bytes : ByteArray} {ret : Option FieldType} (hexec : p.tables.exec = Jvm.exec) (hb : c.code = cc) (hown : s.vm.findClass own = some m.cls) (hlink : (Cond.methodLink own index y).before args s = true) (hinst : (Cond.instanceMethod y).before args s = true) (hcode : (Cond.code y bytes maxL ret).before args s = true) (hsel : (Cond.selects C y y).before args s = true)
    (hx : y.cls ≠ "java/lang/invoke/MethodHandle" ∧ y.cls ≠ "java/lang/invoke/VarHandle") {As : List Value} (hlen : (parseMethodDescriptor y.desc).map (fun d => d.parameters.length) = some As.length) (hdg : decode cc pc = .ok (.invokevirtual index, 3))
    (k : vx_NoteN p l e R s m args below meth c H locs cells slots Q (F0 m pc ls rest)) {st0 : List Value} (hst : st0 = As.reverse ++ .null :: rest) : W p l e R s m args below meth c H locs cells slots Q (F0 m pc ls st0) := by
  intro T hT X
  obtain ⟨r0, r, hn, hrm, hstR, hsigR⟩ := va_Decl.of hinst hcode
  obtain ⟨c2, r2, m2, q1, q2, q3, q4, kP, hkP, hkPi⟩ := Cond.selects_spec hsel
  cases hn.symm.trans q3
  have hl9 : As.length = r.sig.parameters.length := by
    rw [hsigR] at hlen
    exact (Option.some.inj hlen).symm
  obtain ⟨vm', X1, st1⟩ := X.invokevirtualNull hexec hown hlink hn hrm hstR hkP hkPi hx (g := F0 m pc ls st0) rfl (argsL := As) (rest := rest) hl9 hst (by rw [hb]; exact hdg)
  obtain ⟨t, st, q⟩ := k (T.setVm vm') hT X1
  exact ⟨t, st1 t st, q⟩
theorem vx_newarrayZ {atype : ArrayType} (hexec : p.tables.exec = Jvm.exec) (hb : c.code = cc) {n : Int32} (h0 : n < 0) (hdg : decode cc pc = .ok (.newarray atype, 2)) (k : ∀ tx : String, tx = toString n → vx_Note p l e R s m args below meth c H locs cells slots Q (F0 m pc ls rest) "java/lang/NegativeArraySizeException" tx) : W p l e R s m args below meth c H locs cells slots Q (F0 m pc ls (.int n :: rest)) := by
  intro T hT X
  obtain ⟨t, st, q⟩ := k _ rfl T hT X
  exact ⟨t, X.newarrayNegative hexec (g := F0 m pc ls (.int n :: rest)) rfl h0 (rest := rest) rfl (by rw [hb]; exact hdg) t st, q⟩
end
end VXM
/-! ===== END ===== -/
/-! ===== BEGIN an exception as an object: made, kept, thrown later (no traces kept) ===== -/
section VXK
variable {p : Program} {l : Launch} {e : Env} {R : Room} {s : State} {m₀ : MethodId} {args : Array Value} {below : List Frame} {meth : Method} {c : Code} {W : State} {locs : List Loc} {cells slots : Nat}
set_option maxHeartbeats 1000000 in
theorem vx_ctorMadeS (X : Stand p l e R s m₀ args below meth c W locs cells slots) (hexec : p.tables.exec = Jvm.exec) (htr : e.platform.stackTraces = false) {own cls : String} {names : List String} {ic : Nat}
    (hown : s.vm.findClass own = some m₀.cls) (hcls : Bundle.fit cls = true) (hnames : ∀ n ∈ names, Bundle.fit n = true)
    (h : ∀ a ∈ Bundle.ownAtoms own ic cls names, a.before args s = true)
    (hlocs : ∀ x ∈ locs, ∀ cell, s.heap[x.base]? = some cell → cell.vm.isStatics = false)
    {a : Addr} {cX : ClassId} {kX : Class} (hfoundX : s.vm.findClass cls = some cX) (hkX : s.vm.classes[cX]? = some kX) (hcell : W.heap[a]? = some (freshCell cX kX)) (hnew : s.heap.size ≤ a)
    {msg : Value} (hmsg : msg.isRef = true)
    {g : JFrame} (hg : g.method = m₀) (hsize : g.locals.size = c.maxLocals) {rest : List Value} (hstack : g.stack = msg :: .ref a :: .ref a :: rest)
    (hd6 : decode c.code g.pc = .ok (.invokespecial ic, 3))
    (hRframes : names.length + 3 < R.frames) (hRlocals : 2 * g.monitorRoom + ((Value.ref a :: rest).map fun v => v.category).sum + (13 * (names.length + 1) + 42) ≤ R.locals) :
    ∃ (V : State) (ce : Cell) (L : List Loc), Stand p l e R s m₀ args below meth c (V.setCell a ce) (locs ++ L) cells slots ∧ (∀ y ∈ L, y.base = a) ∧ a < V.heap.size ∧ ce.cls = cX ∧ ce.vm = .none ∧
      ∀ target, Steps p.tables e below ((V.setCell a ce).setTop { g with stack := .ref a :: rest, pc := g.pc + 3 }) target → Steps p.tables e below (W.setTop g) target := by
  have howns : e.platform.frameOwnsMonitors = true := by rw [X.admits.platform]
  have hfin : e.platform.finalization = false := by rw [X.admits.platform]
  have hpl : e.platform.magicAccessors = ({} : Platform).magicAccessors := by rw [X.admits.platform]
  have a' : ∀ x, x ∈ Bundle.ownAtoms own ic cls names → x.holds args s none s [] = true := fun x hx => h x hx
  obtain ⟨T, Z0, L, -, Y⟩ := ThrowableC.of_atoms (args := args) howns hfin hpl (fun x hx => h x (by simp [Bundle.ownAtoms, hx]))
  obtain ⟨Z, M, LZ, LM, hnZ⟩ := Init0T.ofS_atoms (args := args) hpl L Y (fun x hx => h x (by simp [Bundle.ownAtoms, hx]))
  obtain ⟨P1, Ps, hlen, L1, hL, hP1m, hlink1, hlink⟩ := Bundle.chainS (args := args) hpl hnZ names cls hcls hnames (fun x hx => h x (by simp [Bundle.ownAtoms, hx]))
  have hfound : s.vm.findClass cls = some P1.m.cls := findClass_of_methodNamed hP1m
  cases Option.some.inj (hfoundX.symm.trans hfound)
  obtain ⟨c1, kX', hc1, hk, hord, -, -, hn6⟩ := Cond.instantiable_spec (a' (.instantiable cls 6) (by simp [Bundle.ownAtoms]))
  cases Option.some.inj (hc1.symm.trans hfound)
  cases Option.some.inj (hkX.symm.trans hk)
  have hsel0 : selectMethod e.platform s.vm P1.m.cls T.fill0 = .method T.fill0 := by
    obtain ⟨c2, r2, m2, q1, q2, q3, q4, -⟩ := Cond.selects_spec (a' (.selects cls Bundle.tFill0 Bundle.tFill0) (by simp [Bundle.ownAtoms]))
    cases Option.some.inj (q1.symm.trans hfound)
    cases Option.some.inj (q2.symm.trans (State.methodFound?_of_named Y.fill0 (by decide)))
    cases Option.some.inj (q3.symm.trans Y.fill0)
    rw [Launch.admits_selectMethod X.admits]; exact q4
  have hselF : selectMethod e.platform s.vm P1.m.cls T.fill = .method T.fill := by
    obtain ⟨c2, r2, m2, q1, q2, q3, q4, -⟩ := Cond.selects_spec (a' (.selects cls Bundle.tFill Bundle.tFill) (by simp [Bundle.ownAtoms]))
    cases Option.some.inj (q1.symm.trans hfound)
    cases Option.some.inj (q2.symm.trans (State.methodFound?_of_named Y.fill (by decide)))
    cases Option.some.inj (q3.symm.trans Y.fill)
    rw [Launch.admits_selectMethod X.admits]; exact q4
  obtain ⟨cellS0, hcS0, hiss⟩ := Y.statics
  obtain ⟨u0, hu0⟩ := Cond.staticRefV Y.unassigned L.unassignedStatic L.statics hcS0 hiss (a' (.isRef (.static Bundle.tN "UNASSIGNED_STACK" Bundle.steD)) (by simp [Bundle.ownAtoms]))
  obtain ⟨sen, hsen⟩ := Cond.staticRefV Y.sentinel L.sentinelStatic L.statics hcS0 hiss (a' (.isRef (.static Bundle.tN "SUPPRESSED_SENTINEL" Bundle.listD)) (by simp [Bundle.ownAtoms]))
  obtain ⟨ci198, i198, fB, hk198, hg198, ha198, hsB, -, hnB, htB, hffB⟩ := Cond.ownField (t := .object "java/lang/Object") Y.found L.cls (by decide +kernel) (a' (.fieldLink Bundle.tN 198 Bundle.tN "backtrace" "Ljava/lang/Object;") (by simp [Bundle.ownAtoms])) (a' (.lays Bundle.tN Bundle.tN "backtrace" "Ljava/lang/Object;") (by simp [Bundle.ownAtoms])) e.platform hpl
  obtain ⟨cellS, hcS', heS, -, hkeep⟩ := X.same.2.2.2.2.2 T.aS cellS0 hcS0
  have hcellS : W.heap[T.aS]? = some cellS := hcS'
  have hout' : ∀ i, (⟨T.aS, i⟩ : Loc) ∉ locs := fun i hmem => by
    have := hlocs _ hmem cellS0 hcS0
    rw [hiss] at this; cases this
  have hknownS : cellS.vm ≠ .unknown := by
    rw [heS]; intro hu
    rw [show cellS0.vm = .unknown from hu] at hiss
    cases hiss
  have hneS : T.aS ≠ a := Nat.ne_of_lt (Nat.lt_of_lt_of_le (Array.getElem?_eq_some_iff.mp hcS0).1 hnew)
  obtain ⟨iM, hffM⟩ := Y.msg
  obtain ⟨tyC, dC, hdC, hdnC⟩ := Cond.laysAt hfound hk Y.cause (a' (.lays cls Bundle.tN "cause" "Ljava/lang/Throwable;") (by simp [Bundle.ownAtoms]))
  obtain ⟨tyS, dS, hdS, hdnS⟩ := Cond.laysAt hfound hk Y.stack (a' (.lays cls Bundle.tN "stackTrace" Bundle.steD) (by simp [Bundle.ownAtoms]))
  obtain ⟨tyP, dP, hdP, hdnP⟩ := Cond.laysAt hfound hk Y.supp (a' (.lays cls Bundle.tN "suppressedExceptions" Bundle.listD) (by simp [Bundle.ownAtoms]))
  obtain ⟨tyM, dM, hdM, hdnM⟩ := Cond.laysAt hfound hk hffM (a' (.lays cls Bundle.tN "detailMessage" "Ljava/lang/String;") (by simp [Bundle.ownAtoms]))
  obtain ⟨tyB, dB, hdB, hdnB⟩ := Cond.laysAt hfound hk hffB (a' (.lays cls Bundle.tN "backtrace" "Ljava/lang/Object;") (by simp [Bundle.ownAtoms]))
  have bC := Cond.laysApart hdB hdC hdnB hdnC (by rw [hnB, Y.causeName]; decide)
  have bS := Cond.laysApart hdB hdS hdnB hdnS (by rw [hnB, Y.stackName]; decide)
  have bP := Cond.laysApart hdB hdP hdnB hdnP (by rw [hnB, Y.suppName]; decide)
  have hskip : SkipFacts T e.platform s (fun u => u) u0 ((preparedCellV T.toThrowableT (freshCell P1.m.cls kX) a u0 sen).withEntry W.cur) :=
    ⟨{ ci198 := ci198, i198 := i198, fBack := fB }, ⟨hk198, hg198, ha198, hsB⟩, by
      have := fresh_default (c := P1.m.cls) tyB
      rw [htB] at this
      simpa [preparedCellV, Cell.setSlot, Cell.withEntry, Array.getElem?_setIfInBounds, bC, bS, bP, bC.symm, bS.symm, bP.symm, defaultValue] using this, fun _ _ => rfl⟩
  obtain ⟨tm, methC, cdC, kC, vm₁, hnC, -, -, -, -, -, -, -, hW₁, st1⟩ := Steps.initColdS (tb := p.tables) (e := e) (below := below) (s := s) (U := W) X.here hexec X.warmed hpl hown (t := Bundle.initS cls) rfl rfl (Bundle.fit_spec hcls).2
    (a' (.methodLink own ic (Bundle.initS cls)) (by simp [Bundle.ownAtoms])) (h (.instanceMethod (Bundle.initS cls)) (by cases names <;> simp [Bundle.ownAtoms, Bundle.chainSAtoms, Bundle.passSAtoms])) (bytes := Bundle.six) (maxL := 2) (h (.code (Bundle.initS cls) Bundle.six 2 none) (by cases names <;> simp [Bundle.ownAtoms, Bundle.chainSAtoms, Bundle.passSAtoms]))
    (f := g) hg (a := a) (msg := msg) (rest := .ref a :: rest) hstack hd6
  cases Option.some.inj (hnC.symm.trans hP1m)
  have X₁ := X.noted hW₁
  obtain ⟨vm₂, X₂, st2⟩ := X₁.ctorMessageOffV hexec (g := { g with stack := .ref a :: rest }) hg hsize T L Z LZ M LM (P1 :: Ps)
    (fun P hP => by rcases List.mem_cons.mp hP with rfl | hP; exact L1; exact hL P hP) ⟨hlink1, hlink⟩ (u0 := u0) (sen := sen) (self := a) hmsg (cell := freshCell P1.m.cls kX) (cellS := cellS)
    hcell (fun _ => by simp) (by simp) rfl rfl hsel0 hselF hcellS hneS hknownS (by rw [hkeep _ (hout' _)]; exact hu0) (by rw [hkeep _ (hout' _)]; exact hsen)
    (Takes.of_laid hk hord tyC (by rw [Y.causeType]; rfl)) (Takes.of_laid hk hord tyS (by rw [Y.stackType]; exact fits_refV_array _ u0)) (Takes.of_laid hk hord tyP (by rw [Y.suppType]; exact fits_refV_object _ sen))
    (Takes.of_laid hk hord tyM (by rw [Y.msgType]; exact fits_refV_object _ ⟨msg, hmsg⟩)) Y.objLocals hskip htr [] hd6
    (by simp only [List.length_cons, hlen]; omega) (by simp only [List.length_cons, hlen]; exact hRlocals)
  have hlt : a < ((W.setVm vm₁).setVm vm₂).heap.size := (Array.getElem?_eq_some_iff.mp hcell).1
  refine ⟨(W.setVm vm₁).setVm vm₂, _, _, X₂, fun y hy => ?_, hlt, rfl, rfl, fun target hwalk => st1 _ (fun acts => ?_)⟩
  · simp only [List.mem_cons, List.not_mem_nil, or_false] at hy
    rcases hy with rfl | rfl | rfl | rfl | rfl <;> rfl
  · rw [doInvoke_state]
    exact st2 _ hwalk
set_option maxHeartbeats 1000000 in
theorem vx_ctorMade0 (X : Stand p l e R s m₀ args below meth c W locs cells slots) (hexec : p.tables.exec = Jvm.exec) (htr : e.platform.stackTraces = false) {own cls : String} {names : List String} {ic : Nat}
    (hown : s.vm.findClass own = some m₀.cls) (hcls : Bundle.fit cls = true) (hnames : ∀ n ∈ names, Bundle.fit n = true)
    (h : ∀ a ∈ Bundle.ownAtoms0 own ic cls names, a.before args s = true)
    (hlocs : ∀ x ∈ locs, ∀ cell, s.heap[x.base]? = some cell → cell.vm.isStatics = false)
    {a : Addr} {cX : ClassId} {kX : Class} (hfoundX : s.vm.findClass cls = some cX) (hkX : s.vm.classes[cX]? = some kX) (hcell : W.heap[a]? = some (freshCell cX kX)) (hnew : s.heap.size ≤ a)
    {g : JFrame} (hg : g.method = m₀) (hsize : g.locals.size = c.maxLocals) {rest : List Value} (hstack : g.stack = .ref a :: .ref a :: rest)
    (hd6 : decode c.code g.pc = .ok (.invokespecial ic, 3))
    (hRframes : names.length + 3 < R.frames) (hRlocals : 2 * g.monitorRoom + ((Value.ref a :: rest).map fun v => v.category).sum + (13 * (names.length + 1) + 41) ≤ R.locals) :
    ∃ (V : State) (ce : Cell) (L : List Loc), Stand p l e R s m₀ args below meth c (V.setCell a ce) (locs ++ L) cells slots ∧ (∀ y ∈ L, y.base = a) ∧ a < V.heap.size ∧ ce.cls = cX ∧ ce.vm = .none ∧
      ∀ target, Steps p.tables e below ((V.setCell a ce).setTop { g with stack := .ref a :: rest, pc := g.pc + 3 }) target → Steps p.tables e below (W.setTop g) target := by
  have howns : e.platform.frameOwnsMonitors = true := by rw [X.admits.platform]
  have hfin : e.platform.finalization = false := by rw [X.admits.platform]
  have hpl : e.platform.magicAccessors = ({} : Platform).magicAccessors := by rw [X.admits.platform]
  have a' : ∀ x, x ∈ Bundle.ownAtoms0 own ic cls names → x.holds args s none s [] = true := fun x hx => h x hx
  obtain ⟨T, Z, L, LZ, Y⟩ := ThrowableC.of_atoms (args := args) howns hfin hpl (fun x hx => h x (by simp [Bundle.ownAtoms0, hx]))
  obtain ⟨P1, Ps, hlen, L1, hL, hP1m, hlink1, hlink⟩ := Bundle.chain0 (args := args) hpl Y.init0 names cls hcls hnames (fun x hx => h x (by simp [Bundle.ownAtoms0, hx]))
  have hfound : s.vm.findClass cls = some P1.m.cls := findClass_of_methodNamed hP1m
  cases Option.some.inj (hfoundX.symm.trans hfound)
  obtain ⟨c1, kX', hc1, hk, hord, -, -, hn6⟩ := Cond.instantiable_spec (a' (.instantiable cls 6) (by simp [Bundle.ownAtoms0]))
  cases Option.some.inj (hc1.symm.trans hfound)
  cases Option.some.inj (hkX.symm.trans hk)
  have hsel0 : selectMethod e.platform s.vm P1.m.cls T.fill0 = .method T.fill0 := by
    obtain ⟨c2, r2, m2, q1, q2, q3, q4, -⟩ := Cond.selects_spec (a' (.selects cls Bundle.tFill0 Bundle.tFill0) (by simp [Bundle.ownAtoms0]))
    cases Option.some.inj (q1.symm.trans hfound)
    cases Option.some.inj (q2.symm.trans (State.methodFound?_of_named Y.fill0 (by decide)))
    cases Option.some.inj (q3.symm.trans Y.fill0)
    rw [Launch.admits_selectMethod X.admits]; exact q4
  have hselF : selectMethod e.platform s.vm P1.m.cls T.fill = .method T.fill := by
    obtain ⟨c2, r2, m2, q1, q2, q3, q4, -⟩ := Cond.selects_spec (a' (.selects cls Bundle.tFill Bundle.tFill) (by simp [Bundle.ownAtoms0]))
    cases Option.some.inj (q1.symm.trans hfound)
    cases Option.some.inj (q2.symm.trans (State.methodFound?_of_named Y.fill (by decide)))
    cases Option.some.inj (q3.symm.trans Y.fill)
    rw [Launch.admits_selectMethod X.admits]; exact q4
  obtain ⟨cellS0, hcS0, hiss⟩ := Y.statics
  obtain ⟨u0, hu0⟩ := Cond.staticRefV Y.unassigned L.unassignedStatic L.statics hcS0 hiss (a' (.isRef (.static Bundle.tN "UNASSIGNED_STACK" Bundle.steD)) (by simp [Bundle.ownAtoms0]))
  obtain ⟨sen, hsen⟩ := Cond.staticRefV Y.sentinel L.sentinelStatic L.statics hcS0 hiss (a' (.isRef (.static Bundle.tN "SUPPRESSED_SENTINEL" Bundle.listD)) (by simp [Bundle.ownAtoms0]))
  obtain ⟨ci198, i198, fB, hk198, hg198, ha198, hsB, -, hnB, htB, hffB⟩ := Cond.ownField (t := .object "java/lang/Object") Y.found L.cls (by decide +kernel) (a' (.fieldLink Bundle.tN 198 Bundle.tN "backtrace" "Ljava/lang/Object;") (by simp [Bundle.ownAtoms0])) (a' (.lays Bundle.tN Bundle.tN "backtrace" "Ljava/lang/Object;") (by simp [Bundle.ownAtoms0])) e.platform hpl
  obtain ⟨cellS, hcS', heS, -, hkeep⟩ := X.same.2.2.2.2.2 T.aS cellS0 hcS0
  have hcellS : W.heap[T.aS]? = some cellS := hcS'
  have hout' : ∀ i, (⟨T.aS, i⟩ : Loc) ∉ locs := fun i hmem => by
    have := hlocs _ hmem cellS0 hcS0
    rw [hiss] at this; cases this
  have hknownS : cellS.vm ≠ .unknown := by
    rw [heS]; intro hu
    rw [show cellS0.vm = .unknown from hu] at hiss
    cases hiss
  have hneS : T.aS ≠ a := Nat.ne_of_lt (Nat.lt_of_lt_of_le (Array.getElem?_eq_some_iff.mp hcS0).1 hnew)
  obtain ⟨iM, hffM⟩ := Y.msg
  obtain ⟨tyC, dC, hdC, hdnC⟩ := Cond.laysAt hfound hk Y.cause (a' (.lays cls Bundle.tN "cause" "Ljava/lang/Throwable;") (by simp [Bundle.ownAtoms0]))
  obtain ⟨tyS, dS, hdS, hdnS⟩ := Cond.laysAt hfound hk Y.stack (a' (.lays cls Bundle.tN "stackTrace" Bundle.steD) (by simp [Bundle.ownAtoms0]))
  obtain ⟨tyP, dP, hdP, hdnP⟩ := Cond.laysAt hfound hk Y.supp (a' (.lays cls Bundle.tN "suppressedExceptions" Bundle.listD) (by simp [Bundle.ownAtoms0]))
  obtain ⟨tyM, dM, hdM, hdnM⟩ := Cond.laysAt hfound hk hffM (a' (.lays cls Bundle.tN "detailMessage" "Ljava/lang/String;") (by simp [Bundle.ownAtoms0]))
  obtain ⟨tyB, dB, hdB, hdnB⟩ := Cond.laysAt hfound hk hffB (a' (.lays cls Bundle.tN "backtrace" "Ljava/lang/Object;") (by simp [Bundle.ownAtoms0]))
  have bC := Cond.laysApart hdB hdC hdnB hdnC (by rw [hnB, Y.causeName]; decide)
  have bS := Cond.laysApart hdB hdS hdnB hdnS (by rw [hnB, Y.stackName]; decide)
  have bP := Cond.laysApart hdB hdP hdnB hdnP (by rw [hnB, Y.suppName]; decide)
  have hskip : SkipFacts T e.platform s (fun u => u) u0 ((preparedCellV T.toThrowableT (freshCell P1.m.cls kX) a u0 sen).withEntry W.cur) :=
    ⟨{ ci198 := ci198, i198 := i198, fBack := fB }, ⟨hk198, hg198, ha198, hsB⟩, by
      have := fresh_default (c := P1.m.cls) tyB
      rw [htB] at this
      simpa [preparedCellV, Cell.setSlot, Cell.withEntry, Array.getElem?_setIfInBounds, bC, bS, bP, bC.symm, bS.symm, bP.symm, defaultValue] using this, fun _ _ => rfl⟩
  obtain ⟨tm, methC, cdC, kC, vm₁, hnC, -, -, -, -, -, -, -, hW₁, st1⟩ := Steps.initCold (tb := p.tables) (e := e) (below := below) (s := s) (U := W) X.here hexec X.warmed hpl hown (t := Bundle.init0 cls) rfl rfl (Bundle.fit_spec hcls).2
    (a' (.methodLink own ic (Bundle.init0 cls)) (by simp [Bundle.ownAtoms0])) (h (.instanceMethod (Bundle.init0 cls)) (by cases names <;> simp [Bundle.ownAtoms0, Bundle.chain0Atoms, Bundle.passAtoms])) (bytes := Bundle.five) (maxL := 1) (h (.code (Bundle.init0 cls) Bundle.five 1 none) (by cases names <;> simp [Bundle.ownAtoms0, Bundle.chain0Atoms, Bundle.passAtoms]))
    (f := g) hg (a := a) (rest := .ref a :: rest) hstack hd6
  cases Option.some.inj (hnC.symm.trans hP1m)
  have X₁ := X.noted hW₁
  obtain ⟨vm₂, X₂, st2⟩ := X₁.ctorPlainOffV hexec (g := { g with stack := .ref a :: rest }) hg hsize T L Z LZ (P1 :: Ps)
    (fun P hP => by rcases List.mem_cons.mp hP with rfl | hP; exact L1; exact hL P hP) ⟨hlink1, hlink⟩ (u0 := u0) (sen := sen) (self := a) (cell := freshCell P1.m.cls kX) (cellS := cellS)
    hcell (fun _ => by simp) (by simp) rfl rfl hsel0 hselF hcellS hneS hknownS (by rw [hkeep _ (hout' _)]; exact hu0) (by rw [hkeep _ (hout' _)]; exact hsen)
    (Takes.of_laid hk hord tyC (by rw [Y.causeType]; rfl)) (Takes.of_laid hk hord tyS (by rw [Y.stackType]; exact fits_refV_array _ u0)) (Takes.of_laid hk hord tyP (by rw [Y.suppType]; exact fits_refV_object _ sen)) Y.objLocals hskip htr [] hd6
    (by simp only [List.length_cons, hlen]; omega) (by simp only [List.length_cons, hlen]; exact hRlocals)
  have hlt : a < ((W.setVm vm₁).setVm vm₂).heap.size := (Array.getElem?_eq_some_iff.mp hcell).1
  refine ⟨(W.setVm vm₁).setVm vm₂, _, _, X₂, fun y hy => ?_, hlt, rfl, rfl, fun target hwalk => st1 _ (fun acts => ?_)⟩
  · simp only [List.mem_cons, List.not_mem_nil, or_false] at hy
    rcases hy with rfl | rfl | rfl | rfl <;> rfl
  · rw [doInvoke_state]
    exact st2 _ hwalk
end VXK
section VXK2
variable {p : Program} {l : Launch} {e : Env} {R : Room} {s : State} {m : MethodId} {args : Array Value} {below : List Frame} {meth : Method} {c : Code} {H : Heap} {locs : List Loc} {cells slots : Nat} {Q : State → Prop}
variable {ls : Array Slot} {rest : List Value} {D : va_G} {cl : List vw_C} {tys : List (ClassId × FieldType)} {ws : va_W}
/-- 'new E("text")' that isn't thrown at once: the object goes on the stack -/
theorem vx_makeS {cc : ByteArray} {pc : Nat} (hexec : p.tables.exec = Jvm.exec) (hb : c.code = cc) (hl : l.stackTraces = false) {own cls text : String} {names : List String} {ik is ic sa ci : Nat} {A : Nat → Prop} {T0 : u_T}
    (hown : s.vm.findClass own = some m.cls) (hcls : Bundle.fit cls = true) (hnames : ∀ n ∈ names, Bundle.fit n = true)
    (hk : (Cond.classLink own ik cls).before args s = true) (hini : (Cond.initialized cls).before args s = true) (hstr : vk_R own is text sa s) (hat : ∀ w ∈ vx_atS own ic cls names, w.before args s = true)
    (hgood : ∀ w ∈ Cond.classLink own ik cls :: Cond.initialized cls :: vx_atS own ic cls names, vx_ot w = true)
    (hU : vx_Zq Bundle.tN "UNASSIGNED_STACK" Bundle.steD A s s.heap) (hN : vx_Zq Bundle.tN "SUPPRESSED_SENTINEL" Bundle.listD A s s.heap) (hS : va_S A s.heap H locs) (hsize : ls.size = c.maxLocals)
    (d0 : decode cc pc = .ok (.new ik, 3)) (d3 : decode cc (pc + 3) = .ok (.dup, 1)) (d4 : decode cc (pc + 4) = .ok (.ldc is, 2)) (d6 : decode cc (pc + 6) = .ok (.invokespecial ic, 3))
    (hK : va_K D cl tys s) (hP : va_P D cl ws H) (hD : va_D A ws) (hA : ∀ q, s.heap.size ≤ q → A q) (hc : cl[ci]? = some (cls, T0, 0))
    (hRframes : names.length + 3 < R.frames) (hRlocals : (rest.map fun v => v.category).sum + (13 * (names.length + 1) + 43) ≤ R.locals) (hRcells : cells + 1 ≤ R.cells) (hRslots : slots + 6 ≤ R.slots)
    (kk : ∀ (q : Nat) (H1 : Heap), va_P D cl (ws ++ [(q, .inr (ci, []))]) H1 → va_D A (ws ++ [(q, .inr (ci, []))]) → va_S A s.heap H1 locs → W p l e R s m args below meth c H1 locs (cells + 1) (slots + 6) Q (F0 m (pc + 9) ls (.ref q :: rest))) :
    W p l e R s m args below meth c H locs cells slots Q (F0 m pc ls rest) := by
  intro T hT X
  subst hT
  have htr : e.platform.stackTraces = false := (show e.platform.stackTraces = l.stackTraces by rw [X.admits.platform]).trans hl
  have Y := vx_rebase X (R' := { frames := R.frames, locals := R.locals, cells := 1, slots := 6 }) (Nat.le_refl _) (Nat.le_refl _) hRcells hRslots
  obtain ⟨s', hA'⟩ : ∃ z, z = (T.setVm s.vm).setFrames (.invoking m args :: below) := ⟨_, rfl⟩
  rw [← hA'] at Y
  have hvm : s'.vm = s.vm := by rw [hA']; rfl
  have hhp : s'.heap = T.heap := by rw [hA']; rfl
  have hW0 : s.WarmedH s'.vm := by rw [hvm]; exact State.WarmedH.refl s
  have hat' : ∀ w ∈ vx_atS own ic cls names, w.before args s' = true := fun w hw => vx_ot_at hW0 hvm.symm (hgood w (List.mem_cons_of_mem _ (List.mem_cons_of_mem _ hw))) (hat w hw)
  have hk' : (Cond.classLink own ik cls).before args s' = true := vx_ot_at hW0 hvm.symm (hgood _ List.mem_cons_self) hk
  have hini' : (Cond.initialized cls).before args s' = true := vx_ot_at hW0 hvm.symm (hgood _ (List.mem_cons_of_mem _ List.mem_cons_self)) hini
  have hU' : vx_Zq Bundle.tN "UNASSIGNED_STACK" Bundle.steD A s' s'.heap := by rw [hhp]; exact vx_Zq.moved hW0.alike (hU.kept hS.2.1)
  have hN' : vx_Zq Bundle.tN "SUPPRESSED_SENTINEL" Bundle.listD A s' s'.heap := by rw [hhp]; exact vx_Zq.moved hW0.alike (hN.kept hS.2.1)
  have h : ∀ w ∈ Bundle.ownAtoms own ic cls names, w.before args s' = true := vx_own hat' (vx_isRefq hU'.1) (vx_isRefq hN'.1) hU'.2.word hN'.2.word
  have hown' : s'.vm.findClass own = some m.cls := by rw [hvm]; exact hown
  have hins : (Cond.instantiable cls 6).before args s' = true := h _ (by simp [Bundle.ownAtoms])
  obtain ⟨vm₁, cX, kX, hfX, hkX, -, -, X₁, st1⟩ := Y.newCold hexec (own := own) (C := cls) (index := ik) (n := 6) hown' hk' hins hini'
    (g := F0 m pc ls rest) rfl (by rw [hb]; exact d0) (Nat.le_refl _) (Nat.le_refl _)
  generalize hT1 : (T.setVm vm₁).pushCell { cls := cX, slots := kX.instanceTypes.map defaultValue, vm := .none } = T1 at X₁ st1
  have hcat : (Value.ref T.heap.size).category = 1 := rfl
  have hcellA : T1.heap[T.heap.size]? = some (freshCell cX kX) := by rw [← hT1]; exact State.heap_pushCell_size _ _
  have d3' : decode c.code (pc + 3) = .ok (.dup, 1) := by rw [hb]; exact d3
  have d4' : decode c.code (pc + 4) = .ok (.ldc is, 2) := by rw [hb]; exact d4
  have hstr' : vk_R own is text sa s' := vk_R.warm hW0 hstr
  obtain ⟨V, ce, L, Z, hL, hlt, hcl9, hvm9, st⟩ := vx_ctorMadeS X₁ hexec htr (own := own) (cls := cls) (names := names) (ic := ic) hown' hcls hnames h (fun x hx => nomatch hx) hfX hkX hcellA (by rw [hhp]; exact Nat.le_refl _) (msg := .ref sa) rfl
    (g := { method := m, pc := pc + 6, locals := ls, stack := .ref sa :: .ref T.heap.size :: .ref T.heap.size :: rest, locked := none }) rfl hsize (rest := rest) rfl
    (by rw [hb]; exact d6) hRframes (by simp only [List.map_cons, List.sum_cons, hcat]; omega)
  have Z0 := Stand.forget (locs := []) Z (fun y hy => by rw [hL y hy, hhp]; exact Nat.le_refl _)
  obtain ⟨f1, f2⟩ := vx_frame Z0.same
  rw [hhp] at f1 f2
  have hcid : ce.cls = D.1 ci := by
    rw [hcl9]
    have h1 := (hK.1 ci _ hc).2.1
    rw [hvm] at hfX
    exact Option.some.inj (hfX.symm.trans h1)
  have hh : (V.setCell T.heap.size ce).heap[T.heap.size]? = some ce := heapAt_setCell_self (s := V) ce hlt
  subst hA'
  have X5 := vx_back9 X Y Z0
  have X6 : Stand p l e R s m args below meth c (V.setCell T.heap.size ce) locs (cells + 1) (slots + 6) := { X5 with same := X5.same.mono (by omega) (by omega) }
  have hk9 : ∀ (k : Nat) (x : Nat × va_E), ws[k]? = some x → (V.setCell T.heap.size ce).heap[x.1]? = T.heap[x.1]? := fun k x hx => f2 x.1 ((hP k x hx).lt) (fun z hz => nomatch hz)
  obtain ⟨t, a1, b1⟩ := kk T.heap.size (V.setCell T.heap.size ce).heap ((hP.kept hk9).app (fun k x hx => by
      have hz : k < 1 := (List.getElem?_eq_some_iff.mp hx).1
      rw [show k = 0 by omega] at hx
      cases hx
      exact ⟨_, hc, ce, hh, hcid, hvm9, fun k hk => absurd hk (Nat.not_lt_zero k)⟩)) (hD.push hP rfl (hA _ hS.1)) ⟨Nat.le_trans hS.1 f1, fun q h1 h2 => (f2 q (Nat.lt_of_lt_of_le h1 hS.1) (fun z hz => nomatch hz)).trans (hS.2.1 q h1 h2), hS.2.2⟩ _ rfl X6
  refine ⟨t, st1 _ ?_, b1⟩
  show Steps p.tables e below (T1.setTop { method := m, pc := pc + 3, locals := ls, stack := .ref T.heap.size :: rest, locked := none }) _
  jvm_step X₁.here [X₁.here.top, hexec, d3', Value.category]
  exact X₁.ldcString hexec (own := own) (text := text) (index := is) (a := sa) hown' hstr'.1 hstr'.2
    (g := { method := m, pc := pc + 4, locals := ls, stack := .ref T.heap.size :: .ref T.heap.size :: rest, locked := none }) rfl d4' _ (st _ a1)
/-- 'new E()' that isn't thrown at once: the object goes on the stack -/
theorem vx_make0 {cc : ByteArray} {pc : Nat} (hexec : p.tables.exec = Jvm.exec) (hb : c.code = cc) (hl : l.stackTraces = false) {own cls : String} {names : List String} {ik ic ci : Nat} {A : Nat → Prop} {T0 : u_T}
    (hown : s.vm.findClass own = some m.cls) (hcls : Bundle.fit cls = true) (hnames : ∀ n ∈ names, Bundle.fit n = true)
    (hk : (Cond.classLink own ik cls).before args s = true) (hini : (Cond.initialized cls).before args s = true) (hat : ∀ w ∈ vx_at0 own ic cls names, w.before args s = true)
    (hgood : ∀ w ∈ Cond.classLink own ik cls :: Cond.initialized cls :: vx_at0 own ic cls names, vx_ot w = true)
    (hU : vx_Zq Bundle.tN "UNASSIGNED_STACK" Bundle.steD A s s.heap) (hN : vx_Zq Bundle.tN "SUPPRESSED_SENTINEL" Bundle.listD A s s.heap) (hS : va_S A s.heap H locs) (hsize : ls.size = c.maxLocals)
    (d0 : decode cc pc = .ok (.new ik, 3)) (d3 : decode cc (pc + 3) = .ok (.dup, 1)) (d4 : decode cc (pc + 4) = .ok (.invokespecial ic, 3))
    (hK : va_K D cl tys s) (hP : va_P D cl ws H) (hD : va_D A ws) (hA : ∀ q, s.heap.size ≤ q → A q) (hc : cl[ci]? = some (cls, T0, 0))
    (hRframes : names.length + 3 < R.frames) (hRlocals : (rest.map fun v => v.category).sum + (13 * (names.length + 1) + 42) ≤ R.locals) (hRcells : cells + 1 ≤ R.cells) (hRslots : slots + 6 ≤ R.slots)
    (kk : ∀ (q : Nat) (H1 : Heap), va_P D cl (ws ++ [(q, .inr (ci, []))]) H1 → va_D A (ws ++ [(q, .inr (ci, []))]) → va_S A s.heap H1 locs → W p l e R s m args below meth c H1 locs (cells + 1) (slots + 6) Q (F0 m (pc + 7) ls (.ref q :: rest))) :
    W p l e R s m args below meth c H locs cells slots Q (F0 m pc ls rest) := by
  intro T hT X
  subst hT
  have htr : e.platform.stackTraces = false := (show e.platform.stackTraces = l.stackTraces by rw [X.admits.platform]).trans hl
  have Y := vx_rebase X (R' := { frames := R.frames, locals := R.locals, cells := 1, slots := 6 }) (Nat.le_refl _) (Nat.le_refl _) hRcells hRslots
  obtain ⟨s', hA'⟩ : ∃ z, z = (T.setVm s.vm).setFrames (.invoking m args :: below) := ⟨_, rfl⟩
  rw [← hA'] at Y
  have hvm : s'.vm = s.vm := by rw [hA']; rfl
  have hhp : s'.heap = T.heap := by rw [hA']; rfl
  have hW0 : s.WarmedH s'.vm := by rw [hvm]; exact State.WarmedH.refl s
  have hat' : ∀ w ∈ vx_at0 own ic cls names, w.before args s' = true := fun w hw => vx_ot_at hW0 hvm.symm (hgood w (List.mem_cons_of_mem _ (List.mem_cons_of_mem _ hw))) (hat w hw)
  have hk' : (Cond.classLink own ik cls).before args s' = true := vx_ot_at hW0 hvm.symm (hgood _ List.mem_cons_self) hk
  have hini' : (Cond.initialized cls).before args s' = true := vx_ot_at hW0 hvm.symm (hgood _ (List.mem_cons_of_mem _ List.mem_cons_self)) hini
  have hU' : vx_Zq Bundle.tN "UNASSIGNED_STACK" Bundle.steD A s' s'.heap := by rw [hhp]; exact vx_Zq.moved hW0.alike (hU.kept hS.2.1)
  have hN' : vx_Zq Bundle.tN "SUPPRESSED_SENTINEL" Bundle.listD A s' s'.heap := by rw [hhp]; exact vx_Zq.moved hW0.alike (hN.kept hS.2.1)
  have h : ∀ w ∈ Bundle.ownAtoms0 own ic cls names, w.before args s' = true := vx_own hat' (vx_isRefq hU'.1) (vx_isRefq hN'.1) hU'.2.word hN'.2.word
  have hown' : s'.vm.findClass own = some m.cls := by rw [hvm]; exact hown
  have hins : (Cond.instantiable cls 6).before args s' = true := h _ (by simp [Bundle.ownAtoms0])
  obtain ⟨vm₁, cX, kX, hfX, hkX, -, -, X₁, st1⟩ := Y.newCold hexec (own := own) (C := cls) (index := ik) (n := 6) hown' hk' hins hini'
    (g := F0 m pc ls rest) rfl (by rw [hb]; exact d0) (Nat.le_refl _) (Nat.le_refl _)
  generalize hT1 : (T.setVm vm₁).pushCell { cls := cX, slots := kX.instanceTypes.map defaultValue, vm := .none } = T1 at X₁ st1
  have hcat : (Value.ref T.heap.size).category = 1 := rfl
  have hcellA : T1.heap[T.heap.size]? = some (freshCell cX kX) := by rw [← hT1]; exact State.heap_pushCell_size _ _
  have d3' : decode c.code (pc + 3) = .ok (.dup, 1) := by rw [hb]; exact d3
  obtain ⟨V, ce, L, Z, hL, hlt, hcl9, hvm9, st⟩ := vx_ctorMade0 X₁ hexec htr (own := own) (cls := cls) (names := names) (ic := ic) hown' hcls hnames h (fun x hx => nomatch hx) hfX hkX hcellA (by rw [hhp]; exact Nat.le_refl _)
    (g := { method := m, pc := pc + 4, locals := ls, stack := .ref T.heap.size :: .ref T.heap.size :: rest, locked := none }) rfl hsize (rest := rest) rfl
    (by rw [hb]; exact d4) hRframes (by simp only [List.map_cons, List.sum_cons, hcat]; omega)
  have Z0 := Stand.forget (locs := []) Z (fun y hy => by rw [hL y hy, hhp]; exact Nat.le_refl _)
  obtain ⟨f1, f2⟩ := vx_frame Z0.same
  rw [hhp] at f1 f2
  have hcid : ce.cls = D.1 ci := by
    rw [hcl9]
    have h1 := (hK.1 ci _ hc).2.1
    rw [hvm] at hfX
    exact Option.some.inj (hfX.symm.trans h1)
  have hh : (V.setCell T.heap.size ce).heap[T.heap.size]? = some ce := heapAt_setCell_self (s := V) ce hlt
  subst hA'
  have X5 := vx_back9 X Y Z0
  have X6 : Stand p l e R s m args below meth c (V.setCell T.heap.size ce) locs (cells + 1) (slots + 6) := { X5 with same := X5.same.mono (by omega) (by omega) }
  have hk9 : ∀ (k : Nat) (x : Nat × va_E), ws[k]? = some x → (V.setCell T.heap.size ce).heap[x.1]? = T.heap[x.1]? := fun k x hx => f2 x.1 ((hP k x hx).lt) (fun z hz => nomatch hz)
  obtain ⟨t, a1, b1⟩ := kk T.heap.size (V.setCell T.heap.size ce).heap ((hP.kept hk9).app (fun k x hx => by
      have hz : k < 1 := (List.getElem?_eq_some_iff.mp hx).1
      rw [show k = 0 by omega] at hx
      cases hx
      exact ⟨_, hc, ce, hh, hcid, hvm9, fun k hk => absurd hk (Nat.not_lt_zero k)⟩)) (hD.push hP rfl (hA _ hS.1)) ⟨Nat.le_trans hS.1 f1, fun q h1 h2 => (f2 q (Nat.lt_of_lt_of_le h1 hS.1) (fun z hz => nomatch hz)).trans (hS.2.1 q h1 h2), hS.2.2⟩ _ rfl X6
  refine ⟨t, st1 _ ?_, b1⟩
  show Steps p.tables e below (T1.setTop { method := m, pc := pc + 3, locals := ls, stack := .ref T.heap.size :: rest, locked := none }) _
  jvm_step X₁.here [X₁.here.top, hexec, d3', Value.category]
  exact st _ a1
/-- 'throw x' of an object that was made before -/
theorem vx_athrow {cc : ByteArray} {pc : Nat} (hexec : p.tables.exec = Jvm.exec) (hb : c.code = cc) {q : Addr} (hdg : decode cc pc = .ok (.athrow, 1)) (k : vx_W p l e R s m args below meth c H locs cells slots Q (F0 m pc ls rest) q) : W p l e R s m args below meth c H locs cells slots Q (F0 m pc ls (.ref q :: rest)) := by
  intro T hT X
  obtain ⟨t, st, hq⟩ := k T hT X
  refine ⟨t, ?_, hq⟩
  have hdg' : decode c.code pc = .ok (.athrow, 1) := by rw [hb]; exact hdg
  jvm_step X.here [X.here.top, hexec, hdg', athrow.wp_sem]
  exact st
end VXK2
/-! ===== END ===== -/
/-! ===== BEGIN a constructor that throws (launches without stack traces) ===== -/
section VXIA
variable {p : Program} {l : Launch} {e : Env} {R : Room} {s : State} {m : MethodId} {args : Array Value} {below : List Frame} {meth : Method} {c : Code} {T : State} {locs : List Loc} {cells slots : Nat}
theorem vx_callI (X : Stand p l e R s m args below meth c T locs cells slots) (hexec : p.tables.exec = Jvm.exec) {own : String} {index : Nat} {y : MethodName} {bytes : ByteArray} {maxL : Nat}
    (hown : s.vm.findClass own = some m.cls) (hy1 : y.name = "<init>") (hlink : (Cond.methodLink own index y).before args s = true) (hinst : (Cond.instanceMethod y).before args s = true)
    (hcode : (Cond.code y bytes maxL none).before args s = true) (hy : y.cls ≠ "java/lang/invoke/MethodHandle" ∧ y.cls ≠ "java/lang/invoke/VarHandle")
    {W9 : Nat} {Pre : Pt → Array Value → Prop} {Post : Pt → Array Value → Option Value → Pt → Prop} {PostX : Pt → Array Value → Addr → Pt → Prop} (hK : vx_Back l R p e below s args y 3 W9 Pre Post PostX)
    {g : JFrame} (hg : g.method = m) (hsize : g.locals.size = c.maxLocals) {a : Addr} {argsL rest : List Value} (hlen : ∀ sig, parseMethodDescriptor y.desc = some sig → argsL.length = sig.parameters.length)
    (hstack : g.stack = argsL.reverse ++ .ref a :: rest) (hW : 2 * g.monitorRoom + (rest.map fun v => v.category).sum ≤ W9) (hdg : decode c.code g.pc = .ok (.invokespecial index, 3))
    (hpre : ∀ vm₁, s.WarmedH vm₁ → Pre ⟨T.setVm vm₁, locs, cells, slots⟩ (Value.ref a :: argsL).toArray) :
    (∃ (v : Option Value) (vm₁ : Vm) (B : Pt), s.WarmedH vm₁ ∧ Stand p l e R s m args below meth c B.U B.locs B.cells B.slots ∧ Post ⟨T.setVm vm₁, locs, cells, slots⟩ (Value.ref a :: argsL).toArray v B ∧
      ∀ target, Steps p.tables e below (B.U.setTop { g with pc := g.pc + 3, stack := v.toList ++ rest }) target → Steps p.tables e below (T.setTop g) target) ∨
    (∃ (q : Addr) (vm₁ : Vm) (B : Pt), s.WarmedH vm₁ ∧ Stand p l e R s m args below meth c B.U B.locs B.cells B.slots ∧ PostX ⟨T.setVm vm₁, locs, cells, slots⟩ (Value.ref a :: argsL).toArray q B ∧
      Steps p.tables e below (T.setTop g) ((B.U.setTop { g with stack := rest }).pushFrame (.throwing q))) := by
  subst hg
  have hpl : e.platform.magicAccessors = ({} : Platform).magicAccessors := by rw [X.admits.platform]
  obtain ⟨mk, methM, cM, kP, vm₁, hnamed, hmethM, hcodeM, -, hlocalsM, -, hkP, -, hW₁, hstep₁⟩ := Steps.initColdArgs (e := e) X.here hexec X.warmed hpl hown hy1 hy hlink hinst hcode (f := g) rfl hlen hstack hdg
  have X₁ := X.noted hW₁
  rcases hK g.method meth c ⟨T.setVm vm₁, locs, cells, slots⟩ { g with stack := rest } (.invokespecial index) mk (Value.ref a :: argsL).toArray X₁ rfl hsize hdg hW (X₁.named hnamed) (hpre vm₁ X₁.warmed) with ⟨v, B, X', hpost, hsteps⟩ | ⟨q, B, X', hpost, hsteps⟩
  · exact Or.inl ⟨v, vm₁, B, X₁.warmed, X', hpost, fun target h => hstep₁ _ fun acts => by rw [doInvoke_state]; exact hsteps.trans h⟩
  · exact Or.inr ⟨q, vm₁, B, X₁.warmed, X', hpost, hstep₁ _ fun acts => by rw [doInvoke_state]; exact hsteps⟩
end VXIA
section VXIB
variable {p : Program} {l : Launch} {e : Env} {R : Room} {s : State} {m : MethodId} {args : Array Value} {below : List Frame} {meth : Method} {c : Code} {H : Heap} {locs : List Loc} {cells slots : Nat}
variable {y : MethodName} {bytes cc : ByteArray} {maxL nL mc ms n index : Nat} {ret : Option FieldType} {ws : List Cond} {rm : Room} {Pc : Array Value → State → Prop} {Qc : Array Value → State → Outcome → State → Prop} {XC : String → State → State → Prop} {free : Addr → Prop} {Ts : List Cond} {own C : String} {b : Addr} {As rest : List Value} {g : JFrame}
theorem vx_runI (S : CallFix p m c cc nL s args Ts own) (hM : vx_Met l y ws rm Pc Qc XC mc ms free) (cw : CallB R s args own index y bytes maxL none ws rm mc ms n ∧ y.name = "<init>" ∧ (Cond.instanceMethod y).before args s = true) (hp : PreS s H Pc (.ref b :: As))
    (hg : g.method = m) (hn : As.length = n) (hsize : g.locals.size = nL) (hstack : g.stack = As.reverse ++ .ref b :: rest) (hW : 2 * g.monitorRoom + (rest.map fun v => v.category).sum ≤ 8) (hdg : decode cc g.pc = .ok (.invokespecial index, 3)) (hf : cells + mc ≤ R.cells ∧ slots + ms ≤ R.slots) :
    vx_Run p l e R s m args below meth c H locs cells slots mc ms g rest (Qc (Value.ref b :: As).toArray) XC free := by
  have hK : vx_Back l R p e below s args y 3 8 (PreOf R mc ms Pc) (PostOf Qc mc ms free) (vx_Post XC mc ms free) := vx_callBack cw.1 hM hp.1
  obtain ⟨⟨-, -, -, -, -, -, hcode, -, hy, hlen, hl⟩, hy1, hin⟩ := cw
  obtain ⟨hx, hb, hml, ho, -⟩ := S
  have hPc := hp.2
  intro T hT X
  rcases vx_callI X hx (bytes := bytes) (maxL := maxL) ho hy1 hl hin hcode hy hK hg (hsize.trans hml.symm) (a := b) (argsL := As) (rest := rest) (fun sig h => hn.trans (hlen sig h)) hstack hW (by rw [hb]; exact hdg)
    (fun vm₁ hW₁ => ⟨hf.1, hf.2, hPc (T.setVm vm₁) hT hW₁⟩) with ⟨v, vm₁, ⟨U', l2, c2, s2⟩, hW₁, X', ⟨g', mk, t, L, e1, e2, hq, h1, hL, h2, h3⟩, st⟩ | ⟨q, vm₁, ⟨U', l2, c2, s2⟩, hW₁, X', ⟨g', mk, t, L, E, ce, e1, e2, hq, hce, hcv, hcl, h1, hL, h2, h3⟩, st⟩
  · dsimp only [Pt.U, Pt.locs, Pt.cells, Pt.slots] at X' e1 e2 h1 h2 h3 st
    subst h1; subst h2; subst h3
    exact Or.inl ⟨v, (T.setVm vm₁).calling g' mk (Value.ref b :: As).toArray, t, U', L, hT, X', hL, e1, e2, hq, st⟩
  · dsimp only [Pt.U, Pt.locs, Pt.cells, Pt.slots] at X' e1 e2 h1 h2 h3 st hcl
    subst h1; subst h2; subst h3
    exact Or.inr ⟨q, (T.setVm vm₁).calling g' mk (Value.ref b :: As).toArray, t, U', L, E, ce, hT, X', hL, e1, e2, hq, hce, hcv, vx_cls hW₁ hcl, st⟩
end VXIB
/-! ===== END ===== -/
/-! ===== BEGIN a private constructor of a nest mate that throws ===== -/
section VXIC
variable {p : Program} {l : Launch} {e : Env} {R : Room} {s : State} {m : MethodId} {args : Array Value} {below : List Frame} {meth : Method} {c : Code} {T : State} {locs : List Loc} {cells slots : Nat}
theorem vx_callIN (X : Stand p l e R s m args below meth c T locs cells slots) (hexec : p.tables.exec = Jvm.exec) {own : String} {index : Nat} {host : String} {y : MethodName} {bytes : ByteArray} {maxL : Nat}
    (hown : s.vm.findClass own = some m.cls) (hy1 : y.name = "<init>") (hlink : (Cond.methodLinkNest own index y host).before args s = true) (hinst : (Cond.instanceMethod y).before args s = true)
    (hcode : (Cond.code y bytes maxL none).before args s = true) (hy : y.cls ≠ "java/lang/invoke/MethodHandle" ∧ y.cls ≠ "java/lang/invoke/VarHandle")
    {W9 : Nat} {Pre : Pt → Array Value → Prop} {Post : Pt → Array Value → Option Value → Pt → Prop} {PostX : Pt → Array Value → Addr → Pt → Prop} (hK : vx_Back l R p e below s args y 3 W9 Pre Post PostX)
    {g : JFrame} (hg : g.method = m) (hsize : g.locals.size = c.maxLocals) {a : Addr} {argsL rest : List Value} (hlen : ∀ sig, parseMethodDescriptor y.desc = some sig → argsL.length = sig.parameters.length)
    (hstack : g.stack = argsL.reverse ++ .ref a :: rest) (hW : 2 * g.monitorRoom + (rest.map fun v => v.category).sum ≤ W9) (hdg : decode c.code g.pc = .ok (.invokespecial index, 3))
    (hpre : ∀ vm₁, s.WarmedH vm₁ → Pre ⟨T.setVm vm₁, locs, cells, slots⟩ (Value.ref a :: argsL).toArray) :
    (∃ (v : Option Value) (vm₁ : Vm) (B : Pt), s.WarmedH vm₁ ∧ Stand p l e R s m args below meth c B.U B.locs B.cells B.slots ∧ Post ⟨T.setVm vm₁, locs, cells, slots⟩ (Value.ref a :: argsL).toArray v B ∧
      ∀ target, Steps p.tables e below (B.U.setTop { g with pc := g.pc + 3, stack := v.toList ++ rest }) target → Steps p.tables e below (T.setTop g) target) ∨
    (∃ (q : Addr) (vm₁ : Vm) (B : Pt), s.WarmedH vm₁ ∧ Stand p l e R s m args below meth c B.U B.locs B.cells B.slots ∧ PostX ⟨T.setVm vm₁, locs, cells, slots⟩ (Value.ref a :: argsL).toArray q B ∧
      Steps p.tables e below (T.setTop g) ((B.U.setTop { g with stack := rest }).pushFrame (.throwing q))) := by
  subst hg
  have hpl : e.platform.magicAccessors = ({} : Platform).magicAccessors := by rw [X.admits.platform]
  obtain ⟨mk, methM, cM, kP, vm₁, hnamed, hmethM, hcodeM, -, hlocalsM, -, hkP, -, hW₁, hstep₁⟩ := Steps.initColdArgsNest (e := e) X.here hexec X.warmed hpl hown hy1 hy hlink hinst hcode (f := g) rfl hlen hstack hdg
  have X₁ := X.noted hW₁
  rcases hK g.method meth c ⟨T.setVm vm₁, locs, cells, slots⟩ { g with stack := rest } (.invokespecial index) mk (Value.ref a :: argsL).toArray X₁ rfl hsize hdg hW (X₁.named hnamed) (hpre vm₁ X₁.warmed) with ⟨v, B, X', hpost, hsteps⟩ | ⟨q, B, X', hpost, hsteps⟩
  · exact Or.inl ⟨v, vm₁, B, X₁.warmed, X', hpost, fun target h => hstep₁ _ fun acts => by rw [doInvoke_state]; exact hsteps.trans h⟩
  · exact Or.inr ⟨q, vm₁, B, X₁.warmed, X', hpost, hstep₁ _ fun acts => by rw [doInvoke_state]; exact hsteps⟩
end VXIC
section VXID
variable {p : Program} {l : Launch} {e : Env} {R : Room} {s : State} {m : MethodId} {args : Array Value} {below : List Frame} {meth : Method} {c : Code} {H : Heap} {locs : List Loc} {cells slots : Nat}
theorem vx_runIN {y : MethodName} {bytes cc : ByteArray} {maxL nL mc ms n index : Nat} {ws : List Cond} {rm : Room} {Pc : Array Value → State → Prop} {Qc : Array Value → State → Outcome → State → Prop} {XC : String → State → State → Prop} {free : Addr → Prop} {Ts : List Cond} {own host : String} {b : Addr} {As rest : List Value} {g : JFrame}
    (S : CallFix p m c cc nL s args Ts own) (hM : vx_Met l y ws rm Pc Qc XC mc ms free) (cw : va_CN R s args own index y host bytes maxL none ws rm mc ms n ∧ y.name = "<init>" ∧ (Cond.instanceMethod y).before args s = true) (hp : PreS s H Pc (.ref b :: As))
    (hg : g.method = m) (hn : As.length = n) (hsize : g.locals.size = nL) (hstack : g.stack = As.reverse ++ .ref b :: rest) (hW : 2 * g.monitorRoom + (rest.map fun v => v.category).sum ≤ 8) (hdg : decode cc g.pc = .ok (.invokespecial index, 3)) (hf : cells + mc ≤ R.cells ∧ slots + ms ≤ R.slots) :
    vx_Run p l e R s m args below meth c H locs cells slots mc ms g rest (Qc (Value.ref b :: As).toArray) XC free := by
  obtain ⟨⟨⟨hrc, hrs, hfr, hlo, hws, hcw⟩, hcode, hini, hy, hlen, hl⟩, hx1, hx2⟩ := cw
  have hK : vx_Back l R p e below s args y 3 8 (PreOf R mc ms Pc) (PostOf Qc mc ms free) (vx_Post XC mc ms free) := vx_back (bytes := bytes) (maxL := maxL) (ret := none) hM hp.1 hrc hrs hfr hlo hws hcw (fun a' U hW => word_at hW (Or.inl (by first | rfl | simp [Cond.onTables, Cond.keeps, Cond.steady])) hini)
  obtain ⟨hx, hb, hml, ho, -⟩ := S
  have hPc := hp.2
  intro T hT X
  rcases vx_callIN X hx (bytes := bytes) (maxL := maxL) ho hx1 hl hx2 hcode hy hK hg (hsize.trans hml.symm) (a := b) (argsL := As) (rest := rest) (fun sig h => hn.trans (hlen sig h)) hstack hW (by rw [hb]; exact hdg)
    (fun vm₁ hW₁ => ⟨hf.1, hf.2, hPc (T.setVm vm₁) hT hW₁⟩) with ⟨v, vm₁, ⟨U', l2, c2, s2⟩, hW₁, X', ⟨g', mk, t, L, e1, e2, hq, h1, hL, h2, h3⟩, st⟩ | ⟨q, vm₁, ⟨U', l2, c2, s2⟩, hW₁, X', ⟨g', mk, t, L, E, ce, e1, e2, hq, hce, hcv, hcl, h1, hL, h2, h3⟩, st⟩
  · dsimp only [Pt.U, Pt.locs, Pt.cells, Pt.slots] at X' e1 e2 h1 h2 h3 st
    subst h1; subst h2; subst h3
    exact Or.inl ⟨v, (T.setVm vm₁).calling g' mk (Value.ref b :: As).toArray, t, U', L, hT, X', hL, e1, e2, hq, st⟩
  · dsimp only [Pt.U, Pt.locs, Pt.cells, Pt.slots] at X' e1 e2 h1 h2 h3 st hcl
    subst h1; subst h2; subst h3
    exact Or.inr ⟨q, (T.setVm vm₁).calling g' mk (Value.ref b :: As).toArray, t, U', L, E, ce, hT, X', hL, e1, e2, hq, hce, hcv, vx_cls hW₁ hcl, st⟩
end VXID
/-! ===== END ===== -/
/-! ===== BEGIN a method of a class above, found by the receiver, that may throw (follows va_callVU, va_runU of this kit) ===== -/
section
variable {p : Program} {l : Launch} {e : Env} {R : Room} {s : State} {m : MethodId} {args : Array Value} {below : List Frame} {meth : Method} {c : Code} {H : Heap} {locs : List Loc} {cells slots : Nat}
theorem vx_callVU {T : State} {locs : List Loc} {cells slots : Nat} (X : Stand p l e R s m args below meth c T locs cells slots) (hexec : p.tables.exec = Jvm.exec) {own C owner : String} {index : Nat} {x y : MethodName} {bytes : ByteArray} {maxL : Nat} {ret : Option FieldType}
    (hown : s.vm.findClass own = some m.cls) (hlink : (Cond.methodLink own index x).before args s = true) (hsame : (Cond.sameMethod x.cls owner x.name x.desc).before args s = true)
    (hd0 : va_Decl s ⟨owner, x.name, x.desc⟩) (howner : owner ≠ "java/lang/invoke/MethodHandle" ∧ owner ≠ "java/lang/invoke/VarHandle")
    (hsel : (Cond.selects C x y).before args s = true) (hinst : (Cond.instanceMethod y).before args s = true) (hcode : (Cond.code y bytes maxL ret).before args s = true)
    {W : Nat} {Pre : Pt → Array Value → Prop} {Post : Pt → Array Value → Option Value → Pt → Prop} {PostX : Pt → Array Value → Addr → Pt → Prop} (hK : vx_Back l R p e below s args y 3 W Pre Post PostX)
    {b : Addr} {cellB : Cell} (hcell : T.heap[b]? = some cellB) (hobj : cellB.vm.isStatics = false) (hcls : s.vm.findClass C = some cellB.cls)
    {g : JFrame} (hg : g.method = m) (hsize : g.locals.size = c.maxLocals) {argsL rest : List Value} (hlen : ∀ sig, parseMethodDescriptor x.desc = some sig → argsL.length = sig.parameters.length)
    (hstack : g.stack = argsL.reverse ++ .ref b :: rest) (hW : 2 * g.monitorRoom + (rest.map fun v => v.category).sum ≤ W) (hdg : decode c.code g.pc = .ok (.invokevirtual index, 3))
    (hpre : ∀ vm₁, s.WarmedH vm₁ → Pre ⟨T.setVm vm₁, locs, cells, slots⟩ (Value.ref b :: argsL).toArray) :
    (∃ (v : Option Value) (vm₁ : Vm) (B : Pt), s.WarmedH vm₁ ∧ Stand p l e R s m args below meth c B.U B.locs B.cells B.slots ∧ Post ⟨T.setVm vm₁, locs, cells, slots⟩ (Value.ref b :: argsL).toArray v B ∧
      ∀ target, Steps p.tables e below (B.U.setTop { g with pc := g.pc + 3, stack := v.toList ++ rest }) target → Steps p.tables e below (T.setTop g) target) ∨
    (∃ (q : Addr) (vm₁ : Vm) (B : Pt), s.WarmedH vm₁ ∧ Stand p l e R s m args below meth c B.U B.locs B.cells B.slots ∧ PostX ⟨T.setVm vm₁, locs, cells, slots⟩ (Value.ref b :: argsL).toArray q B ∧
      Steps p.tables e below (T.setTop g) ((B.U.setTop { g with stack := rest }).pushFrame (.throwing q))) := by
  obtain ⟨r0, r, hn, hrm, hstR, hsigR⟩ := hd0
  obtain ⟨cn, ck, r1, hcn, hck, hni, hf, hn1⟩ := Cond.sameMethod_found hsame
  cases hn.symm.trans hn1
  obtain ⟨mk, methM, hnamed, hmethM, -, habM⟩ := Cond.instanceMethod_spec hinst
  obtain ⟨c2, r2, m2, q1, q2, q3, q4, kP, hkP, hkPi⟩ := Cond.selects_spec hsel
  cases hcls.symm.trans q1
  cases hf.symm.trans q2
  cases hnamed.symm.trans q3
  have hselP : selectMethod e.platform s.vm cellB.cls r0 = .method mk := by rw [Launch.admits_selectMethod X.admits]; exact q4
  obtain ⟨vm₁, X₁, hstep₁⟩ := X.invokevirtualUp hexec hown hlink hsame howner hn hrm hstR (a := b) (cell := cellB) hcell
    (fun z h => by rw [h] at hobj; cases hobj) hselP hmethM habM hkP hkPi (g := g) hg (argsL := argsL) (rest := rest) (hlen _ hsigR) hstack hdg
  rcases hK m meth c ⟨T.setVm vm₁, locs, cells, slots⟩ { g with stack := rest } (.invokevirtual index) mk (Value.ref b :: argsL).toArray X₁ hg hsize hdg hW (X₁.named hnamed) (hpre vm₁ X₁.warmed) with ⟨v, B, X', hpost, hsteps⟩ | ⟨q, B, X', hpost, hsteps⟩
  · exact Or.inl ⟨v, vm₁, B, X₁.warmed, X', hpost, fun target h => hstep₁ _ fun acts => by rw [doInvoke_state]; exact hsteps.trans h⟩
  · exact Or.inr ⟨q, vm₁, B, X₁.warmed, X', hpost, hstep₁ _ fun acts => by rw [doInvoke_state]; exact hsteps⟩
theorem vx_runU {x y : MethodName} {bytes cc : ByteArray} {maxL nL mc ms n index : Nat} {ret : Option FieldType} {ws : List Cond} {rm : Room} {Pc : Array Value → State → Prop} {Qc : Array Value → State → Outcome → State → Prop} {XC : String → State → State → Prop} {free : Addr → Prop} {Ts : List Cond} {own C owner : String} {b : Addr} {As rest : List Value} {g : JFrame}
    (S : CallFix p m c cc nL s args Ts own) (hM : vx_Met l y ws rm Pc Qc XC mc ms free) (cw : va_CU R s args own C owner index x y bytes maxL ret ws rm mc ms n) (hp : PreV s H C b Pc As)
    (hg : g.method = m) (hn : As.length = n) (hsize : g.locals.size = nL) (hstack : g.stack = As.reverse ++ .ref b :: rest) (hW : 2 * g.monitorRoom + (rest.map fun v => v.category).sum ≤ 8) (hdg : decode cc g.pc = .ok (.invokevirtual index, 3)) (hf : cells + mc ≤ R.cells ∧ slots + ms ≤ R.slots) :
    vx_Run p l e R s m args below meth c H locs cells slots mc ms g rest (Qc (Value.ref b :: As).toArray) XC free := by
  obtain ⟨hrc, hrs, hfr, hlo, hws, hcw⟩ := cw.back
  have hini := cw.init
  have hK : vx_Back l R p e below s args y 3 8 (PreOf R mc ms Pc) (PostOf Qc mc ms free) (vx_Post XC mc ms free) := vx_back (bytes := bytes) (maxL := maxL) (ret := ret) hM hp.1 hrc hrs hfr hlo hws hcw (fun a' U hW => word_at hW (Or.inl (by first | rfl | simp [Cond.onTables, Cond.keeps, Cond.steady])) hini)
  obtain ⟨hx, hb, hml, ho, -⟩ := S
  obtain ⟨-, ⟨cellB, hcB, hoB, hclB⟩, hPc⟩ := hp
  intro T hT X
  rcases vx_callVU X hx (C := C) (owner := owner) (bytes := bytes) (maxL := maxL) (ret := ret) ho cw.link cw.same cw.decl cw.notMH cw.sel cw.inst cw.code hK (by rw [hT]; exact hcB) hoB hclB hg (hsize.trans hml.symm) (argsL := As) (rest := rest) (fun sig h => hn.trans (cw.len sig h)) hstack hW (by rw [hb]; exact hdg)
    (fun vm₁ hW₁ => ⟨hf.1, hf.2, hPc (T.setVm vm₁) hT hW₁⟩) with ⟨v, vm₁, ⟨U', l2, c2, s2⟩, hW₁, X', ⟨g', mk, t, L, e1, e2, hq, h1, hL, h2, h3⟩, st⟩ | ⟨q, vm₁, ⟨U', l2, c2, s2⟩, hW₁, X', ⟨g', mk, t, L, E, ce, e1, e2, hq, hce, hcv, hcl, h1, hL, h2, h3⟩, st⟩
  · dsimp only [Pt.U, Pt.locs, Pt.cells, Pt.slots] at X' e1 e2 h1 h2 h3 st
    subst h1; subst h2; subst h3
    exact Or.inl ⟨v, (T.setVm vm₁).calling g' mk (Value.ref b :: As).toArray, t, U', L, hT, X', hL, e1, e2, hq, st⟩
  · dsimp only [Pt.U, Pt.locs, Pt.cells, Pt.slots] at X' e1 e2 h1 h2 h3 st hcl
    subst h1; subst h2; subst h3
    exact Or.inr ⟨q, (T.setVm vm₁).calling g' mk (Value.ref b :: As).toArray, t, U', L, E, ce, hT, X', hL, e1, e2, hq, hce, hcv, vx_cls hW₁ hcl, st⟩
end
/-! ===== END ===== -/
/-! ===== BEGIN super.m(..) that may throw (follows va_callSU, va_runSU) ===== -/
section
variable {p : Program} {l : Launch} {e : Env} {R : Room} {s : State} {m : MethodId} {args : Array Value} {below : List Frame} {meth : Method} {c : Code} {H : Heap} {locs : List Loc} {cells slots : Nat}
theorem vx_callSU {T : State} {locs : List Loc} {cells slots : Nat} (X : Stand p l e R s m args below meth c T locs cells slots) (hexec : p.tables.exec = Jvm.exec) {own : String} {index : Nat} {y : MethodName} {bytes : ByteArray} {maxL : Nat} {ret : Option FieldType}
    (hown : s.vm.findClass own = some m.cls) (hlink : (Cond.methodLink own index y).before args s = true) (hsame : (Cond.sameMethod y.cls y.cls y.name y.desc).before args s = true) (hsup : (Cond.superclass own y.cls).before args s = true)
    (hinst : (Cond.instanceMethod y).before args s = true) (hcode : (Cond.code y bytes maxL ret).before args s = true) (hno : y.name ≠ "<init>")
    {W : Nat} {Pre : Pt → Array Value → Prop} {Post : Pt → Array Value → Option Value → Pt → Prop} {PostX : Pt → Array Value → Addr → Pt → Prop} (hK : vx_Back l R p e below s args y 3 W Pre Post PostX)
    {b : Addr} {cellB : Cell} {kB : Class} (hcell : T.heap[b]? = some cellB) (hobj : cellB.vm.isStatics = false) (hkB : s.vm.classes[cellB.cls]? = some kB)
    {g : JFrame} (hg : g.method = m) (hsize : g.locals.size = c.maxLocals) {argsL rest : List Value} (hlen : ∀ sig, parseMethodDescriptor y.desc = some sig → argsL.length = sig.parameters.length)
    (hstack : g.stack = argsL.reverse ++ .ref b :: rest) (hW : 2 * g.monitorRoom + (rest.map fun v => v.category).sum ≤ W) (hdg : decode c.code g.pc = .ok (.invokespecial index, 3))
    (hpre : ∀ vm₁, s.WarmedH vm₁ → Pre ⟨T.setVm vm₁, locs, cells, slots⟩ (Value.ref b :: argsL).toArray) :
    (∃ (v : Option Value) (vm₁ : Vm) (B : Pt), s.WarmedH vm₁ ∧ Stand p l e R s m args below meth c B.U B.locs B.cells B.slots ∧ Post ⟨T.setVm vm₁, locs, cells, slots⟩ (Value.ref b :: argsL).toArray v B ∧
      ∀ target, Steps p.tables e below (B.U.setTop { g with pc := g.pc + 3, stack := v.toList ++ rest }) target → Steps p.tables e below (T.setTop g) target) ∨
    (∃ (q : Addr) (vm₁ : Vm) (B : Pt), s.WarmedH vm₁ ∧ Stand p l e R s m args below meth c B.U B.locs B.cells B.slots ∧ PostX ⟨T.setVm vm₁, locs, cells, slots⟩ (Value.ref b :: argsL).toArray q B ∧
      Steps p.tables e below (T.setTop g) ((B.U.setTop { g with stack := rest }).pushFrame (.throwing q))) := by
  obtain ⟨mk, methM, hnamed, hmethM, hstM, habM⟩ := Cond.instanceMethod_spec hinst
  obtain ⟨methM', cM, hmethM', -, -, -, -, -, -, hsigM⟩ := Cond.code_spec hnamed hcode
  cases hmethM.symm.trans hmethM'
  obtain ⟨ps, dk, kp, hps, hdk, hkp, hsuper, -, -, hnid⟩ := Cond.superclass_spec hown hsup
  have hn : s.methodNamed? ⟨y.cls, y.name, y.desc⟩ = some mk := hnamed
  have hpm : ps = mk.cls := Option.some.inj (hps.symm.trans (findClass_of_methodNamed hnamed))
  have hsub : s.vm.isSubclass ps mk.cls = true := by rw [hpm]; simp [Vm.isSubclass, Vm.isSubclassAux]
  obtain ⟨vm₁, X₁, hstep₁⟩ := X.invokespecialUp hexec hown hlink hsame hn hmethM hstM habM hno hdk hnid hps hsuper hsub (a := b) (cell := cellB) hcell
    (fun z h => by rw [h] at hobj; cases hobj) hkB (g := g) hg (argsL := argsL) (rest := rest) (hlen _ hsigM) hstack hdg
  rcases hK m meth c ⟨T.setVm vm₁, locs, cells, slots⟩ { g with stack := rest } (.invokespecial index) mk (Value.ref b :: argsL).toArray X₁ hg hsize hdg hW (X₁.named hnamed) (hpre vm₁ X₁.warmed) with ⟨v, B, X', hpost, hsteps⟩ | ⟨q, B, X', hpost, hsteps⟩
  · exact Or.inl ⟨v, vm₁, B, X₁.warmed, X', hpost, fun target h => hstep₁ _ (by rw [doInvoke_state]; exact hsteps.trans h)⟩
  · exact Or.inr ⟨q, vm₁, B, X₁.warmed, X', hpost, hstep₁ _ (by rw [doInvoke_state]; exact hsteps)⟩
theorem vx_runSU {y : MethodName} {bytes cc : ByteArray} {maxL nL mc ms n index : Nat} {ret : Option FieldType} {ws : List Cond} {rm : Room} {Pc : Array Value → State → Prop} {Qc : Array Value → State → Outcome → State → Prop} {XC : String → State → State → Prop} {free : Addr → Prop} {Ts : List Cond} {own C : String} {cC : ClassId} {b : Addr} {As rest : List Value} {g : JFrame}
    (hat : ClassAt s C cC) (S : CallFix p m c cc nL s args Ts own) (hM : vx_Met l y ws rm Pc Qc XC mc ms free) (cw : va_CS R s args own index y bytes maxL ret ws rm mc ms n) (hp : PreV s H C b Pc As)
    (hg : g.method = m) (hn : As.length = n) (hsize : g.locals.size = nL) (hstack : g.stack = As.reverse ++ .ref b :: rest) (hW : 2 * g.monitorRoom + (rest.map fun v => v.category).sum ≤ 8) (hdg : decode cc g.pc = .ok (.invokespecial index, 3)) (hf : cells + mc ≤ R.cells ∧ slots + ms ≤ R.slots) :
    vx_Run p l e R s m args below meth c H locs cells slots mc ms g rest (Qc (Value.ref b :: As).toArray) XC free := by
  obtain ⟨⟨hrc, hrs, hfr, hlo, hws, hcw⟩, hl1, hl2, hl3, hl4, hini, hcode, hno, hlen⟩ := cw
  have hK : vx_Back l R p e below s args y 3 8 (PreOf R mc ms Pc) (PostOf Qc mc ms free) (vx_Post XC mc ms free) := vx_back (bytes := bytes) (maxL := maxL) (ret := ret) hM hp.1 hrc hrs hfr hlo hws hcw (fun a' U hW => word_at hW (Or.inl (by first | rfl | simp [Cond.onTables, Cond.keeps, Cond.steady])) hini)
  obtain ⟨hx, hb, hml, ho, -⟩ := S
  obtain ⟨-, ⟨cellB, hcB, hoB, hclB⟩, hPc⟩ := hp
  obtain ⟨hfc, kB, hkB, -⟩ := hat
  cases hfc.symm.trans hclB
  intro T hT X
  rcases vx_callSU X hx (bytes := bytes) (maxL := maxL) (ret := ret) ho hl1 hl2 hl3 hl4 hcode hno hK (by rw [hT]; exact hcB) hoB hkB hg (hsize.trans hml.symm) (argsL := As) (rest := rest) (fun sig h => hn.trans (hlen sig h)) hstack hW (by rw [hb]; exact hdg)
    (fun vm₁ hW₁ => ⟨hf.1, hf.2, hPc (T.setVm vm₁) hT hW₁⟩) with ⟨v, vm₁, ⟨U', l2, c2, s2⟩, hW₁, X', ⟨g', mk, t, L, e1, e2, hq, h1, hL, h2, h3⟩, st⟩ | ⟨q, vm₁, ⟨U', l2, c2, s2⟩, hW₁, X', ⟨g', mk, t, L, E, ce, e1, e2, hq, hce, hcv, hcl, h1, hL, h2, h3⟩, st⟩
  · dsimp only [Pt.U, Pt.locs, Pt.cells, Pt.slots] at X' e1 e2 h1 h2 h3 st
    subst h1; subst h2; subst h3
    exact Or.inl ⟨v, (T.setVm vm₁).calling g' mk (Value.ref b :: As).toArray, t, U', L, hT, X', hL, e1, e2, hq, st⟩
  · dsimp only [Pt.U, Pt.locs, Pt.cells, Pt.slots] at X' e1 e2 h1 h2 h3 st hcl
    subst h1; subst h2; subst h3
    exact Or.inr ⟨q, (T.setVm vm₁).calling g' mk (Value.ref b :: As).toArray, t, U', L, E, ce, hT, X', hL, e1, e2, hq, hce, hcv, vx_cls hW₁ hcl, st⟩
end
/-! ===== END ===== -/
/-! ===== BEGIN a private method of a nest mate that may throw (follows va_callVN, va_callSN, va_runVN, va_runSN) ===== -/
section
variable {p : Program} {l : Launch} {e : Env} {R : Room} {s : State} {m : MethodId} {args : Array Value} {below : List Frame} {meth : Method} {c : Code} {H : Heap} {locs : List Loc} {cells slots : Nat}
variable {T : State}
theorem vx_callVN (X : Stand p l e R s m args below meth c T locs cells slots) (hexec : p.tables.exec = Jvm.exec) {own C : String} {index : Nat} {host : String} {y : MethodName} {bytes : ByteArray} {maxL : Nat} {ret : Option FieldType}
    (hown : s.vm.findClass own = some m.cls) (hlink : (Cond.methodLinkNest own index y host).before args s = true) (hinst : (Cond.instanceMethod y).before args s = true) (hsel : (Cond.selects C y y).before args s = true)
    (hcode : (Cond.code y bytes maxL ret).before args s = true) (hy : y.cls ≠ "java/lang/invoke/MethodHandle" ∧ y.cls ≠ "java/lang/invoke/VarHandle")
    {W : Nat} {Pre : Pt → Array Value → Prop} {Post : Pt → Array Value → Option Value → Pt → Prop} {PostX : Pt → Array Value → Addr → Pt → Prop} (hK : vx_Back l R p e below s args y 3 W Pre Post PostX)
    {b : Addr} {cellB : Cell} (hcell : T.heap[b]? = some cellB) (hobj : cellB.vm.isStatics = false) (hcls : s.vm.findClass C = some cellB.cls)
    {g : JFrame} (hg : g.method = m) (hsize : g.locals.size = c.maxLocals) {argsL rest : List Value} (hlen : ∀ sig, parseMethodDescriptor y.desc = some sig → argsL.length = sig.parameters.length)
    (hstack : g.stack = argsL.reverse ++ .ref b :: rest) (hW : 2 * g.monitorRoom + (rest.map fun v => v.category).sum ≤ W) (hdg : decode c.code g.pc = .ok (.invokevirtual index, 3))
    (hpre : ∀ vm₁, s.WarmedH vm₁ → Pre ⟨T.setVm vm₁, locs, cells, slots⟩ (Value.ref b :: argsL).toArray) :
    (∃ (v : Option Value) (vm₁ : Vm) (B : Pt), s.WarmedH vm₁ ∧ Stand p l e R s m args below meth c B.U B.locs B.cells B.slots ∧ Post ⟨T.setVm vm₁, locs, cells, slots⟩ (Value.ref b :: argsL).toArray v B ∧
      ∀ target, Steps p.tables e below (B.U.setTop { g with pc := g.pc + 3, stack := v.toList ++ rest }) target → Steps p.tables e below (T.setTop g) target) ∨
    (∃ (q : Addr) (vm₁ : Vm) (B : Pt), s.WarmedH vm₁ ∧ Stand p l e R s m args below meth c B.U B.locs B.cells B.slots ∧ PostX ⟨T.setVm vm₁, locs, cells, slots⟩ (Value.ref b :: argsL).toArray q B ∧
      Steps p.tables e below (T.setTop g) ((B.U.setTop { g with stack := rest }).pushFrame (.throwing q))) := by
  obtain ⟨mk, methM, hnamed, hmethM, hstM, habM⟩ := Cond.instanceMethod_spec hinst
  obtain ⟨methM', cM, hmethM', -, -, -, -, -, -, hsigM⟩ := Cond.code_spec hnamed hcode
  cases hmethM.symm.trans hmethM'
  obtain ⟨c2, r2, m2, q1, q2, q3, q4, kP, hkP, hkPi⟩ := Cond.selects_spec hsel
  cases hcls.symm.trans q1
  cases (State.methodFound?_of_named hnamed hy).symm.trans q2
  cases hnamed.symm.trans q3
  have hselP : selectMethod e.platform s.vm cellB.cls mk = .method mk := by rw [Launch.admits_selectMethod X.admits]; exact q4
  obtain ⟨vm₁, X₁, hstep₁⟩ := X.invokevirtualNest hexec hown hlink hnamed hmethM hstM hkP hkPi hy (a := b) (cell := cellB) hcell
    (fun z h => by rw [h] at hobj; cases hobj) hselP hmethM habM hkP hkPi (g := g) hg (argsL := argsL) (rest := rest) (hlen _ hsigM) hstack hdg
  rcases hK m meth c ⟨T.setVm vm₁, locs, cells, slots⟩ { g with stack := rest } (.invokevirtual index) mk (Value.ref b :: argsL).toArray X₁ hg hsize hdg hW (X₁.named hnamed) (hpre vm₁ X₁.warmed) with ⟨v, B, X', hpost, hsteps⟩ | ⟨q, B, X', hpost, hsteps⟩
  · exact Or.inl ⟨v, vm₁, B, X₁.warmed, X', hpost, fun target h => hstep₁ _ fun acts => by rw [doInvoke_state]; exact hsteps.trans h⟩
  · exact Or.inr ⟨q, vm₁, B, X₁.warmed, X', hpost, hstep₁ _ fun acts => by rw [doInvoke_state]; exact hsteps⟩
theorem vx_callSN (X : Stand p l e R s m args below meth c T locs cells slots) (hexec : p.tables.exec = Jvm.exec) {own : String} {index : Nat} {host : String} {y : MethodName} {bytes : ByteArray} {maxL : Nat} {ret : Option FieldType}
    (hown : s.vm.findClass own = some m.cls) (hlink : (Cond.methodLinkNest own index y host).before args s = true) (hstat : (Cond.static y).before args s = true) (hinit : (Cond.initialized y.cls).before args s = true)
    (hcode : (Cond.code y bytes maxL ret).before args s = true) (hy : y.cls ≠ "java/lang/invoke/MethodHandle" ∧ y.cls ≠ "java/lang/invoke/VarHandle")
    {W : Nat} {Pre : Pt → Array Value → Prop} {Post : Pt → Array Value → Option Value → Pt → Prop} {PostX : Pt → Array Value → Addr → Pt → Prop} (hK : vx_Back l R p e below s args y 3 W Pre Post PostX)
    {g : JFrame} (hg : g.method = m) (hsize : g.locals.size = c.maxLocals) {argsL rest : List Value} (hlen : ∀ sig, parseMethodDescriptor y.desc = some sig → argsL.length = sig.parameters.length)
    (hstack : g.stack = argsL.reverse ++ rest) (hW : 2 * g.monitorRoom + (rest.map fun v => v.category).sum ≤ W) (hdg : decode c.code g.pc = .ok (.invokestatic index, 3))
    (hpre : ∀ vm₁, s.WarmedH vm₁ → Pre ⟨T.setVm vm₁, locs, cells, slots⟩ argsL.toArray) :
    (∃ (v : Option Value) (vm₁ : Vm) (B : Pt), s.WarmedH vm₁ ∧ Stand p l e R s m args below meth c B.U B.locs B.cells B.slots ∧ Post ⟨T.setVm vm₁, locs, cells, slots⟩ argsL.toArray v B ∧
      ∀ target, Steps p.tables e below (B.U.setTop { g with pc := g.pc + 3, stack := v.toList ++ rest }) target → Steps p.tables e below (T.setTop g) target) ∨
    (∃ (q : Addr) (vm₁ : Vm) (B : Pt), s.WarmedH vm₁ ∧ Stand p l e R s m args below meth c B.U B.locs B.cells B.slots ∧ PostX ⟨T.setVm vm₁, locs, cells, slots⟩ argsL.toArray q B ∧
      Steps p.tables e below (T.setTop g) ((B.U.setTop { g with stack := rest }).pushFrame (.throwing q))) := by
  obtain ⟨mk, hnamed⟩ := Cond.code_named hcode
  obtain ⟨methM, cM, hmethM, -, -, -, -, -, -, hsigM⟩ := Cond.code_spec hnamed hcode
  have hstatic : methM.isStatic = true := Cond.static_spec hnamed hmethM hstat
  obtain ⟨kP, hkP, -⟩ := className_of_methodNamed hnamed
  have hinitP : kP.init = .initialized := Cond.initialized_spec (findClass_of_methodNamed hnamed) hkP hinit
  obtain ⟨vm₁, X₁, hstep₁⟩ := X.invokestaticNest hexec hown hlink hnamed hmethM hstatic hkP hinitP hy (g := g) hg (argsL := argsL) (rest := rest) (hlen _ hsigM) hstack hdg
  rcases hK m meth c ⟨T.setVm vm₁, locs, cells, slots⟩ { g with stack := rest } (.invokestatic index) mk argsL.toArray X₁ hg hsize hdg hW (X₁.named hnamed) (hpre vm₁ X₁.warmed) with ⟨v, B, X', hpost, hsteps⟩ | ⟨q, B, X', hpost, hsteps⟩
  · exact Or.inl ⟨v, vm₁, B, X₁.warmed, X', hpost, fun target h => hstep₁ _ fun acts => by rw [doInvoke_state]; exact hsteps.trans h⟩
  · exact Or.inr ⟨q, vm₁, B, X₁.warmed, X', hpost, hstep₁ _ fun acts => by rw [doInvoke_state]; exact hsteps⟩
theorem vx_runVN {y : MethodName} {bytes cc : ByteArray} {maxL nL mc ms n index : Nat} {ret : Option FieldType} {ws : List Cond} {rm : Room} {Pc : Array Value → State → Prop} {Qc : Array Value → State → Outcome → State → Prop} {XC : String → State → State → Prop} {free : Addr → Prop} {Ts : List Cond} {own C host : String} {b : Addr} {As rest : List Value} {g : JFrame}
    (S : CallFix p m c cc nL s args Ts own) (hM : vx_Met l y ws rm Pc Qc XC mc ms free) (cw : va_CN R s args own index y host bytes maxL ret ws rm mc ms n ∧ (Cond.instanceMethod y).before args s = true ∧ (Cond.selects C y y).before args s = true) (hp : PreV s H C b Pc As)
    (hg : g.method = m) (hn : As.length = n) (hsize : g.locals.size = nL) (hstack : g.stack = As.reverse ++ .ref b :: rest) (hW : 2 * g.monitorRoom + (rest.map fun v => v.category).sum ≤ 8) (hdg : decode cc g.pc = .ok (.invokevirtual index, 3)) (hf : cells + mc ≤ R.cells ∧ slots + ms ≤ R.slots) :
    vx_Run p l e R s m args below meth c H locs cells slots mc ms g rest (Qc (Value.ref b :: As).toArray) XC free := by
  obtain ⟨⟨⟨hrc, hrs, hfr, hlo, hws, hcw⟩, hcode, hini, hy, hlen, hl⟩, hx1, hx2⟩ := cw
  have hK : vx_Back l R p e below s args y 3 8 (PreOf R mc ms Pc) (PostOf Qc mc ms free) (vx_Post XC mc ms free) := vx_back (bytes := bytes) (maxL := maxL) (ret := ret) hM hp.1 hrc hrs hfr hlo hws hcw (fun a' U hW => word_at hW (Or.inl (by first | rfl | simp [Cond.onTables, Cond.keeps, Cond.steady])) hini)
  obtain ⟨hx, hb, hml, ho, -⟩ := S
  obtain ⟨-, ⟨cellB, hcB, hoB, hclB⟩, hPc⟩ := hp
  intro T hT X
  rcases vx_callVN X hx (C := C) (bytes := bytes) (maxL := maxL) (ret := ret) ho hl hx1 hx2 hcode hy hK (by rw [hT]; exact hcB) hoB hclB hg (hsize.trans hml.symm) (argsL := As) (rest := rest) (fun sig h => hn.trans (hlen sig h)) hstack hW (by rw [hb]; exact hdg)
    (fun vm₁ hW₁ => ⟨hf.1, hf.2, hPc (T.setVm vm₁) hT hW₁⟩) with ⟨v, vm₁, ⟨U', l2, c2, s2⟩, hW₁, X', ⟨g', mk, t, L, e1, e2, hq, h1, hL, h2, h3⟩, st⟩ | ⟨q, vm₁, ⟨U', l2, c2, s2⟩, hW₁, X', ⟨g', mk, t, L, E, ce, e1, e2, hq, hce, hcv, hcl, h1, hL, h2, h3⟩, st⟩
  · dsimp only [Pt.U, Pt.locs, Pt.cells, Pt.slots] at X' e1 e2 h1 h2 h3 st
    subst h1; subst h2; subst h3
    exact Or.inl ⟨v, (T.setVm vm₁).calling g' mk (Value.ref b :: As).toArray, t, U', L, hT, X', hL, e1, e2, hq, st⟩
  · dsimp only [Pt.U, Pt.locs, Pt.cells, Pt.slots] at X' e1 e2 h1 h2 h3 st hcl
    subst h1; subst h2; subst h3
    exact Or.inr ⟨q, (T.setVm vm₁).calling g' mk (Value.ref b :: As).toArray, t, U', L, E, ce, hT, X', hL, e1, e2, hq, hce, hcv, vx_cls hW₁ hcl, st⟩
theorem vx_runSN {y : MethodName} {bytes cc : ByteArray} {maxL nL mc ms n index : Nat} {ret : Option FieldType} {ws : List Cond} {rm : Room} {Pc : Array Value → State → Prop} {Qc : Array Value → State → Outcome → State → Prop} {XC : String → State → State → Prop} {free : Addr → Prop} {Ts : List Cond} {own host : String} {As rest : List Value} {g : JFrame}
    (S : CallFix p m c cc nL s args Ts own) (hM : vx_Met l y ws rm Pc Qc XC mc ms free) (cw : va_CN R s args own index y host bytes maxL ret ws rm mc ms n ∧ (Cond.static y).before args s = true ∧ True) (hp : PreS s H Pc As)
    (hg : g.method = m) (hn : As.length = n) (hsize : g.locals.size = nL) (hstack : g.stack = As.reverse ++ rest) (hW : 2 * g.monitorRoom + (rest.map fun v => v.category).sum ≤ 8) (hdg : decode cc g.pc = .ok (.invokestatic index, 3)) (hf : cells + mc ≤ R.cells ∧ slots + ms ≤ R.slots) :
    vx_Run p l e R s m args below meth c H locs cells slots mc ms g rest (Qc As.toArray) XC free := by
  obtain ⟨⟨⟨hrc, hrs, hfr, hlo, hws, hcw⟩, hcode, hini, hy, hlen, hl⟩, hx1, hx2⟩ := cw
  have hK : vx_Back l R p e below s args y 3 8 (PreOf R mc ms Pc) (PostOf Qc mc ms free) (vx_Post XC mc ms free) := vx_back (bytes := bytes) (maxL := maxL) (ret := ret) hM hp.1 hrc hrs hfr hlo hws hcw (fun a' U hW => word_at hW (Or.inl (by first | rfl | simp [Cond.onTables, Cond.keeps, Cond.steady])) hini)
  obtain ⟨hx, hb, hml, ho, -⟩ := S
  have hPc := hp.2
  intro T hT X
  rcases vx_callSN X hx (bytes := bytes) (maxL := maxL) (ret := ret) ho hl hx1 hini hcode hy hK hg (hsize.trans hml.symm) (argsL := As) (rest := rest) (fun sig h => hn.trans (hlen sig h)) hstack hW (by rw [hb]; exact hdg)
    (fun vm₁ hW₁ => ⟨hf.1, hf.2, hPc (T.setVm vm₁) hT hW₁⟩) with ⟨v, vm₁, ⟨U', l2, c2, s2⟩, hW₁, X', ⟨g', mk, t, L, e1, e2, hq, h1, hL, h2, h3⟩, st⟩ | ⟨q, vm₁, ⟨U', l2, c2, s2⟩, hW₁, X', ⟨g', mk, t, L, E, ce, e1, e2, hq, hce, hcv, hcl, h1, hL, h2, h3⟩, st⟩
  · dsimp only [Pt.U, Pt.locs, Pt.cells, Pt.slots] at X' e1 e2 h1 h2 h3 st
    subst h1; subst h2; subst h3
    exact Or.inl ⟨v, (T.setVm vm₁).calling g' mk As.toArray, t, U', L, hT, X', hL, e1, e2, hq, st⟩
  · dsimp only [Pt.U, Pt.locs, Pt.cells, Pt.slots] at X' e1 e2 h1 h2 h3 st hcl
    subst h1; subst h2; subst h3
    exact Or.inr ⟨q, (T.setVm vm₁).calling g' mk As.toArray, t, U', L, E, ce, hT, X', hL, e1, e2, hq, hce, hcv, vx_cls hW₁ hcl, st⟩
end
/-! ===== END ===== -/
/-! ===== BEGIN calls by an interface of methods that may throw (vx_callIF, vx_runF follow va_callIF, va_runF of this kit) ===== -/
section
variable {p : Program} {l : Launch} {e : Env} {R : Room} {s : State} {m : MethodId} {args : Array Value} {below : List Frame} {meth : Method} {c : Code} {H : Heap} {locs : List Loc} {cells slots : Nat} {Q : State → Prop}
variable {mc ms : Nat} {free : Addr → Prop} {A0 A1 : Nat → Prop} {H0 : Heap} {a : Array Value} {pc : Nat} {ls : Array Slot} {st0 rest : List Value}
def vx_Run5 (p : Program) (l : Launch) (e : Env) (R : Room) (s : State) (m : MethodId) (args : Array Value) (below : List Frame) (meth : Method) (c : Code) (H : Heap) (locs : List Loc) (cells slots mc ms : Nat) (g : JFrame) (rest : List Value) (Qa : State → Outcome → State → Prop) (XC : String → State → State → Prop) (free : Addr → Prop) : Prop :=
  ∀ T : State, T.heap = H → Stand p l e R s m args below meth c T locs cells slots →
    (∃ (v : Option Value) (st₀ t T' : State) (L : List Loc), st₀.heap = H ∧ Stand p l e R s m args below meth c T' (locs ++ L) (cells + mc) (slots + ms) ∧ (∀ q ∈ L, free q.base) ∧ T'.heap = t.heap ∧ T'.vm = t.vm ∧ Qa st₀ (.returned v) t ∧
      Goes p e below T g T' { g with pc := g.pc + 5, stack := v.toList ++ rest }) ∨
    (∃ (q : Addr) (st₀ t T' : State) (L : List Loc) (E : String) (ce : Cell), st₀.heap = H ∧ Stand p l e R s m args below meth c T' (locs ++ L) (cells + mc) (slots + ms) ∧ (∀ z ∈ L, free z.base) ∧ T'.heap = t.heap ∧ T'.vm = t.vm ∧ XC E st₀ t ∧ t.heap[q]? = some ce ∧ ce.vm = .none ∧ s.vm.findClass E = some ce.cls ∧
      Steps p.tables e below (T.setTop g) ((T'.setTop { g with stack := rest }).pushFrame (.throwing q)))
theorem vx_callIF {T : State} (X : Stand p l e R s m args below meth c T locs cells slots) (hexec : p.tables.exec = Jvm.exec) {own C : String} {index count : Nat} {x y : MethodName} {bytes : ByteArray} {maxL : Nat} {ret : Option FieldType}
    (hown : s.vm.findClass own = some m.cls) (hlink : (Cond.methodLink own index x).before args s = true) (hdecl : (Cond.declares x).before args s = true) (hface : (Cond.interfaceMethod x.cls x.cls x.name x.desc).before args s = true)
    (hsel : (Cond.selects C x y).before args s = true) (hinst : (Cond.instanceMethod y).before args s = true) (hpub : (Cond.publicMethod y).before args s = true) (hunh : (Cond.unhidden C x.name x.desc).before args s = true)
    (hcast : (Cond.castable C x.cls).before args s = true) (hcode : (Cond.code y bytes maxL ret).before args s = true) (hx : x.cls ≠ "java/lang/invoke/MethodHandle" ∧ x.cls ≠ "java/lang/invoke/VarHandle")
    {W9 : Nat} {Pre : Pt → Array Value → Prop} {Post : Pt → Array Value → Option Value → Pt → Prop} {PostX : Pt → Array Value → Addr → Pt → Prop} (hK : vx_Back l R p e below s args y 5 W9 Pre Post PostX)
    {b : Addr} {cellB : Cell} {kB : Class} (hcell : T.heap[b]? = some cellB) (hobj : cellB.vm.isStatics = false) (hcls : s.vm.findClass C = some cellB.cls) (hkB : s.vm.classes[cellB.cls]? = some kB)
    {g : JFrame} (hg : g.method = m) (hsize : g.locals.size = c.maxLocals) {argsL rest : List Value} (hlen : ∀ sig, parseMethodDescriptor x.desc = some sig → argsL.length = sig.parameters.length)
    (hstack : g.stack = argsL.reverse ++ .ref b :: rest) (hW : 2 * g.monitorRoom + (rest.map fun v => v.category).sum ≤ W9) (hdg : decode c.code g.pc = .ok (.invokeinterface index count, 5))
    (hpre : ∀ vm₁, s.WarmedH vm₁ → Pre ⟨T.setVm vm₁, locs, cells, slots⟩ (Value.ref b :: argsL).toArray) :
    (∃ (v : Option Value) (vm₁ : Vm) (B : Pt), s.WarmedH vm₁ ∧ Stand p l e R s m args below meth c B.U B.locs B.cells B.slots ∧ Post ⟨T.setVm vm₁, locs, cells, slots⟩ (Value.ref b :: argsL).toArray v B ∧
      ∀ target, Steps p.tables e below (B.U.setTop { g with pc := g.pc + 5, stack := v.toList ++ rest }) target → Steps p.tables e below (T.setTop g) target) ∨
    (∃ (q : Addr) (vm₁ : Vm) (B : Pt), s.WarmedH vm₁ ∧ Stand p l e R s m args below meth c B.U B.locs B.cells B.slots ∧ PostX ⟨T.setVm vm₁, locs, cells, slots⟩ (Value.ref b :: argsL).toArray q B ∧
      Steps p.tables e below (T.setTop g) ((B.U.setTop { g with stack := rest }).pushFrame (.throwing q))) := by
  obtain ⟨r0, r, hn, hrm, hstR, hsigR⟩ := Cond.declares_spec hdecl
  obtain ⟨cL, kL, r1, hcL, hkL, hiL, hfoundL, hn1⟩ := Cond.interfaceMethod_spec hface
  cases hn.symm.trans hn1
  have hr0cls : r0.cls = cL := Option.some.inj ((findClass_of_methodNamed hn).symm.trans hcL)
  obtain ⟨hnameR, hdescR⟩ := name_of_methodNamed hn hrm
  obtain ⟨mk, methM, hnamed, hmethM, -, habM⟩ := Cond.instanceMethod_spec hinst
  obtain ⟨c2, r2, m2, q1, q2, q3, q4, -⟩ := Cond.selects_spec hsel
  cases hcls.symm.trans q1
  cases hfoundL.symm.trans q2
  cases hnamed.symm.trans q3
  have hselP : selectMethod e.platform s.vm cellB.cls r0 = .method mk := by rw [Launch.admits_selectMethod X.admits]; exact q4
  have hpubM : hasFlag methM.accessFlags Acc.public_ = true := Cond.publicMethod_spec hnamed hmethM hpub
  have hway : ((cellB.cls :: s.vm.superclasses cellB.cls).any fun k => (declaredIn s.vm r.name r.desc k).any fun (_, z) => z.isPrivate || z.isStatic) = false := by
    rw [hnameR, hdescR]; exact Cond.unhidden_spec hcls hunh
  obtain ⟨c3, t3, w1, w2, w3⟩ := Cond.castable_spec hcast
  cases hcls.symm.trans w1
  cases hcL.symm.trans w2
  obtain ⟨vm₁, X₁, hstep₁⟩ := X.invokeinterface hexec hown hlink hn hrm hstR (by rw [hr0cls]; exact hkL) hiL hx (a := b) (cell := cellB) (kcell := kB) hcell
    (fun z h => by rw [h] at hobj; cases hobj) hkB (by rw [hr0cls]; exact w3) hselP hmethM hway hpubM habM (g := g) hg (argsL := argsL) (rest := rest) (hlen _ hsigR) hstack hdg
  rcases hK m meth c ⟨T.setVm vm₁, locs, cells, slots⟩ { g with stack := rest } (.invokeinterface index count) mk (Value.ref b :: argsL).toArray X₁ hg hsize hdg hW (X₁.named hnamed) (hpre vm₁ X₁.warmed) with ⟨v, B, X', hpost, hsteps⟩ | ⟨q, B, X', hpost, hsteps⟩
  · exact Or.inl ⟨v, vm₁, B, X₁.warmed, X', hpost, fun target h => hstep₁ _ fun acts => by rw [doInvoke_state]; exact hsteps.trans h⟩
  · exact Or.inr ⟨q, vm₁, B, X₁.warmed, X', hpost, hstep₁ _ fun acts => by rw [doInvoke_state]; exact hsteps⟩
theorem vx_runF {x y : MethodName} {bytes cc : ByteArray} {maxL nL mc ms n index count : Nat} {ret : Option FieldType} {ws : List Cond} {rm : Room} {Pc : Array Value → State → Prop} {Qc : Array Value → State → Outcome → State → Prop} {XC : String → State → State → Prop} {free : Addr → Prop} {Ts : List Cond} {own C : String} {cC : ClassId} {b : Addr} {As rest : List Value} {g : JFrame}
    (hat : ClassAt s C cC) (S : CallFix p m c cc nL s args Ts own) (hM : vx_Met l y ws rm Pc Qc XC mc ms free) (cw : va_CI R s args own C index x y bytes maxL ret ws rm mc ms n) (hp : PreV s H C b Pc As)
    (hg : g.method = m) (hn : As.length = n) (hsize : g.locals.size = nL) (hstack : g.stack = As.reverse ++ .ref b :: rest) (hW : 2 * g.monitorRoom + (rest.map fun v => v.category).sum ≤ 8) (hdg : decode cc g.pc = .ok (.invokeinterface index count, 5)) (hf : cells + mc ≤ R.cells ∧ slots + ms ≤ R.slots) :
    vx_Run5 p l e R s m args below meth c H locs cells slots mc ms g rest (Qc (Value.ref b :: As).toArray) XC free := by
  obtain ⟨hrc, hrs, hfr, hlo, hws, hcw⟩ := cw.back
  have hini := cw.init
  have hK : vx_Back l R p e below s args y 5 8 (PreOf R mc ms Pc) (PostOf Qc mc ms free) (vx_Post XC mc ms free) := vx_back (bytes := bytes) (maxL := maxL) (ret := ret) hM hp.1 hrc hrs hfr hlo hws hcw (fun a' U hW => word_at hW (Or.inl (by first | rfl | simp [Cond.onTables, Cond.keeps, Cond.steady])) hini)
  obtain ⟨hx, hb, hml, ho, -⟩ := S
  obtain ⟨-, ⟨cellB, hcB, hoB, hclB⟩, hPc⟩ := hp
  obtain ⟨hfc, kB, hkB, -⟩ := hat
  cases hfc.symm.trans hclB
  intro T hT X
  rcases vx_callIF X hx (C := C) (bytes := bytes) (maxL := maxL) (ret := ret) ho cw.link cw.decl cw.face cw.sel cw.inst cw.pub cw.unh cw.cast cw.code cw.notMH hK (by rw [hT]; exact hcB) hoB hclB hkB hg (hsize.trans hml.symm) (argsL := As) (rest := rest) (fun sig h => hn.trans (cw.len sig h)) hstack hW (by rw [hb]; exact hdg)
    (fun vm₁ hW₁ => ⟨hf.1, hf.2, hPc (T.setVm vm₁) hT hW₁⟩) with ⟨v, vm₁, ⟨U', l2, c2, s2⟩, hW₁, X', ⟨g', mk, t, L, e1, e2, hq, h1, hL, h2, h3⟩, st⟩ | ⟨q, vm₁, ⟨U', l2, c2, s2⟩, hW₁, X', ⟨g', mk, t, L, E, ce, e1, e2, hq, hce, hcv, hcl, h1, hL, h2, h3⟩, st⟩
  · dsimp only [Pt.U, Pt.locs, Pt.cells, Pt.slots] at X' e1 e2 h1 h2 h3 st
    subst h1; subst h2; subst h3
    exact Or.inl ⟨v, (T.setVm vm₁).calling g' mk (Value.ref b :: As).toArray, t, U', L, hT, X', hL, e1, e2, hq, st⟩
  · dsimp only [Pt.U, Pt.locs, Pt.cells, Pt.slots] at X' e1 e2 h1 h2 h3 st hcl
    subst h1; subst h2; subst h3
    exact Or.inr ⟨q, (T.setVm vm₁).calling g' mk (Value.ref b :: As).toArray, t, U', L, E, ce, hT, X', hL, e1, e2, hq, hce, hcv, vx_cls hW₁ hcl, st⟩
theorem vx_callFv {S SX : Type} {post : S → Prop} {px : SX → Prop} {B : S → State → Prop} {BX : String → SX → State → Prop} {AX : Nat → Prop} (hr : vx_Run5 p l e R s m args below meth c H locs cells slots mc ms (F0 m pc ls st0) rest (va_Qv post B A1 a) (vx_X px BX AX) free) (hS : va_S A0 H0 H locs) (hA : ∀ q, q < H.size → A1 q → A0 q) (hf : ∀ q, free q → A0 q) (hAX : ∀ q, q < H.size → AX q → A0 q)
    (kx : ∀ (E : String) (ce : Cell) (q9 : Addr) (u : SX) (t : State) (H1 : Heap) (locs1 : List Loc), t.heap = H1 → s.vm.Alike t.vm → px u → BX E u t → H.size ≤ H1.size → (∀ q : Nat, q < H.size → ¬ AX q → H1[q]? = H[q]?) → va_S A0 H0 H1 locs1 → H1[q9]? = some ce → ce.vm = .none → s.vm.findClass E = some ce.cls → vx_W p l e R s m args below meth c H1 locs1 (cells + mc) (slots + ms) Q (F0 m pc ls rest) q9)
    (kk : ∀ (u : S) (t : State) (H1 : Heap) (locs1 : List Loc), t.heap = H1 → s.vm.Alike t.vm → post u → B u t → H.size ≤ H1.size → (∀ q : Nat, q < H.size → ¬ A1 q → H1[q]? = H[q]?) → va_S A0 H0 H1 locs1 → W p l e R s m args below meth c H1 locs1 (cells + mc) (slots + ms) Q (F0 m (pc + 5) ls (rest))) : W p l e R s m args below meth c H locs cells slots Q (F0 m pc ls st0) := by
  intro T hT X
  rcases hr T hT X with ⟨v, st₀, t, T', L, h0, X', hL, e1, e2, ⟨⟨u, hv, hp, hb⟩, hF⟩, st⟩ | ⟨q, st₀, t, T', L, E, ce, h0, X', hL, e1, e2, ⟨u, hp, hb, hF⟩, hce, hcv, hcl, st⟩
  · cases hv
    obtain ⟨k1, k2, k3⟩ := vx_keep h0 e1 hS hA hf hL hF
    obtain ⟨t2, a1, b1⟩ := kk u t T'.heap (locs ++ L) e1.symm (by rw [← e2]; exact X'.warmed.alike) hp hb k1 k2 k3 T' rfl X'
    exact ⟨t2, st t2 a1, b1⟩
  · obtain ⟨k1, k2, k3⟩ := vx_keep h0 e1 hS hAX hf hL hF
    obtain ⟨t2, a1, b1⟩ := kx E ce q u t T'.heap (locs ++ L) e1.symm (by rw [← e2]; exact X'.warmed.alike) hp hb k1 k2 k3 (by rw [e1]; exact hce) hcv hcl T' rfl X'
    exact ⟨t2, st.trans a1, b1⟩
theorem vx_callFi {S SX : Type} {post : Int32 → S → Prop} {px : SX → Prop} {B : S → State → Prop} {BX : String → SX → State → Prop} {AX : Nat → Prop} (hr : vx_Run5 p l e R s m args below meth c H locs cells slots mc ms (F0 m pc ls st0) rest (va_Qi post B A1 a) (vx_X px BX AX) free) (hS : va_S A0 H0 H locs) (hA : ∀ q, q < H.size → A1 q → A0 q) (hf : ∀ q, free q → A0 q) (hAX : ∀ q, q < H.size → AX q → A0 q)
    (kx : ∀ (E : String) (ce : Cell) (q9 : Addr) (u : SX) (t : State) (H1 : Heap) (locs1 : List Loc), t.heap = H1 → s.vm.Alike t.vm → px u → BX E u t → H.size ≤ H1.size → (∀ q : Nat, q < H.size → ¬ AX q → H1[q]? = H[q]?) → va_S A0 H0 H1 locs1 → H1[q9]? = some ce → ce.vm = .none → s.vm.findClass E = some ce.cls → vx_W p l e R s m args below meth c H1 locs1 (cells + mc) (slots + ms) Q (F0 m pc ls rest) q9)
    (kk : ∀ (r : Int32) (u : S) (t : State) (H1 : Heap) (locs1 : List Loc), t.heap = H1 → s.vm.Alike t.vm → post r u → B u t → H.size ≤ H1.size → (∀ q : Nat, q < H.size → ¬ A1 q → H1[q]? = H[q]?) → va_S A0 H0 H1 locs1 → W p l e R s m args below meth c H1 locs1 (cells + mc) (slots + ms) Q (F0 m (pc + 5) ls (.int r :: rest))) : W p l e R s m args below meth c H locs cells slots Q (F0 m pc ls st0) := by
  intro T hT X
  rcases hr T hT X with ⟨v, st₀, t, T', L, h0, X', hL, e1, e2, ⟨⟨r, u, hv, hp, hb⟩, hF⟩, st⟩ | ⟨q, st₀, t, T', L, E, ce, h0, X', hL, e1, e2, ⟨u, hp, hb, hF⟩, hce, hcv, hcl, st⟩
  · cases hv
    obtain ⟨k1, k2, k3⟩ := vx_keep h0 e1 hS hA hf hL hF
    obtain ⟨t2, a1, b1⟩ := kk r u t T'.heap (locs ++ L) e1.symm (by rw [← e2]; exact X'.warmed.alike) hp hb k1 k2 k3 T' rfl X'
    exact ⟨t2, st t2 a1, b1⟩
  · obtain ⟨k1, k2, k3⟩ := vx_keep h0 e1 hS hAX hf hL hF
    obtain ⟨t2, a1, b1⟩ := kx E ce q u t T'.heap (locs ++ L) e1.symm (by rw [← e2]; exact X'.warmed.alike) hp hb k1 k2 k3 (by rw [e1]; exact hce) hcv hcl T' rfl X'
    exact ⟨t2, st.trans a1, b1⟩
theorem vx_callFl {S SX : Type} {post : Int64 → S → Prop} {px : SX → Prop} {B : S → State → Prop} {BX : String → SX → State → Prop} {AX : Nat → Prop} (hr : vx_Run5 p l e R s m args below meth c H locs cells slots mc ms (F0 m pc ls st0) rest (va_Ql post B A1 a) (vx_X px BX AX) free) (hS : va_S A0 H0 H locs) (hA : ∀ q, q < H.size → A1 q → A0 q) (hf : ∀ q, free q → A0 q) (hAX : ∀ q, q < H.size → AX q → A0 q)
    (kx : ∀ (E : String) (ce : Cell) (q9 : Addr) (u : SX) (t : State) (H1 : Heap) (locs1 : List Loc), t.heap = H1 → s.vm.Alike t.vm → px u → BX E u t → H.size ≤ H1.size → (∀ q : Nat, q < H.size → ¬ AX q → H1[q]? = H[q]?) → va_S A0 H0 H1 locs1 → H1[q9]? = some ce → ce.vm = .none → s.vm.findClass E = some ce.cls → vx_W p l e R s m args below meth c H1 locs1 (cells + mc) (slots + ms) Q (F0 m pc ls rest) q9)
    (kk : ∀ (r : Int64) (u : S) (t : State) (H1 : Heap) (locs1 : List Loc), t.heap = H1 → s.vm.Alike t.vm → post r u → B u t → H.size ≤ H1.size → (∀ q : Nat, q < H.size → ¬ A1 q → H1[q]? = H[q]?) → va_S A0 H0 H1 locs1 → W p l e R s m args below meth c H1 locs1 (cells + mc) (slots + ms) Q (F0 m (pc + 5) ls (.long r :: rest))) : W p l e R s m args below meth c H locs cells slots Q (F0 m pc ls st0) := by
  intro T hT X
  rcases hr T hT X with ⟨v, st₀, t, T', L, h0, X', hL, e1, e2, ⟨⟨r, u, hv, hp, hb⟩, hF⟩, st⟩ | ⟨q, st₀, t, T', L, E, ce, h0, X', hL, e1, e2, ⟨u, hp, hb, hF⟩, hce, hcv, hcl, st⟩
  · cases hv
    obtain ⟨k1, k2, k3⟩ := vx_keep h0 e1 hS hA hf hL hF
    obtain ⟨t2, a1, b1⟩ := kk r u t T'.heap (locs ++ L) e1.symm (by rw [← e2]; exact X'.warmed.alike) hp hb k1 k2 k3 T' rfl X'
    exact ⟨t2, st t2 a1, b1⟩
  · obtain ⟨k1, k2, k3⟩ := vx_keep h0 e1 hS hAX hf hL hF
    obtain ⟨t2, a1, b1⟩ := kx E ce q u t T'.heap (locs ++ L) e1.symm (by rw [← e2]; exact X'.warmed.alike) hp hb k1 k2 k3 (by rw [e1]; exact hce) hcv hcl T' rfl X'
    exact ⟨t2, st.trans a1, b1⟩
theorem vx_callFf {S SX : Type} {post : UInt32 → S → Prop} {px : SX → Prop} {B : S → State → Prop} {BX : String → SX → State → Prop} {AX : Nat → Prop} (hr : vx_Run5 p l e R s m args below meth c H locs cells slots mc ms (F0 m pc ls st0) rest (va_Qf post B A1 a) (vx_X px BX AX) free) (hS : va_S A0 H0 H locs) (hA : ∀ q, q < H.size → A1 q → A0 q) (hf : ∀ q, free q → A0 q) (hAX : ∀ q, q < H.size → AX q → A0 q)
    (kx : ∀ (E : String) (ce : Cell) (q9 : Addr) (u : SX) (t : State) (H1 : Heap) (locs1 : List Loc), t.heap = H1 → s.vm.Alike t.vm → px u → BX E u t → H.size ≤ H1.size → (∀ q : Nat, q < H.size → ¬ AX q → H1[q]? = H[q]?) → va_S A0 H0 H1 locs1 → H1[q9]? = some ce → ce.vm = .none → s.vm.findClass E = some ce.cls → vx_W p l e R s m args below meth c H1 locs1 (cells + mc) (slots + ms) Q (F0 m pc ls rest) q9)
    (kk : ∀ (r : UInt32) (u : S) (t : State) (H1 : Heap) (locs1 : List Loc), t.heap = H1 → s.vm.Alike t.vm → post r u → B u t → H.size ≤ H1.size → (∀ q : Nat, q < H.size → ¬ A1 q → H1[q]? = H[q]?) → va_S A0 H0 H1 locs1 → W p l e R s m args below meth c H1 locs1 (cells + mc) (slots + ms) Q (F0 m (pc + 5) ls (.float r :: rest))) : W p l e R s m args below meth c H locs cells slots Q (F0 m pc ls st0) := by
  intro T hT X
  rcases hr T hT X with ⟨v, st₀, t, T', L, h0, X', hL, e1, e2, ⟨⟨r, u, hv, hp, hb⟩, hF⟩, st⟩ | ⟨q, st₀, t, T', L, E, ce, h0, X', hL, e1, e2, ⟨u, hp, hb, hF⟩, hce, hcv, hcl, st⟩
  · cases hv
    obtain ⟨k1, k2, k3⟩ := vx_keep h0 e1 hS hA hf hL hF
    obtain ⟨t2, a1, b1⟩ := kk r u t T'.heap (locs ++ L) e1.symm (by rw [← e2]; exact X'.warmed.alike) hp hb k1 k2 k3 T' rfl X'
    exact ⟨t2, st t2 a1, b1⟩
  · obtain ⟨k1, k2, k3⟩ := vx_keep h0 e1 hS hAX hf hL hF
    obtain ⟨t2, a1, b1⟩ := kx E ce q u t T'.heap (locs ++ L) e1.symm (by rw [← e2]; exact X'.warmed.alike) hp hb k1 k2 k3 (by rw [e1]; exact hce) hcv hcl T' rfl X'
    exact ⟨t2, st.trans a1, b1⟩
theorem vx_callFd {S SX : Type} {post : UInt64 → S → Prop} {px : SX → Prop} {B : S → State → Prop} {BX : String → SX → State → Prop} {AX : Nat → Prop} (hr : vx_Run5 p l e R s m args below meth c H locs cells slots mc ms (F0 m pc ls st0) rest (va_Qd post B A1 a) (vx_X px BX AX) free) (hS : va_S A0 H0 H locs) (hA : ∀ q, q < H.size → A1 q → A0 q) (hf : ∀ q, free q → A0 q) (hAX : ∀ q, q < H.size → AX q → A0 q)
    (kx : ∀ (E : String) (ce : Cell) (q9 : Addr) (u : SX) (t : State) (H1 : Heap) (locs1 : List Loc), t.heap = H1 → s.vm.Alike t.vm → px u → BX E u t → H.size ≤ H1.size → (∀ q : Nat, q < H.size → ¬ AX q → H1[q]? = H[q]?) → va_S A0 H0 H1 locs1 → H1[q9]? = some ce → ce.vm = .none → s.vm.findClass E = some ce.cls → vx_W p l e R s m args below meth c H1 locs1 (cells + mc) (slots + ms) Q (F0 m pc ls rest) q9)
    (kk : ∀ (r : UInt64) (u : S) (t : State) (H1 : Heap) (locs1 : List Loc), t.heap = H1 → s.vm.Alike t.vm → post r u → B u t → H.size ≤ H1.size → (∀ q : Nat, q < H.size → ¬ A1 q → H1[q]? = H[q]?) → va_S A0 H0 H1 locs1 → W p l e R s m args below meth c H1 locs1 (cells + mc) (slots + ms) Q (F0 m (pc + 5) ls (.double r :: rest))) : W p l e R s m args below meth c H locs cells slots Q (F0 m pc ls st0) := by
  intro T hT X
  rcases hr T hT X with ⟨v, st₀, t, T', L, h0, X', hL, e1, e2, ⟨⟨r, u, hv, hp, hb⟩, hF⟩, st⟩ | ⟨q, st₀, t, T', L, E, ce, h0, X', hL, e1, e2, ⟨u, hp, hb, hF⟩, hce, hcv, hcl, st⟩
  · cases hv
    obtain ⟨k1, k2, k3⟩ := vx_keep h0 e1 hS hA hf hL hF
    obtain ⟨t2, a1, b1⟩ := kk r u t T'.heap (locs ++ L) e1.symm (by rw [← e2]; exact X'.warmed.alike) hp hb k1 k2 k3 T' rfl X'
    exact ⟨t2, st t2 a1, b1⟩
  · obtain ⟨k1, k2, k3⟩ := vx_keep h0 e1 hS hAX hf hL hF
    obtain ⟨t2, a1, b1⟩ := kx E ce q u t T'.heap (locs ++ L) e1.symm (by rw [← e2]; exact X'.warmed.alike) hp hb k1 k2 k3 (by rw [e1]; exact hce) hcv hcl T' rfl X'
    exact ⟨t2, st.trans a1, b1⟩
end
/-! ===== END ===== -/
/-! ===== BEGIN by an interface, a method with a table of its own that may throw (follows va_callIFW, va_runFW) ===== -/
section
variable {p : Program} {l : Launch} {e : Env} {R : Room} {s : State} {m : MethodId} {args : Array Value} {below : List Frame} {meth : Method} {c : Code} {H : Heap} {locs : List Loc} {cells slots : Nat}
theorem vx_callIFW {T : State} (X : Stand p l e R s m args below meth c T locs cells slots) (hexec : p.tables.exec = Jvm.exec) {own C : String} {index count : Nat} {x y : MethodName} {bytes : ByteArray} {maxL : Nat} {ret : Option FieldType} {hh : List (Nat × Nat × Nat × Nat)}
    (hown : s.vm.findClass own = some m.cls) (hlink : (Cond.methodLink own index x).before args s = true) (hdecl : (Cond.declares x).before args s = true) (hface : (Cond.interfaceMethod x.cls x.cls x.name x.desc).before args s = true)
    (hsel : (Cond.selects C x y).before args s = true) (hinst : (Cond.instanceMethod y).before args s = true) (hpub : (Cond.publicMethod y).before args s = true) (hunh : (Cond.unhidden C x.name x.desc).before args s = true)
    (hcast : (Cond.castable C x.cls).before args s = true) (hcode : (Cond.codeWith y bytes maxL ret hh).before args s = true) (hx : x.cls ≠ "java/lang/invoke/MethodHandle" ∧ x.cls ≠ "java/lang/invoke/VarHandle")
    {W : Nat} {Pre : Pt → Array Value → Prop} {Post : Pt → Array Value → Option Value → Pt → Prop} {PostX : Pt → Array Value → Addr → Pt → Prop} (hK : vx_Back l R p e below s args y 5 W Pre Post PostX)
    {b : Addr} {cellB : Cell} {kB : Class} (hcell : T.heap[b]? = some cellB) (hobj : cellB.vm.isStatics = false) (hcls : s.vm.findClass C = some cellB.cls) (hkB : s.vm.classes[cellB.cls]? = some kB)
    {g : JFrame} (hg : g.method = m) (hsize : g.locals.size = c.maxLocals) {argsL rest : List Value} (hlen : ∀ sig, parseMethodDescriptor x.desc = some sig → argsL.length = sig.parameters.length)
    (hstack : g.stack = argsL.reverse ++ .ref b :: rest) (hW : 2 * g.monitorRoom + (rest.map fun v => v.category).sum ≤ W) (hdg : decode c.code g.pc = .ok (.invokeinterface index count, 5))
    (hpre : ∀ vm₁, s.WarmedH vm₁ → Pre ⟨T.setVm vm₁, locs, cells, slots⟩ (Value.ref b :: argsL).toArray) :
    (∃ (v : Option Value) (vm₁ : Vm) (B : Pt), s.WarmedH vm₁ ∧ Stand p l e R s m args below meth c B.U B.locs B.cells B.slots ∧ Post ⟨T.setVm vm₁, locs, cells, slots⟩ (Value.ref b :: argsL).toArray v B ∧
      ∀ target, Steps p.tables e below (B.U.setTop { g with pc := g.pc + 5, stack := v.toList ++ rest }) target → Steps p.tables e below (T.setTop g) target) ∨
    (∃ (q : Addr) (vm₁ : Vm) (B : Pt), s.WarmedH vm₁ ∧ Stand p l e R s m args below meth c B.U B.locs B.cells B.slots ∧ PostX ⟨T.setVm vm₁, locs, cells, slots⟩ (Value.ref b :: argsL).toArray q B ∧
      Steps p.tables e below (T.setTop g) ((B.U.setTop { g with stack := rest }).pushFrame (.throwing q))) := by
  obtain ⟨r0, r, hn, hrm, hstR, hsigR⟩ := Cond.declares_spec hdecl
  obtain ⟨cL, kL, r1, hcL, hkL, hiL, hfoundL, hn1⟩ := Cond.interfaceMethod_spec hface
  cases hn.symm.trans hn1
  have hr0cls : r0.cls = cL := Option.some.inj ((findClass_of_methodNamed hn).symm.trans hcL)
  obtain ⟨hnameR, hdescR⟩ := name_of_methodNamed hn hrm
  obtain ⟨mk, methM, hnamed, hmethM, -, habM⟩ := Cond.instanceMethod_spec hinst
  obtain ⟨c2, r2, m2, q1, q2, q3, q4, -⟩ := Cond.selects_spec hsel
  cases hcls.symm.trans q1
  cases hfoundL.symm.trans q2
  cases hnamed.symm.trans q3
  have hselP : selectMethod e.platform s.vm cellB.cls r0 = .method mk := by rw [Launch.admits_selectMethod X.admits]; exact q4
  have hpubM : hasFlag methM.accessFlags Acc.public_ = true := Cond.publicMethod_spec hnamed hmethM hpub
  have hway : ((cellB.cls :: s.vm.superclasses cellB.cls).any fun k => (declaredIn s.vm r.name r.desc k).any fun (_, z) => z.isPrivate || z.isStatic) = false := by
    rw [hnameR, hdescR]; exact Cond.unhidden_spec hcls hunh
  obtain ⟨c3, t3, w1, w2, w3⟩ := Cond.castable_spec hcast
  cases hcls.symm.trans w1
  cases hcL.symm.trans w2
  obtain ⟨vm₁, X₁, hstep₁⟩ := X.invokeinterface hexec hown hlink hn hrm hstR (by rw [hr0cls]; exact hkL) hiL hx (a := b) (cell := cellB) (kcell := kB) hcell
    (fun z h => by rw [h] at hobj; cases hobj) hkB (by rw [hr0cls]; exact w3) hselP hmethM hway hpubM habM (g := g) hg (argsL := argsL) (rest := rest) (hlen _ hsigR) hstack hdg
  rcases hK m meth c ⟨T.setVm vm₁, locs, cells, slots⟩ { g with stack := rest } (.invokeinterface index count) mk (Value.ref b :: argsL).toArray X₁ hg hsize hdg hW (X₁.named hnamed) (hpre vm₁ X₁.warmed) with ⟨v, B, X', hpost, hsteps⟩ | ⟨q, B, X', hpost, hsteps⟩
  · exact Or.inl ⟨v, vm₁, B, X₁.warmed, X', hpost, fun target h => hstep₁ _ fun acts => by rw [doInvoke_state]; exact hsteps.trans h⟩
  · exact Or.inr ⟨q, vm₁, B, X₁.warmed, X', hpost, hstep₁ _ fun acts => by rw [doInvoke_state]; exact hsteps⟩
theorem vx_runFW {x y : MethodName} {bytes cc : ByteArray} {maxL nL mc ms n index count : Nat} {ret : Option FieldType} {hh : List (Nat × Nat × Nat × Nat)} {ws : List Cond} {rm : Room} {Pc : Array Value → State → Prop} {Qc : Array Value → State → Outcome → State → Prop} {XC : String → State → State → Prop} {free : Addr → Prop} {Ts : List Cond} {own C : String} {cC : ClassId} {b : Addr} {As rest : List Value} {g : JFrame}
    (hat : ClassAt s C cC) (S : CallFix p m c cc nL s args Ts own) (hM : vx_Met l y ws rm Pc Qc XC mc ms free) (cw : va_CIW R s args own C index x y bytes maxL ret hh ws rm mc ms n) (hp : PreV s H C b Pc As)
    (hg : g.method = m) (hn : As.length = n) (hsize : g.locals.size = nL) (hstack : g.stack = As.reverse ++ .ref b :: rest) (hW : 2 * g.monitorRoom + (rest.map fun v => v.category).sum ≤ 8) (hdg : decode cc g.pc = .ok (.invokeinterface index count, 5)) (hf : cells + mc ≤ R.cells ∧ slots + ms ≤ R.slots) :
    vx_Run5 p l e R s m args below meth c H locs cells slots mc ms g rest (Qc (Value.ref b :: As).toArray) XC free := by
  obtain ⟨hrc, hrs, hfr, hlo, hws, hcw⟩ := cw.back
  have hini := cw.init
  have hK : vx_Back l R p e below s args y 5 8 (PreOf R mc ms Pc) (PostOf Qc mc ms free) (vx_Post XC mc ms free) := vx_backW (hh := hh) (bytes := bytes) (maxL := maxL) (ret := ret) hM hp.1 hrc hrs hfr hlo hws hcw (fun a' U hW => word_at hW (Or.inl (by first | rfl | simp [Cond.onTables, Cond.keeps, Cond.steady])) hini)
  obtain ⟨hx, hb, hml, ho, -⟩ := S
  obtain ⟨-, ⟨cellB, hcB, hoB, hclB⟩, hPc⟩ := hp
  obtain ⟨hfc, kB, hkB, -⟩ := hat
  cases hfc.symm.trans hclB
  intro T hT X
  rcases vx_callIFW X hx (C := C) (hh := hh) (bytes := bytes) (maxL := maxL) (ret := ret) ho cw.link cw.decl cw.face cw.sel cw.inst cw.pub cw.unh cw.cast cw.code cw.notMH hK (by rw [hT]; exact hcB) hoB hclB hkB hg (hsize.trans hml.symm) (argsL := As) (rest := rest) (fun sig h => hn.trans (cw.len sig h)) hstack hW (by rw [hb]; exact hdg)
    (fun vm₁ hW₁ => ⟨hf.1, hf.2, hPc (T.setVm vm₁) hT hW₁⟩) with ⟨v, vm₁, ⟨U', l2, c2, s2⟩, hW₁, X', ⟨g', mk, t, L, e1, e2, hq, h1, hL, h2, h3⟩, st⟩ | ⟨q, vm₁, ⟨U', l2, c2, s2⟩, hW₁, X', ⟨g', mk, t, L, E, ce, e1, e2, hq, hce, hcv, hcl, h1, hL, h2, h3⟩, st⟩
  · dsimp only [Pt.U, Pt.locs, Pt.cells, Pt.slots] at X' e1 e2 h1 h2 h3 st
    subst h1; subst h2; subst h3
    exact Or.inl ⟨v, (T.setVm vm₁).calling g' mk (Value.ref b :: As).toArray, t, U', L, hT, X', hL, e1, e2, hq, st⟩
  · dsimp only [Pt.U, Pt.locs, Pt.cells, Pt.slots] at X' e1 e2 h1 h2 h3 st hcl
    subst h1; subst h2; subst h3
    exact Or.inr ⟨q, (T.setVm vm₁).calling g' mk (Value.ref b :: As).toArray, t, U', L, E, ce, hT, X', hL, e1, e2, hq, hce, hcv, vx_cls hW₁ hcl, st⟩
end
/-! ===== END ===== -/
/-! ===== BEGIN .. of methods that hand back an object of the pool ===== -/
section
variable {p : Program} {l : Launch} {e : Env} {R : Room} {s : State} {m : MethodId} {args : Array Value} {below : List Frame} {meth : Method} {c : Code} {H : Heap} {locs : List Loc} {cells slots : Nat} {Q : State → Prop}
variable {mc ms : Nat} {free : Addr → Prop} {A0 A1 : Nat → Prop} {H0 : Heap} {a : Array Value} {pc : Nat} {ls : Array Slot} {st0 rest : List Value}
theorem vx_callq {S SX : Type} {post : Option Nat → S → Prop} {px : SX → Prop} {B : S → State → Prop} {BX : String → SX → State → Prop} {AX : Nat → Prop} (hr : vx_Run p l e R s m args below meth c H locs cells slots mc ms (F0 m pc ls st0) rest (va_Qq post B A1 a) (vx_X px BX AX) free) (hS : va_S A0 H0 H locs) (hA : ∀ q, q < H.size → A1 q → A0 q) (hf : ∀ q, free q → A0 q) (hAX : ∀ q, q < H.size → AX q → A0 q)
    (kx : ∀ (E : String) (ce : Cell) (q9 : Addr) (u : SX) (t : State) (H1 : Heap) (locs1 : List Loc), t.heap = H1 → s.vm.Alike t.vm → px u → BX E u t → H.size ≤ H1.size → (∀ q : Nat, q < H.size → ¬ AX q → H1[q]? = H[q]?) → va_S A0 H0 H1 locs1 → H1[q9]? = some ce → ce.vm = .none → s.vm.findClass E = some ce.cls → vx_W p l e R s m args below meth c H1 locs1 (cells + mc) (slots + ms) Q (F0 m pc ls rest) q9)
    (kk : ∀ (r : Option Nat) (u : S) (t : State) (H1 : Heap) (locs1 : List Loc), t.heap = H1 → s.vm.Alike t.vm → post r u → B u t → H.size ≤ H1.size → (∀ q : Nat, q < H.size → ¬ A1 q → H1[q]? = H[q]?) → va_S A0 H0 H1 locs1 → W p l e R s m args below meth c H1 locs1 (cells + mc) (slots + ms) Q (F0 m (pc + 3) ls (va_rf r :: rest))) : W p l e R s m args below meth c H locs cells slots Q (F0 m pc ls st0) := by
  intro T hT X
  rcases hr T hT X with ⟨v, st₀, t, T', L, h0, X', hL, e1, e2, ⟨⟨r, u, hv, hp, hb⟩, hF⟩, st⟩ | ⟨q, st₀, t, T', L, E, ce, h0, X', hL, e1, e2, ⟨u, hp, hb, hF⟩, hce, hcv, hcl, st⟩
  · cases hv
    obtain ⟨k1, k2, k3⟩ := vx_keep h0 e1 hS hA hf hL hF
    obtain ⟨t2, a1, b1⟩ := kk r u t T'.heap (locs ++ L) e1.symm (by rw [← e2]; exact X'.warmed.alike) hp hb k1 k2 k3 T' rfl X'
    exact ⟨t2, st t2 a1, b1⟩
  · obtain ⟨k1, k2, k3⟩ := vx_keep h0 e1 hS hAX hf hL hF
    obtain ⟨t2, a1, b1⟩ := kx E ce q u t T'.heap (locs ++ L) e1.symm (by rw [← e2]; exact X'.warmed.alike) hp hb k1 k2 k3 (by rw [e1]; exact hce) hcv hcl T' rfl X'
    exact ⟨t2, st.trans a1, b1⟩
end
/-! ===== END ===== -/
/-! ===== BEGIN .. a constant ===== -/
section
variable {p : Program} {l : Launch} {e : Env} {R : Room} {s : State} {m : MethodId} {args : Array Value} {below : List Frame} {meth : Method} {c : Code} {H : Heap} {locs : List Loc} {cells slots : Nat} {Q : State → Prop}
variable {mc ms : Nat} {free : Addr → Prop} {A0 A1 : Nat → Prop} {H0 : Heap} {a : Array Value} {pc : Nat} {ls : Array Slot} {st0 rest : List Value}
theorem vx_calle {ad : Nat → Nat} {S SX : Type} {post : Option Nat → S → Prop} {px : SX → Prop} {B : S → State → Prop} {BX : String → SX → State → Prop} {AX : Nat → Prop} (hr : vx_Run p l e R s m args below meth c H locs cells slots mc ms (F0 m pc ls st0) rest (va_Qe ad post B A1 a) (vx_X px BX AX) free) (hS : va_S A0 H0 H locs) (hA : ∀ q, q < H.size → A1 q → A0 q) (hf : ∀ q, free q → A0 q) (hAX : ∀ q, q < H.size → AX q → A0 q)
    (kx : ∀ (E : String) (ce : Cell) (q9 : Addr) (u : SX) (t : State) (H1 : Heap) (locs1 : List Loc), t.heap = H1 → s.vm.Alike t.vm → px u → BX E u t → H.size ≤ H1.size → (∀ q : Nat, q < H.size → ¬ AX q → H1[q]? = H[q]?) → va_S A0 H0 H1 locs1 → H1[q9]? = some ce → ce.vm = .none → s.vm.findClass E = some ce.cls → vx_W p l e R s m args below meth c H1 locs1 (cells + mc) (slots + ms) Q (F0 m pc ls rest) q9)
    (kk : ∀ (r : Option Nat) (u : S) (t : State) (H1 : Heap) (locs1 : List Loc), t.heap = H1 → s.vm.Alike t.vm → post r u → B u t → H.size ≤ H1.size → (∀ q : Nat, q < H.size → ¬ A1 q → H1[q]? = H[q]?) → va_S A0 H0 H1 locs1 → W p l e R s m args below meth c H1 locs1 (cells + mc) (slots + ms) Q (F0 m (pc + 3) ls (va_re ad r :: rest))) : W p l e R s m args below meth c H locs cells slots Q (F0 m pc ls st0) := by
  intro T hT X
  rcases hr T hT X with ⟨v, st₀, t, T', L, h0, X', hL, e1, e2, ⟨⟨r, u, hv, hp, hb⟩, hF⟩, st⟩ | ⟨q, st₀, t, T', L, E, ce, h0, X', hL, e1, e2, ⟨u, hp, hb, hF⟩, hce, hcv, hcl, st⟩
  · cases hv
    obtain ⟨k1, k2, k3⟩ := vx_keep h0 e1 hS hA hf hL hF
    obtain ⟨t2, a1, b1⟩ := kk r u t T'.heap (locs ++ L) e1.symm (by rw [← e2]; exact X'.warmed.alike) hp hb k1 k2 k3 T' rfl X'
    exact ⟨t2, st t2 a1, b1⟩
  · obtain ⟨k1, k2, k3⟩ := vx_keep h0 e1 hS hAX hf hL hF
    obtain ⟨t2, a1, b1⟩ := kx E ce q u t T'.heap (locs ++ L) e1.symm (by rw [← e2]; exact X'.warmed.alike) hp hb k1 k2 k3 (by rw [e1]; exact hce) hcv hcl T' rfl X'
    exact ⟨t2, st.trans a1, b1⟩
end
/-! ===== END ===== -/
/-! ===== BEGIN .. by an interface, an object ===== -/
section
variable {p : Program} {l : Launch} {e : Env} {R : Room} {s : State} {m : MethodId} {args : Array Value} {below : List Frame} {meth : Method} {c : Code} {H : Heap} {locs : List Loc} {cells slots : Nat} {Q : State → Prop}
variable {mc ms : Nat} {free : Addr → Prop} {A0 A1 : Nat → Prop} {H0 : Heap} {a : Array Value} {pc : Nat} {ls : Array Slot} {st0 rest : List Value}
theorem vx_callFq {S SX : Type} {post : Option Nat → S → Prop} {px : SX → Prop} {B : S → State → Prop} {BX : String → SX → State → Prop} {AX : Nat → Prop} (hr : vx_Run5 p l e R s m args below meth c H locs cells slots mc ms (F0 m pc ls st0) rest (va_Qq post B A1 a) (vx_X px BX AX) free) (hS : va_S A0 H0 H locs) (hA : ∀ q, q < H.size → A1 q → A0 q) (hf : ∀ q, free q → A0 q) (hAX : ∀ q, q < H.size → AX q → A0 q)
    (kx : ∀ (E : String) (ce : Cell) (q9 : Addr) (u : SX) (t : State) (H1 : Heap) (locs1 : List Loc), t.heap = H1 → s.vm.Alike t.vm → px u → BX E u t → H.size ≤ H1.size → (∀ q : Nat, q < H.size → ¬ AX q → H1[q]? = H[q]?) → va_S A0 H0 H1 locs1 → H1[q9]? = some ce → ce.vm = .none → s.vm.findClass E = some ce.cls → vx_W p l e R s m args below meth c H1 locs1 (cells + mc) (slots + ms) Q (F0 m pc ls rest) q9)
    (kk : ∀ (r : Option Nat) (u : S) (t : State) (H1 : Heap) (locs1 : List Loc), t.heap = H1 → s.vm.Alike t.vm → post r u → B u t → H.size ≤ H1.size → (∀ q : Nat, q < H.size → ¬ A1 q → H1[q]? = H[q]?) → va_S A0 H0 H1 locs1 → W p l e R s m args below meth c H1 locs1 (cells + mc) (slots + ms) Q (F0 m (pc + 5) ls (va_rf r :: rest))) : W p l e R s m args below meth c H locs cells slots Q (F0 m pc ls st0) := by
  intro T hT X
  rcases hr T hT X with ⟨v, st₀, t, T', L, h0, X', hL, e1, e2, ⟨⟨r, u, hv, hp, hb⟩, hF⟩, st⟩ | ⟨q, st₀, t, T', L, E, ce, h0, X', hL, e1, e2, ⟨u, hp, hb, hF⟩, hce, hcv, hcl, st⟩
  · cases hv
    obtain ⟨k1, k2, k3⟩ := vx_keep h0 e1 hS hA hf hL hF
    obtain ⟨t2, a1, b1⟩ := kk r u t T'.heap (locs ++ L) e1.symm (by rw [← e2]; exact X'.warmed.alike) hp hb k1 k2 k3 T' rfl X'
    exact ⟨t2, st t2 a1, b1⟩
  · obtain ⟨k1, k2, k3⟩ := vx_keep h0 e1 hS hAX hf hL hF
    obtain ⟨t2, a1, b1⟩ := kx E ce q u t T'.heap (locs ++ L) e1.symm (by rw [← e2]; exact X'.warmed.alike) hp hb k1 k2 k3 (by rw [e1]; exact hce) hcv hcl T' rfl X'
    exact ⟨t2, st.trans a1, b1⟩
end
/-! ===== END ===== -/
/-! ===== BEGIN .. by an interface, a constant ===== -/
section
variable {p : Program} {l : Launch} {e : Env} {R : Room} {s : State} {m : MethodId} {args : Array Value} {below : List Frame} {meth : Method} {c : Code} {H : Heap} {locs : List Loc} {cells slots : Nat} {Q : State → Prop}
variable {mc ms : Nat} {free : Addr → Prop} {A0 A1 : Nat → Prop} {H0 : Heap} {a : Array Value} {pc : Nat} {ls : Array Slot} {st0 rest : List Value}
theorem vx_callFe {ad : Nat → Nat} {S SX : Type} {post : Option Nat → S → Prop} {px : SX → Prop} {B : S → State → Prop} {BX : String → SX → State → Prop} {AX : Nat → Prop} (hr : vx_Run5 p l e R s m args below meth c H locs cells slots mc ms (F0 m pc ls st0) rest (va_Qe ad post B A1 a) (vx_X px BX AX) free) (hS : va_S A0 H0 H locs) (hA : ∀ q, q < H.size → A1 q → A0 q) (hf : ∀ q, free q → A0 q) (hAX : ∀ q, q < H.size → AX q → A0 q)
    (kx : ∀ (E : String) (ce : Cell) (q9 : Addr) (u : SX) (t : State) (H1 : Heap) (locs1 : List Loc), t.heap = H1 → s.vm.Alike t.vm → px u → BX E u t → H.size ≤ H1.size → (∀ q : Nat, q < H.size → ¬ AX q → H1[q]? = H[q]?) → va_S A0 H0 H1 locs1 → H1[q9]? = some ce → ce.vm = .none → s.vm.findClass E = some ce.cls → vx_W p l e R s m args below meth c H1 locs1 (cells + mc) (slots + ms) Q (F0 m pc ls rest) q9)
    (kk : ∀ (r : Option Nat) (u : S) (t : State) (H1 : Heap) (locs1 : List Loc), t.heap = H1 → s.vm.Alike t.vm → post r u → B u t → H.size ≤ H1.size → (∀ q : Nat, q < H.size → ¬ A1 q → H1[q]? = H[q]?) → va_S A0 H0 H1 locs1 → W p l e R s m args below meth c H1 locs1 (cells + mc) (slots + ms) Q (F0 m (pc + 5) ls (va_re ad r :: rest))) : W p l e R s m args below meth c H locs cells slots Q (F0 m pc ls st0) := by
  intro T hT X
  rcases hr T hT X with ⟨v, st₀, t, T', L, h0, X', hL, e1, e2, ⟨⟨r, u, hv, hp, hb⟩, hF⟩, st⟩ | ⟨q, st₀, t, T', L, E, ce, h0, X', hL, e1, e2, ⟨u, hp, hb, hF⟩, hce, hcv, hcl, st⟩
  · cases hv
    obtain ⟨k1, k2, k3⟩ := vx_keep h0 e1 hS hA hf hL hF
    obtain ⟨t2, a1, b1⟩ := kk r u t T'.heap (locs ++ L) e1.symm (by rw [← e2]; exact X'.warmed.alike) hp hb k1 k2 k3 T' rfl X'
    exact ⟨t2, st t2 a1, b1⟩
  · obtain ⟨k1, k2, k3⟩ := vx_keep h0 e1 hS hAX hf hL hF
    obtain ⟨t2, a1, b1⟩ := kx E ce q u t T'.heap (locs ++ L) e1.symm (by rw [← e2]; exact X'.warmed.alike) hp hb k1 k2 k3 (by rw [e1]; exact hce) hcv hcl T' rfl X'
    exact ⟨t2, st.trans a1, b1⟩
end
/-! ===== END ===== -/
/-! ===== BEGIN what the machine throws by itself: null at a field, at athrow ===== -/
section VXM2
variable {p : Program} {l : Launch} {e : Env} {R : Room} {s : State} {m : MethodId} {args : Array Value} {below : List Frame} {meth : Method} {c : Code} {H : Heap} {locs : List Loc} {cells slots : Nat}
variable {Q : State → Prop} {cc : ByteArray} {pc : Nat} {ls : Array Slot} {rest : List Value}
theorem vx_getfN {D cl tys} {own ref C : String} {T : u_T} {N ci index : Nat} {Ts : List Cond} (hexec : p.tables.exec = Jvm.exec) (hb : c.code = cc) (hts : ∀ w ∈ Ts, w.before args s = true) (hin : ∀ w ∈ u_ws C T N, w ∈ Ts) (hown : s.vm.findClass own = some m.cls) (hK : va_K D cl tys s) (hc : cl[ci]? = some (C, T, N)) (k : Nat) (hk : k < N) (hlink : (Cond.fieldLink own index ref (T k).2.1 (T k).2.2.1).before args s = true) (hsame : ∀ x, s.fieldFound? (T k).1 (T k).2.1 (T k).2.2.1 = some x → s.fieldFound? ref (T k).2.1 (T k).2.2.1 = some x) (hdg : decode cc pc = .ok (.getfield index, 3)) (kk : vx_NoteN p l e R s m args below meth c H locs cells slots Q (F0 m pc ls rest)) : W p l e R s m args below meth c H locs cells slots Q (F0 m pc ls (.null :: rest)) := by
  obtain ⟨hS, hfc, kC, hkC, -⟩ := hK.1 ci _ hc
  obtain ⟨cf, kf, fi, f, hi, -⟩ := hS k hk
  intro U hU X
  obtain ⟨vm', X1, st1⟩ := X.getfieldNull hexec hown hlink (hsame _ hi) (u_facts hfc hkC (u_lays hts hin hk) hi).1 (g := F0 m pc ls (.null :: rest)) rfl (rest := rest) rfl (by rw [hb]; exact hdg)
  obtain ⟨t, st, q⟩ := kk (U.setVm vm') hU X1
  exact ⟨t, st1 t st, q⟩
theorem vx_getfNN {D cl tys} {own ref C host : String} {T : u_T} {N ci index : Nat} {Ts : List Cond} (hexec : p.tables.exec = Jvm.exec) (hb : c.code = cc) (hts : ∀ w ∈ Ts, w.before args s = true) (hin : ∀ w ∈ u_ws C T N, w ∈ Ts) (hown : s.vm.findClass own = some m.cls) (hK : va_K D cl tys s) (hc : cl[ci]? = some (C, T, N)) (k : Nat) (hk : k < N) (hlink : (Cond.fieldLinkNest own index ref (T k).2.1 (T k).2.2.1 host).before args s = true) (hsame : ∀ x, s.fieldFound? (T k).1 (T k).2.1 (T k).2.2.1 = some x → s.fieldFound? ref (T k).2.1 (T k).2.2.1 = some x) (hdg : decode cc pc = .ok (.getfield index, 3)) (kk : vx_NoteN p l e R s m args below meth c H locs cells slots Q (F0 m pc ls rest)) : W p l e R s m args below meth c H locs cells slots Q (F0 m pc ls (.null :: rest)) := by
  obtain ⟨hS, hfc, kC, hkC, -⟩ := hK.1 ci _ hc
  obtain ⟨cf, kf, fi, f, hi, -⟩ := hS k hk
  intro U hU X
  obtain ⟨vm', X1, st1⟩ := X.getfieldNullNest hexec hown hlink (hsame _ hi) (u_facts hfc hkC (u_lays hts hin hk) hi).1 (g := F0 m pc ls (.null :: rest)) rfl (rest := rest) rfl (by rw [hb]; exact hdg)
  obtain ⟨t, st, q⟩ := kk (U.setVm vm') hU X1
  exact ⟨t, st1 t st, q⟩
theorem vx_putfN {D cl tys} {own ref C : String} {T : u_T} {N ci index : Nat} {Ts : List Cond} (hexec : p.tables.exec = Jvm.exec) (hb : c.code = cc) (hts : ∀ w ∈ Ts, w.before args s = true) (hin : ∀ w ∈ u_ws C T N, w ∈ Ts) (hown : s.vm.findClass own = some m.cls) (hK : va_K D cl tys s) (hc : cl[ci]? = some (C, T, N)) (k : Nat) (hk : k < N) (hlink : (Cond.fieldLink own index ref (T k).2.1 (T k).2.2.1).before args s = true) (hsame : ∀ x, s.fieldFound? (T k).1 (T k).2.1 (T k).2.2.1 = some x → s.fieldFound? ref (T k).2.1 (T k).2.2.1 = some x) (hfin : (T k).2.2.2 = false) {v : Value} (hdg : decode cc pc = .ok (.putfield index, 3)) (kk : vx_NoteN p l e R s m args below meth c H locs cells slots Q (F0 m pc ls rest)) : W p l e R s m args below meth c H locs cells slots Q (F0 m pc ls (v :: .null :: rest)) := by
  obtain ⟨hS, hfc, kC, hkC, -⟩ := hK.1 ci _ hc
  obtain ⟨cf, kf, fi, f, hi, -⟩ := hS k hk
  have hlay := hts _ (hin _ (u_in_lay hk))
  unfold u_lay at hlay
  rw [if_neg (by rw [hfin]; decide)] at hlay
  obtain ⟨c9, k9, cf9, kf9, fi9, f9, -, -, hi9, hst9, hnf9, -⟩ := Cond.lays_spec hlay
  cases hi.symm.trans hi9
  intro U hU X
  obtain ⟨vm', X1, st1⟩ := X.putfieldNull hexec hown hlink (hsame _ hi) hst9 hnf9 (g := F0 m pc ls (v :: .null :: rest)) rfl (v := v) (rest := rest) rfl (by rw [hb]; exact hdg)
  obtain ⟨t, st, q⟩ := kk (U.setVm vm') hU X1
  exact ⟨t, st1 t st, q⟩
theorem vx_putfNN {D cl tys} {own ref C host : String} {T : u_T} {N ci index : Nat} {Ts : List Cond} (hexec : p.tables.exec = Jvm.exec) (hb : c.code = cc) (hts : ∀ w ∈ Ts, w.before args s = true) (hin : ∀ w ∈ u_ws C T N, w ∈ Ts) (hown : s.vm.findClass own = some m.cls) (hK : va_K D cl tys s) (hc : cl[ci]? = some (C, T, N)) (k : Nat) (hk : k < N) (hlink : (Cond.fieldLinkNest own index ref (T k).2.1 (T k).2.2.1 host).before args s = true) (hsame : ∀ x, s.fieldFound? (T k).1 (T k).2.1 (T k).2.2.1 = some x → s.fieldFound? ref (T k).2.1 (T k).2.2.1 = some x) (hfin : (T k).2.2.2 = false) {v : Value} (hdg : decode cc pc = .ok (.putfield index, 3)) (kk : vx_NoteN p l e R s m args below meth c H locs cells slots Q (F0 m pc ls rest)) : W p l e R s m args below meth c H locs cells slots Q (F0 m pc ls (v :: .null :: rest)) := by
  obtain ⟨hS, hfc, kC, hkC, -⟩ := hK.1 ci _ hc
  obtain ⟨cf, kf, fi, f, hi, -⟩ := hS k hk
  have hlay := hts _ (hin _ (u_in_lay hk))
  unfold u_lay at hlay
  rw [if_neg (by rw [hfin]; decide)] at hlay
  obtain ⟨c9, k9, cf9, kf9, fi9, f9, -, -, hi9, hst9, hnf9, -⟩ := Cond.lays_spec hlay
  cases hi.symm.trans hi9
  intro U hU X
  obtain ⟨vm', X1, st1⟩ := X.putfieldNullNest hexec hown hlink (hsame _ hi) hst9 hnf9 (g := F0 m pc ls (v :: .null :: rest)) rfl (v := v) (rest := rest) rfl (by rw [hb]; exact hdg)
  obtain ⟨t, st, q⟩ := kk (U.setVm vm') hU X1
  exact ⟨t, st1 t st, q⟩
theorem vx_athrowN (hexec : p.tables.exec = Jvm.exec) (hb : c.code = cc) (hdg : decode cc pc = .ok (.athrow, 1)) (k : vx_NoteN p l e R s m args below meth c H locs cells slots Q (F0 m pc ls rest)) : W p l e R s m args below meth c H locs cells slots Q (F0 m pc ls (.null :: rest)) := by
  intro T hT X
  obtain ⟨t, st, q⟩ := k T hT X
  exact ⟨t, X.athrowNull hexec (g := F0 m pc ls (.null :: rest)) rfl (rest := rest) rfl (by rw [hb]; exact hdg) t st, q⟩
end VXM2
/-! ===== END ===== -/
end
section
/-! ===== the abstract world: cells by numbers from 3 on (the real address is the base and the number less 3); 0 the script, 1 TRIPLES, 2 SETS ===== -/
def BW : List Cond := lw_tbl.filter goodWord
theorem og_in {w : Cond} (i : Nat) (h : lw_tbl[i]? = some w) (hg : goodWord w = true) : w ∈ BW := List.mem_filter.mpr ⟨List.mem_of_getElem? h, hg⟩
theorem og_good : GoodIn BW BW := fun w h => ⟨h, good_of_word (List.mem_filter.mp h).2⟩
abbrev og_N : Type := (Nat × vp_A) ⊕ (Nat × List Value)
abbrev og_H : Type := Nat → Option og_N
def og_set (h : og_H) (a : Nat) (e : og_N) : og_H := fun q => if q = a then some e else h q
theorem og_set_eq (h : og_H) (a : Nat) (e : og_N) : og_set h a e a = some e := if_pos rfl
theorem og_set_ne (h : og_H) {a q : Nat} (e : og_N) (hq : q ≠ a) : og_set h a e q = h q := if_neg hq
abbrev og_E : Type := (Nat → ClassId) × (Nat → Nat → Nat) × (Nat → ClassId) × Nat × Nat × Nat × Nat
def og_b (E : og_E) : Nat := E.2.2.2.1
def og_rho (E : og_E) (a : Nat) : Nat := if a = 0 then E.2.2.2.2.1 else if a = 1 then E.2.2.2.2.2.1 else if a = 2 then E.2.2.2.2.2.2 else og_b E + (a - 3)
theorem og_rho3 (E : og_E) {a : Nat} (h : 3 ≤ a) : og_rho E a = og_b E + (a - 3) := by
  unfold og_rho
  rw [if_neg (by omega), if_neg (by omega), if_neg (by omega)]
def og_rv (E : og_E) : Value → Value
  | .ref a => .ref (og_rho E a)
  | v => v
theorem og_rv_cat (E : og_E) (v : Value) : (og_rv E v).category = v.category := by cases v <;> rfl
def og_ct (E : og_E) : vp_A → vp_A
  | (n, .inl f) => (n, .inl f)
  | (n, .inr (.inl f)) => (n, .inr (.inl f))
  | (n, .inr (.inr (.inl f))) => (n, .inr (.inr (.inl f)))
  | (n, .inr (.inr (.inr (.inl f)))) => (n, .inr (.inr (.inr (.inl f))))
  | (n, .inr (.inr (.inr (.inr f)))) => (n, .inr (.inr (.inr (.inr (fun i => (f i).map (og_rho E))))))
def og_cn (E : og_E) : og_N → va_E
  | .inl (k, x) => .inl (E.2.2.1 k, og_ct E x)
  | .inr (c, fs) => .inr (c, fs.map (og_rv E))
def og_ty : Nat → FieldType
  | 0 => .byte
  | 1 => .int
  | 2 => .long
  | 3 => .boolean
  | 4 => .object RX4
  | 5 => .object RX6
  | _ => .array .long
def og_tys (E : og_E) : List (ClassId × FieldType) := (List.range 7).map (fun k => (E.2.2.1 k, og_ty k))
theorem og_tyAt (E : og_E) {k : Nat} (h : k < 7) : (og_tys E)[k]? = some (E.2.2.1 k, og_ty k) := by
  unfold og_tys
  rw [List.getElem?_map, List.getElem?_range h]
  rfl
def og_cl : List vw_C := [(RX0, TX0, 7), (RX1, TX1, 9), (RX4, TX4, 4), (RX5, TX5, 3), (RX6, TX6, 2), (RX7, TX7, 10), (RX8, TX8, 30)]
abbrev og_D (E : og_E) : va_G := (E.1, E.2.1)
def og_A (E : og_E) : Nat → Prop := fun q => og_b E ≤ q
/-- a fixed array of ints below the base -/
def og_ro (E : og_E) (U : State) (a : Nat) (e : og_N) (H : Heap) : Prop := ∃ (n : Nat) (f : Nat → Int32) (cell : Cell), e = .inl (1, n, .inl f) ∧ H[og_rho E a]? = some cell ∧ og_rho E a < og_b E ∧ U.isArrayOf cell .int ∧ cell.vm ≠ .unknown ∧ n ≤ cell.slots.size ∧ cell.slots.size.toInt32 = Int32.ofNat n ∧ ∀ j, j < n → cell.slots[j]? = some (.int (f j))
def og_at (E : og_E) (U : State) (a : Nat) (e : og_N) (H : Heap) : Prop := (3 ≤ a → va_at (og_D E) og_cl (og_rho E a, og_cn E e) H) ∧ (a < 3 → og_ro E U a e H)
def og_Wd (E : og_E) (U : State) (n : Nat) (h : og_H) (H : Heap) : Prop := H.size + 3 = og_b E + n ∧ 3 ≤ n ∧ ∀ a e, h a = some e → a < n ∧ og_at E U a e H
theorem og_ro.moved {E : og_E} {u U : State} {a : Nat} {e : og_N} {H : Heap} (hvm : u.vm.Alike U.vm) (h : og_ro E u a e H) : og_ro E U a e H := by
  obtain ⟨n, f, cell, h1, h2, h3, h4, h5⟩ := h
  exact ⟨n, f, cell, h1, h2, h3, State.isArrayOf_alike hvm h4, h5⟩
theorem og_Wd.moved {E : og_E} {u U : State} {n : Nat} {h : og_H} {H : Heap} (hvm : u.vm.Alike U.vm) (w : og_Wd E u n h H) : og_Wd E U n h H :=
  ⟨w.1, w.2.1, fun a e he => ⟨(w.2.2 a e he).1, (w.2.2 a e he).2.1, fun ha => ((w.2.2 a e he).2.2 ha).moved hvm⟩⟩
theorem og_ro.kept {E : og_E} {U : State} {a : Nat} {e : og_N} {H H1 : Heap} (h : og_ro E U a e H) (hk : ∀ q : Nat, q < og_b E → q < H.size → H1[q]? = H[q]?) : og_ro E U a e H1 := by
  obtain ⟨n, f, cell, h1, h2, h3, h4⟩ := h
  exact ⟨n, f, cell, h1, by rw [hk _ h3 (Array.getElem?_eq_some_iff.mp h2).1]; exact h2, h3, h4⟩
/-- one cell has changed -/
theorem og_Wd.put {E : og_E} {U : State} {n : Nat} {h : og_H} {H H1 : Heap} {a : Nat} {e : og_N} (w : og_Wd E U n h H) (ha : 3 ≤ a) (hn : a < n) (hz : H1.size = H.size) (he : va_at (og_D E) og_cl (og_rho E a, og_cn E e) H1) (oq : ∀ q : Nat, q ≠ og_rho E a → H1[q]? = H[q]?) : og_Wd E U n (og_set h a e) H1 := by
  have ra := og_rho3 E ha
  refine ⟨by rw [hz]; exact w.1, w.2.1, fun q e' hq => ?_⟩
  by_cases hqa : q = a
  · subst hqa
    rw [og_set_eq] at hq
    cases hq
    exact ⟨hn, fun _ => he, fun h3 => absurd h3 (by omega)⟩
  · rw [og_set_ne _ _ hqa] at hq
    obtain ⟨w1, w2, w3⟩ := w.2.2 q e' hq
    refine ⟨w1, fun h3 => (w2 h3).kept (oq _ ?_), fun h3 => (w3 h3).kept (fun x hx _ => oq x (by rw [ra]; omega))⟩
    rw [og_rho3 E h3, ra]
    omega
/-- a cell is new -/
theorem og_Wd.push {E : og_E} {U : State} {n : Nat} {h : og_H} {H H1 : Heap} {e : og_N} (w : og_Wd E U n h H) (hz : H1.size = H.size + 1) (he : va_at (og_D E) og_cl (H.size, og_cn E e) H1) (oq : ∀ q : Nat, q < H.size → H1[q]? = H[q]?) : og_Wd E U (n + 1) (og_set h n e) H1 ∧ H.size = og_rho E n := by
  have hr : H.size = og_rho E n := by
    rw [og_rho3 E w.2.1]
    have := w.1
    have := w.2.1
    omega
  refine ⟨⟨by have := w.1; omega, by have := w.2.1; omega, fun q e' hq => ?_⟩, hr⟩
  by_cases hqa : q = n
  · subst hqa
    rw [og_set_eq] at hq
    cases hq
    exact ⟨Nat.lt_succ_self _, fun _ => by rw [← hr]; exact he, fun h3 => absurd h3 (by have := w.2.1; omega)⟩
  · rw [og_set_ne _ _ hqa] at hq
    obtain ⟨w1, w2, w3⟩ := w.2.2 q e' hq
    refine ⟨by omega, fun h3 => (w2 h3).kept (oq _ (w2 h3).lt), fun h3 => (w3 h3).kept (fun x _ hx => oq x hx)⟩
def og_strs : List (String × Nat × String) := []
/-- what stands below the base, and what the tables say -/
def og_St (E : og_E) (U : State) (H : Heap) : Prop := va_K (og_D E) og_cl (og_tys E) U ∧ va_Z RX3 "TRIPLES" "[I" (.ref (og_rho E 1)) (og_A E) U H ∧ va_Z RX2 "SETS" "[I" (.ref (og_rho E 2)) (og_A E) U H ∧
  vx_Zq Bundle.tN "UNASSIGNED_STACK" Bundle.steD (og_A E) U H ∧ vx_Zq Bundle.tN "SUPPRESSED_SENTINEL" Bundle.listD (og_A E) U H ∧ (∀ q ∈ og_strs, ∃ sa : Nat, vk_R q.1 q.2.1 q.2.2 sa U) ∧ og_b E ≤ H.size
theorem og_St.to {E : og_E} {u U : State} {H H1 : Heap} (hW : u.WarmedH U.vm) (hk : ∀ q : Nat, q < H.size → ¬ og_A E q → H1[q]? = H[q]?) (hz : H.size ≤ H1.size) (h : og_St E u H) : og_St E U H1 := by
  obtain ⟨h1, h2, h3, h4, h5, h6, h7⟩ := h
  exact ⟨va_K.moved hW.alike h1, (va_Z.moved hW.alike h2).kept hk, (va_Z.moved hW.alike h3).kept hk, (vx_Zq.moved hW.alike h4).kept hk, (vx_Zq.moved hW.alike h5).kept hk, fun q hq => by
    obtain ⟨sa, hs⟩ := h6 q hq
    exact ⟨sa, vk_R.warm hW hs⟩, Nat.le_trans h7 hz⟩
/-- the locals: by their places; none: nothing is said -/
def og_L (E : og_E) (ls : Array Slot) (nL : Nat) (lv : List (Option Value)) : Prop := ls.size = nL ∧ lv.length = nL ∧ lv_wf ls ∧ ∀ (i : Nat) (v : Value), lv[i]? = some (some v) → ls[i]? = some (.val (og_rv E v))
def og_list (E : og_E) : Nat → List (Option Value) → List (Nat × Value)
  | _, [] => []
  | k, none :: r => og_list E (k + 1) r
  | k, some v :: r => (k, og_rv E v) :: og_list E (k + 1) r
theorem og_list_mem (E : og_E) : ∀ (lv : List (Option Value)) (k i : Nat) (v : Value), lv[i]? = some (some v) → (k + i, og_rv E v) ∈ og_list E k lv
  | [], _, _, _, h => by simp at h
  | none :: r, k, 0, v, h => by simp at h
  | none :: r, k, i + 1, v, h => by
    have := og_list_mem E r (k + 1) i v (by simpa using h)
    rw [show k + (i + 1) = k + 1 + i by omega]
    exact this
  | some w :: r, k, 0, v, h => by
    simp at h
    subst h
    exact List.mem_cons_self
  | some w :: r, k, i + 1, v, h => by
    have := og_list_mem E r (k + 1) i v (by simpa using h)
    rw [show k + (i + 1) = k + 1 + i by omega]
    exact List.mem_cons_of_mem _ this
theorem og_list_lt (E : og_E) : ∀ (lv : List (Option Value)) (k : Nat) (q : Nat × Value), q ∈ og_list E k lv → ∃ (i : Nat) (v : Value), q = (k + i, og_rv E v) ∧ lv[i]? = some (some v)
  | [], _, _, h => by simp [og_list] at h
  | none :: r, k, q, h => by
    obtain ⟨i, v, h1, h2⟩ := og_list_lt E r (k + 1) q h
    exact ⟨i + 1, v, by rw [h1]; congr 1; omega, by simpa using h2⟩
  | some w :: r, k, q, h => by
    rcases List.mem_cons.mp h with h | h
    · exact ⟨0, w, h, rfl⟩
    · obtain ⟨i, v, h1, h2⟩ := og_list_lt E r (k + 1) q h
      exact ⟨i + 1, v, by rw [h1]; congr 1; omega, by simpa using h2⟩
theorem og_L.has {E : og_E} {ls : Array Slot} {nL : Nat} {lv : List (Option Value)} (h : og_L E ls nL lv) : lv_has ls nL (og_list E 0 lv) := by
  refine ⟨h.1, h.2.2.1, fun q hq => ?_⟩
  obtain ⟨i, v, rfl, h2⟩ := og_list_lt E lv 0 q hq
  rw [Nat.zero_add]
  exact h.2.2.2 i v h2
theorem og_L.at {E : og_E} {ls : Array Slot} {nL : Nat} {lv : List (Option Value)} (h : og_L E ls nL lv) {i : Nat} {v : Value} (hv : lv[i]? = some (some v)) : ls[i]? = some (.val (og_rv E v)) := h.2.2.2 i v hv
/-- a value that takes one slot: what stands ahead takes one, or nothing is said of it -/
def og_n2 (lv : List (Option Value)) (i : Nat) : Prop := ∀ (j : Nat) (v : Value), j + 1 = i → lv[j]? = some (some v) → v.category ≠ 2
theorem og_L.store1 {E : og_E} {ls ls' : Array Slot} {nL : Nat} {lv : List (Option Value)} {i : Nat} {v : Value} (h : og_L E ls nL lv) (hn2 : og_n2 lv i)
    (h' : lv_has ls' nL ((i, og_rv E v) :: (og_list E 0 lv).filter (fun q => !(q.1 == i) && !(q.1 + 1 == i && q.2.category == 2)))) : og_L E ls' nL (lv.set i (some v)) := by
  refine ⟨h'.1, by rw [List.length_set]; exact h.2.1, h'.2.1, fun j w hj => ?_⟩
  by_cases hji : j = i
  · subst hji
    have hl : j < lv.length := by
      have := (List.getElem?_eq_some_iff.mp hj).1
      rwa [List.length_set] at this
    rw [List.getElem?_set_self hl] at hj
    cases hj
    exact h'.2.2 (j, og_rv E v) List.mem_cons_self
  · rw [List.getElem?_set_ne (Ne.symm hji)] at hj
    refine h'.2.2 (j, og_rv E w) (List.mem_cons_of_mem _ (List.mem_filter.mpr ⟨?_, ?_⟩))
    · have := og_list_mem E lv 0 j w hj
      rwa [Nat.zero_add] at this
    · simp only [Bool.and_eq_true, Bool.not_eq_true', beq_eq_false_iff_ne, ne_eq, Bool.and_eq_false_iff]
      refine ⟨hji, ?_⟩
      by_cases hji1 : j + 1 = i
      · right
        rw [og_rv_cat]
        exact hn2 j w hji1 hj
      · left
        exact hji1
theorem og_L.store2 {E : og_E} {ls ls' : Array Slot} {nL : Nat} {lv : List (Option Value)} {i : Nat} {v : Value} (h : og_L E ls nL lv) (hn2 : og_n2 lv i) (hn1 : lv[i + 1]? = some none)
    (h' : lv_has ls' nL ((i, og_rv E v) :: (og_list E 0 lv).filter (fun q => !(q.1 == i) && (!(q.1 == i + 1) && !(q.1 + 1 == i && q.2.category == 2))))) : og_L E ls' nL (lv.set i (some v)) := by
  refine ⟨h'.1, by rw [List.length_set]; exact h.2.1, h'.2.1, fun j w hj => ?_⟩
  by_cases hji : j = i
  · subst hji
    have hl : j < lv.length := by
      have := (List.getElem?_eq_some_iff.mp hj).1
      rwa [List.length_set] at this
    rw [List.getElem?_set_self hl] at hj
    cases hj
    exact h'.2.2 (j, og_rv E v) List.mem_cons_self
  · rw [List.getElem?_set_ne (Ne.symm hji)] at hj
    refine h'.2.2 (j, og_rv E w) (List.mem_cons_of_mem _ (List.mem_filter.mpr ⟨?_, ?_⟩))
    · have := og_list_mem E lv 0 j w hj
      rwa [Nat.zero_add] at this
    · simp only [Bool.and_eq_true, Bool.not_eq_true', beq_eq_false_iff_ne, ne_eq, Bool.and_eq_false_iff]
      refine ⟨hji, fun hq => ?_, ?_⟩
      · subst hq
        rw [hn1] at hj
        cases hj
      · by_cases hji1 : j + 1 = i
        · right
          rw [og_rv_cat]
          exact hn2 j w hji1 hj
        · left
          exact hji1
theorem og_L.forget {E : og_E} {ls : Array Slot} {nL : Nat} {lv lv' : List (Option Value)} (h : og_L E ls nL lv) (hl : lv'.length = lv.length) (hs : ∀ (i : Nat) (v : Value), lv'[i]? = some (some v) → lv[i]? = some (some v)) : og_L E ls nL lv' :=
  ⟨h.1, hl.trans h.2.1, h.2.2.1, fun i v hv => h.2.2.2 i v (hs i v hv)⟩
end
section
/-! ===== the judgement: from this frame, over this abstract world, the machine comes to Q ===== -/
abbrev og_X : Type := Program × Launch × Env × Room × State × MethodId × Array Value × List Frame × Method × Code
def og_C (E : og_E) (own : String) (cc : ByteArray) (d mc ms nL : Nat) (X : og_X) : Prop := match X with
  | (p, l, _, R, s, m, args, _, meth, c) => p.tables.exec = Jvm.exec ∧ c.code = cc ∧ c.maxLocals = nL ∧ s.vm.findClass own = some m.cls ∧ (∀ w ∈ BW, w.before args s = true) ∧ meth.locks = false ∧ og_St E s s.heap ∧ l.stackTraces = false ∧ (d + 12 ≤ R.frames ∧ 40 * d + 200 ≤ R.locals ∧ mc ≤ R.cells ∧ ms ≤ R.slots)
def og_ret (X : og_X) : Option FieldType := X.2.2.2.2.2.2.2.2.1.sig.returnType
def og_nm (X : og_X) : String := X.2.2.2.2.2.2.2.2.1.name
def og_tb (X : og_X) : List ExceptionTableEntry := X.2.2.2.2.2.2.2.2.2.exceptionTable.toList
def og_G (E : og_E) (own : String) (cc : ByteArray) (d mc ms nL : Nat) (X : og_X) (Q : State → Prop) (cells slots n : Nat) (h : og_H) (pc : Nat) (lv : List (Option Value)) (st : List Value) : Prop := match X with
  | (p, l, e, R, s, m, args, below, meth, c) => og_C E own cc d mc ms nL (p, l, e, R, s, m, args, below, meth, c) → ∀ (H : Heap) (locs : List Loc) (ls : Array Slot), og_Wd E s n h H → va_S (og_A E) s.heap H locs → og_L E ls nL lv →
    W p l e R s m args below meth c H locs cells slots Q (F0 m pc ls (st.map (og_rv E)))
section OG
variable {E : og_E} {own : String} {cc : ByteArray} {d mc ms nL : Nat} {X : og_X} {Q : State → Prop} {cells slots n : Nat} {h : og_H} {pc : Nat} {lv : List (Option Value)} {st : List Value}
theorem og_iconst {a : Int} {v : Int32} (hd : decode cc pc = .ok (.iconst a, 1)) (hv : Int32.ofInt a = v) (k : og_G E own cc d mc ms nL X Q cells slots n h (pc + 1) lv (.int v :: st)) : og_G E own cc d mc ms nL X Q cells slots n h pc lv st := by
  obtain ⟨p, l, e, R, s, m, args, below, meth, c⟩ := X
  intro C H locs ls hW hS hL
  exact lv_iconst C.1 C.2.1 hd hv (k C H locs ls hW hS hL)
theorem og_bipush {a : Int} {v : Int32} (hd : decode cc pc = .ok (.bipush a, 2)) (hv : (Int8.ofInt a).toInt32 = v) (k : og_G E own cc d mc ms nL X Q cells slots n h (pc + 2) lv (.int v :: st)) : og_G E own cc d mc ms nL X Q cells slots n h pc lv st := by
  obtain ⟨p, l, e, R, s, m, args, below, meth, c⟩ := X
  intro C H locs ls hW hS hL
  exact lv_bipush C.1 C.2.1 hd hv (k C H locs ls hW hS hL)
theorem og_sipush {a : Int} {v : Int32} (hd : decode cc pc = .ok (.sipush a, 3)) (hv : (Int16.ofInt a).toInt32 = v) (k : og_G E own cc d mc ms nL X Q cells slots n h (pc + 3) lv (.int v :: st)) : og_G E own cc d mc ms nL X Q cells slots n h pc lv st := by
  obtain ⟨p, l, e, R, s, m, args, below, meth, c⟩ := X
  intro C H locs ls hW hS hL
  exact lv_sipush C.1 C.2.1 hd hv (k C H locs ls hW hS hL)
theorem og_lconst {a : Fin 2} {v : Int64} (hd : decode cc pc = .ok (.lconst a, 1)) (hv : Int64.ofNat (a : Nat) = v) (k : og_G E own cc d mc ms nL X Q cells slots n h (pc + 1) lv (.long v :: st)) : og_G E own cc d mc ms nL X Q cells slots n h pc lv st := by
  obtain ⟨p, l, e, R, s, m, args, below, meth, c⟩ := X
  intro C H locs ls hW hS hL
  exact lv_lconst C.1 C.2.1 hd hv (k C H locs ls hW hS hL)
theorem og_null  (hd : decode cc pc = .ok (.aconst_null, 1)) (k : og_G E own cc d mc ms nL X Q cells slots n h (pc + 1) lv (.null :: st)) : og_G E own cc d mc ms nL X Q cells slots n h pc lv st := by
  obtain ⟨p, l, e, R, s, m, args, below, meth, c⟩ := X
  intro C H locs ls hW hS hL
  exact lv_null C.1 C.2.1 hd (k C H locs ls hW hS hL)
theorem og_ldc2 {index : Nat} {v : Int64} (hw : Cond.constantLong own index v ∈ BW) (hd : decode cc pc = .ok (.ldc2_w index, 3)) (k : og_G E own cc d mc ms nL X Q cells slots n h (pc + 3) lv (.long v :: st)) : og_G E own cc d mc ms nL X Q cells slots n h pc lv st := by
  obtain ⟨p, l, e, R, s, m, args, below, meth, c⟩ := X
  intro C H locs ls hW hS hL
  exact lv_ldc2 C.1 C.2.1 C.2.2.2.1 (C.2.2.2.2.1 _ hw) hd (k C H locs ls hW hS hL)
theorem og_ldc {index : Nat} {v : Int32} (hw : Cond.constant own index v ∈ BW) (hd : decode cc pc = .ok (.ldc index, 2)) (k : og_G E own cc d mc ms nL X Q cells slots n h (pc + 2) lv (.int v :: st)) : og_G E own cc d mc ms nL X Q cells slots n h pc lv st := by
  obtain ⟨p, l, e, R, s, m, args, below, meth, c⟩ := X
  intro C H locs ls hW hS hL
  exact lv_ldc C.1 C.2.1 C.2.2.2.1 (C.2.2.2.2.1 _ hw) hd (k C H locs ls hW hS hL)
theorem og_iload {i : Nat} {x : Int32} (hd : decode cc pc = .ok (.iload i, 2)) (hl : lv[i]? = some (some (.int x))) (k : og_G E own cc d mc ms nL X Q cells slots n h (pc + 2) lv (.int x :: st)) : og_G E own cc d mc ms nL X Q cells slots n h pc lv st := by
  obtain ⟨p, l, e, R, s, m, args, below, meth, c⟩ := X
  intro C H locs ls hW hS hL
  exact lv_iload C.1 C.2.1 hd (hL.at hl) (k C H locs ls hW hS hL)
theorem og_iload_n {i : Fin 4} {x : Int32} (hd : decode cc pc = .ok (.iload_n i, 1)) (hl : lv[(i : Nat)]? = some (some (.int x))) (k : og_G E own cc d mc ms nL X Q cells slots n h (pc + 1) lv (.int x :: st)) : og_G E own cc d mc ms nL X Q cells slots n h pc lv st := by
  obtain ⟨p, l, e, R, s, m, args, below, meth, c⟩ := X
  intro C H locs ls hW hS hL
  exact lv_iload_n C.1 C.2.1 hd rfl (hL.at hl) (k C H locs ls hW hS hL)
theorem og_lload {i : Nat} {x : Int64} (hd : decode cc pc = .ok (.lload i, 2)) (hl : lv[i]? = some (some (.long x))) (k : og_G E own cc d mc ms nL X Q cells slots n h (pc + 2) lv (.long x :: st)) : og_G E own cc d mc ms nL X Q cells slots n h pc lv st := by
  obtain ⟨p, l, e, R, s, m, args, below, meth, c⟩ := X
  intro C H locs ls hW hS hL
  exact lv_lload C.1 C.2.1 hd (hL.at hl) (k C H locs ls hW hS hL)
theorem og_lload_n {i : Fin 4} {x : Int64} (hd : decode cc pc = .ok (.lload_n i, 1)) (hl : lv[(i : Nat)]? = some (some (.long x))) (k : og_G E own cc d mc ms nL X Q cells slots n h (pc + 1) lv (.long x :: st)) : og_G E own cc d mc ms nL X Q cells slots n h pc lv st := by
  obtain ⟨p, l, e, R, s, m, args, below, meth, c⟩ := X
  intro C H locs ls hW hS hL
  exact lv_lload_n C.1 C.2.1 hd rfl (hL.at hl) (k C H locs ls hW hS hL)
theorem og_aload {i : Nat} {x : Nat} (hd : decode cc pc = .ok (.aload i, 2)) (hl : lv[i]? = some (some (.ref x))) (k : og_G E own cc d mc ms nL X Q cells slots n h (pc + 2) lv (.ref x :: st)) : og_G E own cc d mc ms nL X Q cells slots n h pc lv st := by
  obtain ⟨p, l, e, R, s, m, args, below, meth, c⟩ := X
  intro C H locs ls hW hS hL
  exact lv_aload C.1 C.2.1 hd (hL.at hl) (k C H locs ls hW hS hL)
theorem og_aload_n {i : Fin 4} {x : Nat} (hd : decode cc pc = .ok (.aload_n i, 1)) (hl : lv[(i : Nat)]? = some (some (.ref x))) (k : og_G E own cc d mc ms nL X Q cells slots n h (pc + 1) lv (.ref x :: st)) : og_G E own cc d mc ms nL X Q cells slots n h pc lv st := by
  obtain ⟨p, l, e, R, s, m, args, below, meth, c⟩ := X
  intro C H locs ls hW hS hL
  exact lv_aload_n C.1 C.2.1 hd rfl (hL.at hl) (k C H locs ls hW hS hL)
theorem og_aloadN {i : Nat} (hd : decode cc pc = .ok (.aload i, 2)) (hl : lv[i]? = some (some .null)) (k : og_G E own cc d mc ms nL X Q cells slots n h (pc + 2) lv (.null :: st)) : og_G E own cc d mc ms nL X Q cells slots n h pc lv st := by
  obtain ⟨p, l, e, R, s, m, args, below, meth, c⟩ := X
  intro C H locs ls hW hS hL
  exact lv_aloadN C.1 C.2.1 hd (hL.at hl) (k C H locs ls hW hS hL)
theorem og_istore {i : Nat} {x : Int32} (hd : decode cc pc = .ok (.istore i, 2)) (hi : i < nL) (hn2 : og_n2 lv i) (k : og_G E own cc d mc ms nL X Q cells slots n h (pc + 2) (lv.set i (some (.int x))) st) : og_G E own cc d mc ms nL X Q cells slots n h pc lv (.int x :: st) := by
  obtain ⟨p, l, e, R, s, m, args, below, meth, c⟩ := X
  intro C H locs ls hW hS hL
  exact lv_istore C.1 C.2.1 hd hL.has hi rfl (fun ls2 hl2 => k C H locs ls2 hW hS (hL.store1 hn2 (v := .int x) hl2))
theorem og_istore_n {i : Fin 4} {x : Int32} (hd : decode cc pc = .ok (.istore_n i, 1)) (hi : (i : Nat) < nL) (hn2 : og_n2 lv (i : Nat)) (k : og_G E own cc d mc ms nL X Q cells slots n h (pc + 1) (lv.set (i : Nat) (some (.int x))) st) : og_G E own cc d mc ms nL X Q cells slots n h pc lv (.int x :: st) := by
  obtain ⟨p, l, e, R, s, m, args, below, meth, c⟩ := X
  intro C H locs ls hW hS hL
  exact lv_istore_n C.1 C.2.1 hd rfl hL.has hi rfl (fun ls2 hl2 => k C H locs ls2 hW hS (hL.store1 hn2 (v := .int x) hl2))
theorem og_lstore {i : Nat} {x : Int64} (hd : decode cc pc = .ok (.lstore i, 2)) (hi : i + 1 < nL) (hn2 : og_n2 lv i) (hn1 : lv[i + 1]? = some none) (k : og_G E own cc d mc ms nL X Q cells slots n h (pc + 2) (lv.set i (some (.long x))) st) : og_G E own cc d mc ms nL X Q cells slots n h pc lv (.long x :: st) := by
  obtain ⟨p, l, e, R, s, m, args, below, meth, c⟩ := X
  intro C H locs ls hW hS hL
  exact lv_lstore C.1 C.2.1 hd hL.has hi rfl (fun ls2 hl2 => k C H locs ls2 hW hS (hL.store2 hn2 hn1 (v := .long x) hl2))
theorem og_lstore_n {i : Fin 4} {x : Int64} (hd : decode cc pc = .ok (.lstore_n i, 1)) (hi : (i : Nat) + 1 < nL) (hn2 : og_n2 lv (i : Nat)) (hn1 : lv[(i : Nat) + 1]? = some none) (k : og_G E own cc d mc ms nL X Q cells slots n h (pc + 1) (lv.set (i : Nat) (some (.long x))) st) : og_G E own cc d mc ms nL X Q cells slots n h pc lv (.long x :: st) := by
  obtain ⟨p, l, e, R, s, m, args, below, meth, c⟩ := X
  intro C H locs ls hW hS hL
  exact lv_lstore_n C.1 C.2.1 hd rfl hL.has hi rfl (fun ls2 hl2 => k C H locs ls2 hW hS (hL.store2 hn2 hn1 (v := .long x) hl2))
theorem og_astore {i : Nat} {x : Nat} (hd : decode cc pc = .ok (.astore i, 2)) (hi : i < nL) (hn2 : og_n2 lv i) (k : og_G E own cc d mc ms nL X Q cells slots n h (pc + 2) (lv.set i (some (.ref x))) st) : og_G E own cc d mc ms nL X Q cells slots n h pc lv (.ref x :: st) := by
  obtain ⟨p, l, e, R, s, m, args, below, meth, c⟩ := X
  intro C H locs ls hW hS hL
  exact lv_astore C.1 C.2.1 hd hL.has hi rfl (fun ls2 hl2 => k C H locs ls2 hW hS (hL.store1 hn2 (v := .ref x) hl2))
theorem og_astore_n {i : Fin 4} {x : Nat} (hd : decode cc pc = .ok (.astore_n i, 1)) (hi : (i : Nat) < nL) (hn2 : og_n2 lv (i : Nat)) (k : og_G E own cc d mc ms nL X Q cells slots n h (pc + 1) (lv.set (i : Nat) (some (.ref x))) st) : og_G E own cc d mc ms nL X Q cells slots n h pc lv (.ref x :: st) := by
  obtain ⟨p, l, e, R, s, m, args, below, meth, c⟩ := X
  intro C H locs ls hW hS hL
  exact lv_astore_n C.1 C.2.1 hd rfl hL.has hi rfl (fun ls2 hl2 => k C H locs ls2 hW hS (hL.store1 hn2 (v := .ref x) hl2))
theorem og_iinc {i : Nat} {a : Int} {x y : Int32} (hd : decode cc pc = .ok (.iinc i a, 3)) (hl : lv[i]? = some (some (.int x))) (hv : x + Int32.ofInt a = y) (hi : i < nL) (hn2 : og_n2 lv i) (k : og_G E own cc d mc ms nL X Q cells slots n h (pc + 3) (lv.set i (some (.int y))) st) : og_G E own cc d mc ms nL X Q cells slots n h pc lv st := by
  obtain ⟨p, l, e, R, s, m, args, below, meth, c⟩ := X
  intro C H locs ls hW hS hL
  have hm := og_list_mem E lv 0 i _ hl
  rw [Nat.zero_add] at hm
  obtain ⟨j, hj⟩ := List.getElem?_of_mem hm
  exact lv_iinc C.1 C.2.1 hd hL.has hj hv hi rfl (fun ls2 hl2 => k C H locs ls2 hW hS (hL.store1 (v := .int y) hn2 hl2))
theorem og_forget {lv1 : List (Option Value)} (hl : lv1.length = lv.length) (hs : ∀ (i : Nat) (v : Value), lv1[i]? = some (some v) → lv[i]? = some (some v)) (k : og_G E own cc d mc ms nL X Q cells slots n h pc lv1 st) : og_G E own cc d mc ms nL X Q cells slots n h pc lv st := by
  obtain ⟨p, l, e, R, s, m, args, below, meth, c⟩ := X
  intro C H locs ls hW hS hL
  exact k C H locs ls hW hS (hL.forget hl hs)
theorem og_widen {k2 n2 : Nat} (h1 : cells ≤ k2) (h2 : slots ≤ n2) (k : og_G E own cc d mc ms nL X Q k2 n2 n h pc lv st) : og_G E own cc d mc ms nL X Q cells slots n h pc lv st := by
  obtain ⟨p, l, e, R, s, m, args, below, meth, c⟩ := X
  intro C H locs ls hW hS hL
  exact W.widen h1 h2 (k C H locs ls hW hS hL)
theorem og_iadd {x y : Int32} (hd : decode cc pc = .ok (.iadd, 1)) (k : og_G E own cc d mc ms nL X Q cells slots n h (pc + 1) lv (.int (x + y) :: st)) : og_G E own cc d mc ms nL X Q cells slots n h pc lv (.int y :: .int x :: st) := by
  obtain ⟨p, l, e, R, s, m, args, below, meth, c⟩ := X
  intro C H locs ls hW hS hL
  exact lv_iadd C.1 C.2.1 hd (k C H locs ls hW hS hL)
theorem og_isub {x y : Int32} (hd : decode cc pc = .ok (.isub, 1)) (k : og_G E own cc d mc ms nL X Q cells slots n h (pc + 1) lv (.int (x - y) :: st)) : og_G E own cc d mc ms nL X Q cells slots n h pc lv (.int y :: .int x :: st) := by
  obtain ⟨p, l, e, R, s, m, args, below, meth, c⟩ := X
  intro C H locs ls hW hS hL
  exact lv_isub C.1 C.2.1 hd (k C H locs ls hW hS hL)
theorem og_imul {x y : Int32} (hd : decode cc pc = .ok (.imul, 1)) (k : og_G E own cc d mc ms nL X Q cells slots n h (pc + 1) lv (.int (x * y) :: st)) : og_G E own cc d mc ms nL X Q cells slots n h pc lv (.int y :: .int x :: st) := by
  obtain ⟨p, l, e, R, s, m, args, below, meth, c⟩ := X
  intro C H locs ls hW hS hL
  exact lv_imul C.1 C.2.1 hd (k C H locs ls hW hS hL)
theorem og_iand {x y : Int32} (hd : decode cc pc = .ok (.iand, 1)) (k : og_G E own cc d mc ms nL X Q cells slots n h (pc + 1) lv (.int (x &&& y) :: st)) : og_G E own cc d mc ms nL X Q cells slots n h pc lv (.int y :: .int x :: st) := by
  obtain ⟨p, l, e, R, s, m, args, below, meth, c⟩ := X
  intro C H locs ls hW hS hL
  exact lv_iand C.1 C.2.1 hd (k C H locs ls hW hS hL)
theorem og_ior {x y : Int32} (hd : decode cc pc = .ok (.ior, 1)) (k : og_G E own cc d mc ms nL X Q cells slots n h (pc + 1) lv (.int (x ||| y) :: st)) : og_G E own cc d mc ms nL X Q cells slots n h pc lv (.int y :: .int x :: st) := by
  obtain ⟨p, l, e, R, s, m, args, below, meth, c⟩ := X
  intro C H locs ls hW hS hL
  exact lv_ior C.1 C.2.1 hd (k C H locs ls hW hS hL)
theorem og_ixor {x y : Int32} (hd : decode cc pc = .ok (.ixor, 1)) (k : og_G E own cc d mc ms nL X Q cells slots n h (pc + 1) lv (.int (x ^^^ y) :: st)) : og_G E own cc d mc ms nL X Q cells slots n h pc lv (.int y :: .int x :: st) := by
  obtain ⟨p, l, e, R, s, m, args, below, meth, c⟩ := X
  intro C H locs ls hW hS hL
  exact lv_ixor C.1 C.2.1 hd (k C H locs ls hW hS hL)
theorem og_ishl {x y : Int32} (hd : decode cc pc = .ok (.ishl, 1)) (k : og_G E own cc d mc ms nL X Q cells slots n h (pc + 1) lv (.int (x <<< (y &&& 31)) :: st)) : og_G E own cc d mc ms nL X Q cells slots n h pc lv (.int y :: .int x :: st) := by
  obtain ⟨p, l, e, R, s, m, args, below, meth, c⟩ := X
  intro C H locs ls hW hS hL
  exact lv_ishl C.1 C.2.1 hd (k C H locs ls hW hS hL)
theorem og_ishr {x y : Int32} (hd : decode cc pc = .ok (.ishr, 1)) (k : og_G E own cc d mc ms nL X Q cells slots n h (pc + 1) lv (.int (x >>> (y &&& 31)) :: st)) : og_G E own cc d mc ms nL X Q cells slots n h pc lv (.int y :: .int x :: st) := by
  obtain ⟨p, l, e, R, s, m, args, below, meth, c⟩ := X
  intro C H locs ls hW hS hL
  exact lv_ishr C.1 C.2.1 hd (k C H locs ls hW hS hL)
theorem og_idiv {x y : Int32} (hd : decode cc pc = .ok (.idiv, 1)) (hne : ¬ y = 0) (k : og_G E own cc d mc ms nL X Q cells slots n h (pc + 1) lv (.int (x / y) :: st)) : og_G E own cc d mc ms nL X Q cells slots n h pc lv (.int y :: .int x :: st) := by
  obtain ⟨p, l, e, R, s, m, args, below, meth, c⟩ := X
  intro C H locs ls hW hS hL
  exact lv_idiv C.1 C.2.1 hd hne (k C H locs ls hW hS hL)
theorem og_irem {x y : Int32} (hd : decode cc pc = .ok (.irem, 1)) (hne : ¬ y = 0) (k : og_G E own cc d mc ms nL X Q cells slots n h (pc + 1) lv (.int (x - x / y * y) :: st)) : og_G E own cc d mc ms nL X Q cells slots n h pc lv (.int y :: .int x :: st) := by
  obtain ⟨p, l, e, R, s, m, args, below, meth, c⟩ := X
  intro C H locs ls hW hS hL
  exact lv_irem C.1 C.2.1 hd hne (k C H locs ls hW hS hL)
theorem og_ineg {x : Int32} (hd : decode cc pc = .ok (.ineg, 1)) (k : og_G E own cc d mc ms nL X Q cells slots n h (pc + 1) lv (.int (-x) :: st)) : og_G E own cc d mc ms nL X Q cells slots n h pc lv (.int x :: st) := by
  obtain ⟨p, l, e, R, s, m, args, below, meth, c⟩ := X
  intro C H locs ls hW hS hL
  exact lv_ineg C.1 C.2.1 hd (k C H locs ls hW hS hL)
theorem og_ladd {x y : Int64} (hd : decode cc pc = .ok (.ladd, 1)) (k : og_G E own cc d mc ms nL X Q cells slots n h (pc + 1) lv (.long (x + y) :: st)) : og_G E own cc d mc ms nL X Q cells slots n h pc lv (.long y :: .long x :: st) := by
  obtain ⟨p, l, e, R, s, m, args, below, meth, c⟩ := X
  intro C H locs ls hW hS hL
  exact lv_ladd C.1 C.2.1 hd (k C H locs ls hW hS hL)
theorem og_lsub {x y : Int64} (hd : decode cc pc = .ok (.lsub, 1)) (k : og_G E own cc d mc ms nL X Q cells slots n h (pc + 1) lv (.long (x - y) :: st)) : og_G E own cc d mc ms nL X Q cells slots n h pc lv (.long y :: .long x :: st) := by
  obtain ⟨p, l, e, R, s, m, args, below, meth, c⟩ := X
  intro C H locs ls hW hS hL
  exact lv_lsub C.1 C.2.1 hd (k C H locs ls hW hS hL)
theorem og_lmul {x y : Int64} (hd : decode cc pc = .ok (.lmul, 1)) (k : og_G E own cc d mc ms nL X Q cells slots n h (pc + 1) lv (.long (x * y) :: st)) : og_G E own cc d mc ms nL X Q cells slots n h pc lv (.long y :: .long x :: st) := by
  obtain ⟨p, l, e, R, s, m, args, below, meth, c⟩ := X
  intro C H locs ls hW hS hL
  exact lv_lmul C.1 C.2.1 hd (k C H locs ls hW hS hL)
theorem og_land {x y : Int64} (hd : decode cc pc = .ok (.land, 1)) (k : og_G E own cc d mc ms nL X Q cells slots n h (pc + 1) lv (.long (x &&& y) :: st)) : og_G E own cc d mc ms nL X Q cells slots n h pc lv (.long y :: .long x :: st) := by
  obtain ⟨p, l, e, R, s, m, args, below, meth, c⟩ := X
  intro C H locs ls hW hS hL
  exact lv_land C.1 C.2.1 hd (k C H locs ls hW hS hL)
theorem og_ldiv {x y : Int64} (hd : decode cc pc = .ok (.ldiv, 1)) (hne : ¬ y = 0) (k : og_G E own cc d mc ms nL X Q cells slots n h (pc + 1) lv (.long (x / y) :: st)) : og_G E own cc d mc ms nL X Q cells slots n h pc lv (.long y :: .long x :: st) := by
  obtain ⟨p, l, e, R, s, m, args, below, meth, c⟩ := X
  intro C H locs ls hW hS hL
  exact lv_ldiv C.1 C.2.1 hd hne (k C H locs ls hW hS hL)
theorem og_lrem {x y : Int64} (hd : decode cc pc = .ok (.lrem, 1)) (hne : ¬ y = 0) (k : og_G E own cc d mc ms nL X Q cells slots n h (pc + 1) lv (.long (x - x / y * y) :: st)) : og_G E own cc d mc ms nL X Q cells slots n h pc lv (.long y :: .long x :: st) := by
  obtain ⟨p, l, e, R, s, m, args, below, meth, c⟩ := X
  intro C H locs ls hW hS hL
  exact lv_lrem C.1 C.2.1 hd hne (k C H locs ls hW hS hL)
theorem og_lneg {x : Int64} (hd : decode cc pc = .ok (.lneg, 1)) (k : og_G E own cc d mc ms nL X Q cells slots n h (pc + 1) lv (.long (-x) :: st)) : og_G E own cc d mc ms nL X Q cells slots n h pc lv (.long x :: st) := by
  obtain ⟨p, l, e, R, s, m, args, below, meth, c⟩ := X
  intro C H locs ls hW hS hL
  exact lv_lneg C.1 C.2.1 hd (k C H locs ls hW hS hL)
theorem og_lshl {x v : Int64} {y : Int32} (hd : decode cc pc = .ok (.lshl, 1)) (hv : x <<< (y.toInt64 &&& 63) = v) (k : og_G E own cc d mc ms nL X Q cells slots n h (pc + 1) lv (.long v :: st)) : og_G E own cc d mc ms nL X Q cells slots n h pc lv (.int y :: .long x :: st) := by
  obtain ⟨p, l, e, R, s, m, args, below, meth, c⟩ := X
  intro C H locs ls hW hS hL
  exact lv_lshl C.1 C.2.1 hd hv (k C H locs ls hW hS hL)
theorem og_lshr {x v : Int64} {y : Int32} (hd : decode cc pc = .ok (.lshr, 1)) (hv : x >>> (y.toInt64 &&& 63) = v) (k : og_G E own cc d mc ms nL X Q cells slots n h (pc + 1) lv (.long v :: st)) : og_G E own cc d mc ms nL X Q cells slots n h pc lv (.int y :: .long x :: st) := by
  obtain ⟨p, l, e, R, s, m, args, below, meth, c⟩ := X
  intro C H locs ls hW hS hL
  exact lv_lshr C.1 C.2.1 hd hv (k C H locs ls hW hS hL)
theorem og_i2l {x : Int32} {v : Int64} (hd : decode cc pc = .ok (.i2l, 1)) (hv : x.toInt64 = v) (k : og_G E own cc d mc ms nL X Q cells slots n h (pc + 1) lv (.long v :: st)) : og_G E own cc d mc ms nL X Q cells slots n h pc lv (.int x :: st) := by
  obtain ⟨p, l, e, R, s, m, args, below, meth, c⟩ := X
  intro C H locs ls hW hS hL
  exact lv_i2l C.1 C.2.1 hd hv (k C H locs ls hW hS hL)
theorem og_l2i {x : Int64} {v : Int32} (hd : decode cc pc = .ok (.l2i, 1)) (hv : x.toInt32 = v) (k : og_G E own cc d mc ms nL X Q cells slots n h (pc + 1) lv (.int v :: st)) : og_G E own cc d mc ms nL X Q cells slots n h pc lv (.long x :: st) := by
  obtain ⟨p, l, e, R, s, m, args, below, meth, c⟩ := X
  intro C H locs ls hW hS hL
  exact lv_l2i C.1 C.2.1 hd hv (k C H locs ls hW hS hL)
theorem og_i2b {x v : Int32} (hd : decode cc pc = .ok (.i2b, 1)) (hv : x.toInt8.toInt32 = v) (k : og_G E own cc d mc ms nL X Q cells slots n h (pc + 1) lv (.int v :: st)) : og_G E own cc d mc ms nL X Q cells slots n h pc lv (.int x :: st) := by
  obtain ⟨p, l, e, R, s, m, args, below, meth, c⟩ := X
  intro C H locs ls hW hS hL
  exact lv_i2b C.1 C.2.1 hd hv (k C H locs ls hW hS hL)
theorem og_lcmp {x y : Int64} (hd : decode cc pc = .ok (.lcmp, 1)) (k : og_G E own cc d mc ms nL X Q cells slots n h (pc + 1) lv (.int (lg_cmp x y) :: st)) : og_G E own cc d mc ms nL X Q cells slots n h pc lv (.long y :: .long x :: st) := by
  obtain ⟨p, l, e, R, s, m, args, below, meth, c⟩ := X
  intro C H locs ls hW hS hL
  exact W.lcmp C.1 C.2.1 hd (k C H locs ls hW hS hL)
theorem og_dup {v : Value} (hd : decode cc pc = .ok (.dup, 1)) (hv : v.category = 1) (k : og_G E own cc d mc ms nL X Q cells slots n h (pc + 1) lv (v :: v :: st)) : og_G E own cc d mc ms nL X Q cells slots n h pc lv (v :: st) := by
  obtain ⟨p, l, e, R, s, m, args, below, meth, c⟩ := X
  intro C H locs ls hW hS hL
  exact lv_dup C.1 C.2.1 hd ((og_rv_cat E v).trans hv) (k C H locs ls hW hS hL)
theorem og_dup2 {v w : Value} (hd : decode cc pc = .ok (.dup2, 1)) (hv : v.category = 1) (hw : w.category = 1) (k : og_G E own cc d mc ms nL X Q cells slots n h (pc + 1) lv (v :: w :: v :: w :: st)) : og_G E own cc d mc ms nL X Q cells slots n h pc lv (v :: w :: st) := by
  obtain ⟨p, l, e, R, s, m, args, below, meth, c⟩ := X
  intro C H locs ls hW hS hL
  exact lv_dup2_11 C.1 C.2.1 hd ((og_rv_cat E v).trans hv) ((og_rv_cat E w).trans hw) (k C H locs ls hW hS hL)
theorem og_dup2L {v : Value} (hd : decode cc pc = .ok (.dup2, 1)) (hv : v.category = 2) (k : og_G E own cc d mc ms nL X Q cells slots n h (pc + 1) lv (v :: v :: st)) : og_G E own cc d mc ms nL X Q cells slots n h pc lv (v :: st) := by
  obtain ⟨p, l, e, R, s, m, args, below, meth, c⟩ := X
  intro C H locs ls hW hS hL
  exact lv_dup2_2 C.1 C.2.1 hd ((og_rv_cat E v).trans hv) (k C H locs ls hW hS hL)
-- BRANCHES
theorem og_if_eq {x : Int32} {off : Int} {tgt : Nat} (hd : decode cc pc = .ok (.ifCond .eq off, 3)) (ht : (pc : Int) + off = (tgt : Int)) (kt : x = 0 → og_G E own cc d mc ms nL X Q cells slots n h tgt lv st) (kf : ¬ x = 0 → og_G E own cc d mc ms nL X Q cells slots n h (pc + 3) lv st) : og_G E own cc d mc ms nL X Q cells slots n h pc lv (.int x :: st) := by
  obtain ⟨p, l, e, R, s, m, args, below, meth, c⟩ := X
  intro C H locs ls hW hS hL
  exact lv_if_eq C.1 C.2.1 hd ht (fun z => kt z C H locs ls hW hS hL) (fun z => kf z C H locs ls hW hS hL)
theorem og_icmp_eq {x y : Int32} {off : Int} {tgt : Nat} (hd : decode cc pc = .ok (.if_icmp .eq off, 3)) (ht : (pc : Int) + off = (tgt : Int)) (kt : x = y → og_G E own cc d mc ms nL X Q cells slots n h tgt lv st) (kf : ¬ x = y → og_G E own cc d mc ms nL X Q cells slots n h (pc + 3) lv st) : og_G E own cc d mc ms nL X Q cells slots n h pc lv (.int y :: .int x :: st) := by
  obtain ⟨p, l, e, R, s, m, args, below, meth, c⟩ := X
  intro C H locs ls hW hS hL
  exact lv_icmp_eq C.1 C.2.1 hd ht (fun z => kt z C H locs ls hW hS hL) (fun z => kf z C H locs ls hW hS hL)
theorem og_if_ne {x : Int32} {off : Int} {tgt : Nat} (hd : decode cc pc = .ok (.ifCond .ne off, 3)) (ht : (pc : Int) + off = (tgt : Int)) (kt : ¬ x = 0 → og_G E own cc d mc ms nL X Q cells slots n h tgt lv st) (kf : x = 0 → og_G E own cc d mc ms nL X Q cells slots n h (pc + 3) lv st) : og_G E own cc d mc ms nL X Q cells slots n h pc lv (.int x :: st) := by
  obtain ⟨p, l, e, R, s, m, args, below, meth, c⟩ := X
  intro C H locs ls hW hS hL
  exact lv_if_ne C.1 C.2.1 hd ht (fun z => kt z C H locs ls hW hS hL) (fun z => kf z C H locs ls hW hS hL)
theorem og_icmp_ne {x y : Int32} {off : Int} {tgt : Nat} (hd : decode cc pc = .ok (.if_icmp .ne off, 3)) (ht : (pc : Int) + off = (tgt : Int)) (kt : ¬ x = y → og_G E own cc d mc ms nL X Q cells slots n h tgt lv st) (kf : x = y → og_G E own cc d mc ms nL X Q cells slots n h (pc + 3) lv st) : og_G E own cc d mc ms nL X Q cells slots n h pc lv (.int y :: .int x :: st) := by
  obtain ⟨p, l, e, R, s, m, args, below, meth, c⟩ := X
  intro C H locs ls hW hS hL
  exact lv_icmp_ne C.1 C.2.1 hd ht (fun z => kt z C H locs ls hW hS hL) (fun z => kf z C H locs ls hW hS hL)
theorem og_if_lt {x : Int32} {off : Int} {tgt : Nat} (hd : decode cc pc = .ok (.ifCond .lt off, 3)) (ht : (pc : Int) + off = (tgt : Int)) (kt : x < 0 → og_G E own cc d mc ms nL X Q cells slots n h tgt lv st) (kf : ¬ x < 0 → og_G E own cc d mc ms nL X Q cells slots n h (pc + 3) lv st) : og_G E own cc d mc ms nL X Q cells slots n h pc lv (.int x :: st) := by
  obtain ⟨p, l, e, R, s, m, args, below, meth, c⟩ := X
  intro C H locs ls hW hS hL
  exact lv_if_lt C.1 C.2.1 hd ht (fun z => kt z C H locs ls hW hS hL) (fun z => kf z C H locs ls hW hS hL)
theorem og_icmp_lt {x y : Int32} {off : Int} {tgt : Nat} (hd : decode cc pc = .ok (.if_icmp .lt off, 3)) (ht : (pc : Int) + off = (tgt : Int)) (kt : x < y → og_G E own cc d mc ms nL X Q cells slots n h tgt lv st) (kf : ¬ x < y → og_G E own cc d mc ms nL X Q cells slots n h (pc + 3) lv st) : og_G E own cc d mc ms nL X Q cells slots n h pc lv (.int y :: .int x :: st) := by
  obtain ⟨p, l, e, R, s, m, args, below, meth, c⟩ := X
  intro C H locs ls hW hS hL
  exact lv_icmp_lt C.1 C.2.1 hd ht (fun z => kt z C H locs ls hW hS hL) (fun z => kf z C H locs ls hW hS hL)
theorem og_if_ge {x : Int32} {off : Int} {tgt : Nat} (hd : decode cc pc = .ok (.ifCond .ge off, 3)) (ht : (pc : Int) + off = (tgt : Int)) (kt : 0 ≤ x → og_G E own cc d mc ms nL X Q cells slots n h tgt lv st) (kf : ¬ 0 ≤ x → og_G E own cc d mc ms nL X Q cells slots n h (pc + 3) lv st) : og_G E own cc d mc ms nL X Q cells slots n h pc lv (.int x :: st) := by
  obtain ⟨p, l, e, R, s, m, args, below, meth, c⟩ := X
  intro C H locs ls hW hS hL
  exact lv_if_ge C.1 C.2.1 hd ht (fun z => kt z C H locs ls hW hS hL) (fun z => kf z C H locs ls hW hS hL)
theorem og_icmp_ge {x y : Int32} {off : Int} {tgt : Nat} (hd : decode cc pc = .ok (.if_icmp .ge off, 3)) (ht : (pc : Int) + off = (tgt : Int)) (kt : y ≤ x → og_G E own cc d mc ms nL X Q cells slots n h tgt lv st) (kf : ¬ y ≤ x → og_G E own cc d mc ms nL X Q cells slots n h (pc + 3) lv st) : og_G E own cc d mc ms nL X Q cells slots n h pc lv (.int y :: .int x :: st) := by
  obtain ⟨p, l, e, R, s, m, args, below, meth, c⟩ := X
  intro C H locs ls hW hS hL
  exact lv_icmp_ge C.1 C.2.1 hd ht (fun z => kt z C H locs ls hW hS hL) (fun z => kf z C H locs ls hW hS hL)
theorem og_if_gt {x : Int32} {off : Int} {tgt : Nat} (hd : decode cc pc = .ok (.ifCond .gt off, 3)) (ht : (pc : Int) + off = (tgt : Int)) (kt : 0 < x → og_G E own cc d mc ms nL X Q cells slots n h tgt lv st) (kf : ¬ 0 < x → og_G E own cc d mc ms nL X Q cells slots n h (pc + 3) lv st) : og_G E own cc d mc ms nL X Q cells slots n h pc lv (.int x :: st) := by
  obtain ⟨p, l, e, R, s, m, args, below, meth, c⟩ := X
  intro C H locs ls hW hS hL
  exact lv_if_gt C.1 C.2.1 hd ht (fun z => kt z C H locs ls hW hS hL) (fun z => kf z C H locs ls hW hS hL)
theorem og_icmp_gt {x y : Int32} {off : Int} {tgt : Nat} (hd : decode cc pc = .ok (.if_icmp .gt off, 3)) (ht : (pc : Int) + off = (tgt : Int)) (kt : y < x → og_G E own cc d mc ms nL X Q cells slots n h tgt lv st) (kf : ¬ y < x → og_G E own cc d mc ms nL X Q cells slots n h (pc + 3) lv st) : og_G E own cc d mc ms nL X Q cells slots n h pc lv (.int y :: .int x :: st) := by
  obtain ⟨p, l, e, R, s, m, args, below, meth, c⟩ := X
  intro C H locs ls hW hS hL
  exact lv_icmp_gt C.1 C.2.1 hd ht (fun z => kt z C H locs ls hW hS hL) (fun z => kf z C H locs ls hW hS hL)
theorem og_if_le {x : Int32} {off : Int} {tgt : Nat} (hd : decode cc pc = .ok (.ifCond .le off, 3)) (ht : (pc : Int) + off = (tgt : Int)) (kt : x ≤ 0 → og_G E own cc d mc ms nL X Q cells slots n h tgt lv st) (kf : ¬ x ≤ 0 → og_G E own cc d mc ms nL X Q cells slots n h (pc + 3) lv st) : og_G E own cc d mc ms nL X Q cells slots n h pc lv (.int x :: st) := by
  obtain ⟨p, l, e, R, s, m, args, below, meth, c⟩ := X
  intro C H locs ls hW hS hL
  exact lv_if_le C.1 C.2.1 hd ht (fun z => kt z C H locs ls hW hS hL) (fun z => kf z C H locs ls hW hS hL)
theorem og_icmp_le {x y : Int32} {off : Int} {tgt : Nat} (hd : decode cc pc = .ok (.if_icmp .le off, 3)) (ht : (pc : Int) + off = (tgt : Int)) (kt : x ≤ y → og_G E own cc d mc ms nL X Q cells slots n h tgt lv st) (kf : ¬ x ≤ y → og_G E own cc d mc ms nL X Q cells slots n h (pc + 3) lv st) : og_G E own cc d mc ms nL X Q cells slots n h pc lv (.int y :: .int x :: st) := by
  obtain ⟨p, l, e, R, s, m, args, below, meth, c⟩ := X
  intro C H locs ls hW hS hL
  exact lv_icmp_le C.1 C.2.1 hd ht (fun z => kt z C H locs ls hW hS hL) (fun z => kf z C H locs ls hW hS hL)
theorem og_goto {off : Int} {tgt : Nat} (hd : decode cc pc = .ok (.goto off, 3)) (ht : (pc : Int) + off = (tgt : Int)) (k : og_G E own cc d mc ms nL X Q cells slots n h tgt lv st) : og_G E own cc d mc ms nL X Q cells slots n h pc lv st := by
  obtain ⟨p, l, e, R, s, m, args, below, meth, c⟩ := X
  intro C H locs ls hW hS hL
  exact lv_goto C.1 C.2.1 hd ht (k C H locs ls hW hS hL)
theorem og_ifnonnull {a : Nat} {off : Int} {tgt : Nat} (hd : decode cc pc = .ok (.ifnonnull off, 3)) (ht : (pc : Int) + off = (tgt : Int)) (k : og_G E own cc d mc ms nL X Q cells slots n h tgt lv st) : og_G E own cc d mc ms nL X Q cells slots n h pc lv (.ref a :: st) := by
  obtain ⟨p, l, e, R, s, m, args, below, meth, c⟩ := X
  intro C H locs ls hW hS hL
  exact lv_ifnonnull C.1 C.2.1 hd ht (k C H locs ls hW hS hL)
theorem og_ifnonnullN {off : Int} (hd : decode cc pc = .ok (.ifnonnull off, 3)) (k : og_G E own cc d mc ms nL X Q cells slots n h (pc + 3) lv st) : og_G E own cc d mc ms nL X Q cells slots n h pc lv (.null :: st) := by
  obtain ⟨p, l, e, R, s, m, args, below, meth, c⟩ := X
  intro C H locs ls hW hS hL
  exact lv_ifnonnullN C.1 C.2.1 hd (k C H locs ls hW hS hL)
theorem og_tableIn {dflt lo hi : Int} {offs : Array Int} {len : Nat} {x : Int32} {off : Int} {tgt : Nat} (hd : decode cc pc = .ok (.tableswitch dflt lo hi offs, len)) (h1 : ¬ x.toInt < lo) (h2 : ¬ hi < x.toInt) (ho : offs[(x.toInt - lo).toNat]? = some off) (ht : (pc : Int) + off = (tgt : Int)) (k : og_G E own cc d mc ms nL X Q cells slots n h tgt lv st) : og_G E own cc d mc ms nL X Q cells slots n h pc lv (.int x :: st) := by
  obtain ⟨p, l, e, R, s, m, args, below, meth, c⟩ := X
  intro C H locs ls hW hS hL
  exact lv_tableIn C.1 C.2.1 hd h1 h2 ho ht (k C H locs ls hW hS hL)
theorem og_tableOut {dflt lo hi : Int} {offs : Array Int} {len : Nat} {x : Int32} {tgt : Nat} (hd : decode cc pc = .ok (.tableswitch dflt lo hi offs, len)) (h1 : x.toInt < lo ∨ hi < x.toInt) (ht : (pc : Int) + dflt = (tgt : Int)) (k : og_G E own cc d mc ms nL X Q cells slots n h tgt lv st) : og_G E own cc d mc ms nL X Q cells slots n h pc lv (.int x :: st) := by
  obtain ⟨p, l, e, R, s, m, args, below, meth, c⟩ := X
  intro C H locs ls hW hS hL
  exact lv_tableOut C.1 C.2.1 hd h1 ht (k C H locs ls hW hS hL)
theorem og_to {n1 : Nat} {h1 : og_H} {pc1 : Nat} {lv1 : List (Option Value)} {st1 : List Value} (en : n1 = n) (eh : h1 = h) (ep : pc1 = pc) (el : lv1 = lv) (es : st1 = st) (k : og_G E own cc d mc ms nL X Q cells slots n1 h1 pc1 lv1 st1) : og_G E own cc d mc ms nL X Q cells slots n h pc lv st := by
  obtain ⟨p, l, e, R, s, m, args, below, meth, c⟩ := X
  intro C H locs ls hW hS hL
  subst en; subst eh; subst ep; subst el; subst es
  exact (k C H locs ls hW hS hL)
end OG
end
section
/-! ===== rules that read and write the abstract heap ===== -/
/-- the field k of the objects of kind ci, by the constant pool's place -/
def og_F (own : String) (index ci k : Nat) : Prop := ∃ (r : vw_C), og_cl[ci]? = some r ∧ k < r.2.2 ∧ Cond.fieldLink own index (r.2.1 k).1 (r.2.1 k).2.1 (r.2.1 k).2.2.1 ∈ BW ∧ (∀ w ∈ u_ws r.1 r.2.1 r.2.2, w ∈ BW)
/-- what is put into it: its type; not final, or in its class's constructor -/
def og_FP (own : String) (index ci k : Nat) (ty : FieldType) (fin : Bool) : Prop := ∃ (r : vw_C) (ty0 : Nat → FieldType), og_cl[ci]? = some r ∧ k < r.2.2 ∧ Cond.fieldLink own index (r.2.1 k).1 (r.2.1 k).2.1 (r.2.1 k).2.2.1 ∈ BW ∧ (∀ w ∈ u_ws r.1 r.2.1 r.2.2, w ∈ BW) ∧ (∀ k, k < r.2.2 → parseFieldDescriptor (r.2.1 k).2.2.1 = some (ty0 k)) ∧ (∀ a, a < r.2.2 → ∀ b, b < r.2.2 → a ≠ b → (r.2.1 a).2.1 ≠ (r.2.1 b).2.1) ∧ parseFieldDescriptor (r.2.1 k).2.2.1 = some ty ∧ (r.2.1 k).2.2.2 = fin ∧ (fin = true → (r.2.1 k).1 = own)
section OH
variable {E : og_E} {own : String} {cc : ByteArray} {d mc ms nL : Nat} {X : og_X} {Q : State → Prop} {cells slots n : Nat} {h : og_H} {pc : Nat} {lv : List (Option Value)} {st : List Value}
theorem og_P1 {E : og_E} {s : State} {n : Nat} {h : og_H} {H : Heap} {a : Nat} {e : og_N} (hW : og_Wd E s n h H) (ha : h a = some e) (h3 : 3 ≤ a) : va_P (og_D E) og_cl [(og_rho E a, og_cn E e)] H := by
  intro k q hk
  have hz : k < 1 := (List.getElem?_eq_some_iff.mp hk).1
  rw [show k = 0 by omega] at hk
  cases hk
  exact (hW.2.2 a e ha).2.1 h3
theorem og_D1 {E : og_E} {a : Nat} {e : va_E} (h3 : 3 ≤ a) : va_D (og_A E) [(og_rho E a, e)] := by
  refine ⟨fun i j p q hi hj _ => ?_, fun k q hk => ?_⟩
  · have := (List.getElem?_eq_some_iff.mp hi).1
    have := (List.getElem?_eq_some_iff.mp hj).1
    simp only [List.length_cons, List.length_nil] at *
    omega
  · have hz : k < 1 := (List.getElem?_eq_some_iff.mp hk).1
    rw [show k = 0 by omega] at hk
    cases hk
    show og_b E ≤ og_rho E a
    rw [og_rho3 E h3]
    omega
theorem og_get {index ci k a : Nat} {fs : List Value} {v : Value} (hf : og_F own index ci k) (hd : decode cc pc = .ok (.getfield index, 3)) (ha : h a = some (.inr (ci, fs))) (h3 : 3 ≤ a) (hv : fs[k]? = some v)
    (kk : og_G E own cc d mc ms nL X Q cells slots n h (pc + 3) lv (v :: st)) : og_G E own cc d mc ms nL X Q cells slots n h pc lv (.ref a :: st) := by
  obtain ⟨p, l, e, R, s, m, args, below, meth, c⟩ := X
  intro C H locs ls hW hS hL
  obtain ⟨r, f1, f2, f3, f4⟩ := hf
  exact va_get (C := r.1) (T := r.2.1) (N := r.2.2) C.1 C.2.1 C.2.2.2.2.1 f4 C.2.2.2.1 C.2.2.2.2.2.2.1.1 (og_P1 hW ha h3) 0 rfl f1 k f2 (C.2.2.2.2.1 _ f3) (fun _ z => z) (v := og_rv E v) (by rw [List.getElem?_map, hv]; rfl) hd (kk C H locs ls hW hS hL)
theorem og_put {index ci k a : Nat} {fs : List Value} {v : Value} {ty : FieldType} (hf : og_FP own index ci k ty false) (hd : decode cc pc = .ok (.putfield index, 3)) (ha : h a = some (.inr (ci, fs))) (h3 : 3 ≤ a) (hn : narrow ty (og_rv E v) = og_rv E v) (hfit : fits ty (og_rv E v) = true) (hl : k < fs.length)
    (kk : og_G E own cc d mc ms nL X Q cells slots n (og_set h a (.inr (ci, fs.set k v))) (pc + 3) lv st) : og_G E own cc d mc ms nL X Q cells slots n h pc lv (v :: .ref a :: st) := by
  obtain ⟨p, l, e, R, s, m, args, below, meth, c⟩ := X
  intro C H locs ls hW hS hL
  obtain ⟨r, ty0, f1, f2, f3, f4, f5, f6, f7, f8, f9⟩ := hf
  have hln : k < (fs.map (og_rv E)).length := by rw [List.length_map]; exact hl
  have hK := C.2.2.2.2.2.2.1.1
  have hts := C.2.2.2.2.1
  have hap := va_apart (own := own) hts f4 ty0 f5 f6 hK f1
  obtain ⟨r9, h1, cell, q1, q2, q3, q4⟩ := (hW.2.2 a _ ha).2.1 h3
  cases Option.some.inj (h1.symm.trans f1)
  obtain ⟨hSl, hfc, kC, hkC, hkind⟩ := hK.1 ci _ f1
  obtain ⟨cf, kf, fi, f, hi, hsl⟩ := hSl k f2
  have hlay := hts _ (f4 _ (u_in_lay f2))
  unfold u_lay at hlay
  rw [if_neg (by rw [f8]; decide)] at hlay
  have hst := (u_facts hfc hkC (u_lays hts f4 f2) hi).1
  have h6 := u_store hfc hkC hkind hlay hi f7 hn hfit
  refine W.putK (v := og_rv E v) C.1 C.2.1 (f := f) ⟨C.2.2.2.1, hts _ f3, ⟨_, _, _, hi⟩, hst⟩ (by rw [q2]; exact h6) q1 q3 (by rw [hsl]; exact k2_hasslot (q4 k f2)) rfl rfl hd fun H1 e1 e2 e3 => ?_
  rw [hsl] at e1 ⊢
  refine kk C H1 _ ls (hW.put h3 (hW.2.2 a _ ha).1 e2 ⟨r, f1, ?_⟩ e3) (hS.put e2 e3 (by show og_b E ≤ _; rw [og_rho3 E h3]; omega)) hL
  exact t_OB.to (V := updV (vp_V (fs.map (og_rv E))) k (og_rv E v)) ⟨_, e1, q2, q3, t_set q4 hap f2 (og_rv E v)⟩ (fun j _ => by
    show _ = vp_V ((fs.set k v).map (og_rv E)) j
    rw [List.map_set]
    exact vp_updV_set hln (og_rv E v) j)
theorem og_putF {index ci k a : Nat} {fs : List Value} {v : Value} {ty : FieldType} (hf : og_FP own index ci k ty true) (hd : decode cc pc = .ok (.putfield index, 3)) (ha : h a = some (.inr (ci, fs))) (h3 : 3 ≤ a) (hin : og_nm X = "<init>") (hn : narrow ty (og_rv E v) = og_rv E v) (hfit : fits ty (og_rv E v) = true) (hl : k < fs.length)
    (kk : og_G E own cc d mc ms nL X Q cells slots n (og_set h a (.inr (ci, fs.set k v))) (pc + 3) lv st) : og_G E own cc d mc ms nL X Q cells slots n h pc lv (v :: .ref a :: st) := by
  obtain ⟨p, l, e, R, s, m, args, below, meth, c⟩ := X
  intro C H locs ls hW hS hL
  obtain ⟨r, ty0, f1, f2, f3, f4, f5, f6, f7, f8, f9⟩ := hf
  have hln : k < (fs.map (og_rv E)).length := by rw [List.length_map]; exact hl
  have hK := C.2.2.2.2.2.2.1.1
  have hts := C.2.2.2.2.1
  have hap := va_apart (own := own) hts f4 ty0 f5 f6 hK f1
  obtain ⟨r9, h1, cell, q1, q2, q3, q4⟩ := (hW.2.2 a _ ha).2.1 h3
  cases Option.some.inj (h1.symm.trans f1)
  obtain ⟨hSl, hfc, kC, hkC, hkind⟩ := hK.1 ci _ f1
  obtain ⟨cf, kf, fi, f, hi, hsl⟩ := hSl k f2
  have hlay := hts _ (f4 _ (u_in_lay f2))
  unfold u_lay at hlay
  rw [if_pos f8] at hlay
  have hst := (u_facts hfc hkC (u_lays hts f4 f2) hi).1
  have hcf : m.cls = cf := by
    obtain ⟨_, _, c2, _, _, _, -, -, hf2, -, -, -, hown2, -⟩ := Cond.laysFinal_spec hlay
    have e1 : c2 = cf := by have := hi.symm.trans hf2; simp at this; exact this.1.symm
    rw [f9 rfl] at hown2
    rw [← e1]; exact Option.some.inj (C.2.2.2.1.symm.trans hown2)
  have h6 := u_fits hfc hkC hkind (Or.inr hlay) hi f7 hn hfit
  refine W.putFinK (v := og_rv E v) C.1 C.2.1 C.2.2.2.1 (hts _ f3) hi hst hcf hin (by rw [q2]; exact h6) q1 q3 (by rw [hsl]; exact k2_hasslot (q4 k f2)) rfl rfl hd fun H1 e1 e2 e3 => ?_
  rw [hsl] at e1 ⊢
  refine kk C H1 _ ls (hW.put h3 (hW.2.2 a _ ha).1 e2 ⟨r, f1, ?_⟩ e3) (hS.put e2 e3 (by show og_b E ≤ _; rw [og_rho3 E h3]; omega)) hL
  exact t_OB.to (V := updV (vp_V (fs.map (og_rv E))) k (og_rv E v)) ⟨_, e1, q2, q3, t_set q4 hap f2 (og_rv E v)⟩ (fun j _ => by
    show _ = vp_V ((fs.set k v).map (og_rv E)) j
    rw [List.map_set]
    exact vp_updV_set hln (og_rv E v) j)
theorem og_iald {a N : Nat} {f : Nat → Int32} {i : Int32} (hd : decode cc pc = .ok (.iaload, 1)) (ha : h a = some (.inl (1, N, .inl f))) (h3 : 3 ≤ a) (hin : vp_in i N)
    (kk : og_G E own cc d mc ms nL X Q cells slots n h (pc + 1) lv (.int (f i.toNatClampNeg) :: st)) : og_G E own cc d mc ms nL X Q cells slots n h pc lv (.int i :: .ref a :: st) := by
  obtain ⟨p, l, e, R, s, m, args, below, meth, c⟩ := X
  intro C H locs ls hW hS hL
  exact va_iald C.1 C.2.1 C.2.2.2.2.2.2.1.1 (og_P1 hW ha h3) 0 1 rfl (og_tyAt E (by decide)) hin hd (kk C H locs ls hW hS hL)
theorem og_bald {a N : Nat} {f : Nat → Int32} {i : Int32} (hd : decode cc pc = .ok (.baload, 1)) (ha : h a = some (.inl (0, N, .inl f))) (h3 : 3 ≤ a) (hin : vp_in i N)
    (kk : og_G E own cc d mc ms nL X Q cells slots n h (pc + 1) lv (.int (f i.toNatClampNeg) :: st)) : og_G E own cc d mc ms nL X Q cells slots n h pc lv (.int i :: .ref a :: st) := by
  obtain ⟨p, l, e, R, s, m, args, below, meth, c⟩ := X
  intro C H locs ls hW hS hL
  exact va_bald C.1 C.2.1 C.2.2.2.2.2.2.1.1 (og_P1 hW ha h3) 0 0 rfl (og_tyAt E (by decide)) hin hd (kk C H locs ls hW hS hL)
theorem og_zald {a N : Nat} {f : Nat → Int32} {i : Int32} (hd : decode cc pc = .ok (.baload, 1)) (ha : h a = some (.inl (3, N, .inl f))) (h3 : 3 ≤ a) (hin : vp_in i N)
    (kk : og_G E own cc d mc ms nL X Q cells slots n h (pc + 1) lv (.int (f i.toNatClampNeg) :: st)) : og_G E own cc d mc ms nL X Q cells slots n h pc lv (.int i :: .ref a :: st) := by
  obtain ⟨p, l, e, R, s, m, args, below, meth, c⟩ := X
  intro C H locs ls hW hS hL
  exact va_zald C.1 C.2.1 C.2.2.2.2.2.2.1.1 (og_P1 hW ha h3) 0 3 rfl (og_tyAt E (by decide)) hin hd (kk C H locs ls hW hS hL)
theorem og_lald {a N : Nat} {f : Nat → Int64} {i : Int32} (hd : decode cc pc = .ok (.laload, 1)) (ha : h a = some (.inl (2, N, .inr (.inl f)))) (h3 : 3 ≤ a) (hin : vp_in i N)
    (kk : og_G E own cc d mc ms nL X Q cells slots n h (pc + 1) lv (.long (f i.toNatClampNeg) :: st)) : og_G E own cc d mc ms nL X Q cells slots n h pc lv (.int i :: .ref a :: st) := by
  obtain ⟨p, l, e, R, s, m, args, below, meth, c⟩ := X
  intro C H locs ls hW hS hL
  exact va_lald C.1 C.2.1 C.2.2.2.2.2.2.1.1 (og_P1 hW ha h3) 0 2 rfl (og_tyAt E (by decide)) hin hd (kk C H locs ls hW hS hL)
theorem og_sald {a N : Nat} {f : Nat → Int32} {i : Int32} (hd : decode cc pc = .ok (.iaload, 1)) (ha : h a = some (.inl (1, N, .inl f))) (h3 : a < 3) (hin : vp_in i N)
    (kk : og_G E own cc d mc ms nL X Q cells slots n h (pc + 1) lv (.int (f i.toNatClampNeg) :: st)) : og_G E own cc d mc ms nL X Q cells slots n h pc lv (.int i :: .ref a :: st) := by
  obtain ⟨p, l, e, R, s, m, args, below, meth, c⟩ := X
  intro C H locs ls hW hS hL
  obtain ⟨n9, f9, cell, e1, e2, e3, e4, e5, e6, e7, e8⟩ := (hW.2.2 a _ ha).2.2 h3
  cases e1
  have hlt : i.toNatClampNeg < N := Nat.not_le.mp fun q => hin (Or.inr q)
  exact W.iald (v := .int (f i.toNatClampNeg)) C.1 C.2.1 e2 e4 e5 (fun z => z.elim (fun z => hin (Or.inl z)) (fun z => by omega)) (e8 _ hlt) rfl rfl hd (kk C H locs ls hW hS hL)
theorem og_slen {a N : Nat} {f : Nat → Int32} (hd : decode cc pc = .ok (.arraylength, 1)) (ha : h a = some (.inl (1, N, .inl f))) (h3 : a < 3)
    (kk : og_G E own cc d mc ms nL X Q cells slots n h (pc + 1) lv (.int (Int32.ofNat N) :: st)) : og_G E own cc d mc ms nL X Q cells slots n h pc lv (.ref a :: st) := by
  obtain ⟨p, l, e, R, s, m, args, below, meth, c⟩ := X
  intro C H locs ls hW hS hL
  obtain ⟨n9, f9, cell, e1, e2, e3, e4, e5, e6, e7, e8⟩ := (hW.2.2 a _ ha).2.2 h3
  cases e1
  exact W.alen (n := Int32.ofNat N) C.1 C.2.1 e2 e4 e7 rfl rfl hd (kk C H locs ls hW hS hL)
theorem og_alen {a k : Nat} {x : vp_A} {v : Int32} (hd : decode cc pc = .ok (.arraylength, 1)) (ha : h a = some (.inl (k, x))) (h3 : 3 ≤ a) (hk : k < 7) (hv : Int32.ofNat x.1 = v)
    (kk : og_G E own cc d mc ms nL X Q cells slots n h (pc + 1) lv (.int v :: st)) : og_G E own cc d mc ms nL X Q cells slots n h pc lv (.ref a :: st) := by
  obtain ⟨p, l, e, R, s, m, args, below, meth, c⟩ := X
  intro C H locs ls hW hS hL
  exact va_alen C.1 C.2.1 C.2.2.2.2.2.2.1.1 (og_P1 hW ha h3) 0 k rfl (og_tyAt E hk) (by rw [← hv]; obtain ⟨n, f | f | f | f | f⟩ := x <;> rfl) hd (kk C H locs ls hW hS hL)
theorem og_rvq (E : og_E) (x : Option Nat) : og_rv E (va_rf x) = va_rf (x.map (og_rho E)) := by cases x <;> rfl
theorem og_aald {a N k : Nat} {f : Nat → Option Nat} {i : Int32} (hd : decode cc pc = .ok (.aaload, 1)) (ha : h a = some (.inl (k, N, .inr (.inr (.inr (.inr f)))))) (h3 : 3 ≤ a) (hk : k < 7) (hk4 : 4 ≤ k) (hin : vp_in i N)
    (kk : og_G E own cc d mc ms nL X Q cells slots n h (pc + 1) lv (va_rf (f i.toNatClampNeg) :: st)) : og_G E own cc d mc ms nL X Q cells slots n h pc lv (.int i :: .ref a :: st) := by
  obtain ⟨p, l, e, R, s, m, args, below, meth, c⟩ := X
  intro C H locs ls hW hS hL
  have hlt : i.toNatClampNeg < N := Nat.not_le.mp fun q => hin (Or.inr q)
  have hr : (og_ty k).isReference = true := by
    match k, hk, hk4 with
    | 4, _, _ => rfl
    | 5, _, _ => rfl
    | 6, _, _ => rfl
  have hc := (hW.2.2 a _ ha).2.1 h3
  exact W.aald (v := og_rv E (va_rf (f i.toNatClampNeg))) (ty := og_ty k) C.1 C.2.1 hc ((C.2.2.2.2.2.2.1.1.2 k _ (og_tyAt E hk)).1 N (fun j => va_rf ((f j).map (og_rho E)))) hr (fun q => by cases q) (by show ¬ (i < 0 ∨ (arrV _ _ _).slots.size ≤ _); rw [arrV_size]; exact hin) (by rw [og_rvq]; show (arrV (E.2.2.1 k) N (fun j => va_rf ((f j).map (og_rho E)))).slots[i.toNatClampNeg]? = _; rw [arrV_read _ _ hlt]) rfl rfl hd (kk C H locs ls hW hS hL)
theorem og_iast {a N : Nat} {f : Nat → Int32} {i : Int32} {x : Int32} (hd : decode cc pc = .ok (.iastore, 1)) (ha : h a = some (.inl (1, N, .inl f))) (h3 : 3 ≤ a) (hin : vp_in i N)
    (kk : og_G E own cc d mc ms nL X Q cells slots n (og_set h a (.inl (1, N, .inl (upd f i.toNatClampNeg x)))) (pc + 1) lv st) : og_G E own cc d mc ms nL X Q cells slots n h pc lv (.int x :: .int i :: .ref a :: st) := by
  obtain ⟨p, l, e, R, s, m, args, below, meth, c⟩ := X
  intro C H locs ls hW hS hL
  have hc := (hW.2.2 a _ ha).2.1 h3
  refine W.iast C.1 C.2.1 hc ((C.2.2.2.2.2.2.1.1.2 1 _ (og_tyAt E (by decide))).1 N (fun j => .int (f j))) (fun q => by cases q) (by show ¬ (i < 0 ∨ (arrV _ _ _).slots.size ≤ _); rw [arrV_size]; exact hin) rfl rfl hd fun H1 e z oq => ?_
  refine kk C H1 _ ls (hW.put h3 (hW.2.2 a _ ha).1 z ?_ oq) (hS.put z oq (by show og_b E ≤ _; rw [og_rho3 E h3]; omega)) hL
  show H1[og_rho E a]? = some (vp_cell _ _)
  rw [e]
  show some ((arrV (E.2.2.1 1) N (fun j => .int (f j))).setSlot _ _) = some (arrV (E.2.2.1 1) N (fun j => .int (upd f i.toNatClampNeg x j)))
  rw [arrV_store]
  congr 2
  funext q
  by_cases hq : q = i.toNatClampNeg
  · subst hq
    simp [updV, upd]
  · simp [updV, upd, hq]
theorem og_bast {a N : Nat} {f : Nat → Int32} {i : Int32} {x : Int32} (hd : decode cc pc = .ok (.bastore, 1)) (ha : h a = some (.inl (0, N, .inl f))) (h3 : 3 ≤ a) (hin : vp_in i N)
    (kk : og_G E own cc d mc ms nL X Q cells slots n (og_set h a (.inl (0, N, .inl (upd f i.toNatClampNeg (vp_nar .byte x))))) (pc + 1) lv st) : og_G E own cc d mc ms nL X Q cells slots n h pc lv (.int x :: .int i :: .ref a :: st) := by
  obtain ⟨p, l, e, R, s, m, args, below, meth, c⟩ := X
  intro C H locs ls hW hS hL
  have hc := (hW.2.2 a _ ha).2.1 h3
  refine W.bast C.1 C.2.1 hc ((C.2.2.2.2.2.2.1.1.2 0 _ (og_tyAt E (by decide))).1 N (fun j => .int (f j))) (fun q => by cases q) (by show ¬ (i < 0 ∨ (arrV _ _ _).slots.size ≤ _); rw [arrV_size]; exact hin) rfl rfl hd fun H1 e z oq => ?_
  refine kk C H1 _ ls (hW.put h3 (hW.2.2 a _ ha).1 z ?_ oq) (hS.put z oq (by show og_b E ≤ _; rw [og_rho3 E h3]; omega)) hL
  show H1[og_rho E a]? = some (vp_cell _ _)
  rw [e]
  show some ((arrV (E.2.2.1 0) N (fun j => .int (f j))).setSlot _ _) = some (arrV (E.2.2.1 0) N (fun j => .int (upd f i.toNatClampNeg (vp_nar .byte x) j)))
  rw [arrV_store]
  congr 2
  funext q
  by_cases hq : q = i.toNatClampNeg
  · subst hq
    simp [updV, upd, vp_nar]
    try rfl
  · simp [updV, upd, hq]
theorem og_zast {a N : Nat} {f : Nat → Int32} {i : Int32} {x : Int32} (hd : decode cc pc = .ok (.bastore, 1)) (ha : h a = some (.inl (3, N, .inl f))) (h3 : 3 ≤ a) (hin : vp_in i N)
    (kk : og_G E own cc d mc ms nL X Q cells slots n (og_set h a (.inl (3, N, .inl (upd f i.toNatClampNeg (vp_nar .boolean x))))) (pc + 1) lv st) : og_G E own cc d mc ms nL X Q cells slots n h pc lv (.int x :: .int i :: .ref a :: st) := by
  obtain ⟨p, l, e, R, s, m, args, below, meth, c⟩ := X
  intro C H locs ls hW hS hL
  have hc := (hW.2.2 a _ ha).2.1 h3
  refine W.zast C.1 C.2.1 hc ((C.2.2.2.2.2.2.1.1.2 3 _ (og_tyAt E (by decide))).1 N (fun j => .int (f j))) (fun q => by cases q) (by show ¬ (i < 0 ∨ (arrV _ _ _).slots.size ≤ _); rw [arrV_size]; exact hin) rfl rfl hd fun H1 e z oq => ?_
  refine kk C H1 _ ls (hW.put h3 (hW.2.2 a _ ha).1 z ?_ oq) (hS.put z oq (by show og_b E ≤ _; rw [og_rho3 E h3]; omega)) hL
  show H1[og_rho E a]? = some (vp_cell _ _)
  rw [e]
  show some ((arrV (E.2.2.1 3) N (fun j => .int (f j))).setSlot _ _) = some (arrV (E.2.2.1 3) N (fun j => .int (upd f i.toNatClampNeg (vp_nar .boolean x) j)))
  rw [arrV_store]
  congr 2
  funext q
  by_cases hq : q = i.toNatClampNeg
  · subst hq
    simp [updV, upd, vp_nar]
    try rfl
  · simp [updV, upd, hq]
theorem og_last {a N : Nat} {f : Nat → Int64} {i : Int32} {x : Int64} (hd : decode cc pc = .ok (.lastore, 1)) (ha : h a = some (.inl (2, N, .inr (.inl f)))) (h3 : 3 ≤ a) (hin : vp_in i N)
    (kk : og_G E own cc d mc ms nL X Q cells slots n (og_set h a (.inl (2, N, .inr (.inl (vp_updL f i.toNatClampNeg x))))) (pc + 1) lv st) : og_G E own cc d mc ms nL X Q cells slots n h pc lv (.long x :: .int i :: .ref a :: st) := by
  obtain ⟨p, l, e, R, s, m, args, below, meth, c⟩ := X
  intro C H locs ls hW hS hL
  have hc := (hW.2.2 a _ ha).2.1 h3
  refine W.last C.1 C.2.1 hc ((C.2.2.2.2.2.2.1.1.2 2 _ (og_tyAt E (by decide))).1 N (fun j => .long (f j))) (fun q => by cases q) (by show ¬ (i < 0 ∨ (arrV _ _ _).slots.size ≤ _); rw [arrV_size]; exact hin) rfl rfl hd fun H1 e z oq => ?_
  refine kk C H1 _ ls (hW.put h3 (hW.2.2 a _ ha).1 z ?_ oq) (hS.put z oq (by show og_b E ≤ _; rw [og_rho3 E h3]; omega)) hL
  show H1[og_rho E a]? = some (vp_cell _ _)
  rw [e]
  show some ((arrV (E.2.2.1 2) N (fun j => .long (f j))).setSlot _ _) = some (arrV (E.2.2.1 2) N (fun j => .long (vp_updL f i.toNatClampNeg x j)))
  rw [arrV_store]
  congr 2
  funext q
  by_cases hq : q = i.toNatClampNeg
  · subst hq
    simp [updV, vp_updL]
  · simp [updV, vp_updL, hq]
theorem og_aast {a N ka ci b : Nat} {r : vw_C} {fs : List Value} {f : Nat → Option Nat} {i : Int32} (hd : decode cc pc = .ok (.aastore, 1)) (ha : h a = some (.inl (ka, N, .inr (.inr (.inr (.inr f)))))) (h3 : 3 ≤ a) (hka : ka < 7) (hc : og_cl[ci]? = some r) (hty : og_ty ka = .object r.1) (hb : h b = some (.inr (ci, fs))) (hb3 : 3 ≤ b) (hin : vp_in i N)
    (kk : og_G E own cc d mc ms nL X Q cells slots n (og_set h a (.inl (ka, N, .inr (.inr (.inr (.inr (va_up f i.toNatClampNeg (some b)))))))) (pc + 1) lv st) : og_G E own cc d mc ms nL X Q cells slots n h pc lv (.ref b :: .int i :: .ref a :: st) := by
  obtain ⟨p, l, e, R, s, m, args, below, meth, c⟩ := X
  intro C H locs ls hW hS hL
  have hcA := (hW.2.2 a _ ha).2.1 h3
  have hlt : i.toNatClampNeg < N := Nat.not_le.mp fun q => hin (Or.inr q)
  have h0 : ¬ i < 0 := fun q => hin (Or.inl q)
  obtain ⟨r', hr', cellV, g1, g2, g3, -⟩ := (hW.2.2 b _ hb).2.1 hb3
  have hK := C.2.2.2.2.2.2.1.1
  have hcls := (hK.1 ci r hc).2
  have hRA := (hK.2 ka _ (og_tyAt E hka)).2
  rw [show (E.2.2.1 ka, og_ty ka).2 = FieldType.object r.1 from hty] at hRA
  obtain ⟨kA, comp, k1, k2, k3, -⟩ := hRA
  have hcomp : comp = (og_D E).1 ci := Option.some.inj (k3.symm.trans hcls.1)
  subst hcomp
  obtain ⟨kC, hkC, -⟩ := hcls.2
  refine W.aast C.1 C.2.1 hcA (fun q h => by cases h) (fun h => by cases h) k1 k2 rfl hkC ⟨h0, by show _ < (arrV _ _ _).slots.size; rw [arrV_size]; exact hlt⟩ g1 (fun q h => by rw [g3] at h; cases h) (by rw [g2]; exact hkC) (by rw [g2]; exact va_assign hcls) rfl rfl hd fun H1 e z oq => ?_
  refine kk C H1 _ ls (hW.put h3 (hW.2.2 a _ ha).1 z ?_ oq) (hS.put z oq (by show og_b E ≤ _; rw [og_rho3 E h3]; omega)) hL
  show H1[og_rho E a]? = some (vp_cell _ _)
  rw [e]
  show some ((arrV (E.2.2.1 ka) N (fun j => va_rf ((f j).map (og_rho E)))).setSlot _ _) = some (arrV (E.2.2.1 ka) N (fun j => va_rf ((va_up f i.toNatClampNeg (some b) j).map (og_rho E))))
  rw [arrV_store]
  congr 2
  funext q
  by_cases hq : q = i.toNatClampNeg
  · subst hq
    simp [updV, va_up, va_rf]
  · simp [updV, va_up, hq]
end OH
end
