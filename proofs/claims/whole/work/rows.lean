section
-- ===== PART A: goes FIRST, ahead of the names: the tables' words, and 'selects' of the private methods out of them =====
/-- a private method of a class that the tables say can be made, by its rows of tables_1 -/
def lw_okq (q : MethodName × Nat) : Prop := (q.1.cls ≠ "java/lang/invoke/MethodHandle" ∧ q.1.cls ≠ "java/lang/invoke/VarHandle") ∧ Cond.instantiable q.1.cls q.2 ∈ tables_1 ∧ Cond.privateMethod q.1 ∈ tables_1 ∧ Cond.instanceMethod q.1 ∈ tables_1
theorem lw_p0 : lw_okq (⟨"ChalkTramps$Reader", "takes", "(I)Z"⟩, 4) := ⟨⟨by decide +kernel, by decide +kernel⟩, List.mem_of_getElem? (i := 42) (by decide +kernel), List.mem_of_getElem? (i := 333) (by decide +kernel), List.mem_of_getElem? (i := 334) (by decide +kernel)⟩
theorem lw_p1 : lw_okq (⟨"ChalkTramps$Reader", "takesKilnPlace", "(I)Z"⟩, 4) := ⟨⟨by decide +kernel, by decide +kernel⟩, List.mem_of_getElem? (i := 42) (by decide +kernel), List.mem_of_getElem? (i := 337) (by decide +kernel), List.mem_of_getElem? (i := 338) (by decide +kernel)⟩
theorem lw_p2 : lw_okq (⟨"ChalkTramps$Reader", "takesLayer", "(I)Z"⟩, 4) := ⟨⟨by decide +kernel, by decide +kernel⟩, List.mem_of_getElem? (i := 42) (by decide +kernel), List.mem_of_getElem? (i := 352) (by decide +kernel), List.mem_of_getElem? (i := 353) (by decide +kernel)⟩
theorem lw_p3 : lw_okq (⟨"ChalkTramps$Reader", "beginsPart", "(I)Z"⟩, 4) := ⟨⟨by decide +kernel, by decide +kernel⟩, List.mem_of_getElem? (i := 42) (by decide +kernel), List.mem_of_getElem? (i := 372) (by decide +kernel), List.mem_of_getElem? (i := 373) (by decide +kernel)⟩
theorem lw_p4 : lw_okq (⟨"ChalkTramps$Reader", "takesTrampKind", "(I)Z"⟩, 4) := ⟨⟨by decide +kernel, by decide +kernel⟩, List.mem_of_getElem? (i := 42) (by decide +kernel), List.mem_of_getElem? (i := 376) (by decide +kernel), List.mem_of_getElem? (i := 377) (by decide +kernel)⟩
theorem lw_p5 : lw_okq (⟨"ChalkTramps$Camp", "lieUp", "(ILChalkTramps$Land;I)V"⟩, 7) := ⟨⟨by decide +kernel, by decide +kernel⟩, List.mem_of_getElem? (i := 77) (by decide +kernel), List.mem_of_getElem? (i := 467) (by decide +kernel), List.mem_of_getElem? (i := 468) (by decide +kernel)⟩
theorem lw_p6 : lw_okq (⟨"ChalkTramps$Search", "findsFrom", "(ILChalkTramps$Camp;LChalkTramps$Land;II)Z"⟩, 8) := ⟨⟨by decide +kernel, by decide +kernel⟩, List.mem_of_getElem? (i := 173) (by decide +kernel), List.mem_of_getElem? (i := 568) (by decide +kernel), List.mem_of_getElem? (i := 569) (by decide +kernel)⟩
theorem lw_p7 : lw_okq (⟨"ChalkTramps$Search", "addNext", "(JI)V"⟩, 8) := ⟨⟨by decide +kernel, by decide +kernel⟩, List.mem_of_getElem? (i := 173) (by decide +kernel), List.mem_of_getElem? (i := 580) (by decide +kernel), List.mem_of_getElem? (i := 581) (by decide +kernel)⟩
theorem lw_p8 : lw_okq (⟨"ChalkTramps$Search", "turnToNext", "()V"⟩, 8) := ⟨⟨by decide +kernel, by decide +kernel⟩, List.mem_of_getElem? (i := 173) (by decide +kernel), List.mem_of_getElem? (i := 584) (by decide +kernel), List.mem_of_getElem? (i := 585) (by decide +kernel)⟩
theorem lw_p9 : lw_okq (⟨"ChalkTramps$Orders", "waysTo", "(I)I"⟩, 3) := ⟨⟨by decide +kernel, by decide +kernel⟩, List.mem_of_getElem? (i := 206) (by decide +kernel), List.mem_of_getElem? (i := 602) (by decide +kernel), List.mem_of_getElem? (i := 603) (by decide +kernel)⟩
theorem lw_p10 : lw_okq (⟨"ChalkTramps$Orders", "canFollow", "(II)Z"⟩, 3) := ⟨⟨by decide +kernel, by decide +kernel⟩, List.mem_of_getElem? (i := 206) (by decide +kernel), List.mem_of_getElem? (i := 606) (by decide +kernel), List.mem_of_getElem? (i := 607) (by decide +kernel)⟩
theorem lw_p11 : lw_okq (⟨"ChalkTramps$Orders", "leastAfter", "(I)I"⟩, 3) := ⟨⟨by decide +kernel, by decide +kernel⟩, List.mem_of_getElem? (i := 206) (by decide +kernel), List.mem_of_getElem? (i := 618) (by decide +kernel), List.mem_of_getElem? (i := 619) (by decide +kernel)⟩
theorem lw_p12 : lw_okq (⟨"ChalkTramps", "canBe", "(III)Z"⟩, 12) := ⟨⟨by decide +kernel, by decide +kernel⟩, List.mem_of_getElem? (i := 17) (by decide +kernel), List.mem_of_getElem? (i := 629) (by decide +kernel), List.mem_of_getElem? (i := 630) (by decide +kernel)⟩
theorem lw_p13 : lw_okq (⟨"ChalkTramps$Stranger", "fits", "(I)Z"⟩, 5) := ⟨⟨by decide +kernel, by decide +kernel⟩, List.mem_of_getElem? (i := 222) (by decide +kernel), List.mem_of_getElem? (i := 678) (by decide +kernel), List.mem_of_getElem? (i := 679) (by decide +kernel)⟩
theorem lw_p14 : lw_okq (⟨"ChalkTramps$Stranger", "noteFound", "(I)V"⟩, 5) := ⟨⟨by decide +kernel, by decide +kernel⟩, List.mem_of_getElem? (i := 222) (by decide +kernel), List.mem_of_getElem? (i := 682) (by decide +kernel), List.mem_of_getElem? (i := 683) (by decide +kernel)⟩
theorem lw_p15 : lw_okq (⟨"ChalkTramps$Game", "isAtRest", "(II)Z"⟩, 4) := ⟨⟨by decide +kernel, by decide +kernel⟩, List.mem_of_getElem? (i := 247) (by decide +kernel), List.mem_of_getElem? (i := 722) (by decide +kernel), List.mem_of_getElem? (i := 723) (by decide +kernel)⟩
def lw_privs_1 : List (MethodName × Nat) := [(⟨"ChalkTramps$Reader", "takes", "(I)Z"⟩, 4), (⟨"ChalkTramps$Reader", "takesKilnPlace", "(I)Z"⟩, 4), (⟨"ChalkTramps$Reader", "takesLayer", "(I)Z"⟩, 4), (⟨"ChalkTramps$Reader", "beginsPart", "(I)Z"⟩, 4), (⟨"ChalkTramps$Reader", "takesTrampKind", "(I)Z"⟩, 4), (⟨"ChalkTramps$Camp", "lieUp", "(ILChalkTramps$Land;I)V"⟩, 7), (⟨"ChalkTramps$Search", "findsFrom", "(ILChalkTramps$Camp;LChalkTramps$Land;II)Z"⟩, 8), (⟨"ChalkTramps$Search", "addNext", "(JI)V"⟩, 8), (⟨"ChalkTramps$Search", "turnToNext", "()V"⟩, 8), (⟨"ChalkTramps$Orders", "waysTo", "(I)I"⟩, 3), (⟨"ChalkTramps$Orders", "canFollow", "(II)Z"⟩, 3), (⟨"ChalkTramps$Orders", "leastAfter", "(I)I"⟩, 3), (⟨"ChalkTramps", "canBe", "(III)Z"⟩, 12), (⟨"ChalkTramps$Stranger", "fits", "(I)Z"⟩, 5), (⟨"ChalkTramps$Stranger", "noteFound", "(I)V"⟩, 5), (⟨"ChalkTramps$Game", "isAtRest", "(II)Z"⟩, 4)]
theorem lw_r1 : ∀ q ∈ lw_privs_1, lw_okq q := List.forall_mem_cons.mpr ⟨lw_p0, List.forall_mem_cons.mpr ⟨lw_p1, List.forall_mem_cons.mpr ⟨lw_p2, List.forall_mem_cons.mpr ⟨lw_p3, List.forall_mem_cons.mpr ⟨lw_p4, List.forall_mem_cons.mpr ⟨lw_p5, List.forall_mem_cons.mpr ⟨lw_p6, List.forall_mem_cons.mpr ⟨lw_p7, List.forall_mem_cons.mpr ⟨lw_p8, List.forall_mem_cons.mpr ⟨lw_p9, List.forall_mem_cons.mpr ⟨lw_p10, List.forall_mem_cons.mpr ⟨lw_p11, List.forall_mem_cons.mpr ⟨lw_p12, List.forall_mem_cons.mpr ⟨lw_p13, List.forall_mem_cons.mpr ⟨lw_p14, List.forall_mem_cons.mpr ⟨lw_p15, fun _ h => absurd h List.not_mem_nil⟩⟩⟩⟩⟩⟩⟩⟩⟩⟩⟩⟩⟩⟩⟩⟩
theorem lw_p16 : lw_okq (⟨"ChalkTramps", "passYear", "(I)V"⟩, 12) := ⟨⟨by decide +kernel, by decide +kernel⟩, List.mem_of_getElem? (i := 17) (by decide +kernel), List.mem_of_getElem? (i := 745) (by decide +kernel), List.mem_of_getElem? (i := 746) (by decide +kernel)⟩
theorem lw_p17 : lw_okq (⟨"ChalkTrampsModel", "readText", "()I"⟩, 31) := ⟨⟨by decide +kernel, by decide +kernel⟩, List.mem_of_getElem? (i := 790) (by decide +kernel), List.mem_of_getElem? (i := 906) (by decide +kernel), List.mem_of_getElem? (i := 907) (by decide +kernel)⟩
theorem lw_p18 : lw_okq (⟨"ChalkTrampsModel", "readPart", "(I)V"⟩, 31) := ⟨⟨by decide +kernel, by decide +kernel⟩, List.mem_of_getElem? (i := 790) (by decide +kernel), List.mem_of_getElem? (i := 910) (by decide +kernel), List.mem_of_getElem? (i := 911) (by decide +kernel)⟩
theorem lw_p19 : lw_okq (⟨"ChalkTrampsModel", "readOne", "()V"⟩, 31) := ⟨⟨by decide +kernel, by decide +kernel⟩, List.mem_of_getElem? (i := 790) (by decide +kernel), List.mem_of_getElem? (i := 914) (by decide +kernel), List.mem_of_getElem? (i := 915) (by decide +kernel)⟩
theorem lw_p20 : lw_okq (⟨"ChalkTrampsModel", "nextOf", "(III)I"⟩, 31) := ⟨⟨by decide +kernel, by decide +kernel⟩, List.mem_of_getElem? (i := 790) (by decide +kernel), List.mem_of_getElem? (i := 918) (by decide +kernel), List.mem_of_getElem? (i := 919) (by decide +kernel)⟩
theorem lw_p21 : lw_okq (⟨"ChalkTrampsModel", "isKiln", "(I)Z"⟩, 31) := ⟨⟨by decide +kernel, by decide +kernel⟩, List.mem_of_getElem? (i := 790) (by decide +kernel), List.mem_of_getElem? (i := 935) (by decide +kernel), List.mem_of_getElem? (i := 936) (by decide +kernel)⟩
theorem lw_p22 : lw_okq (⟨"ChalkTrampsModel", "setOf", "(I)I"⟩, 31) := ⟨⟨by decide +kernel, by decide +kernel⟩, List.mem_of_getElem? (i := 790) (by decide +kernel), List.mem_of_getElem? (i := 939) (by decide +kernel), List.mem_of_getElem? (i := 940) (by decide +kernel)⟩
theorem lw_p23 : lw_okq (⟨"ChalkTrampsModel", "figuresOf", "(I)I"⟩, 31) := ⟨⟨by decide +kernel, by decide +kernel⟩, List.mem_of_getElem? (i := 790) (by decide +kernel), List.mem_of_getElem? (i := 943) (by decide +kernel), List.mem_of_getElem? (i := 944) (by decide +kernel)⟩
theorem lw_p24 : lw_okq (⟨"ChalkTrampsModel", "trampsAt", "(I)I"⟩, 31) := ⟨⟨by decide +kernel, by decide +kernel⟩, List.mem_of_getElem? (i := 790) (by decide +kernel), List.mem_of_getElem? (i := 947) (by decide +kernel), List.mem_of_getElem? (i := 948) (by decide +kernel)⟩
theorem lw_p25 : lw_okq (⟨"ChalkTrampsModel", "isTramp", "(I)Z"⟩, 31) := ⟨⟨by decide +kernel, by decide +kernel⟩, List.mem_of_getElem? (i := 790) (by decide +kernel), List.mem_of_getElem? (i := 955) (by decide +kernel), List.mem_of_getElem? (i := 956) (by decide +kernel)⟩
theorem lw_p26 : lw_okq (⟨"ChalkTrampsModel", "speedOf", "(II)I"⟩, 31) := ⟨⟨by decide +kernel, by decide +kernel⟩, List.mem_of_getElem? (i := 790) (by decide +kernel), List.mem_of_getElem? (i := 959) (by decide +kernel), List.mem_of_getElem? (i := 960) (by decide +kernel)⟩
theorem lw_p27 : lw_okq (⟨"ChalkTrampsModel", "isHummock", "(II)Z"⟩, 31) := ⟨⟨by decide +kernel, by decide +kernel⟩, List.mem_of_getElem? (i := 790) (by decide +kernel), List.mem_of_getElem? (i := 963) (by decide +kernel), List.mem_of_getElem? (i := 964) (by decide +kernel)⟩
theorem lw_p28 : lw_okq (⟨"ChalkTrampsModel", "kilnOf", "(I)I"⟩, 31) := ⟨⟨by decide +kernel, by decide +kernel⟩, List.mem_of_getElem? (i := 790) (by decide +kernel), List.mem_of_getElem? (i := 975) (by decide +kernel), List.mem_of_getElem? (i := 976) (by decide +kernel)⟩
theorem lw_p29 : lw_okq (⟨"ChalkTrampsModel", "keepAct", "()V"⟩, 31) := ⟨⟨by decide +kernel, by decide +kernel⟩, List.mem_of_getElem? (i := 790) (by decide +kernel), List.mem_of_getElem? (i := 983) (by decide +kernel), List.mem_of_getElem? (i := 984) (by decide +kernel)⟩
theorem lw_p30 : lw_okq (⟨"ChalkTrampsModel", "passOn", "(I)V"⟩, 31) := ⟨⟨by decide +kernel, by decide +kernel⟩, List.mem_of_getElem? (i := 790) (by decide +kernel), List.mem_of_getElem? (i := 987) (by decide +kernel), List.mem_of_getElem? (i := 988) (by decide +kernel)⟩
theorem lw_p31 : lw_okq (⟨"ChalkTrampsModel", "takeOn", "(II)V"⟩, 31) := ⟨⟨by decide +kernel, by decide +kernel⟩, List.mem_of_getElem? (i := 790) (by decide +kernel), List.mem_of_getElem? (i := 991) (by decide +kernel), List.mem_of_getElem? (i := 992) (by decide +kernel)⟩
def lw_privs_2 : List (MethodName × Nat) := [(⟨"ChalkTramps", "passYear", "(I)V"⟩, 12), (⟨"ChalkTrampsModel", "readText", "()I"⟩, 31), (⟨"ChalkTrampsModel", "readPart", "(I)V"⟩, 31), (⟨"ChalkTrampsModel", "readOne", "()V"⟩, 31), (⟨"ChalkTrampsModel", "nextOf", "(III)I"⟩, 31), (⟨"ChalkTrampsModel", "isKiln", "(I)Z"⟩, 31), (⟨"ChalkTrampsModel", "setOf", "(I)I"⟩, 31), (⟨"ChalkTrampsModel", "figuresOf", "(I)I"⟩, 31), (⟨"ChalkTrampsModel", "trampsAt", "(I)I"⟩, 31), (⟨"ChalkTrampsModel", "isTramp", "(I)Z"⟩, 31), (⟨"ChalkTrampsModel", "speedOf", "(II)I"⟩, 31), (⟨"ChalkTrampsModel", "isHummock", "(II)Z"⟩, 31), (⟨"ChalkTrampsModel", "kilnOf", "(I)I"⟩, 31), (⟨"ChalkTrampsModel", "keepAct", "()V"⟩, 31), (⟨"ChalkTrampsModel", "passOn", "(I)V"⟩, 31), (⟨"ChalkTrampsModel", "takeOn", "(II)V"⟩, 31)]
theorem lw_r2 : ∀ q ∈ lw_privs_2, lw_okq q := List.forall_mem_cons.mpr ⟨lw_p16, List.forall_mem_cons.mpr ⟨lw_p17, List.forall_mem_cons.mpr ⟨lw_p18, List.forall_mem_cons.mpr ⟨lw_p19, List.forall_mem_cons.mpr ⟨lw_p20, List.forall_mem_cons.mpr ⟨lw_p21, List.forall_mem_cons.mpr ⟨lw_p22, List.forall_mem_cons.mpr ⟨lw_p23, List.forall_mem_cons.mpr ⟨lw_p24, List.forall_mem_cons.mpr ⟨lw_p25, List.forall_mem_cons.mpr ⟨lw_p26, List.forall_mem_cons.mpr ⟨lw_p27, List.forall_mem_cons.mpr ⟨lw_p28, List.forall_mem_cons.mpr ⟨lw_p29, List.forall_mem_cons.mpr ⟨lw_p30, List.forall_mem_cons.mpr ⟨lw_p31, fun _ h => absurd h List.not_mem_nil⟩⟩⟩⟩⟩⟩⟩⟩⟩⟩⟩⟩⟩⟩⟩⟩
theorem lw_p32 : lw_okq (⟨"ChalkTrampsModel", "knownAt", "(II)I"⟩, 31) := ⟨⟨by decide +kernel, by decide +kernel⟩, List.mem_of_getElem? (i := 790) (by decide +kernel), List.mem_of_getElem? (i := 995) (by decide +kernel), List.mem_of_getElem? (i := 996) (by decide +kernel)⟩
theorem lw_p33 : lw_okq (⟨"ChalkTrampsModel", "hummocksOn", "(I)I"⟩, 31) := ⟨⟨by decide +kernel, by decide +kernel⟩, List.mem_of_getElem? (i := 790) (by decide +kernel), List.mem_of_getElem? (i := 999) (by decide +kernel), List.mem_of_getElem? (i := 1000) (by decide +kernel)⟩
theorem lw_p34 : lw_okq (⟨"ChalkTrampsModel", "canWalk", "(III)Z"⟩, 31) := ⟨⟨by decide +kernel, by decide +kernel⟩, List.mem_of_getElem? (i := 790) (by decide +kernel), List.mem_of_getElem? (i := 1010) (by decide +kernel), List.mem_of_getElem? (i := 1011) (by decide +kernel)⟩
theorem lw_p35 : lw_okq (⟨"ChalkTrampsModel", "walkOn", "(III)V"⟩, 31) := ⟨⟨by decide +kernel, by decide +kernel⟩, List.mem_of_getElem? (i := 790) (by decide +kernel), List.mem_of_getElem? (i := 1017) (by decide +kernel), List.mem_of_getElem? (i := 1018) (by decide +kernel)⟩
theorem lw_p36 : lw_okq (⟨"ChalkTrampsModel", "canTell", "(III)Z"⟩, 31) := ⟨⟨by decide +kernel, by decide +kernel⟩, List.mem_of_getElem? (i := 790) (by decide +kernel), List.mem_of_getElem? (i := 1025) (by decide +kernel), List.mem_of_getElem? (i := 1026) (by decide +kernel)⟩
theorem lw_p37 : lw_okq (⟨"ChalkTrampsModel", "tellOn", "(III)V"⟩, 31) := ⟨⟨by decide +kernel, by decide +kernel⟩, List.mem_of_getElem? (i := 790) (by decide +kernel), List.mem_of_getElem? (i := 1029) (by decide +kernel), List.mem_of_getElem? (i := 1030) (by decide +kernel)⟩
theorem lw_p38 : lw_okq (⟨"ChalkTrampsModel", "washOn", "(II)V"⟩, 31) := ⟨⟨by decide +kernel, by decide +kernel⟩, List.mem_of_getElem? (i := 790) (by decide +kernel), List.mem_of_getElem? (i := 1037) (by decide +kernel), List.mem_of_getElem? (i := 1038) (by decide +kernel)⟩
theorem lw_p39 : lw_okq (⟨"ChalkTrampsModel", "layTrial", "()V"⟩, 31) := ⟨⟨by decide +kernel, by decide +kernel⟩, List.mem_of_getElem? (i := 790) (by decide +kernel), List.mem_of_getElem? (i := 1050) (by decide +kernel), List.mem_of_getElem? (i := 1051) (by decide +kernel)⟩
theorem lw_p40 : lw_okq (⟨"ChalkTrampsModel", "knowsBy", "(IIII)Z"⟩, 31) := ⟨⟨by decide +kernel, by decide +kernel⟩, List.mem_of_getElem? (i := 790) (by decide +kernel), List.mem_of_getElem? (i := 1066) (by decide +kernel), List.mem_of_getElem? (i := 1067) (by decide +kernel)⟩
theorem lw_p41 : lw_okq (⟨"ChalkTrampsModel", "countOrders", "()V"⟩, 31) := ⟨⟨by decide +kernel, by decide +kernel⟩, List.mem_of_getElem? (i := 790) (by decide +kernel), List.mem_of_getElem? (i := 1074) (by decide +kernel), List.mem_of_getElem? (i := 1075) (by decide +kernel)⟩
theorem lw_p42 : lw_okq (⟨"ChalkTrampsModel", "allLayers", "()I"⟩, 31) := ⟨⟨by decide +kernel, by decide +kernel⟩, List.mem_of_getElem? (i := 790) (by decide +kernel), List.mem_of_getElem? (i := 1078) (by decide +kernel), List.mem_of_getElem? (i := 1079) (by decide +kernel)⟩
theorem lw_p43 : lw_okq (⟨"ChalkTrampsModel", "orderOf", "(IIII)I"⟩, 31) := ⟨⟨by decide +kernel, by decide +kernel⟩, List.mem_of_getElem? (i := 790) (by decide +kernel), List.mem_of_getElem? (i := 1082) (by decide +kernel), List.mem_of_getElem? (i := 1083) (by decide +kernel)⟩
theorem lw_p44 : lw_okq (⟨"ChalkTrampsModel", "isOrder", "(II)Z"⟩, 31) := ⟨⟨by decide +kernel, by decide +kernel⟩, List.mem_of_getElem? (i := 790) (by decide +kernel), List.mem_of_getElem? (i := 1086) (by decide +kernel), List.mem_of_getElem? (i := 1087) (by decide +kernel)⟩
theorem lw_p45 : lw_okq (⟨"ChalkTrampsModel", "tryThing", "(III)Z"⟩, 31) := ⟨⟨by decide +kernel, by decide +kernel⟩, List.mem_of_getElem? (i := 790) (by decide +kernel), List.mem_of_getElem? (i := 1100) (by decide +kernel), List.mem_of_getElem? (i := 1101) (by decide +kernel)⟩
theorem lw_p46 : lw_okq (⟨"ChalkTrampsModel", "upperOf", "(II)I"⟩, 31) := ⟨⟨by decide +kernel, by decide +kernel⟩, List.mem_of_getElem? (i := 790) (by decide +kernel), List.mem_of_getElem? (i := 1117) (by decide +kernel), List.mem_of_getElem? (i := 1118) (by decide +kernel)⟩
theorem lw_p47 : lw_okq (⟨"ChalkTrampsModel", "knownBy", "(I)I"⟩, 31) := ⟨⟨by decide +kernel, by decide +kernel⟩, List.mem_of_getElem? (i := 790) (by decide +kernel), List.mem_of_getElem? (i := 1128) (by decide +kernel), List.mem_of_getElem? (i := 1129) (by decide +kernel)⟩
def lw_privs_3 : List (MethodName × Nat) := [(⟨"ChalkTrampsModel", "knownAt", "(II)I"⟩, 31), (⟨"ChalkTrampsModel", "hummocksOn", "(I)I"⟩, 31), (⟨"ChalkTrampsModel", "canWalk", "(III)Z"⟩, 31), (⟨"ChalkTrampsModel", "walkOn", "(III)V"⟩, 31), (⟨"ChalkTrampsModel", "canTell", "(III)Z"⟩, 31), (⟨"ChalkTrampsModel", "tellOn", "(III)V"⟩, 31), (⟨"ChalkTrampsModel", "washOn", "(II)V"⟩, 31), (⟨"ChalkTrampsModel", "layTrial", "()V"⟩, 31), (⟨"ChalkTrampsModel", "knowsBy", "(IIII)Z"⟩, 31), (⟨"ChalkTrampsModel", "countOrders", "()V"⟩, 31), (⟨"ChalkTrampsModel", "allLayers", "()I"⟩, 31), (⟨"ChalkTrampsModel", "orderOf", "(IIII)I"⟩, 31), (⟨"ChalkTrampsModel", "isOrder", "(II)Z"⟩, 31), (⟨"ChalkTrampsModel", "tryThing", "(III)Z"⟩, 31), (⟨"ChalkTrampsModel", "upperOf", "(II)I"⟩, 31), (⟨"ChalkTrampsModel", "knownBy", "(I)I"⟩, 31)]
theorem lw_r3 : ∀ q ∈ lw_privs_3, lw_okq q := List.forall_mem_cons.mpr ⟨lw_p32, List.forall_mem_cons.mpr ⟨lw_p33, List.forall_mem_cons.mpr ⟨lw_p34, List.forall_mem_cons.mpr ⟨lw_p35, List.forall_mem_cons.mpr ⟨lw_p36, List.forall_mem_cons.mpr ⟨lw_p37, List.forall_mem_cons.mpr ⟨lw_p38, List.forall_mem_cons.mpr ⟨lw_p39, List.forall_mem_cons.mpr ⟨lw_p40, List.forall_mem_cons.mpr ⟨lw_p41, List.forall_mem_cons.mpr ⟨lw_p42, List.forall_mem_cons.mpr ⟨lw_p43, List.forall_mem_cons.mpr ⟨lw_p44, List.forall_mem_cons.mpr ⟨lw_p45, List.forall_mem_cons.mpr ⟨lw_p46, List.forall_mem_cons.mpr ⟨lw_p47, fun _ h => absurd h List.not_mem_nil⟩⟩⟩⟩⟩⟩⟩⟩⟩⟩⟩⟩⟩⟩⟩⟩
theorem lw_p48 : lw_okq (⟨"ChalkTrampsModel", "isRest", "(IIII)Z"⟩, 31) := ⟨⟨by decide +kernel, by decide +kernel⟩, List.mem_of_getElem? (i := 790) (by decide +kernel), List.mem_of_getElem? (i := 1139) (by decide +kernel), List.mem_of_getElem? (i := 1140) (by decide +kernel)⟩
theorem lw_p49 : lw_okq (⟨"ChalkTrampsModel", "gain", "(IIIII)I"⟩, 31) := ⟨⟨by decide +kernel, by decide +kernel⟩, List.mem_of_getElem? (i := 790) (by decide +kernel), List.mem_of_getElem? (i := 1143) (by decide +kernel), List.mem_of_getElem? (i := 1144) (by decide +kernel)⟩
theorem lw_p50 : lw_okq (⟨"ChalkTrampsModel", "goTo", "(II)V"⟩, 31) := ⟨⟨by decide +kernel, by decide +kernel⟩, List.mem_of_getElem? (i := 790) (by decide +kernel), List.mem_of_getElem? (i := 1147) (by decide +kernel), List.mem_of_getElem? (i := 1148) (by decide +kernel)⟩
theorem lw_p51 : lw_okq (⟨"ChalkTrampsModel", "knownOfAll", "()I"⟩, 31) := ⟨⟨by decide +kernel, by decide +kernel⟩, List.mem_of_getElem? (i := 790) (by decide +kernel), List.mem_of_getElem? (i := 1168) (by decide +kernel), List.mem_of_getElem? (i := 1169) (by decide +kernel)⟩
def lw_privs_4 : List (MethodName × Nat) := [(⟨"ChalkTrampsModel", "isRest", "(IIII)Z"⟩, 31), (⟨"ChalkTrampsModel", "gain", "(IIIII)I"⟩, 31), (⟨"ChalkTrampsModel", "goTo", "(II)V"⟩, 31), (⟨"ChalkTrampsModel", "knownOfAll", "()I"⟩, 31)]
theorem lw_r4 : ∀ q ∈ lw_privs_4, lw_okq q := List.forall_mem_cons.mpr ⟨lw_p48, List.forall_mem_cons.mpr ⟨lw_p49, List.forall_mem_cons.mpr ⟨lw_p50, List.forall_mem_cons.mpr ⟨lw_p51, fun _ h => absurd h List.not_mem_nil⟩⟩⟩⟩
def lw_privs : List (MethodName × Nat) := lw_privs_1 ++ (lw_privs_2 ++ (lw_privs_3 ++ (lw_privs_4)))
def lw_tbl : List Cond := k2_sels lw_privs ++ tables_1
theorem lw_privs_ok : ∀ q ∈ lw_privs, lw_okq q := by
  show ∀ q ∈ lw_privs_1 ++ (lw_privs_2 ++ (lw_privs_3 ++ (lw_privs_4))), lw_okq q
  exact List.forall_mem_append.mpr ⟨lw_r1, List.forall_mem_append.mpr ⟨lw_r2, List.forall_mem_append.mpr ⟨lw_r3, lw_r4⟩⟩⟩
end
section
def RX0 : String := "ChalkTramps$ActRow"
def TX0 : u_T := fun k => match k with
  | 0 => ("ChalkTramps$ActRow", "camps", "[J", true)
  | 1 => ("ChalkTramps$ActRow", "nights", "[I", true)
  | _ => ("ChalkTramps$ActRow", "size", "I", false)
def tyX0 : Nat → FieldType := fun k => match k with
  | 0 => .array .long
  | 1 => .array .int
  | _ => .int
abbrev wsX00 : List Cond := u_ws RX0 TX0 3
theorem nmX0 : ∀ a, a < 3 → ∀ b, b < 3 → a ≠ b → (TX0 a).2.1 ≠ (TX0 b).2.1 := by decide +kernel
theorem tyX0_ok : ∀ k, k < 3 → parseFieldDescriptor (TX0 k).2.2.1 = some (tyX0 k) := by decide +kernel
abbrev cX0_init : ByteArray := prog_2_method_1_code
def yX0_init : MethodName := ⟨RX0, "<init>", "()V"⟩
abbrev cX0_clear : ByteArray := prog_2_method_2_code
def yX0_clear : MethodName := ⟨RX0, "clear", "()V"⟩
abbrev cX0_push : ByteArray := prog_2_method_3_code
def yX0_push : MethodName := ⟨RX0, "push", "(LChalkTramps$Camp;)V"⟩
abbrev cX0_pop : ByteArray := prog_2_method_4_code
def yX0_pop : MethodName := ⟨RX0, "pop", "(LChalkTramps$Camp;)V"⟩
def RX1 : String := "ChalkTramps$Camp"
def TX1 : u_T := fun k => match k with
  | 0 => ("ChalkTramps$Camp", "places", "[I", true)
  | 1 => ("ChalkTramps$Camp", "kinds", "[I", true)
  | 2 => ("ChalkTramps$Camp", "knows", "[I", true)
  | 3 => ("ChalkTramps$Camp", "whites", "[I", true)
  | 4 => ("ChalkTramps$Camp", "walked", "I", false)
  | 5 => ("ChalkTramps$Camp", "tramps", "I", false)
  | _ => ("ChalkTramps$Camp", "nights", "I", false)
def tyX1 : Nat → FieldType := fun k => match k with
  | 0 => .array .int
  | 1 => .array .int
  | 2 => .array .int
  | 3 => .array .int
  | 4 => .int
  | 5 => .int
  | _ => .int
abbrev wsX10 : List Cond := u_ws RX1 TX1 7
theorem nmX1 : ∀ a, a < 7 → ∀ b, b < 7 → a ≠ b → (TX1 a).2.1 ≠ (TX1 b).2.1 := by decide +kernel
theorem tyX1_ok : ∀ k, k < 7 → parseFieldDescriptor (TX1 k).2.2.1 = some (tyX1 k) := by decide +kernel
abbrev cX1_init : ByteArray := prog_3_method_1_code
def yX1_init : MethodName := ⟨RX1, "<init>", "()V"⟩
abbrev cX1_clear : ByteArray := prog_3_method_2_code
def yX1_clear : MethodName := ⟨RX1, "clear", "()V"⟩
abbrev cX1_copyFrom : ByteArray := prog_3_method_3_code
def yX1_copyFrom : MethodName := ⟨RX1, "copyFrom", "(LChalkTramps$Camp;)V"⟩
abbrev cX1_addTramp : ByteArray := prog_3_method_4_code
def yX1_addTramp : MethodName := ⟨RX1, "addTramp", "(II)V"⟩
abbrev cX1_packed : ByteArray := prog_3_method_5_code
def yX1_packed : MethodName := ⟨RX1, "packed", "()J"⟩
abbrev cX1_unpack : ByteArray := prog_3_method_6_code
def yX1_unpack : MethodName := ⟨RX1, "unpack", "(J)V"⟩
abbrev cX1_has : ByteArray := prog_3_method_7_code
def yX1_has : MethodName := ⟨RX1, "has", "(I)Z"⟩
abbrev cX1_isHummock : ByteArray := prog_3_method_8_code
def yX1_isHummock : MethodName := ⟨RX1, "isHummock", "(I)Z"⟩
abbrev cX1_hasWalked : ByteArray := prog_3_method_9_code
def yX1_hasWalked : MethodName := ⟨RX1, "hasWalked", "(I)Z"⟩
abbrev cX1_speedOf : ByteArray := prog_3_method_10_code
def yX1_speedOf : MethodName := ⟨RX1, "speedOf", "(I)I"⟩
abbrev cX1_hummocks : ByteArray := prog_3_method_11_code
def yX1_hummocks : MethodName := ⟨RX1, "hummocks", "()I"⟩
abbrev cX1_trampsAt : ByteArray := prog_3_method_12_code
def yX1_trampsAt : MethodName := ⟨RX1, "trampsAt", "(I)I"⟩
abbrev cX1_knownAt : ByteArray := prog_3_method_13_code
def yX1_knownAt : MethodName := ⟨RX1, "knownAt", "(I)I"⟩
abbrev cX1_knownByAny : ByteArray := prog_3_method_14_code
def yX1_knownByAny : MethodName := ⟨RX1, "knownByAny", "()I"⟩
abbrev cX1_howManyKnow : ByteArray := prog_3_method_15_code
def yX1_howManyKnow : MethodName := ⟨RX1, "howManyKnow", "(I)I"⟩
abbrev cX1_allThatIsKnown : ByteArray := prog_3_method_16_code
def yX1_allThatIsKnown : MethodName := ⟨RX1, "allThatIsKnown", "()I"⟩
abbrev cX1_passNight : ByteArray := prog_3_method_17_code
def yX1_passNight : MethodName := ⟨RX1, "passNight", "(LChalkTramps$Land;I)V"⟩
abbrev cX1_lieUp : ByteArray := prog_3_method_18_code
def yX1_lieUp : MethodName := ⟨RX1, "lieUp", "(ILChalkTramps$Land;I)V"⟩
abbrev cX1_mayGo : ByteArray := prog_3_method_19_code
def yX1_mayGo : MethodName := ⟨RX1, "mayGo", "(II)Z"⟩
abbrev cX1_goTo : ByteArray := prog_3_method_20_code
def yX1_goTo : MethodName := ⟨RX1, "goTo", "(II)V"⟩
abbrev cX1_goesIfItMay : ByteArray := prog_3_method_21_code
def yX1_goesIfItMay : MethodName := ⟨RX1, "goesIfItMay", "(II)Z"⟩
abbrev cX1_mayHear : ByteArray := prog_3_method_22_code
def yX1_mayHear : MethodName := ⟨RX1, "mayHear", "(II)Z"⟩
abbrev cX1_hear : ByteArray := prog_3_method_23_code
def yX1_hear : MethodName := ⟨RX1, "hear", "(II)V"⟩
abbrev cX1_hearsIfItMay : ByteArray := prog_3_method_24_code
def yX1_hearsIfItMay : MethodName := ⟨RX1, "hearsIfItMay", "(II)Z"⟩
abbrev cX1_mayBathe : ByteArray := prog_3_method_25_code
def yX1_mayBathe : MethodName := ⟨RX1, "mayBathe", "(I)Z"⟩
abbrev cX1_bathe : ByteArray := prog_3_method_26_code
def yX1_bathe : MethodName := ⟨RX1, "bathe", "(I)V"⟩
abbrev cX1_bathesIfItMay : ByteArray := prog_3_method_27_code
def yX1_bathesIfItMay : MethodName := ⟨RX1, "bathesIfItMay", "(I)Z"⟩
def RX2 : String := "ChalkTramps$Game"
def TX2 : u_T := fun k => match k with
  | 0 => ("ChalkTramps$Game", "onesGains", "[I", true)
  | 1 => ("ChalkTramps$Game", "othersGains", "[I", true)
  | 2 => ("ChalkTramps$Game", "found", "I", false)
  | _ => ("ChalkTramps$Game", "first", "I", false)
def tyX2 : Nat → FieldType := fun k => match k with
  | 0 => .array .int
  | 1 => .array .int
  | 2 => .int
  | _ => .int
abbrev wsX20 : List Cond := u_ws RX2 TX2 4
theorem nmX2 : ∀ a, a < 4 → ∀ b, b < 4 → a ≠ b → (TX2 a).2.1 ≠ (TX2 b).2.1 := by decide +kernel
theorem tyX2_ok : ∀ k, k < 4 → parseFieldDescriptor (TX2 k).2.2.1 = some (tyX2 k) := by decide +kernel
abbrev cX2_init : ByteArray := prog_4_method_1_code
def yX2_init : MethodName := ⟨RX2, "<init>", "()V"⟩
abbrev cX2_play : ByteArray := prog_4_method_2_code
def yX2_play : MethodName := ⟨RX2, "play", "(LChalkTramps$Camp;LChalkTramps$Camp;LChalkTramps$Land;II)V"⟩
abbrev cX2_goToKiln : ByteArray := prog_4_method_3_code
def yX2_goToKiln : MethodName := ⟨RX2, "goToKiln", "(LChalkTramps$Camp;LChalkTramps$Land;II)V"⟩
abbrev cX2_gainOf : ByteArray := prog_4_method_4_code
def yX2_gainOf : MethodName := ⟨RX2, "gainOf", "(LChalkTramps$Camp;II)I"⟩
abbrev cX2_isAtRest : ByteArray := prog_4_method_5_code
def yX2_isAtRest : MethodName := ⟨RX2, "isAtRest", "(II)Z"⟩
def RX3 : String := "ChalkTramps$Land"
def TX3 : u_T := fun k => match k with
  | 0 => ("ChalkTramps$Land", "places", "[I", true)
  | 1 => ("ChalkTramps$Land", "depths", "[I", true)
  | 2 => ("ChalkTramps$Land", "layers", "[I", true)
  | _ => ("ChalkTramps$Land", "kilns", "I", false)
def tyX3 : Nat → FieldType := fun k => match k with
  | 0 => .array .int
  | 1 => .array .int
  | 2 => .array .int
  | _ => .int
abbrev wsX30 : List Cond := u_ws RX3 TX3 4
theorem nmX3 : ∀ a, a < 4 → ∀ b, b < 4 → a ≠ b → (TX3 a).2.1 ≠ (TX3 b).2.1 := by decide +kernel
theorem tyX3_ok : ∀ k, k < 4 → parseFieldDescriptor (TX3 k).2.2.1 = some (tyX3 k) := by decide +kernel
abbrev cX3_init : ByteArray := prog_5_method_1_code
def yX3_init : MethodName := ⟨RX3, "<init>", "()V"⟩
abbrev cX3_clear : ByteArray := prog_5_method_2_code
def yX3_clear : MethodName := ⟨RX3, "clear", "()V"⟩
abbrev cX3_copyFrom : ByteArray := prog_5_method_3_code
def yX3_copyFrom : MethodName := ⟨RX3, "copyFrom", "(LChalkTramps$Land;)V"⟩
abbrev cX3_addKiln : ByteArray := prog_5_method_4_code
def yX3_addKiln : MethodName := ⟨RX3, "addKiln", "(I)V"⟩
abbrev cX3_addLayer : ByteArray := prog_5_method_5_code
def yX3_addLayer : MethodName := ⟨RX3, "addLayer", "(I)Z"⟩
abbrev cX3_has : ByteArray := prog_5_method_6_code
def yX3_has : MethodName := ⟨RX3, "has", "(I)Z"⟩
abbrev cX3_kilnAt : ByteArray := prog_5_method_7_code
def yX3_kilnAt : MethodName := ⟨RX3, "kilnAt", "(I)I"⟩
abbrev cX3_layerOf : ByteArray := prog_5_method_8_code
def yX3_layerOf : MethodName := ⟨RX3, "layerOf", "(II)I"⟩
abbrev cX3_bitsOf : ByteArray := prog_5_method_9_code
def yX3_bitsOf : MethodName := ⟨RX3, "bitsOf", "(I)I"⟩
abbrev cX3_figuresOf : ByteArray := prog_5_method_10_code
def yX3_figuresOf : MethodName := ⟨RX3, "figuresOf", "(I)I"⟩
abbrev cX3_bitsOfAll : ByteArray := prog_5_method_11_code
def yX3_bitsOfAll : MethodName := ⟨RX3, "bitsOfAll", "()I"⟩
abbrev cX3_weightOf : ByteArray := prog_5_method_12_code
def yX3_weightOf : MethodName := ⟨RX3, "weightOf", "(II)I"⟩
def RX4 : String := "ChalkTramps$Orders"
def TX4 : u_T := fun k => match k with
  | 0 => ("ChalkTramps$Orders", "above", "[I", true)
  | 1 => ("ChalkTramps$Orders", "ways", "[I", true)
  | _ => ("ChalkTramps$Orders", "all", "I", false)
def tyX4 : Nat → FieldType := fun k => match k with
  | 0 => .array .int
  | 1 => .array .int
  | _ => .int
abbrev wsX40 : List Cond := u_ws RX4 TX4 3
theorem nmX4 : ∀ a, a < 3 → ∀ b, b < 3 → a ≠ b → (TX4 a).2.1 ≠ (TX4 b).2.1 := by decide +kernel
theorem tyX4_ok : ∀ k, k < 3 → parseFieldDescriptor (TX4 k).2.2.1 = some (tyX4 k) := by decide +kernel
abbrev cX4_init : ByteArray := prog_6_method_1_code
def yX4_init : MethodName := ⟨RX4, "<init>", "()V"⟩
abbrev cX4_look : ByteArray := prog_6_method_2_code
def yX4_look : MethodName := ⟨RX4, "look", "(LChalkTramps$Land;)V"⟩
abbrev cX4_waysTo : ByteArray := prog_6_method_3_code
def yX4_waysTo : MethodName := ⟨RX4, "waysTo", "(I)I"⟩
abbrev cX4_canFollow : ByteArray := prog_6_method_4_code
def yX4_canFollow : MethodName := ⟨RX4, "canFollow", "(II)Z"⟩
abbrev cX4_howMany : ByteArray := prog_6_method_5_code
def yX4_howMany : MethodName := ⟨RX4, "howMany", "()I"⟩
abbrev cX4_least : ByteArray := prog_6_method_6_code
def yX4_least : MethodName := ⟨RX4, "least", "()I"⟩
abbrev cX4_leastAfter : ByteArray := prog_6_method_7_code
def yX4_leastAfter : MethodName := ⟨RX4, "leastAfter", "(I)I"⟩
def RX5 : String := "ChalkTramps$Reader"
def TX5 : u_T := fun k => match k with
  | 0 => ("ChalkTramps$Reader", "land", "LChalkTramps$Land;", true)
  | 1 => ("ChalkTramps$Reader", "camp", "LChalkTramps$Camp;", true)
  | 2 => ("ChalkTramps$Reader", "stage", "I", false)
  | _ => ("ChalkTramps$Reader", "trampPlace", "I", false)
def tyX5 : Nat → FieldType := fun k => match k with
  | 0 => .object "ChalkTramps$Land"
  | 1 => .object "ChalkTramps$Camp"
  | 2 => .int
  | _ => .int
abbrev wsX50 : List Cond := u_ws RX5 TX5 4
theorem nmX5 : ∀ a, a < 4 → ∀ b, b < 4 → a ≠ b → (TX5 a).2.1 ≠ (TX5 b).2.1 := by decide +kernel
theorem tyX5_ok : ∀ k, k < 4 → parseFieldDescriptor (TX5 k).2.2.1 = some (tyX5 k) := by decide +kernel
abbrev cX5_init : ByteArray := prog_7_method_1_code
def yX5_init : MethodName := ⟨RX5, "<init>", "()V"⟩
abbrev cX5_read : ByteArray := prog_7_method_2_code
def yX5_read : MethodName := ⟨RX5, "read", "(LChalkTramps$Script;)I"⟩
abbrev cX5_takes : ByteArray := prog_7_method_3_code
def yX5_takes : MethodName := ⟨RX5, "takes", "(I)Z"⟩
abbrev cX5_beginsPart : ByteArray := prog_7_method_4_code
def yX5_beginsPart : MethodName := ⟨RX5, "beginsPart", "(I)Z"⟩
abbrev cX5_takesKilnPlace : ByteArray := prog_7_method_5_code
def yX5_takesKilnPlace : MethodName := ⟨RX5, "takesKilnPlace", "(I)Z"⟩
abbrev cX5_takesLayer : ByteArray := prog_7_method_6_code
def yX5_takesLayer : MethodName := ⟨RX5, "takesLayer", "(I)Z"⟩
abbrev cX5_takesTrampKind : ByteArray := prog_7_method_7_code
def yX5_takesTrampKind : MethodName := ⟨RX5, "takesTrampKind", "(I)Z"⟩
def RX6 : String := "ChalkTramps$Script"
def TX6 : u_T := fun k => match k with
  | 0 => ("ChalkTramps$Script", "letters", "[I", true)
  | _ => ("ChalkTramps$Script", "length", "I", false)
def tyX6 : Nat → FieldType := fun k => match k with
  | 0 => .array .int
  | _ => .int
abbrev wsX60 : List Cond := u_ws RX6 TX6 2
theorem nmX6 : ∀ a, a < 2 → ∀ b, b < 2 → a ≠ b → (TX6 a).2.1 ≠ (TX6 b).2.1 := by decide +kernel
theorem tyX6_ok : ∀ k, k < 2 → parseFieldDescriptor (TX6 k).2.2.1 = some (tyX6 k) := by decide +kernel
abbrev cX6_init : ByteArray := prog_8_method_1_code
def yX6_init : MethodName := ⟨RX6, "<init>", "()V"⟩
abbrev cX6_add : ByteArray := prog_8_method_2_code
def yX6_add : MethodName := ⟨RX6, "add", "(I)V"⟩
def RX7 : String := "ChalkTramps$Search"
def TX7 : u_T := fun k => match k with
  | 0 => ("ChalkTramps$Search", "camps", "[J", true)
  | 1 => ("ChalkTramps$Search", "ways", "[I", true)
  | 2 => ("ChalkTramps$Search", "nextCamps", "[J", true)
  | 3 => ("ChalkTramps$Search", "nextWays", "[I", true)
  | 4 => ("ChalkTramps$Search", "size", "I", false)
  | 5 => ("ChalkTramps$Search", "nextSize", "I", false)
  | 6 => ("ChalkTramps$Search", "nights", "I", false)
  | _ => ("ChalkTramps$Search", "way", "I", false)
def tyX7 : Nat → FieldType := fun k => match k with
  | 0 => .array .long
  | 1 => .array .int
  | 2 => .array .long
  | 3 => .array .int
  | 4 => .int
  | 5 => .int
  | 6 => .int
  | _ => .int
abbrev wsX70 : List Cond := u_ws RX7 TX7 8
theorem nmX7 : ∀ a, a < 8 → ∀ b, b < 8 → a ≠ b → (TX7 a).2.1 ≠ (TX7 b).2.1 := by decide +kernel
theorem tyX7_ok : ∀ k, k < 8 → parseFieldDescriptor (TX7 k).2.2.1 = some (tyX7 k) := by decide +kernel
abbrev cX7_init : ByteArray := prog_9_method_1_code
def yX7_init : MethodName := ⟨RX7, "<init>", "()V"⟩
abbrev cX7_finds : ByteArray := prog_9_method_2_code
def yX7_finds : MethodName := ⟨RX7, "finds", "(LChalkTramps$Camp;LChalkTramps$Land;II)Z"⟩
abbrev cX7_findsFrom : ByteArray := prog_9_method_3_code
def yX7_findsFrom : MethodName := ⟨RX7, "findsFrom", "(ILChalkTramps$Camp;LChalkTramps$Land;II)Z"⟩
abbrev cX7_addNext : ByteArray := prog_9_method_4_code
def yX7_addNext : MethodName := ⟨RX7, "addNext", "(JI)V"⟩
abbrev cX7_turnToNext : ByteArray := prog_9_method_5_code
def yX7_turnToNext : MethodName := ⟨RX7, "turnToNext", "()V"⟩
def RX8 : String := "ChalkTramps$Slots"
def TX8 : u_T := fun k => match k with
  | 0 => ("ChalkTramps$Slots", "camps", "[J", true)
  | 1 => ("ChalkTramps$Slots", "nights", "[I", true)
  | _ => ("ChalkTramps$Slots", "kept", "[Z", true)
def tyX8 : Nat → FieldType := fun k => match k with
  | 0 => .array .long
  | 1 => .array .int
  | _ => .array .boolean
abbrev wsX80 : List Cond := u_ws RX8 TX8 3
theorem nmX8 : ∀ a, a < 3 → ∀ b, b < 3 → a ≠ b → (TX8 a).2.1 ≠ (TX8 b).2.1 := by decide +kernel
theorem tyX8_ok : ∀ k, k < 3 → parseFieldDescriptor (TX8 k).2.2.1 = some (tyX8 k) := by decide +kernel
abbrev cX8_init : ByteArray := prog_10_method_1_code
def yX8_init : MethodName := ⟨RX8, "<init>", "()V"⟩
abbrev cX8_clear : ByteArray := prog_10_method_2_code
def yX8_clear : MethodName := ⟨RX8, "clear", "()V"⟩
abbrev cX8_holds : ByteArray := prog_10_method_3_code
def yX8_holds : MethodName := ⟨RX8, "holds", "(I)Z"⟩
abbrev cX8_put : ByteArray := prog_10_method_4_code
def yX8_put : MethodName := ⟨RX8, "put", "(ILChalkTramps$Camp;)V"⟩
abbrev cX8_bringBack : ByteArray := prog_10_method_5_code
def yX8_bringBack : MethodName := ⟨RX8, "bringBack", "(ILChalkTramps$Camp;)V"⟩
def RX9 : String := "ChalkTramps$Stranger"
def TX9 : u_T := fun k => match k with
  | 0 => ("ChalkTramps$Stranger", "known", "I", false)
  | 1 => ("ChalkTramps$Stranger", "notKnown", "I", false)
  | 2 => ("ChalkTramps$Stranger", "size", "I", false)
  | 3 => ("ChalkTramps$Stranger", "found", "I", false)
  | _ => ("ChalkTramps$Stranger", "first", "I", false)
def tyX9 : Nat → FieldType := fun k => match k with
  | 0 => .int
  | 1 => .int
  | 2 => .int
  | 3 => .int
  | _ => .int
abbrev wsX90 : List Cond := u_ws RX9 TX9 5
theorem nmX9 : ∀ a, a < 5 → ∀ b, b < 5 → a ≠ b → (TX9 a).2.1 ≠ (TX9 b).2.1 := by decide +kernel
theorem tyX9_ok : ∀ k, k < 5 → parseFieldDescriptor (TX9 k).2.2.1 = some (tyX9 k) := by decide +kernel
abbrev cX9_init : ByteArray := prog_11_method_1_code
def yX9_init : MethodName := ⟨RX9, "<init>", "()V"⟩
abbrev cX9_clear : ByteArray := prog_11_method_2_code
def yX9_clear : MethodName := ⟨RX9, "clear", "()V"⟩
abbrev cX9_add : ByteArray := prog_11_method_3_code
def yX9_add : MethodName := ⟨RX9, "add", "(IZ)V"⟩
abbrev cX9_look : ByteArray := prog_11_method_4_code
def yX9_look : MethodName := ⟨RX9, "look", "(LChalkTramps$Land;)V"⟩
abbrev cX9_fits : ByteArray := prog_11_method_5_code
def yX9_fits : MethodName := ⟨RX9, "fits", "(I)Z"⟩
abbrev cX9_takenIn : ByteArray := prog_11_method_6_code
def yX9_takenIn : MethodName := ⟨RX9, "takenIn", "(LChalkTramps$Land;II)I"⟩
abbrev cX9_noteFound : ByteArray := prog_11_method_7_code
def yX9_noteFound : MethodName := ⟨RX9, "noteFound", "(I)V"⟩
def RX10 : String := "ChalkTramps"
def TX10 : u_T := fun k => match k with
  | 0 => ("ChalkTramps", "script", "LChalkTramps$Script;", true)
  | 1 => ("ChalkTramps", "reader", "LChalkTramps$Reader;", true)
  | 2 => ("ChalkTramps", "land", "LChalkTramps$Land;", true)
  | 3 => ("ChalkTramps", "camp", "LChalkTramps$Camp;", true)
  | 4 => ("ChalkTramps", "trial", "LChalkTramps$Camp;", true)
  | 5 => ("ChalkTramps", "acts", "LChalkTramps$ActRow;", true)
  | 6 => ("ChalkTramps", "slots", "LChalkTramps$Slots;", true)
  | 7 => ("ChalkTramps", "search", "LChalkTramps$Search;", true)
  | 8 => ("ChalkTramps", "orders", "LChalkTramps$Orders;", true)
  | 9 => ("ChalkTramps", "stranger", "LChalkTramps$Stranger;", true)
  | 10 => ("ChalkTramps", "game", "LChalkTramps$Game;", true)
  | _ => ("ChalkTramps", "seedNow", "J", false)
def tyX10 : Nat → FieldType := fun k => match k with
  | 0 => .object "ChalkTramps$Script"
  | 1 => .object "ChalkTramps$Reader"
  | 2 => .object "ChalkTramps$Land"
  | 3 => .object "ChalkTramps$Camp"
  | 4 => .object "ChalkTramps$Camp"
  | 5 => .object "ChalkTramps$ActRow"
  | 6 => .object "ChalkTramps$Slots"
  | 7 => .object "ChalkTramps$Search"
  | 8 => .object "ChalkTramps$Orders"
  | 9 => .object "ChalkTramps$Stranger"
  | 10 => .object "ChalkTramps$Game"
  | _ => .long
abbrev wsX100 : List Cond := u_ws RX10 TX10 12
theorem nmX10 : ∀ a, a < 12 → ∀ b, b < 12 → a ≠ b → (TX10 a).2.1 ≠ (TX10 b).2.1 := by decide +kernel
theorem tyX10_ok : ∀ k, k < 12 → parseFieldDescriptor (TX10 k).2.2.1 = some (tyX10 k) := by decide +kernel
abbrev cX10_init : ByteArray := prog_1_method_1_code
def yX10_init : MethodName := ⟨RX10, "<init>", "()V"⟩
abbrev cX10_write : ByteArray := prog_1_method_2_code
def yX10_write : MethodName := ⟨RX10, "write", "(I)I"⟩
abbrev cX10_wipe : ByteArray := prog_1_method_3_code
def yX10_wipe : MethodName := ⟨RX10, "wipe", "()I"⟩
abbrev cX10_fault : ByteArray := prog_1_method_4_code
def yX10_fault : MethodName := ⟨RX10, "fault", "()I"⟩
abbrev cX10_hill : ByteArray := prog_1_method_5_code
def yX10_hill : MethodName := ⟨RX10, "hill", "()I"⟩
abbrev cX10_kiln : ByteArray := prog_1_method_6_code
def yX10_kiln : MethodName := ⟨RX10, "kiln", "(II)I"⟩
abbrev cX10_tramp : ByteArray := prog_1_method_7_code
def yX10_tramp : MethodName := ⟨RX10, "tramp", "(II)I"⟩
abbrev cX10_at : ByteArray := prog_1_method_8_code
def yX10_at : MethodName := ⟨RX10, "at", "(I)I"⟩
abbrev cX10_night : ByteArray := prog_1_method_9_code
def yX10_night : MethodName := ⟨RX10, "night", "()I"⟩
abbrev cX10_walk : ByteArray := prog_1_method_10_code
def yX10_walk : MethodName := ⟨RX10, "walk", "(II)I"⟩
abbrev cX10_tell : ByteArray := prog_1_method_11_code
def yX10_tell : MethodName := ⟨RX10, "tell", "(II)I"⟩
abbrev cX10_wash : ByteArray := prog_1_method_12_code
def yX10_wash : MethodName := ⟨RX10, "wash", "(I)I"⟩
abbrev cX10_undo : ByteArray := prog_1_method_13_code
def yX10_undo : MethodName := ⟨RX10, "undo", "()I"⟩
abbrev cX10_later : ByteArray := prog_1_method_14_code
def yX10_later : MethodName := ⟨RX10, "later", "(III)I"⟩
abbrev cX10_hummock : ByteArray := prog_1_method_15_code
def yX10_hummock : MethodName := ⟨RX10, "hummock", "(I)I"⟩
abbrev cX10_soon : ByteArray := prog_1_method_16_code
def yX10_soon : MethodName := ⟨RX10, "soon", "(III)I"⟩
abbrev cX10_beneath : ByteArray := prog_1_method_17_code
def yX10_beneath : MethodName := ⟨RX10, "beneath", "(I)I"⟩
abbrev cX10_judge : ByteArray := prog_1_method_18_code
def yX10_judge : MethodName := ⟨RX10, "judge", "(IJ)I"⟩
abbrev cX10_canBe : ByteArray := prog_1_method_19_code
def yX10_canBe : MethodName := ⟨RX10, "canBe", "(III)Z"⟩
abbrev cX10_knew : ByteArray := prog_1_method_20_code
def yX10_knew : MethodName := ⟨RX10, "knew", "(II)I"⟩
abbrev cX10_unknew : ByteArray := prog_1_method_21_code
def yX10_unknew : MethodName := ⟨RX10, "unknew", "()I"⟩
abbrev cX10_lay : ByteArray := prog_1_method_22_code
def yX10_lay : MethodName := ⟨RX10, "lay", "(I)I"⟩
abbrev cX10_share : ByteArray := prog_1_method_23_code
def yX10_share : MethodName := ⟨RX10, "share", "(IZ)I"⟩
abbrev cX10_rests : ByteArray := prog_1_method_24_code
def yX10_rests : MethodName := ⟨RX10, "rests", "(III)I"⟩
abbrev cX10_cold : ByteArray := prog_1_method_25_code
def yX10_cold : MethodName := ⟨RX10, "cold", "(IIIZ)I"⟩
abbrev cX10_seed : ByteArray := prog_1_method_26_code
def yX10_seed : MethodName := ⟨RX10, "seed", "(J)J"⟩
abbrev cX10_years : ByteArray := prog_1_method_27_code
def yX10_years : MethodName := ⟨RX10, "years", "(I)I"⟩
abbrev cX10_passYear : ByteArray := prog_1_method_28_code
def yX10_passYear : MethodName := ⟨RX10, "passYear", "(I)V"⟩
abbrev cX10_keep : ByteArray := prog_1_method_29_code
def yX10_keep : MethodName := ⟨RX10, "keep", "(I)I"⟩
abbrev cX10_again : ByteArray := prog_1_method_30_code
def yX10_again : MethodName := ⟨RX10, "again", "(I)I"⟩
abbrev cX10_count : ByteArray := prog_1_method_31_code
def yX10_count : MethodName := ⟨RX10, "count", "(I)I"⟩
abbrev cX10_isPlace : ByteArray := prog_1_method_32_code
def yX10_isPlace : MethodName := ⟨RX10, "isPlace", "(I)Z"⟩
abbrev cX10_isSlot : ByteArray := prog_1_method_33_code
def yX10_isSlot : MethodName := ⟨RX10, "isSlot", "(I)Z"⟩
abbrev cX10_isLayerFigure : ByteArray := prog_1_method_34_code
def yX10_isLayerFigure : MethodName := ⟨RX10, "isLayerFigure", "(I)Z"⟩
abbrev cX10_isFirstOrSecond : ByteArray := prog_1_method_35_code
def yX10_isFirstOrSecond : MethodName := ⟨RX10, "isFirstOrSecond", "(I)Z"⟩
abbrev cX10_appetiteOf : ByteArray := prog_1_method_36_code
def yX10_appetiteOf : MethodName := ⟨RX10, "appetiteOf", "(I)I"⟩
abbrev cX10_fractionPart : ByteArray := prog_1_method_37_code
def yX10_fractionPart : MethodName := ⟨RX10, "fractionPart", "(IIZ)I"⟩
abbrev cX10_commonDivisor : ByteArray := prog_1_method_38_code
def yX10_commonDivisor : MethodName := ⟨RX10, "commonDivisor", "(II)I"⟩
def RX11 : String := "ChalkTrampsModel"
def TX11 : u_T := fun k => match k with
  | 0 => ("ChalkTrampsModel", "kilns", "I", false)
  | 1 => ("ChalkTrampsModel", "tramps", "I", false)
  | 2 => ("ChalkTrampsModel", "kilnAt", "[I", true)
  | 3 => ("ChalkTrampsModel", "layers", "[I", true)
  | 4 => ("ChalkTrampsModel", "layer", "[I", true)
  | 5 => ("ChalkTrampsModel", "kind", "[I", true)
  | 6 => ("ChalkTrampsModel", "now", "[I", true)
  | 7 => ("ChalkTrampsModel", "readKiln", "[I", true)
  | 8 => ("ChalkTrampsModel", "readMany", "[I", true)
  | 9 => ("ChalkTrampsModel", "readLayer", "[I", true)
  | 10 => ("ChalkTrampsModel", "readTramp", "[I", true)
  | 11 => ("ChalkTrampsModel", "readKilns", "I", false)
  | 12 => ("ChalkTrampsModel", "readTramps", "I", false)
  | 13 => ("ChalkTrampsModel", "readPlaces", "I", false)
  | 14 => ("ChalkTrampsModel", "text", "[I", true)
  | 15 => ("ChalkTrampsModel", "length", "I", false)
  | 16 => ("ChalkTrampsModel", "at", "I", false)
  | 17 => ("ChalkTrampsModel", "faultAt", "I", false)
  | 18 => ("ChalkTrampsModel", "coldOnes", "I", false)
  | 19 => ("ChalkTrampsModel", "acts", "I", false)
  | 20 => ("ChalkTrampsModel", "next", "I", false)
  | 21 => ("ChalkTrampsModel", "row", "[I", true)
  | 22 => ("ChalkTrampsModel", "placeOf", "[I", true)
  | 23 => ("ChalkTrampsModel", "counted", "I", false)
  | 24 => ("ChalkTrampsModel", "firstOrder", "I", false)
  | 25 => ("ChalkTrampsModel", "told", "I", false)
  | 26 => ("ChalkTrampsModel", "toldLayer", "[I", true)
  | 27 => ("ChalkTrampsModel", "toldKnew", "[I", true)
  | 28 => ("ChalkTrampsModel", "seed", "J", false)
  | 29 => ("ChalkTrampsModel", "isKept", "[Z", true)
  | _ => ("ChalkTrampsModel", "kept", "[I", true)
def tyX11 : Nat → FieldType := fun k => match k with
  | 0 => .int
  | 1 => .int
  | 2 => .array .int
  | 3 => .array .int
  | 4 => .array .int
  | 5 => .array .int
  | 6 => .array .int
  | 7 => .array .int
  | 8 => .array .int
  | 9 => .array .int
  | 10 => .array .int
  | 11 => .int
  | 12 => .int
  | 13 => .int
  | 14 => .array .int
  | 15 => .int
  | 16 => .int
  | 17 => .int
  | 18 => .int
  | 19 => .int
  | 20 => .int
  | 21 => .array .int
  | 22 => .array .int
  | 23 => .int
  | 24 => .int
  | 25 => .int
  | 26 => .array .int
  | 27 => .array .int
  | 28 => .long
  | 29 => .array .boolean
  | _ => .array .int
abbrev wsX110 : List Cond := u_ws RX11 TX11 31
theorem nmX11 : ∀ a, a < 31 → ∀ b, b < 31 → a ≠ b → (TX11 a).2.1 ≠ (TX11 b).2.1 := by decide +kernel
theorem tyX11_ok : ∀ k, k < 31 → parseFieldDescriptor (TX11 k).2.2.1 = some (tyX11 k) := by decide +kernel
abbrev cX11_init : ByteArray := prog_13_method_1_code
def yX11_init : MethodName := ⟨RX11, "<init>", "()V"⟩
abbrev cX11_in : ByteArray := prog_13_method_3_code
def yX11_in : MethodName := ⟨RX11, "in", "(JJJ)Z"⟩
abbrev cX11_has : ByteArray := prog_13_method_4_code
def yX11_has : MethodName := ⟨RX11, "has", "(II)Z"⟩
abbrev cX11_ones : ByteArray := prog_13_method_5_code
def yX11_ones : MethodName := ⟨RX11, "ones", "(I)I"⟩
abbrev cX11_write : ByteArray := prog_13_method_6_code
def yX11_write : MethodName := ⟨RX11, "write", "(I)I"⟩
abbrev cX11_wipe : ByteArray := prog_13_method_7_code
def yX11_wipe : MethodName := ⟨RX11, "wipe", "()I"⟩
abbrev cX11_nextOf : ByteArray := prog_13_method_8_code
def yX11_nextOf : MethodName := ⟨RX11, "nextOf", "(III)I"⟩
abbrev cX11_readText : ByteArray := prog_13_method_9_code
def yX11_readText : MethodName := ⟨RX11, "readText", "()I"⟩
abbrev cX11_readPart : ByteArray := prog_13_method_10_code
def yX11_readPart : MethodName := ⟨RX11, "readPart", "(I)V"⟩
abbrev cX11_readOne : ByteArray := prog_13_method_11_code
def yX11_readOne : MethodName := ⟨RX11, "readOne", "()V"⟩
abbrev cX11_fault : ByteArray := prog_13_method_12_code
def yX11_fault : MethodName := ⟨RX11, "fault", "()I"⟩
abbrev cX11_hill : ByteArray := prog_13_method_13_code
def yX11_hill : MethodName := ⟨RX11, "hill", "()I"⟩
abbrev cX11_isKiln : ByteArray := prog_13_method_14_code
def yX11_isKiln : MethodName := ⟨RX11, "isKiln", "(I)Z"⟩
abbrev cX11_isTramp : ByteArray := prog_13_method_15_code
def yX11_isTramp : MethodName := ⟨RX11, "isTramp", "(I)Z"⟩
abbrev cX11_isPlace : ByteArray := prog_13_method_16_code
def yX11_isPlace : MethodName := ⟨RX11, "isPlace", "(I)Z"⟩
abbrev cX11_kilnOf : ByteArray := prog_13_method_17_code
def yX11_kilnOf : MethodName := ⟨RX11, "kilnOf", "(I)I"⟩
abbrev cX11_setOf : ByteArray := prog_13_method_18_code
def yX11_setOf : MethodName := ⟨RX11, "setOf", "(I)I"⟩
abbrev cX11_isHummock : ByteArray := prog_13_method_19_code
def yX11_isHummock : MethodName := ⟨RX11, "isHummock", "(II)Z"⟩
abbrev cX11_speedOf : ByteArray := prog_13_method_20_code
def yX11_speedOf : MethodName := ⟨RX11, "speedOf", "(II)I"⟩
abbrev cX11_takeOn : ByteArray := prog_13_method_21_code
def yX11_takeOn : MethodName := ⟨RX11, "takeOn", "(II)V"⟩
abbrev cX11_knownAt : ByteArray := prog_13_method_22_code
def yX11_knownAt : MethodName := ⟨RX11, "knownAt", "(II)I"⟩
abbrev cX11_passOn : ByteArray := prog_13_method_23_code
def yX11_passOn : MethodName := ⟨RX11, "passOn", "(I)V"⟩
abbrev cX11_far : ByteArray := prog_13_method_24_code
def yX11_far : MethodName := ⟨RX11, "far", "(II)I"⟩
abbrev cX11_canWalk : ByteArray := prog_13_method_25_code
def yX11_canWalk : MethodName := ⟨RX11, "canWalk", "(III)Z"⟩
abbrev cX11_walkOn : ByteArray := prog_13_method_26_code
def yX11_walkOn : MethodName := ⟨RX11, "walkOn", "(III)V"⟩
abbrev cX11_canTell : ByteArray := prog_13_method_27_code
def yX11_canTell : MethodName := ⟨RX11, "canTell", "(III)Z"⟩
abbrev cX11_tellOn : ByteArray := prog_13_method_28_code
def yX11_tellOn : MethodName := ⟨RX11, "tellOn", "(III)V"⟩
abbrev cX11_washOn : ByteArray := prog_13_method_29_code
def yX11_washOn : MethodName := ⟨RX11, "washOn", "(II)V"⟩
abbrev cX11_hummocksOn : ByteArray := prog_13_method_30_code
def yX11_hummocksOn : MethodName := ⟨RX11, "hummocksOn", "(I)I"⟩
abbrev cX11_figuresOf : ByteArray := prog_13_method_31_code
def yX11_figuresOf : MethodName := ⟨RX11, "figuresOf", "(I)I"⟩
abbrev cX11_trampsAt : ByteArray := prog_13_method_32_code
def yX11_trampsAt : MethodName := ⟨RX11, "trampsAt", "(I)I"⟩
abbrev cX11_kiln : ByteArray := prog_13_method_33_code
def yX11_kiln : MethodName := ⟨RX11, "kiln", "(II)I"⟩
abbrev cX11_tramp : ByteArray := prog_13_method_34_code
def yX11_tramp : MethodName := ⟨RX11, "tramp", "(II)I"⟩
abbrev cX11_at : ByteArray := prog_13_method_35_code
def yX11_at : MethodName := ⟨RX11, "at", "(I)I"⟩
abbrev cX11_keepAct : ByteArray := prog_13_method_36_code
def yX11_keepAct : MethodName := ⟨RX11, "keepAct", "()V"⟩
abbrev cX11_night : ByteArray := prog_13_method_37_code
def yX11_night : MethodName := ⟨RX11, "night", "()I"⟩
abbrev cX11_walk : ByteArray := prog_13_method_38_code
def yX11_walk : MethodName := ⟨RX11, "walk", "(II)I"⟩
abbrev cX11_tell : ByteArray := prog_13_method_39_code
def yX11_tell : MethodName := ⟨RX11, "tell", "(II)I"⟩
abbrev cX11_wash : ByteArray := prog_13_method_40_code
def yX11_wash : MethodName := ⟨RX11, "wash", "(I)I"⟩
abbrev cX11_undo : ByteArray := prog_13_method_41_code
def yX11_undo : MethodName := ⟨RX11, "undo", "()I"⟩
abbrev cX11_layTrial : ByteArray := prog_13_method_42_code
def yX11_layTrial : MethodName := ⟨RX11, "layTrial", "()V"⟩
abbrev cX11_later : ByteArray := prog_13_method_43_code
def yX11_later : MethodName := ⟨RX11, "later", "(III)I"⟩
abbrev cX11_hummock : ByteArray := prog_13_method_44_code
def yX11_hummock : MethodName := ⟨RX11, "hummock", "(I)I"⟩
abbrev cX11_tenTo : ByteArray := prog_13_method_45_code
def yX11_tenTo : MethodName := ⟨RX11, "tenTo", "(I)I"⟩
abbrev cX11_knowsBy : ByteArray := prog_13_method_46_code
def yX11_knowsBy : MethodName := ⟨RX11, "knowsBy", "(IIII)Z"⟩
abbrev cX11_soon : ByteArray := prog_13_method_47_code
def yX11_soon : MethodName := ⟨RX11, "soon", "(III)I"⟩
abbrev cX11_allLayers : ByteArray := prog_13_method_48_code
def yX11_allLayers : MethodName := ⟨RX11, "allLayers", "()I"⟩
abbrev cX11_isOrder : ByteArray := prog_13_method_49_code
def yX11_isOrder : MethodName := ⟨RX11, "isOrder", "(II)Z"⟩
abbrev cX11_countOrders : ByteArray := prog_13_method_50_code
def yX11_countOrders : MethodName := ⟨RX11, "countOrders", "()V"⟩
abbrev cX11_orderOf : ByteArray := prog_13_method_51_code
def yX11_orderOf : MethodName := ⟨RX11, "orderOf", "(IIII)I"⟩
abbrev cX11_beneath : ByteArray := prog_13_method_52_code
def yX11_beneath : MethodName := ⟨RX11, "beneath", "(I)I"⟩
abbrev cX11_tryThing : ByteArray := prog_13_method_53_code
def yX11_tryThing : MethodName := ⟨RX11, "tryThing", "(III)Z"⟩
abbrev cX11_thousandTo : ByteArray := prog_13_method_54_code
def yX11_thousandTo : MethodName := ⟨RX11, "thousandTo", "(I)J"⟩
abbrev cX11_judge : ByteArray := prog_13_method_55_code
def yX11_judge : MethodName := ⟨RX11, "judge", "(IJ)I"⟩
abbrev cX11_knew : ByteArray := prog_13_method_56_code
def yX11_knew : MethodName := ⟨RX11, "knew", "(II)I"⟩
abbrev cX11_unknew : ByteArray := prog_13_method_57_code
def yX11_unknew : MethodName := ⟨RX11, "unknew", "()I"⟩
abbrev cX11_upperOf : ByteArray := prog_13_method_58_code
def yX11_upperOf : MethodName := ⟨RX11, "upperOf", "(II)I"⟩
abbrev cX11_lay : ByteArray := prog_13_method_59_code
def yX11_lay : MethodName := ⟨RX11, "lay", "(I)I"⟩
abbrev cX11_factorial : ByteArray := prog_13_method_60_code
def yX11_factorial : MethodName := ⟨RX11, "factorial", "(I)I"⟩
abbrev cX11_common : ByteArray := prog_13_method_61_code
def yX11_common : MethodName := ⟨RX11, "common", "(II)I"⟩
abbrev cX11_knownBy : ByteArray := prog_13_method_62_code
def yX11_knownBy : MethodName := ⟨RX11, "knownBy", "(I)I"⟩
abbrev cX11_share : ByteArray := prog_13_method_63_code
def yX11_share : MethodName := ⟨RX11, "share", "(IZ)I"⟩
abbrev cX11_goTo : ByteArray := prog_13_method_64_code
def yX11_goTo : MethodName := ⟨RX11, "goTo", "(II)V"⟩
abbrev cX11_gain : ByteArray := prog_13_method_65_code
def yX11_gain : MethodName := ⟨RX11, "gain", "(IIIII)I"⟩
abbrev cX11_isRest : ByteArray := prog_13_method_66_code
def yX11_isRest : MethodName := ⟨RX11, "isRest", "(IIII)Z"⟩
abbrev cX11_rests : ByteArray := prog_13_method_67_code
def yX11_rests : MethodName := ⟨RX11, "rests", "(III)I"⟩
abbrev cX11_cold : ByteArray := prog_13_method_68_code
def yX11_cold : MethodName := ⟨RX11, "cold", "(IIIZ)I"⟩
abbrev cX11_seed : ByteArray := prog_13_method_69_code
def yX11_seed : MethodName := ⟨RX11, "seed", "(J)J"⟩
abbrev cX11_knownOfAll : ByteArray := prog_13_method_70_code
def yX11_knownOfAll : MethodName := ⟨RX11, "knownOfAll", "()I"⟩
abbrev cX11_years : ByteArray := prog_13_method_71_code
def yX11_years : MethodName := ⟨RX11, "years", "(I)I"⟩
abbrev cX11_keep : ByteArray := prog_13_method_72_code
def yX11_keep : MethodName := ⟨RX11, "keep", "(I)I"⟩
abbrev cX11_again : ByteArray := prog_13_method_73_code
def yX11_again : MethodName := ⟨RX11, "again", "(I)I"⟩
abbrev cX11_count : ByteArray := prog_13_method_74_code
def yX11_count : MethodName := ⟨RX11, "count", "(I)I"⟩
def RJ6 : String := "java/lang/Integer"
def TJ6 : u_T := fun k => match k with
  | _ => ("", "", "", false)
def tyJ6 : Nat → FieldType := fun k => match k with
  | _ => .int
abbrev wsJ60 : List Cond := u_ws RJ6 TJ6 0
theorem nmJ6 : ∀ a, a < 0 → ∀ b, b < 0 → a ≠ b → (TJ6 a).2.1 ≠ (TJ6 b).2.1 := by decide +kernel
theorem tyJ6_ok : ∀ k, k < 0 → parseFieldDescriptor (TJ6 k).2.2.1 = some (tyJ6 k) := by decide +kernel
abbrev cJ6_bitCount_0f7a4 : ByteArray := prog_14_method_49_code
def yJ6_bitCount_0f7a4 : MethodName := ⟨RJ6, "bitCount", "(I)I"⟩
def RJ9 : String := "java/lang/Math"
def TJ9 : u_T := fun k => match k with
  | _ => ("", "", "", false)
def tyJ9 : Nat → FieldType := fun k => match k with
  | _ => .int
abbrev wsJ90 : List Cond := u_ws RJ9 TJ9 0
theorem nmJ9 : ∀ a, a < 0 → ∀ b, b < 0 → a ≠ b → (TJ9 a).2.1 ≠ (TJ9 b).2.1 := by decide +kernel
theorem tyJ9_ok : ∀ k, k < 0 → parseFieldDescriptor (TJ9 k).2.2.1 = some (tyJ9 k) := by decide +kernel
abbrev cJ9_abs_0f7a4 : ByteArray := prog_15_method_59_code
def yJ9_abs_0f7a4 : MethodName := ⟨RJ9, "abs", "(I)I"⟩
abbrev cJ9_max_7cf53 : ByteArray := prog_15_method_65_code
def yJ9_max_7cf53 : MethodName := ⟨RJ9, "max", "(II)I"⟩
abbrev cJ9_min_7cf53 : ByteArray := prog_15_method_69_code
def yJ9_min_7cf53 : MethodName := ⟨RJ9, "min", "(II)I"⟩
def RJ10 : String := "java/lang/System"
def TJ10 : u_T := fun k => match k with
  | _ => ("", "", "", false)
def tyJ10 : Nat → FieldType := fun k => match k with
  | _ => .int
abbrev wsJ100 : List Cond := u_ws RJ10 TJ10 0
theorem nmJ10 : ∀ a, a < 0 → ∀ b, b < 0 → a ≠ b → (TJ10 a).2.1 ≠ (TJ10 b).2.1 := by decide +kernel
theorem tyJ10_ok : ∀ k, k < 0 → parseFieldDescriptor (TJ10 k).2.2.1 = some (tyJ10 k) := by decide +kernel
def RL : String := "ChalkTrampsLaw"
abbrev cL_law : ByteArray := code
def yL_law : MethodName := ⟨RL, "law", "([I)Z"⟩
end
section
/-! THE SYSTEM AS 63 CELLS OF NUMBERS: values, memory, layout, world; the judgement zc_Z over them -/
abbrev zv_A : Type := Int ⊕ Int ⊕ Nat
abbrev zv_i (z : Int) : zv_A := .inl z
abbrev zv_l (z : Int) : zv_A := .inr (.inl z)
abbrev zv_r (k : Nat) : zv_A := .inr (.inr k)
abbrev zm_M : Type := Nat → Int → Int
def zm_put (M : zm_M) (k : Nat) (i v : Int) : zm_M := fun k2 i2 => if k2 = k ∧ i2 = i then v else M k2 i2
def zm_cpy (M : zm_M) (a : Nat) (sp : Int) (b : Nat) (dp n : Int) : zm_M := fun k i => if k = b ∧ dp ≤ i ∧ i < dp + n then M a (sp + (i - dp)) else M k i
/-- 32 bits, 64 bits -/
def zw (z : Int) : Int := (z + 2147483648) % 4294967296 - 2147483648
def zx (z : Int) : Int := (z + 9223372036854775808) % 18446744073709551616 - 9223372036854775808
theorem zw_eq (z : Int) : (Int32.ofInt z).toInt = zw z := by
  rw [Int32.toInt_ofInt]
  show Int.bmod z 4294967296 = _
  unfold Int.bmod zw
  simp only []
  split <;> omega
theorem zx_eq (z : Int) : (Int64.ofInt z).toInt = zx z := by
  rw [Int64.toInt_ofInt]
  show Int.bmod z 18446744073709551616 = _
  unfold Int.bmod zx
  simp only []
  split <;> omega
theorem zw_id {z : Int} (h1 : -2147483648 ≤ z) (h2 : z < 2147483648) : zw z = z := by unfold zw; omega
theorem zx_id {z : Int} (h1 : -9223372036854775808 ≤ z) (h2 : z < 9223372036854775808) : zx z = z := by unfold zx; omega
theorem zw_rng (z : Int) : -2147483648 ≤ zw z ∧ zw z < 2147483648 := by unfold zw; omega
theorem zw_lt (a b : Int) : Int32.ofInt a < Int32.ofInt b ↔ zw a < zw b := by rw [Int32.lt_iff_toInt_lt, zw_eq, zw_eq]
theorem zw_le (a b : Int) : Int32.ofInt a ≤ Int32.ofInt b ↔ zw a ≤ zw b := by rw [Int32.le_iff_toInt_le, zw_eq, zw_eq]
theorem zw_ee (a b : Int) : Int32.ofInt a = Int32.ofInt b ↔ zw a = zw b := by rw [← Int32.toInt_inj, zw_eq, zw_eq]
theorem zx_lt (a b : Int) : Int64.ofInt a < Int64.ofInt b ↔ zx a < zx b := by rw [Int64.lt_iff_toInt_lt, zx_eq, zx_eq]
theorem zx_ee (a b : Int) : Int64.ofInt a = Int64.ofInt b ↔ zx a = zx b := by rw [← Int64.toInt_inj, zx_eq, zx_eq]
theorem zw_0 : (0 : Int32) = Int32.ofInt 0 := rfl
theorem zw_cl {a : Int} (h0 : 0 ≤ a) (h1 : a < 2147483648) : (Int32.ofInt a).toNatClampNeg = a.toNat := Int32.toNatClampNeg_ofInt_of_le (by omega) (by omega)
theorem zw_in {a : Int} {n : Nat} (h0 : 0 ≤ a) (h1 : a < n) (hn : n ≤ 4096) : vp_in (Int32.ofInt a) n := vp_in_iff.mpr (by rw [zw_eq, zw_id (by omega) (by omega)]; exact ⟨h0, h1⟩)
/-! operations on bits and long numbers -/
def zb_and (a b : Int) : Int := (Int32.ofInt a &&& Int32.ofInt b).toInt
def zb_or (a b : Int) : Int := (Int32.ofInt a ||| Int32.ofInt b).toInt
def zb_xor (a b : Int) : Int := (Int32.ofInt a ^^^ Int32.ofInt b).toInt
def zb_shl (a b : Int) : Int := (Int32.ofInt a <<< (Int32.ofInt b &&& 31)).toInt
def zb_shr (a b : Int) : Int := (Int32.ofInt a >>> (Int32.ofInt b &&& 31)).toInt
def zb_ushr (a b : Int) : Int := ((Int32.ofInt a).toUInt32 >>> ((Int32.ofInt b).toUInt32 &&& Int32.toUInt32 31)).toInt32.toInt
def zl_and (a b : Int) : Int := (Int64.ofInt a &&& Int64.ofInt b).toInt
def zl_or (a b : Int) : Int := (Int64.ofInt a ||| Int64.ofInt b).toInt
def zl_shl (a b : Int) : Int := (Int64.ofInt a <<< ((Int32.ofInt b).toInt64 &&& 63)).toInt
def zl_shr (a b : Int) : Int := (Int64.ofInt a >>> ((Int32.ofInt b).toInt64 &&& 63)).toInt
def zl_cmp (a b : Int) : Int := if zx b < zx a then 1 else if zx a = zx b then 0 else -1
def zb_B (P : Prop) [Decidable P] : Int := if P then 1 else 0

/-- the layout: a class and its fields (an int, a long, the cell that it refers to), or an array (0 int, 1 long, 2 boolean) and its length -/
def zl_lay : List ((Nat × List (Nat ⊕ Nat)) ⊕ (Nat × Nat)) := [.inl (10, [.inr 1, .inr 3, .inr 13, .inr 17, .inr 22, .inr 27, .inr 30, .inr 34, .inr 39, .inr 42, .inr 43, .inl 1]), .inl (6, [.inr 2, .inl 0]), .inr (0, 48), .inl (5, [.inr 4, .inr 8, .inl 0, .inl 0]), .inl (3, [.inr 5, .inr 6, .inr 7, .inl 0]), .inr (0, 4), .inr (0, 4), .inr (0, 16), .inl (1, [.inr 9, .inr 10, .inr 11, .inr 12, .inl 0, .inl 0, .inl 0]), .inr (0, 4), .inr (0, 4), .inr (0, 4), .inr (0, 4), .inl (3, [.inr 14, .inr 15, .inr 16, .inl 0]), .inr (0, 4), .inr (0, 4), .inr (0, 16), .inl (1, [.inr 18, .inr 19, .inr 20, .inr 21, .inl 0, .inl 0, .inl 0]), .inr (0, 4), .inr (0, 4), .inr (0, 4), .inr (0, 4), .inl (1, [.inr 23, .inr 24, .inr 25, .inr 26, .inl 0, .inl 0, .inl 0]), .inr (0, 4), .inr (0, 4), .inr (0, 4), .inr (0, 4), .inl (0, [.inr 28, .inr 29, .inl 0]), .inr (1, 14), .inr (0, 14), .inl (8, [.inr 31, .inr 32, .inr 33]), .inr (1, 2), .inr (0, 2), .inr (2, 2), .inl (7, [.inr 35, .inr 36, .inr 37, .inr 38, .inl 0, .inl 0, .inl 0, .inl 0]), .inr (1, 343), .inr (0, 343), .inr (1, 343), .inr (0, 343), .inl (4, [.inr 40, .inr 41, .inl 0]), .inr (0, 6), .inr (0, 64), .inl (9, [.inl 0, .inl 0, .inl 0, .inl 0, .inl 0]), .inl (2, [.inr 44, .inr 45, .inl 0, .inl 0]), .inr (0, 16), .inr (0, 16), .inl (11, [.inl 0, .inl 0, .inr 47, .inr 48, .inr 49, .inr 50, .inr 51, .inr 52, .inr 53, .inr 54, .inr 55, .inl 0, .inl 0, .inl 0, .inr 56, .inl 0, .inl 0, .inl 0, .inl 0, .inl 0, .inl 0, .inr 57, .inr 58, .inl 0, .inl 0, .inl 0, .inr 59, .inr 60, .inl 1, .inr 61, .inr 62]), .inr (0, 4), .inr (0, 4), .inr (0, 16), .inr (0, 4), .inr (0, 28), .inr (0, 4), .inr (0, 4), .inr (0, 16), .inr (0, 8), .inr (0, 48), .inr (0, 196), .inr (0, 6), .inr (0, 6), .inr (0, 6), .inr (2, 2), .inr (0, 28)]
def zl_cl : List vw_C := [(RX0, TX0, 3), (RX1, TX1, 7), (RX2, TX2, 4), (RX3, TX3, 4), (RX4, TX4, 3), (RX5, TX5, 4), (RX6, TX6, 2), (RX7, TX7, 8), (RX8, TX8, 3), (RX9, TX9, 5), (RX10, TX10, 12), (RX11, TX11, 31)]
/-- what is the same in a whole run: the launch, the classes' numbers, the array classes, where the cells lie (63: the script, 64: the static array), the script -/
abbrev zt_G : Type := Launch × va_G × (ClassId × ClassId × ClassId) × (Nat → Nat) × Nat × (Nat → Int32)
abbrev zg_l (g : zt_G) : Launch := g.1
abbrev zg_D (g : zt_G) : va_G := g.2.1
abbrev zg_c (g : zt_G) : ClassId × ClassId × ClassId := g.2.2.1
abbrev zg_ad (g : zt_G) : Nat → Nat := g.2.2.2.1
abbrev zg_L (g : zt_G) : Nat := g.2.2.2.2.1
abbrev zg_x (g : zt_G) : Nat → Int32 := g.2.2.2.2.2
def zg_k (g : zt_G) (a : Nat) : ClassId := match a with
  | 0 => (zg_c g).1
  | 1 => (zg_c g).2.1
  | _ => (zg_c g).2.2
def zg_ty (g : zt_G) : List (ClassId × FieldType) := [((zg_c g).1, .int), ((zg_c g).2.1, .long), ((zg_c g).2.2, .boolean)]
def zg_A (g : zt_G) : Nat → Prop := fun q => ∃ k, k < 63 ∧ q = zg_ad g k
def zv_c (g : zt_G) (v : zv_A) : Value := match v with
  | .inl z => .int (Int32.ofInt z)
  | .inr (.inl z) => .long (Int64.ofInt z)
  | .inr (.inr k) => .ref (zg_ad g k)
def zl_fv (g : zt_G) (M : zm_M) (k j : Nat) (f : Nat ⊕ Nat) : Value := match f with
  | .inr t => .ref (zg_ad g t)
  | .inl 0 => .int (Int32.ofInt (M k (j : Int)))
  | .inl _ => .long (Int64.ofInt (M k (j : Int)))
def zl_fs (g : zt_G) (M : zm_M) (k : Nat) : Nat → List (Nat ⊕ Nat) → List Value
  | _, [] => []
  | j, f :: r => zl_fv g M k j f :: zl_fs g M k (j + 1) r
def zl_av (M : zm_M) (k a : Nat) : (Nat → Int32) ⊕ (Nat → Int64) ⊕ (Nat → UInt32) ⊕ (Nat → UInt64) ⊕ (Nat → Option Nat) := match a with
  | 1 => .inr (.inl (fun j => Int64.ofInt (M k (j : Int))))
  | _ => .inl (fun j => Int32.ofInt (M k (j : Int)))
def zl_ct (g : zt_G) (M : zm_M) (k : Nat) : va_E := match zl_lay[k]? with
  | some (.inl q) => .inr (q.1, zl_fs g M k 0 q.2)
  | some (.inr q) => .inl (zg_k g q.1, q.2, zl_av M k q.1)
  | none => .inl ((zg_c g).1, 0, .inl (fun _ => 0))
def zl_w (g : zt_G) (M : zm_M) : va_W := (List.range 63).map (fun k => (zg_ad g k, zl_ct g M k))
theorem zl_w_at (g : zt_G) (M : zm_M) {k : Nat} (hk : k < 63) : (zl_w g M)[k]? = some (zg_ad g k, zl_ct g M k) := by
  unfold zl_w
  rw [List.getElem?_map, List.getElem?_range hk]
  rfl
theorem zl_lt {k : Nat} {x : (Nat × List (Nat ⊕ Nat)) ⊕ (Nat × Nat)} (h : zl_lay[k]? = some x) : k < 63 := (List.getElem?_eq_some_iff.mp h).1
theorem zl_len {k a n : Nat} (h : zl_lay[k]? = some (.inr (a, n))) : n ≤ 4096 := by
  have h1 : ∀ x ∈ zl_lay, (match x with | .inl _ => true | .inr q => decide (q.2 ≤ 4096)) = true := by decide +kernel
  have h2 := h1 _ (List.mem_of_getElem? h)
  exact of_decide_eq_true h2
theorem zl_ct_ne {g : zt_G} {M M2 : zm_M} {k : Nat} (h : ∀ i, M2 k i = M k i) : zl_ct g M2 k = zl_ct g M k := by
  have h1 : ∀ (l : List (Nat ⊕ Nat)) (j : Nat), zl_fs g M2 k j l = zl_fs g M k j l := by
    intro l
    induction l with
    | nil => intro j; rfl
    | cons f r ih =>
      intro j
      show zl_fv g M2 k j f :: _ = zl_fv g M k j f :: _
      rw [ih]
      congr 1
      unfold zl_fv
      split <;> simp [h]
  have h2 : ∀ a, zl_av M2 k a = zl_av M k a := by
    intro a
    unfold zl_av
    split <;> simp [h]
  unfold zl_ct
  split <;> simp [h1, h2]
theorem zl_w_set {g : zt_G} {M M2 : zm_M} {k : Nat} {e : va_E} (hk : k < 63) (h1 : zl_ct g M2 k = e) (h2 : ∀ j, j ≠ k → ∀ i, M2 j i = M j i) : (zl_w g M).set k (zg_ad g k, e) = zl_w g M2 := by
  apply List.ext_getElem?
  intro i
  by_cases hi : i = k
  · subst hi
    rw [List.getElem?_set_self (by simp [zl_w]; exact hk), zl_w_at g M2 hk, h1]
  · rw [List.getElem?_set_ne (Ne.symm hi)]
    by_cases hi2 : i < 63
    · rw [zl_w_at g M hi2, zl_w_at g M2 hi2, zl_ct_ne (h2 i hi)]
    · rw [List.getElem?_eq_none (by simp [zl_w]; omega), List.getElem?_eq_none (by simp [zl_w]; omega)]
theorem zl_ct_o {g : zt_G} {M : zm_M} {k ci : Nat} {fs : List (Nat ⊕ Nat)} (h : zl_lay[k]? = some (.inl (ci, fs))) : zl_ct g M k = .inr (ci, zl_fs g M k 0 fs) := by
  unfold zl_ct
  rw [h]
theorem zl_ct_a {g : zt_G} {M : zm_M} {k a n : Nat} (h : zl_lay[k]? = some (.inr (a, n))) : zl_ct g M k = .inl (zg_k g a, n, zl_av M k a) := by
  unfold zl_ct
  rw [h]
theorem zl_fs_at {g : zt_G} {M : zm_M} {k : Nat} : ∀ (l : List (Nat ⊕ Nat)) (j i : Nat) (f : Nat ⊕ Nat), l[i]? = some f → (zl_fs g M k j l)[i]? = some (zl_fv g M k (j + i) f)
  | [], j, i, f, h => by simp at h
  | x :: r, j, 0, f, h => by
    have e : x = f := by simpa using h
    subst e
    rfl
  | x :: r, j, i + 1, f, h => by
    have h2 : r[i]? = some f := by simpa using h
    have h3 := zl_fs_at (g := g) (M := M) (k := k) r (j + 1) i f h2
    show (zl_fs g M k (j + 1) r)[i]? = _
    rw [h3]
    congr 2
    omega
theorem zl_fs_len {g : zt_G} {M : zm_M} {k : Nat} : ∀ (l : List (Nat ⊕ Nat)) (j : Nat), (zl_fs g M k j l).length = l.length
  | [], j => rfl
  | x :: r, j => by
    show (zl_fs g M k (j + 1) r).length + 1 = r.length + 1
    rw [zl_fs_len r (j + 1)]
theorem zl_fs_set {g : zt_G} {M : zm_M} {k : Nat} {v : Int} : ∀ (l : List (Nat ⊕ Nat)) (j i t : Nat), l[i]? = some (.inl t) → (zl_fs g M k j l).set i (zl_fv g (zm_put M k ((j + i : Nat) : Int) v) k (j + i) (.inl t)) = zl_fs g (zm_put M k ((j + i : Nat) : Int) v) k j l := by
  intro l
  have key : ∀ (l : List (Nat ⊕ Nat)) (j p : Nat), p < j → zl_fs g (zm_put M k (p : Int) v) k j l = zl_fs g M k j l := by
    intro l
    induction l with
    | nil => intro j p _; rfl
    | cons x r ih =>
      intro j p hp
      show zl_fv g _ k j x :: _ = zl_fv g M k j x :: _
      rw [ih (j + 1) p (by omega)]
      congr 1
      have hne : ¬ ((j : Int) = (p : Int)) := by omega
      unfold zl_fv
      split <;> simp [zm_put, hne]
  induction l with
  | nil => intro j i t h; simp at h
  | cons x r ih =>
    intro j i t h
    cases i with
    | zero =>
      have e : x = .inl t := by simpa using h
      subst e
      show _ :: zl_fs g M k (j + 1) r = _ :: _
      rw [key r (j + 1) (j + 0) (by omega)]
      rfl
    | succ i =>
      have h2 : r[i]? = some (.inl t) := by simpa using h
      have e : j + (i + 1) = (j + 1) + i := by omega
      rw [e]
      show zl_fv g M k j x :: (zl_fs g M k (j + 1) r).set i _ = zl_fv g _ k j x :: _
      rw [ih (j + 1) i t h2]
      congr 1
      have hne : ¬ ((j : Int) = (((j + 1) + i : Nat) : Int)) := by omega
      have hme : zm_put M k (((j + 1) + i : Nat) : Int) v k (j : Int) = M k (j : Int) := by
        unfold zm_put
        rw [if_neg (fun q => hne q.2)]
      unfold zl_fv
      split <;> simp only [hme]
theorem zl_D {g : zt_G} (M : zm_M) (h : ∀ i j, i < 63 → j < 63 → zg_ad g i = zg_ad g j → i = j) : va_D (zg_A g) (zl_w g M) := by
  have key : ∀ (i : Nat) (q : Nat × va_E), (zl_w g M)[i]? = some q → i < 63 ∧ q.1 = zg_ad g i := by
    intro i q hq
    have hi : i < 63 := by
      have := (List.getElem?_eq_some_iff.mp hq).1
      simpa [zl_w] using this
    rw [zl_w_at g M hi] at hq
    cases hq
    exact ⟨hi, rfl⟩
  refine ⟨fun i j p q hp hq e => ?_, fun k q hq => ?_⟩
  · obtain ⟨a1, a2⟩ := key i p hp
    obtain ⟨b1, b2⟩ := key j q hq
    exact h i j a1 b1 (by rw [← a2, ← b2]; exact e)
  · obtain ⟨a1, a2⟩ := key k q hq
    exact ⟨k, a1, a2⟩

def zk_nest : List (String × Nat × MethodName × String) := [("ChalkTramps$Reader", 58, yX10_isPlace, "ChalkTramps"), ("ChalkTramps$Camp", 59, yX10_appetiteOf, "ChalkTramps"), ("ChalkTramps$Camp", 75, yX10_isPlace, "ChalkTramps"), ("ChalkTramps$Stranger", 32, yX10_appetiteOf, "ChalkTramps"), ("ChalkTramps$Slots", 23, yX10_isSlot, "ChalkTramps")]
def zk_rows (j : Nat) : Value := .long (Int64.ofInt (match j with | 0 => 1 | 1 => 1000 | 2 => 1000000 | 3 => 1000000000 | _ => 1000000000000))
/-- the words that go from call to call -/
def zt_tb : List Cond := lw_tbl.filter goodWord
theorem zt_ins (ws : List Cond) (ps : List Nat) (hp : ws = ps.filterMap (fun i => lw_tbl[i]?)) (h : ws.all goodWord = true) : ∀ w ∈ ws, w ∈ zt_tb := by
  intro w hw
  have h1 := List.all_eq_true.mp h w hw
  rw [hp] at hw
  obtain ⟨i, -, hi⟩ := List.mem_filterMap.mp hw
  exact List.mem_filter.mpr ⟨List.mem_of_getElem? hi, h1⟩
theorem zt_good {c : Cond} (hc : c ∈ zt_tb) : GoodIn zt_tb (c :: zt_tb) := by
  intro w hw
  have h1 : w ∈ zt_tb := (List.mem_cons.mp hw).elim (fun e => by rw [e]; exact hc) id
  exact ⟨h1, good_of_word (List.mem_filter.mp h1).2⟩
/-- what stays of the start: nest mates' links, the static array, the script, the cells apart, the classes -/
def zg_S (g : zt_G) (U : State) : Prop := (∀ q ∈ zk_nest, va_Nw (.methodLinkNest q.1 q.2.1 q.2.2.1 q.2.2.2) U) ∧ va_Z "ChalkTramps" "DOING_ROWS" "[J" (.ref (zg_ad g 64)) (zg_A g) U U.heap ∧ va_T .long (zg_ad g 64) 5 zk_rows (zg_A g) U U.heap ∧ va_X (zg_ad g 63) (zg_L g) (zg_x g) U U.heap ∧ (zg_ad g 63 < U.heap.size ∧ ¬ zg_A g (zg_ad g 63)) ∧ (∀ i j, i < 63 → j < 63 → zg_ad g i = zg_ad g j → i = j) ∧ va_K (zg_D g) zl_cl (zg_ty g) U
theorem zg_S.next {g : zt_G} {s U : State} {H : Heap} {locs : List Loc} (h : zg_S g s) (hS : va_S (zg_A g) s.heap H locs) (hU : U.heap = H) (hW : s.WarmedH U.vm) : zg_S g U := by
  obtain ⟨h1, h2, h3, h4, h5, h6, h7⟩ := h
  have hk : ∀ a : Nat, a < s.heap.size → ¬ zg_A g a → U.heap[a]? = s.heap[a]? := fun a ha hb => by rw [hU]; exact hS.2.1 a ha hb
  refine ⟨fun q hq => va_Nw.warmM hW (h1 q hq), (va_Z.moved hW.alike h2).kept hk, (va_T.moved hW.alike h3).kept hk, (va_X.moved hW.alike h4).kept (hk _ h5.1 h5.2), ⟨?_, h5.2⟩, h6, va_K.moved hW.alike h7⟩
  rw [hU]
  exact Nat.lt_of_lt_of_le h5.1 hS.1
theorem zg_S.blind {g : zt_G} {U : State} (h : zg_S g U) (f : JFrame) (mk : MethodId) (a : Array Value) : zg_S g (U.calling f mk a) := by
  obtain ⟨h1, h2, h3, h4, h5, h6, h7⟩ := h
  exact ⟨fun q hq => va_Nw.same rfl rfl (h1 q hq), va_Z.moved (Vm.Alike.refl U.vm) h2, va_T.moved (Vm.Alike.refl U.vm) h3, va_X.moved (Vm.Alike.refl U.vm) h4, h5, h6, va_K.moved (Vm.Alike.refl U.vm) h7⟩
/-- a method: its class, its code, its locals, its answer's type, its room, the cells and slots that were made before -/
abbrev zt_M : Type := String × ByteArray × Nat × Option FieldType × Room × Nat × Nat
def zt_rm (d : Nat) : Room := { frames := d, cells := 0, slots := 0, locals := 38 * d }
def zt_C (g : zt_G) (μ : zt_M) (p : Program) (s : State) (m : MethodId) (args : Array Value) (meth : Method) (c : Code) : Prop :=
  p.tables.exec = Jvm.exec ∧ c.code = μ.2.1 ∧ c.maxLocals = μ.2.2.1 ∧ s.vm.findClass μ.1 = some m.cls ∧ (∀ w ∈ zt_tb, w.before args s = true) ∧ zg_S g s ∧ μ.2.2.2.2.2.1 ≤ μ.2.2.2.2.1.cells ∧ μ.2.2.2.2.2.2 ≤ μ.2.2.2.2.1.slots
/-- a return that fits: the instruction, the type -/
def zt_R (μ : zt_M) (v : Option zv_A) (pc : Nat) : Prop := match v with
  | none => decode μ.2.1 pc = .ok (.return_, 1) ∧ μ.2.2.2.1 = none
  | some (.inl z) => decode μ.2.1 pc = .ok (.ireturn, 1) ∧ (μ.2.2.2.1 = some .int ∨ (μ.2.2.2.1 = some .boolean ∧ (z = 0 ∨ z = 1)))
  | some (.inr (.inl _)) => decode μ.2.1 pc = .ok (.lreturn, 1) ∧ μ.2.2.2.1 = some .long
  | some (.inr (.inr _)) => False
/-- the locals as a dense row -/
def zs_m (g : zt_G) : Nat → List (Option zv_A) → List (Nat × Value)
  | _, [] => []
  | i, some v :: r => (i, zv_c g v) :: zs_m g (i + 1) r
  | i, none :: r => zs_m g (i + 1) r
def zs_at : List (Option zv_A) → Nat → Option zv_A
  | [], _ => none
  | x :: _, 0 => x
  | _ :: r, n + 1 => zs_at r n
def zs_put : List (Option zv_A) → Nat → Option zv_A → List (Option zv_A)
  | [], 0, v => [v]
  | [], n + 1, v => none :: zs_put [] n v
  | _ :: r, 0, v => v :: r
  | x :: r, n + 1, v => x :: zs_put r n v
/-- no long stands just below the place -/
def zs_ok (ls : List (Option zv_A)) (i : Nat) : Bool := match i with
  | 0 => true
  | j + 1 => match zs_at ls j with
    | some (.inr (.inl _)) => false
    | _ => true
theorem zs_m_at {g : zt_G} : ∀ (ls : List (Option zv_A)) (b i : Nat) (v : zv_A), zs_at ls i = some v → (b + i, zv_c g v) ∈ zs_m g b ls
  | [], b, i, v, h => by cases h
  | some x :: r, b, 0, v, h => by
    cases h
    exact List.mem_cons_self
  | none :: r, b, 0, v, h => by cases h
  | some x :: r, b, i + 1, v, h => by
    have h2 := zs_m_at (g := g) r (b + 1) i v h
    refine List.mem_cons_of_mem _ ?_
    rw [show b + (i + 1) = b + 1 + i by omega]
    exact h2
  | none :: r, b, i + 1, v, h => by
    have h2 := zs_m_at (g := g) r (b + 1) i v h
    show (b + (i + 1), zv_c g v) ∈ zs_m g (b + 1) r
    rw [show b + (i + 1) = b + 1 + i by omega]
    exact h2
theorem zs_m_of {g : zt_G} : ∀ (ls : List (Option zv_A)) (b : Nat) (q : Nat × Value), q ∈ zs_m g b ls → ∃ i v, q = (b + i, zv_c g v) ∧ zs_at ls i = some v
  | [], b, q, h => by cases h
  | some x :: r, b, q, h => by
    rcases List.mem_cons.mp h with e | h2
    · exact ⟨0, x, e, rfl⟩
    · obtain ⟨i, v, e, h3⟩ := zs_m_of r (b + 1) q h2
      exact ⟨i + 1, v, by rw [e, show b + (i + 1) = b + 1 + i by omega], h3⟩
  | none :: r, b, q, h => by
    obtain ⟨i, v, e, h3⟩ := zs_m_of r (b + 1) q h
    exact ⟨i + 1, v, by rw [e, show b + (i + 1) = b + 1 + i by omega], h3⟩
theorem zs_put_at : ∀ (ls : List (Option zv_A)) (n i : Nat) (v : Option zv_A), zs_at (zs_put ls n v) i = if i = n then v else zs_at ls i
  | [], 0, 0, v => by simp [zs_put, zs_at]
  | [], 0, i + 1, v => by simp [zs_put, zs_at]
  | [], n + 1, 0, v => by simp [zs_put, zs_at]
  | [], n + 1, i + 1, v => by
    have h := zs_put_at [] n i v
    simp [zs_put, zs_at] at h ⊢
    exact h
  | x :: r, 0, 0, v => by simp [zs_put, zs_at]
  | x :: r, 0, i + 1, v => by simp [zs_put, zs_at]
  | x :: r, n + 1, 0, v => by simp [zs_put, zs_at]
  | x :: r, n + 1, i + 1, v => by
    have h := zs_put_at r n i v
    simp [zs_put, zs_at] at h ⊢
    exact h
theorem zs_get {g : zt_G} {la : Array Slot} {nL : Nat} {ls : List (Option zv_A)} (h : lv_has la nL (zs_m g 0 ls)) {i : Nat} {v : zv_A} (hi : zs_at ls i = some v) : la[i]? = some (.val (zv_c g v)) := by
  have h2 := zs_m_at (g := g) ls 0 i v hi
  rw [Nat.zero_add] at h2
  exact h.2.2 _ h2
theorem zs_weak {la : Array Slot} {nL : Nat} {l l2 : List (Nat × Value)} (h : lv_has la nL l) (h2 : ∀ q ∈ l2, q ∈ l) : lv_has la nL l2 := ⟨h.1, h.2.1, fun q hq => h.2.2 q (h2 q hq)⟩
theorem zs_set {g : zt_G} {la : Array Slot} {nL : Nat} {ls : List (Option zv_A)} {i : Nat} {v : zv_A} (hc : zs_ok ls i = true) (h : lv_has la nL ((i, zv_c g v) :: (zs_m g 0 ls).filter (fun q => !(q.1 == i) && !(q.1 + 1 == i && q.2.category == 2)))) : lv_has la nL (zs_m g 0 (zs_put ls i (some v))) := by
  refine zs_weak h (fun q hq => ?_)
  obtain ⟨j, u, e, h3⟩ := zs_m_of _ 0 q hq
  rw [Nat.zero_add] at e
  subst e
  rw [zs_put_at] at h3
  by_cases hj : j = i
  · rw [if_pos hj] at h3
    cases h3
    rw [hj]
    exact List.mem_cons_self
  · rw [if_neg hj] at h3
    refine List.mem_cons_of_mem _ (List.mem_filter.mpr ⟨?_, ?_⟩)
    · have := zs_m_at (g := g) ls 0 j u h3
      rwa [Nat.zero_add] at this
    · by_cases hj2 : j + 1 = i
      · subst hj2
        simp only [zs_ok, h3] at hc
        rcases u with z | z | k
        · simp [zv_c, Value.category]
        · simp at hc
        · simp [zv_c, Value.category]
      · simp [hj, hj2]
theorem zs_set2 {g : zt_G} {la : Array Slot} {nL : Nat} {ls : List (Option zv_A)} {i : Nat} {v : zv_A} (hc : zs_ok ls i = true) (h : lv_has la nL ((i, zv_c g v) :: (zs_m g 0 ls).filter (fun q => !(q.1 == i) && (!(q.1 == i + 1) && !(q.1 + 1 == i && q.2.category == 2))))) : lv_has la nL (zs_m g 0 (zs_put (zs_put ls i (some v)) (i + 1) none)) := by
  refine zs_weak h (fun q hq => ?_)
  obtain ⟨j, u, e, h3⟩ := zs_m_of _ 0 q hq
  rw [Nat.zero_add] at e
  subst e
  rw [zs_put_at] at h3
  by_cases hj1 : j = i + 1
  · rw [if_pos hj1] at h3
    cases h3
  rw [if_neg hj1, zs_put_at] at h3
  by_cases hj : j = i
  · rw [if_pos hj] at h3
    cases h3
    rw [hj]
    exact List.mem_cons_self
  · rw [if_neg hj] at h3
    refine List.mem_cons_of_mem _ (List.mem_filter.mpr ⟨?_, ?_⟩)
    · have := zs_m_at (g := g) ls 0 j u h3
      rwa [Nat.zero_add] at this
    · by_cases hj2 : j + 1 = i
      · subst hj2
        simp only [zs_ok, h3] at hc
        rcases u with z | z | k
        · simp [zv_c, Value.category, hj1]
        · simp at hc
        · simp [zv_c, Value.category, hj1]
      · simp [hj, hj1, hj2]
/-- THE JUDGEMENT: method μ stands at pc with these locals, this stack, this memory: it comes to its end with Q -/
def zc_Z (g : zt_G) (μ : zt_M) (pc : Nat) (ls : List (Option zv_A)) (st : List zv_A) (M : zm_M) (Q : Option zv_A → zm_M → Prop) : Prop :=
  ∀ (p : Program) (e : Env) (s : State) (m : MethodId) (args : Array Value) (below : List Frame) (meth : Method) (c : Code) (Qf : State → Prop) (H : Heap) (locs : List Loc) (la : Array Slot),
    zt_C g μ p s m args meth c →
    (∀ (v : Option zv_A) (M2 : zm_M) (H2 : Heap) (locs2 : List Loc) (la2 : Array Slot) (pc2 : Nat), Q v M2 → zt_R μ v pc2 → va_P (zg_D g) zl_cl (zl_w g M2) H2 → va_S (zg_A g) s.heap H2 locs2 → W p (zg_l g) e μ.2.2.2.2.1 s m args below meth c H2 locs2 μ.2.2.2.2.2.1 μ.2.2.2.2.2.2 Qf (F0 m pc2 la2 (v.toList.map (zv_c g)))) →
    va_P (zg_D g) zl_cl (zl_w g M) H → va_S (zg_A g) s.heap H locs → lv_has la μ.2.2.1 (zs_m g 0 ls) →
    W p (zg_l g) e μ.2.2.2.2.1 s m args below meth c H locs μ.2.2.2.2.2.1 μ.2.2.2.2.2.2 Qf (F0 m pc la (st.map (zv_c g)))
/-- a method's contract -/
def zq_P (g : zt_G) (av : List zv_A) (M : zm_M) : Array Value → State → Prop := va_Pc (av.map (zv_c g)) (fun U => va_P (zg_D g) zl_cl (zl_w g M) U.heap ∧ zg_S g U)
def zq_Q (g : zt_G) (Q : Option zv_A → zm_M → Prop) : Array Value → State → Outcome → State → Prop := fun _ st oc t => (∃ (v : Option zv_A) (M2 : zm_M), oc = .returned (v.map (zv_c g)) ∧ Q v M2 ∧ va_P (zg_D g) zl_cl (zl_w g M2) t.heap) ∧ va_F (zg_A g) st t
def zc_K (g : zt_G) (y : MethodName) (μ : zt_M) (av : List zv_A) (M : zm_M) (Q : Option zv_A → zm_M → Prop) : Prop :=
  Met (zg_l g) y (.code y μ.2.1 μ.2.2.1 μ.2.2.2.1 :: zt_tb) μ.2.2.2.2.1 (zq_P g av M) (zq_Q g Q) 0 0 (zg_A g)
end
section
theorem zr_iconst {g : zt_G} {μ : zt_M} {pc : Nat} {ls : List (Option zv_A)} {st : List zv_A} {M : zm_M} {Q : Option zv_A → zm_M → Prop} {n : Int} (hd : decode μ.2.1 pc = .ok (.iconst n, 1)) (k : zc_Z g μ (pc + 1) ls (zv_i n :: st) M Q) : zc_Z g μ pc ls (st) M Q := by
  intro p e s m args below meth c Qf H locs la C hf hP hS hl
  exact lv_iconst C.1 C.2.1 hd rfl (k p e s m args below meth c Qf H locs la C hf hP hS hl)
theorem zb_i8 {n : Int} (h1 : -128 ≤ n) (h2 : n < 128) : (Int8.ofInt n).toInt32 = Int32.ofInt n := by
  apply Int32.toInt_inj.mp
  rw [Int8.toInt_toInt32, Int8.toInt_ofInt_of_le (by omega) (by omega), zw_eq, zw_id (by omega) (by omega)]
theorem zb_i16 {n : Int} (h1 : -32768 ≤ n) (h2 : n < 32768) : (Int16.ofInt n).toInt32 = Int32.ofInt n := by
  apply Int32.toInt_inj.mp
  rw [Int16.toInt_toInt32, Int16.toInt_ofInt_of_le (by omega) (by omega), zw_eq, zw_id (by omega) (by omega)]
theorem zr_bipush {g : zt_G} {μ : zt_M} {pc : Nat} {ls : List (Option zv_A)} {st : List zv_A} {M : zm_M} {Q : Option zv_A → zm_M → Prop} {n : Int} (hd : decode μ.2.1 pc = .ok (.bipush n, 2)) (hn : -128 ≤ n ∧ n < 128) (k : zc_Z g μ (pc + 2) ls (zv_i n :: st) M Q) : zc_Z g μ pc ls (st) M Q := by
  intro p e s m args below meth c Qf H locs la C hf hP hS hl
  exact lv_bipush C.1 C.2.1 hd (zb_i8 hn.1 hn.2) (k p e s m args below meth c Qf H locs la C hf hP hS hl)
theorem zr_sipush {g : zt_G} {μ : zt_M} {pc : Nat} {ls : List (Option zv_A)} {st : List zv_A} {M : zm_M} {Q : Option zv_A → zm_M → Prop} {n : Int} (hd : decode μ.2.1 pc = .ok (.sipush n, 3)) (hn : -32768 ≤ n ∧ n < 32768) (k : zc_Z g μ (pc + 3) ls (zv_i n :: st) M Q) : zc_Z g μ pc ls (st) M Q := by
  intro p e s m args below meth c Qf H locs la C hf hP hS hl
  exact lv_sipush C.1 C.2.1 hd (zb_i16 hn.1 hn.2) (k p e s m args below meth c Qf H locs la C hf hP hS hl)
theorem zr_lconst {g : zt_G} {μ : zt_M} {pc : Nat} {ls : List (Option zv_A)} {st : List zv_A} {M : zm_M} {Q : Option zv_A → zm_M → Prop} {n : Fin 2} {z : Int} (hd : decode μ.2.1 pc = .ok (.lconst n, 1)) (hz : Int64.ofNat (n : Nat) = Int64.ofInt z) (k : zc_Z g μ (pc + 1) ls (zv_l z :: st) M Q) : zc_Z g μ pc ls (st) M Q := by
  intro p e s m args below meth c Qf H locs la C hf hP hS hl
  exact lv_lconst C.1 C.2.1 hd hz (k p e s m args below meth c Qf H locs la C hf hP hS hl)
theorem zr_ldc2 {g : zt_G} {μ : zt_M} {pc : Nat} {ls : List (Option zv_A)} {st : List zv_A} {M : zm_M} {Q : Option zv_A → zm_M → Prop} {own : String} {ix : Nat} {v : Int64} {z : Int} (ho : μ.1 = own) (hw : Cond.constantLong own ix v ∈ zt_tb) (hz : v = Int64.ofInt z) (hd : decode μ.2.1 pc = .ok (.ldc2_w ix, 3)) (k : zc_Z g μ (pc + 3) ls (zv_l z :: st) M Q) : zc_Z g μ pc ls (st) M Q := by
  intro p e s m args below meth c Qf H locs la C hf hP hS hl
  subst hz
  subst ho
  exact lv_ldc2 C.1 C.2.1 C.2.2.2.1 (C.2.2.2.2.1 _ hw) hd (k p e s m args below meth c Qf H locs la C hf hP hS hl)
theorem zr_ldcw {g : zt_G} {μ : zt_M} {pc : Nat} {ls : List (Option zv_A)} {st : List zv_A} {M : zm_M} {Q : Option zv_A → zm_M → Prop} {own : String} {ix : Nat} {v : Int32} {z : Int} (ho : μ.1 = own) (hw : Cond.constant own ix v ∈ zt_tb) (hz : v = Int32.ofInt z) (hd : decode μ.2.1 pc = .ok (.ldc_w ix, 3)) (k : zc_Z g μ (pc + 3) ls (zv_i z :: st) M Q) : zc_Z g μ pc ls (st) M Q := by
  intro p e s m args below meth c Qf H locs la C hf hP hS hl
  subst hz
  subst ho
  exact lv_ldcw C.1 C.2.1 C.2.2.2.1 (C.2.2.2.2.1 _ hw) hd (k p e s m args below meth c Qf H locs la C hf hP hS hl)
theorem zr_iload_n {g : zt_G} {μ : zt_M} {pc : Nat} {ls : List (Option zv_A)} {st : List zv_A} {M : zm_M} {Q : Option zv_A → zm_M → Prop} {a : Int} {f : Fin 4} {i : Nat} (hd : decode μ.2.1 pc = .ok (.iload_n f, 1)) (hi : (f : Nat) = i) (h : zs_at ls i = some (zv_i a)) (k : zc_Z g μ (pc + 1) ls (zv_i a :: st) M Q) : zc_Z g μ pc ls (st) M Q := by
  intro p e s m args below meth c Qf H locs la C hf hP hS hl
  exact lv_iload_n C.1 C.2.1 hd hi (zs_get hl h) (k p e s m args below meth c Qf H locs la C hf hP hS hl)
theorem zr_iload {g : zt_G} {μ : zt_M} {pc : Nat} {ls : List (Option zv_A)} {st : List zv_A} {M : zm_M} {Q : Option zv_A → zm_M → Prop} {a : Int} {i : Nat} (hd : decode μ.2.1 pc = .ok (.iload i, 2)) (h : zs_at ls i = some (zv_i a)) (k : zc_Z g μ (pc + 2) ls (zv_i a :: st) M Q) : zc_Z g μ pc ls (st) M Q := by
  intro p e s m args below meth c Qf H locs la C hf hP hS hl
  exact lv_iload C.1 C.2.1 hd (zs_get hl h) (k p e s m args below meth c Qf H locs la C hf hP hS hl)
theorem zr_lload_n {g : zt_G} {μ : zt_M} {pc : Nat} {ls : List (Option zv_A)} {st : List zv_A} {M : zm_M} {Q : Option zv_A → zm_M → Prop} {a : Int} {f : Fin 4} {i : Nat} (hd : decode μ.2.1 pc = .ok (.lload_n f, 1)) (hi : (f : Nat) = i) (h : zs_at ls i = some (zv_l a)) (k : zc_Z g μ (pc + 1) ls (zv_l a :: st) M Q) : zc_Z g μ pc ls (st) M Q := by
  intro p e s m args below meth c Qf H locs la C hf hP hS hl
  exact lv_lload_n C.1 C.2.1 hd hi (zs_get hl h) (k p e s m args below meth c Qf H locs la C hf hP hS hl)
theorem zr_lload {g : zt_G} {μ : zt_M} {pc : Nat} {ls : List (Option zv_A)} {st : List zv_A} {M : zm_M} {Q : Option zv_A → zm_M → Prop} {a : Int} {i : Nat} (hd : decode μ.2.1 pc = .ok (.lload i, 2)) (h : zs_at ls i = some (zv_l a)) (k : zc_Z g μ (pc + 2) ls (zv_l a :: st) M Q) : zc_Z g μ pc ls (st) M Q := by
  intro p e s m args below meth c Qf H locs la C hf hP hS hl
  exact lv_lload C.1 C.2.1 hd (zs_get hl h) (k p e s m args below meth c Qf H locs la C hf hP hS hl)
theorem zr_aload_n {g : zt_G} {μ : zt_M} {pc : Nat} {ls : List (Option zv_A)} {st : List zv_A} {M : zm_M} {Q : Option zv_A → zm_M → Prop} {a : Nat} {f : Fin 4} {i : Nat} (hd : decode μ.2.1 pc = .ok (.aload_n f, 1)) (hi : (f : Nat) = i) (h : zs_at ls i = some (zv_r a)) (k : zc_Z g μ (pc + 1) ls (zv_r a :: st) M Q) : zc_Z g μ pc ls (st) M Q := by
  intro p e s m args below meth c Qf H locs la C hf hP hS hl
  exact lv_aload_n C.1 C.2.1 hd hi (zs_get hl h) (k p e s m args below meth c Qf H locs la C hf hP hS hl)
theorem zr_aload {g : zt_G} {μ : zt_M} {pc : Nat} {ls : List (Option zv_A)} {st : List zv_A} {M : zm_M} {Q : Option zv_A → zm_M → Prop} {a : Nat} {i : Nat} (hd : decode μ.2.1 pc = .ok (.aload i, 2)) (h : zs_at ls i = some (zv_r a)) (k : zc_Z g μ (pc + 2) ls (zv_r a :: st) M Q) : zc_Z g μ pc ls (st) M Q := by
  intro p e s m args below meth c Qf H locs la C hf hP hS hl
  exact lv_aload C.1 C.2.1 hd (zs_get hl h) (k p e s m args below meth c Qf H locs la C hf hP hS hl)
theorem zr_istore_n {g : zt_G} {μ : zt_M} {pc : Nat} {ls : List (Option zv_A)} {st : List zv_A} {M : zm_M} {Q : Option zv_A → zm_M → Prop} {a : Int} {f : Fin 4} {i : Nat} (hd : decode μ.2.1 pc = .ok (.istore_n f, 1)) (hi : (f : Nat) = i) (hn : i < μ.2.2.1) (hc : zs_ok ls i = true) (k : zc_Z g μ (pc + 1) (zs_put ls i (some (zv_i a))) (st) M Q) : zc_Z g μ pc ls (zv_i a :: st) M Q := by
  intro p e s m args below meth c Qf H locs la C hf hP hS hl
  exact lv_istore_n C.1 C.2.1 hd hi hl hn rfl (fun la2 h2 => k p e s m args below meth c Qf H locs la2 C hf hP hS (zs_set hc h2))
theorem zr_istore {g : zt_G} {μ : zt_M} {pc : Nat} {ls : List (Option zv_A)} {st : List zv_A} {M : zm_M} {Q : Option zv_A → zm_M → Prop} {a : Int} {i : Nat} (hd : decode μ.2.1 pc = .ok (.istore i, 2)) (hn : i < μ.2.2.1) (hc : zs_ok ls i = true) (k : zc_Z g μ (pc + 2) (zs_put ls i (some (zv_i a))) (st) M Q) : zc_Z g μ pc ls (zv_i a :: st) M Q := by
  intro p e s m args below meth c Qf H locs la C hf hP hS hl
  exact lv_istore C.1 C.2.1 hd hl hn rfl (fun la2 h2 => k p e s m args below meth c Qf H locs la2 C hf hP hS (zs_set hc h2))
theorem zr_astore_n {g : zt_G} {μ : zt_M} {pc : Nat} {ls : List (Option zv_A)} {st : List zv_A} {M : zm_M} {Q : Option zv_A → zm_M → Prop} {a : Nat} {f : Fin 4} {i : Nat} (hd : decode μ.2.1 pc = .ok (.astore_n f, 1)) (hi : (f : Nat) = i) (hn : i < μ.2.2.1) (hc : zs_ok ls i = true) (k : zc_Z g μ (pc + 1) (zs_put ls i (some (zv_r a))) (st) M Q) : zc_Z g μ pc ls (zv_r a :: st) M Q := by
  intro p e s m args below meth c Qf H locs la C hf hP hS hl
  exact lv_astore_n C.1 C.2.1 hd hi hl hn rfl (fun la2 h2 => k p e s m args below meth c Qf H locs la2 C hf hP hS (zs_set hc h2))
theorem zr_astore {g : zt_G} {μ : zt_M} {pc : Nat} {ls : List (Option zv_A)} {st : List zv_A} {M : zm_M} {Q : Option zv_A → zm_M → Prop} {a : Nat} {i : Nat} (hd : decode μ.2.1 pc = .ok (.astore i, 2)) (hn : i < μ.2.2.1) (hc : zs_ok ls i = true) (k : zc_Z g μ (pc + 2) (zs_put ls i (some (zv_r a))) (st) M Q) : zc_Z g μ pc ls (zv_r a :: st) M Q := by
  intro p e s m args below meth c Qf H locs la C hf hP hS hl
  exact lv_astore C.1 C.2.1 hd hl hn rfl (fun la2 h2 => k p e s m args below meth c Qf H locs la2 C hf hP hS (zs_set hc h2))
theorem zr_lstore_n {g : zt_G} {μ : zt_M} {pc : Nat} {ls : List (Option zv_A)} {st : List zv_A} {M : zm_M} {Q : Option zv_A → zm_M → Prop} {a : Int} {f : Fin 4} {i : Nat} (hd : decode μ.2.1 pc = .ok (.lstore_n f, 1)) (hi : (f : Nat) = i) (hn : i + 1 < μ.2.2.1) (hc : zs_ok ls i = true) (k : zc_Z g μ (pc + 1) (zs_put (zs_put ls i (some (zv_l a))) (i + 1) none) (st) M Q) : zc_Z g μ pc ls (zv_l a :: st) M Q := by
  intro p e s m args below meth c Qf H locs la C hf hP hS hl
  exact lv_lstore_n C.1 C.2.1 hd hi hl hn rfl (fun la2 h2 => k p e s m args below meth c Qf H locs la2 C hf hP hS (zs_set2 (v := zv_l a) hc h2))
theorem zs_mem {α : Type} {l : List α} {x : α} (h : x ∈ l) : ∃ k : Nat, l[k]? = some x := List.getElem?_of_mem h
theorem zr_iinc {g : zt_G} {μ : zt_M} {pc : Nat} {ls : List (Option zv_A)} {st : List zv_A} {M : zm_M} {Q : Option zv_A → zm_M → Prop} {a n : Int} {i : Nat} (hd : decode μ.2.1 pc = .ok (.iinc i n, 3)) (h : zs_at ls i = some (zv_i a)) (hn : i < μ.2.2.1) (hc : zs_ok ls i = true) (k : zc_Z g μ (pc + 3) (zs_put ls i (some (zv_i (a + n)))) (st) M Q) : zc_Z g μ pc ls (st) M Q := by
  intro p e s m args below meth c Qf H locs la C hf hP hS hl
  have hm := zs_m_at (g := g) ls 0 i _ h
  rw [Nat.zero_add] at hm
  obtain ⟨q, hq⟩ := zs_mem hm
  exact lv_iinc C.1 C.2.1 hd hl hq (v := Int32.ofInt (a + n)) (Int32.ofInt_add a n).symm hn rfl (fun la2 h2 => k p e s m args below meth c Qf H locs la2 C hf hP hS (zs_set (v := zv_i (a + n)) hc h2))
theorem zr_iadd {g : zt_G} {μ : zt_M} {pc : Nat} {ls : List (Option zv_A)} {st : List zv_A} {M : zm_M} {Q : Option zv_A → zm_M → Prop} {a b : Int} (hd : decode μ.2.1 pc = .ok (.iadd, 1)) (k : zc_Z g μ (pc + 1) ls (zv_i (a + b) :: st) M Q) : zc_Z g μ pc ls (zv_i b :: zv_i a :: st) M Q := by
  intro p e s m args below meth c Qf H locs la C hf hP hS hl
  have k2 := k p e s m args below meth c Qf H locs la C hf hP hS hl
  rw [show (zv_i (a + b) :: st).map (zv_c g) = .int (Int32.ofInt (a + b)) :: st.map (zv_c g) from rfl, Int32.ofInt_add] at k2
  exact lv_iadd C.1 C.2.1 hd k2
theorem zr_isub {g : zt_G} {μ : zt_M} {pc : Nat} {ls : List (Option zv_A)} {st : List zv_A} {M : zm_M} {Q : Option zv_A → zm_M → Prop} {a b : Int} (hd : decode μ.2.1 pc = .ok (.isub, 1)) (k : zc_Z g μ (pc + 1) ls (zv_i (a - b) :: st) M Q) : zc_Z g μ pc ls (zv_i b :: zv_i a :: st) M Q := by
  intro p e s m args below meth c Qf H locs la C hf hP hS hl
  have k2 := k p e s m args below meth c Qf H locs la C hf hP hS hl
  rw [show (zv_i (a - b) :: st).map (zv_c g) = .int (Int32.ofInt (a - b)) :: st.map (zv_c g) from rfl, Int32.ofInt_sub] at k2
  exact lv_isub C.1 C.2.1 hd k2
theorem zr_imul {g : zt_G} {μ : zt_M} {pc : Nat} {ls : List (Option zv_A)} {st : List zv_A} {M : zm_M} {Q : Option zv_A → zm_M → Prop} {a b : Int} (hd : decode μ.2.1 pc = .ok (.imul, 1)) (k : zc_Z g μ (pc + 1) ls (zv_i (a * b) :: st) M Q) : zc_Z g μ pc ls (zv_i b :: zv_i a :: st) M Q := by
  intro p e s m args below meth c Qf H locs la C hf hP hS hl
  have k2 := k p e s m args below meth c Qf H locs la C hf hP hS hl
  rw [show (zv_i (a * b) :: st).map (zv_c g) = .int (Int32.ofInt (a * b)) :: st.map (zv_c g) from rfl, Int32.ofInt_mul] at k2
  exact lv_imul C.1 C.2.1 hd k2
theorem zr_iand {g : zt_G} {μ : zt_M} {pc : Nat} {ls : List (Option zv_A)} {st : List zv_A} {M : zm_M} {Q : Option zv_A → zm_M → Prop} {a b : Int} (hd : decode μ.2.1 pc = .ok (.iand, 1)) (k : zc_Z g μ (pc + 1) ls (zv_i (zb_and a b) :: st) M Q) : zc_Z g μ pc ls (zv_i b :: zv_i a :: st) M Q := by
  intro p e s m args below meth c Qf H locs la C hf hP hS hl
  have k2 := k p e s m args below meth c Qf H locs la C hf hP hS hl
  rw [show (zv_i (zb_and a b) :: st).map (zv_c g) = .int (Int32.ofInt (zb_and a b)) :: st.map (zv_c g) from rfl, show Int32.ofInt (zb_and a b) = _ from Int32.ofInt_toInt _] at k2
  exact lv_iand C.1 C.2.1 hd k2
theorem zr_ior {g : zt_G} {μ : zt_M} {pc : Nat} {ls : List (Option zv_A)} {st : List zv_A} {M : zm_M} {Q : Option zv_A → zm_M → Prop} {a b : Int} (hd : decode μ.2.1 pc = .ok (.ior, 1)) (k : zc_Z g μ (pc + 1) ls (zv_i (zb_or a b) :: st) M Q) : zc_Z g μ pc ls (zv_i b :: zv_i a :: st) M Q := by
  intro p e s m args below meth c Qf H locs la C hf hP hS hl
  have k2 := k p e s m args below meth c Qf H locs la C hf hP hS hl
  rw [show (zv_i (zb_or a b) :: st).map (zv_c g) = .int (Int32.ofInt (zb_or a b)) :: st.map (zv_c g) from rfl, show Int32.ofInt (zb_or a b) = _ from Int32.ofInt_toInt _] at k2
  exact lv_ior C.1 C.2.1 hd k2
theorem zr_ixor {g : zt_G} {μ : zt_M} {pc : Nat} {ls : List (Option zv_A)} {st : List zv_A} {M : zm_M} {Q : Option zv_A → zm_M → Prop} {a b : Int} (hd : decode μ.2.1 pc = .ok (.ixor, 1)) (k : zc_Z g μ (pc + 1) ls (zv_i (zb_xor a b) :: st) M Q) : zc_Z g μ pc ls (zv_i b :: zv_i a :: st) M Q := by
  intro p e s m args below meth c Qf H locs la C hf hP hS hl
  have k2 := k p e s m args below meth c Qf H locs la C hf hP hS hl
  rw [show (zv_i (zb_xor a b) :: st).map (zv_c g) = .int (Int32.ofInt (zb_xor a b)) :: st.map (zv_c g) from rfl, show Int32.ofInt (zb_xor a b) = _ from Int32.ofInt_toInt _] at k2
  exact lv_ixor C.1 C.2.1 hd k2
theorem zr_ishl {g : zt_G} {μ : zt_M} {pc : Nat} {ls : List (Option zv_A)} {st : List zv_A} {M : zm_M} {Q : Option zv_A → zm_M → Prop} {a b : Int} (hd : decode μ.2.1 pc = .ok (.ishl, 1)) (k : zc_Z g μ (pc + 1) ls (zv_i (zb_shl a b) :: st) M Q) : zc_Z g μ pc ls (zv_i b :: zv_i a :: st) M Q := by
  intro p e s m args below meth c Qf H locs la C hf hP hS hl
  have k2 := k p e s m args below meth c Qf H locs la C hf hP hS hl
  rw [show (zv_i (zb_shl a b) :: st).map (zv_c g) = .int (Int32.ofInt (zb_shl a b)) :: st.map (zv_c g) from rfl, show Int32.ofInt (zb_shl a b) = _ from Int32.ofInt_toInt _] at k2
  exact lv_ishl C.1 C.2.1 hd k2
theorem zr_ishr {g : zt_G} {μ : zt_M} {pc : Nat} {ls : List (Option zv_A)} {st : List zv_A} {M : zm_M} {Q : Option zv_A → zm_M → Prop} {a b : Int} (hd : decode μ.2.1 pc = .ok (.ishr, 1)) (k : zc_Z g μ (pc + 1) ls (zv_i (zb_shr a b) :: st) M Q) : zc_Z g μ pc ls (zv_i b :: zv_i a :: st) M Q := by
  intro p e s m args below meth c Qf H locs la C hf hP hS hl
  have k2 := k p e s m args below meth c Qf H locs la C hf hP hS hl
  rw [show (zv_i (zb_shr a b) :: st).map (zv_c g) = .int (Int32.ofInt (zb_shr a b)) :: st.map (zv_c g) from rfl, show Int32.ofInt (zb_shr a b) = _ from Int32.ofInt_toInt _] at k2
  exact lv_ishr C.1 C.2.1 hd k2
theorem zr_iushr {g : zt_G} {μ : zt_M} {pc : Nat} {ls : List (Option zv_A)} {st : List zv_A} {M : zm_M} {Q : Option zv_A → zm_M → Prop} {a b : Int} (hd : decode μ.2.1 pc = .ok (.iushr, 1)) (k : zc_Z g μ (pc + 1) ls (zv_i (zb_ushr a b) :: st) M Q) : zc_Z g μ pc ls (zv_i b :: zv_i a :: st) M Q := by
  intro p e s m args below meth c Qf H locs la C hf hP hS hl
  refine lv_iushr C.1 C.2.1 hd (v := Int32.ofInt (zb_ushr a b)) ?_ (k p e s m args below meth c Qf H locs la C hf hP hS hl)
  unfold zb_ushr
  rw [Int32.ofInt_toInt]
theorem zr_ineg {g : zt_G} {μ : zt_M} {pc : Nat} {ls : List (Option zv_A)} {st : List zv_A} {M : zm_M} {Q : Option zv_A → zm_M → Prop} {a : Int} (hd : decode μ.2.1 pc = .ok (.ineg, 1)) (k : zc_Z g μ (pc + 1) ls (zv_i (-a) :: st) M Q) : zc_Z g μ pc ls (zv_i a :: st) M Q := by
  intro p e s m args below meth c Qf H locs la C hf hP hS hl
  have k2 := k p e s m args below meth c Qf H locs la C hf hP hS hl
  rw [show (zv_i (-a) :: st).map (zv_c g) = .int (Int32.ofInt (-a)) :: st.map (zv_c g) from rfl, Int32.ofInt_neg] at k2
  exact lv_ineg C.1 C.2.1 hd k2
theorem fb0_bmod {z : Int} (h1 : -2147483648 ≤ z) (h2 : z < 2147483648) : z.bmod (2 ^ 32) = z := by
  have := zw_eq z
  rw [Int32.toInt_ofInt, zw_id h1 h2] at this
  exact this
theorem fb0_bmodL {z : Int} (h1 : -9223372036854775808 ≤ z) (h2 : z < 9223372036854775808) : z.bmod (2 ^ 64) = z := by
  have := zx_eq z
  rw [Int64.toInt_ofInt, zx_id h1 h2] at this
  exact this
theorem zb_ne0 {b : Int} (h0 : 0 < b) (h1 : b < 2147483648) : ¬ Int32.ofInt b = 0 := by
  rw [zw_0, zw_ee, zw_id (by omega) (by omega), zw_id (by omega) (by omega)]
  omega
theorem zb_dv {a b : Int} (ha : 0 ≤ a) (ha2 : a < 2147483648) (hb : 0 < b) (hb2 : b < 2147483648) : Int32.ofInt a / Int32.ofInt b = Int32.ofInt (a / b) := by
  have hq1 : 0 ≤ a / b := Int.ediv_nonneg ha (by omega)
  have hq2 : a / b ≤ a := Int.ediv_le_self b ha
  apply Int32.toInt_inj.mp
  rw [Int32.toInt_div, zw_eq, zw_eq, zw_eq, zw_id (by omega) (by omega), zw_id (by omega) (by omega), zw_id (by omega) (by omega), Int.tdiv_eq_ediv_of_nonneg ha]
  exact fb0_bmod (by omega) (by omega)
theorem zb_rm {a b : Int} (ha : 0 ≤ a) (ha2 : a < 2147483648) (hb : 0 < b) (hb2 : b < 2147483648) : Int32.ofInt a - Int32.ofInt a / Int32.ofInt b * Int32.ofInt b = Int32.ofInt (a % b) := by
  rw [zb_dv ha ha2 hb hb2, ← Int32.ofInt_mul, ← Int32.ofInt_sub]
  congr 1
  have := Int.emod_add_mul_ediv a b
  rw [Int.mul_comm] at this
  omega
theorem zb_ne0L {b : Int} (h0 : 0 < b) (h1 : b < 9223372036854775808) : ¬ Int64.ofInt b = 0 := by
  rw [show (0 : Int64) = Int64.ofInt 0 from rfl, zx_ee, zx_id (by omega) (by omega), zx_id (by omega) (by omega)]
  omega
theorem zb_dvL {a b : Int} (ha : 0 ≤ a) (ha2 : a < 9223372036854775808) (hb : 0 < b) (hb2 : b < 9223372036854775808) : Int64.ofInt a / Int64.ofInt b = Int64.ofInt (a / b) := by
  have hq1 : 0 ≤ a / b := Int.ediv_nonneg ha (by omega)
  have hq2 : a / b ≤ a := Int.ediv_le_self b ha
  apply Int64.toInt_inj.mp
  rw [Int64.toInt_div, zx_eq, zx_eq, zx_eq, zx_id (by omega) (by omega), zx_id (by omega) (by omega), zx_id (by omega) (by omega), Int.tdiv_eq_ediv_of_nonneg ha]
  exact fb0_bmodL (by omega) (by omega)
theorem zb_rmL {a b : Int} (ha : 0 ≤ a) (ha2 : a < 9223372036854775808) (hb : 0 < b) (hb2 : b < 9223372036854775808) : Int64.ofInt a - Int64.ofInt a / Int64.ofInt b * Int64.ofInt b = Int64.ofInt (a % b) := by
  rw [zb_dvL ha ha2 hb hb2, ← Int64.ofInt_mul, ← Int64.ofInt_sub]
  congr 1
  have := Int.emod_add_mul_ediv a b
  rw [Int.mul_comm] at this
  omega
theorem zr_idiv {g : zt_G} {μ : zt_M} {pc : Nat} {ls : List (Option zv_A)} {st : List zv_A} {M : zm_M} {Q : Option zv_A → zm_M → Prop} {a b : Int} (ha : 0 ≤ a ∧ a < 2147483648) (hb : 0 < b ∧ b < 2147483648) (hd : decode μ.2.1 pc = .ok (.idiv, 1)) (k : zc_Z g μ (pc + 1) ls (zv_i (a / b) :: st) M Q) : zc_Z g μ pc ls (zv_i b :: zv_i a :: st) M Q := by
  intro p e s m args below meth c Qf H locs la C hf hP hS hl
  have k2 := k p e s m args below meth c Qf H locs la C hf hP hS hl
  rw [show (zv_i (a / b) :: st).map (zv_c g) = .int (Int32.ofInt (a / b)) :: st.map (zv_c g) from rfl, ← zb_dv ha.1 ha.2 hb.1 hb.2] at k2
  exact lv_idiv C.1 C.2.1 hd (zb_ne0 hb.1 hb.2) k2
theorem zr_irem {g : zt_G} {μ : zt_M} {pc : Nat} {ls : List (Option zv_A)} {st : List zv_A} {M : zm_M} {Q : Option zv_A → zm_M → Prop} {a b : Int} (ha : 0 ≤ a ∧ a < 2147483648) (hb : 0 < b ∧ b < 2147483648) (hd : decode μ.2.1 pc = .ok (.irem, 1)) (k : zc_Z g μ (pc + 1) ls (zv_i (a % b) :: st) M Q) : zc_Z g μ pc ls (zv_i b :: zv_i a :: st) M Q := by
  intro p e s m args below meth c Qf H locs la C hf hP hS hl
  have k2 := k p e s m args below meth c Qf H locs la C hf hP hS hl
  rw [show (zv_i (a % b) :: st).map (zv_c g) = .int (Int32.ofInt (a % b)) :: st.map (zv_c g) from rfl, ← zb_rm ha.1 ha.2 hb.1 hb.2] at k2
  exact lv_irem C.1 C.2.1 hd (zb_ne0 hb.1 hb.2) k2
theorem zr_ladd {g : zt_G} {μ : zt_M} {pc : Nat} {ls : List (Option zv_A)} {st : List zv_A} {M : zm_M} {Q : Option zv_A → zm_M → Prop} {a b : Int} (hd : decode μ.2.1 pc = .ok (.ladd, 1)) (k : zc_Z g μ (pc + 1) ls (zv_l (a + b) :: st) M Q) : zc_Z g μ pc ls (zv_l b :: zv_l a :: st) M Q := by
  intro p e s m args below meth c Qf H locs la C hf hP hS hl
  have k2 := k p e s m args below meth c Qf H locs la C hf hP hS hl
  rw [show (zv_l (a + b) :: st).map (zv_c g) = .long (Int64.ofInt (a + b)) :: st.map (zv_c g) from rfl, Int64.ofInt_add] at k2
  exact lv_ladd C.1 C.2.1 hd k2
theorem zr_lsub {g : zt_G} {μ : zt_M} {pc : Nat} {ls : List (Option zv_A)} {st : List zv_A} {M : zm_M} {Q : Option zv_A → zm_M → Prop} {a b : Int} (hd : decode μ.2.1 pc = .ok (.lsub, 1)) (k : zc_Z g μ (pc + 1) ls (zv_l (a - b) :: st) M Q) : zc_Z g μ pc ls (zv_l b :: zv_l a :: st) M Q := by
  intro p e s m args below meth c Qf H locs la C hf hP hS hl
  have k2 := k p e s m args below meth c Qf H locs la C hf hP hS hl
  rw [show (zv_l (a - b) :: st).map (zv_c g) = .long (Int64.ofInt (a - b)) :: st.map (zv_c g) from rfl, Int64.ofInt_sub] at k2
  exact lv_lsub C.1 C.2.1 hd k2
theorem zr_lmul {g : zt_G} {μ : zt_M} {pc : Nat} {ls : List (Option zv_A)} {st : List zv_A} {M : zm_M} {Q : Option zv_A → zm_M → Prop} {a b : Int} (hd : decode μ.2.1 pc = .ok (.lmul, 1)) (k : zc_Z g μ (pc + 1) ls (zv_l (a * b) :: st) M Q) : zc_Z g μ pc ls (zv_l b :: zv_l a :: st) M Q := by
  intro p e s m args below meth c Qf H locs la C hf hP hS hl
  have k2 := k p e s m args below meth c Qf H locs la C hf hP hS hl
  rw [show (zv_l (a * b) :: st).map (zv_c g) = .long (Int64.ofInt (a * b)) :: st.map (zv_c g) from rfl, Int64.ofInt_mul] at k2
  exact lv_lmul C.1 C.2.1 hd k2
theorem zr_land {g : zt_G} {μ : zt_M} {pc : Nat} {ls : List (Option zv_A)} {st : List zv_A} {M : zm_M} {Q : Option zv_A → zm_M → Prop} {a b : Int} (hd : decode μ.2.1 pc = .ok (.land, 1)) (k : zc_Z g μ (pc + 1) ls (zv_l (zl_and a b) :: st) M Q) : zc_Z g μ pc ls (zv_l b :: zv_l a :: st) M Q := by
  intro p e s m args below meth c Qf H locs la C hf hP hS hl
  have k2 := k p e s m args below meth c Qf H locs la C hf hP hS hl
  rw [show (zv_l (zl_and a b) :: st).map (zv_c g) = .long (Int64.ofInt (zl_and a b)) :: st.map (zv_c g) from rfl, show Int64.ofInt (zl_and a b) = _ from Int64.ofInt_toInt _] at k2
  exact lv_land C.1 C.2.1 hd k2
theorem zr_lor {g : zt_G} {μ : zt_M} {pc : Nat} {ls : List (Option zv_A)} {st : List zv_A} {M : zm_M} {Q : Option zv_A → zm_M → Prop} {a b : Int} (hd : decode μ.2.1 pc = .ok (.lor, 1)) (k : zc_Z g μ (pc + 1) ls (zv_l (zl_or a b) :: st) M Q) : zc_Z g μ pc ls (zv_l b :: zv_l a :: st) M Q := by
  intro p e s m args below meth c Qf H locs la C hf hP hS hl
  have k2 := k p e s m args below meth c Qf H locs la C hf hP hS hl
  rw [show (zv_l (zl_or a b) :: st).map (zv_c g) = .long (Int64.ofInt (zl_or a b)) :: st.map (zv_c g) from rfl, show Int64.ofInt (zl_or a b) = _ from Int64.ofInt_toInt _] at k2
  exact lv_lor C.1 C.2.1 hd k2
theorem zr_ldiv {g : zt_G} {μ : zt_M} {pc : Nat} {ls : List (Option zv_A)} {st : List zv_A} {M : zm_M} {Q : Option zv_A → zm_M → Prop} {a b : Int} (ha : 0 ≤ a ∧ a < 9223372036854775808) (hb : 0 < b ∧ b < 9223372036854775808) (hd : decode μ.2.1 pc = .ok (.ldiv, 1)) (k : zc_Z g μ (pc + 1) ls (zv_l (a / b) :: st) M Q) : zc_Z g μ pc ls (zv_l b :: zv_l a :: st) M Q := by
  intro p e s m args below meth c Qf H locs la C hf hP hS hl
  have k2 := k p e s m args below meth c Qf H locs la C hf hP hS hl
  rw [show (zv_l (a / b) :: st).map (zv_c g) = .long (Int64.ofInt (a / b)) :: st.map (zv_c g) from rfl, ← zb_dvL ha.1 ha.2 hb.1 hb.2] at k2
  exact lv_ldiv C.1 C.2.1 hd (zb_ne0L hb.1 hb.2) k2
theorem zr_lrem {g : zt_G} {μ : zt_M} {pc : Nat} {ls : List (Option zv_A)} {st : List zv_A} {M : zm_M} {Q : Option zv_A → zm_M → Prop} {a b : Int} (ha : 0 ≤ a ∧ a < 9223372036854775808) (hb : 0 < b ∧ b < 9223372036854775808) (hd : decode μ.2.1 pc = .ok (.lrem, 1)) (k : zc_Z g μ (pc + 1) ls (zv_l (a % b) :: st) M Q) : zc_Z g μ pc ls (zv_l b :: zv_l a :: st) M Q := by
  intro p e s m args below meth c Qf H locs la C hf hP hS hl
  have k2 := k p e s m args below meth c Qf H locs la C hf hP hS hl
  rw [show (zv_l (a % b) :: st).map (zv_c g) = .long (Int64.ofInt (a % b)) :: st.map (zv_c g) from rfl, ← zb_rmL ha.1 ha.2 hb.1 hb.2] at k2
  exact lv_lrem C.1 C.2.1 hd (zb_ne0L hb.1 hb.2) k2
theorem zr_i2l {g : zt_G} {μ : zt_M} {pc : Nat} {ls : List (Option zv_A)} {st : List zv_A} {M : zm_M} {Q : Option zv_A → zm_M → Prop} {a : Int} (hd : decode μ.2.1 pc = .ok (.i2l, 1)) (k : zc_Z g μ (pc + 1) ls (zv_l (zw a) :: st) M Q) : zc_Z g μ pc ls (zv_i a :: st) M Q := by
  intro p e s m args below meth c Qf H locs la C hf hP hS hl
  refine lv_i2l C.1 C.2.1 hd (v := Int64.ofInt (zw a)) ?_ (k p e s m args below meth c Qf H locs la C hf hP hS hl)
  rw [← zw_eq]
  rfl
theorem zr_l2i {g : zt_G} {μ : zt_M} {pc : Nat} {ls : List (Option zv_A)} {st : List zv_A} {M : zm_M} {Q : Option zv_A → zm_M → Prop} {a : Int} (hd : decode μ.2.1 pc = .ok (.l2i, 1)) (k : zc_Z g μ (pc + 1) ls (zv_i a :: st) M Q) : zc_Z g μ pc ls (zv_l a :: st) M Q := by
  intro p e s m args below meth c Qf H locs la C hf hP hS hl
  exact lv_l2i C.1 C.2.1 hd (v := Int32.ofInt a) Int64.toInt32_ofInt (k p e s m args below meth c Qf H locs la C hf hP hS hl)
theorem zr_lcmp {g : zt_G} {μ : zt_M} {pc : Nat} {ls : List (Option zv_A)} {st : List zv_A} {M : zm_M} {Q : Option zv_A → zm_M → Prop} {a b : Int} (hd : decode μ.2.1 pc = .ok (.lcmp, 1)) (k : zc_Z g μ (pc + 1) ls (zv_i (zl_cmp a b) :: st) M Q) : zc_Z g μ pc ls (zv_l b :: zv_l a :: st) M Q := by
  intro p e s m args below meth c Qf H locs la C hf hP hS hl
  have k2 := k p e s m args below meth c Qf H locs la C hf hP hS hl
  have e1 : Int32.ofInt (zl_cmp a b) = lg_cmp (Int64.ofInt a) (Int64.ofInt b) := by
    unfold zl_cmp lg_cmp
    simp only [GT.gt, zx_lt, zx_ee]
    by_cases h1 : zx b < zx a
    · rw [if_pos h1, if_pos h1]
      rfl
    · rw [if_neg h1, if_neg h1]
      by_cases h2 : zx a = zx b
      · rw [if_pos h2, if_pos h2]
        rfl
      · rw [if_neg h2, if_neg h2]
        rfl
  rw [show (zv_i (zl_cmp a b) :: st).map (zv_c g) = .int (Int32.ofInt (zl_cmp a b)) :: st.map (zv_c g) from rfl, e1] at k2
  exact W.lcmp C.1 C.2.1 hd k2
theorem zr_dup_i {g : zt_G} {μ : zt_M} {pc : Nat} {ls : List (Option zv_A)} {st : List zv_A} {M : zm_M} {Q : Option zv_A → zm_M → Prop} {a : Int} (hd : decode μ.2.1 pc = .ok (.dup, 1)) (k : zc_Z g μ (pc + 1) ls (zv_i a :: zv_i a :: st) M Q) : zc_Z g μ pc ls (zv_i a :: st) M Q := by
  intro p e s m args below meth c Qf H locs la C hf hP hS hl
  exact lv_dup C.1 C.2.1 hd rfl (k p e s m args below meth c Qf H locs la C hf hP hS hl)
theorem zr_dup_r {g : zt_G} {μ : zt_M} {pc : Nat} {ls : List (Option zv_A)} {st : List zv_A} {M : zm_M} {Q : Option zv_A → zm_M → Prop} {a : Nat} (hd : decode μ.2.1 pc = .ok (.dup, 1)) (k : zc_Z g μ (pc + 1) ls (zv_r a :: zv_r a :: st) M Q) : zc_Z g μ pc ls (zv_r a :: st) M Q := by
  intro p e s m args below meth c Qf H locs la C hf hP hS hl
  exact lv_dup C.1 C.2.1 hd rfl (k p e s m args below meth c Qf H locs la C hf hP hS hl)
theorem zr_dup2_ir {g : zt_G} {μ : zt_M} {pc : Nat} {ls : List (Option zv_A)} {st : List zv_A} {M : zm_M} {Q : Option zv_A → zm_M → Prop} {a : Int} {b : Nat} (hd : decode μ.2.1 pc = .ok (.dup2, 1)) (k : zc_Z g μ (pc + 1) ls (zv_i a :: zv_r b :: zv_i a :: zv_r b :: st) M Q) : zc_Z g μ pc ls (zv_i a :: zv_r b :: st) M Q := by
  intro p e s m args below meth c Qf H locs la C hf hP hS hl
  exact lv_dup2_11 C.1 C.2.1 hd rfl rfl (k p e s m args below meth c Qf H locs la C hf hP hS hl)
theorem zr_pop_i {g : zt_G} {μ : zt_M} {pc : Nat} {ls : List (Option zv_A)} {st : List zv_A} {M : zm_M} {Q : Option zv_A → zm_M → Prop} {a : Int} (hd : decode μ.2.1 pc = .ok (.pop, 1)) (k : zc_Z g μ (pc + 1) ls (st) M Q) : zc_Z g μ pc ls (zv_i a :: st) M Q := by
  intro p e s m args below meth c Qf H locs la C hf hP hS hl
  exact lv_pop C.1 C.2.1 hd rfl (k p e s m args below meth c Qf H locs la C hf hP hS hl)
theorem zr_goto {g : zt_G} {μ : zt_M} {pc : Nat} {ls : List (Option zv_A)} {st : List zv_A} {M : zm_M} {Q : Option zv_A → zm_M → Prop} {off : Int} {tgt : Nat} (hd : decode μ.2.1 pc = .ok (.goto off, 3)) (ht : (pc : Int) + off = (tgt : Int)) (k : zc_Z g μ (tgt) ls (st) M Q) : zc_Z g μ pc ls (st) M Q := by
  intro p e s m args below meth c Qf H locs la C hf hP hS hl
  exact lv_goto C.1 C.2.1 hd ht (k p e s m args below meth c Qf H locs la C hf hP hS hl)
theorem zr_if_eq {g : zt_G} {μ : zt_M} {pc : Nat} {ls : List (Option zv_A)} {st : List zv_A} {M : zm_M} {Q : Option zv_A → zm_M → Prop} {a off : Int} {tgt : Nat} (hd : decode μ.2.1 pc = .ok (.ifCond .eq off, 3)) (ht : (pc : Int) + off = (tgt : Int)) (kt : zw a = 0 → zc_Z g μ (tgt) ls (st) M Q) (kf : ¬ zw a = 0 → zc_Z g μ (pc + 3) ls (st) M Q) : zc_Z g μ pc ls (zv_i a :: st) M Q := by
  intro p e s m args below meth c Qf H locs la C hf hP hS hl
  have z0 : zw 0 = 0 := by decide
  refine lv_if_eq C.1 C.2.1 hd ht (fun h => kt ?_ p e s m args below meth c Qf H locs la C hf hP hS hl) (fun h => kf ?_ p e s m args below meth c Qf H locs la C hf hP hS hl)
  all_goals
    simp only [zw_0, zw_lt, zw_le, zw_ee, GT.gt, GE.ge, z0] at h
    omega
theorem zr_icmp_eq {g : zt_G} {μ : zt_M} {pc : Nat} {ls : List (Option zv_A)} {st : List zv_A} {M : zm_M} {Q : Option zv_A → zm_M → Prop} {a b off : Int} {tgt : Nat} (hd : decode μ.2.1 pc = .ok (.if_icmp .eq off, 3)) (ht : (pc : Int) + off = (tgt : Int)) (kt : zw a = zw b → zc_Z g μ (tgt) ls (st) M Q) (kf : ¬ zw a = zw b → zc_Z g μ (pc + 3) ls (st) M Q) : zc_Z g μ pc ls (zv_i b :: zv_i a :: st) M Q := by
  intro p e s m args below meth c Qf H locs la C hf hP hS hl
  refine lv_icmp_eq C.1 C.2.1 hd ht (fun h => kt ?_ p e s m args below meth c Qf H locs la C hf hP hS hl) (fun h => kf ?_ p e s m args below meth c Qf H locs la C hf hP hS hl)
  all_goals
    simp only [zw_lt, zw_le, zw_ee, GT.gt, GE.ge] at h
    omega
theorem zr_if_ne {g : zt_G} {μ : zt_M} {pc : Nat} {ls : List (Option zv_A)} {st : List zv_A} {M : zm_M} {Q : Option zv_A → zm_M → Prop} {a off : Int} {tgt : Nat} (hd : decode μ.2.1 pc = .ok (.ifCond .ne off, 3)) (ht : (pc : Int) + off = (tgt : Int)) (kt : ¬ zw a = 0 → zc_Z g μ (tgt) ls (st) M Q) (kf : zw a = 0 → zc_Z g μ (pc + 3) ls (st) M Q) : zc_Z g μ pc ls (zv_i a :: st) M Q := by
  intro p e s m args below meth c Qf H locs la C hf hP hS hl
  have z0 : zw 0 = 0 := by decide
  refine lv_if_ne C.1 C.2.1 hd ht (fun h => kt ?_ p e s m args below meth c Qf H locs la C hf hP hS hl) (fun h => kf ?_ p e s m args below meth c Qf H locs la C hf hP hS hl)
  all_goals
    simp only [zw_0, zw_lt, zw_le, zw_ee, GT.gt, GE.ge, z0] at h
    omega
theorem zr_icmp_ne {g : zt_G} {μ : zt_M} {pc : Nat} {ls : List (Option zv_A)} {st : List zv_A} {M : zm_M} {Q : Option zv_A → zm_M → Prop} {a b off : Int} {tgt : Nat} (hd : decode μ.2.1 pc = .ok (.if_icmp .ne off, 3)) (ht : (pc : Int) + off = (tgt : Int)) (kt : ¬ zw a = zw b → zc_Z g μ (tgt) ls (st) M Q) (kf : zw a = zw b → zc_Z g μ (pc + 3) ls (st) M Q) : zc_Z g μ pc ls (zv_i b :: zv_i a :: st) M Q := by
  intro p e s m args below meth c Qf H locs la C hf hP hS hl
  refine lv_icmp_ne C.1 C.2.1 hd ht (fun h => kt ?_ p e s m args below meth c Qf H locs la C hf hP hS hl) (fun h => kf ?_ p e s m args below meth c Qf H locs la C hf hP hS hl)
  all_goals
    simp only [zw_lt, zw_le, zw_ee, GT.gt, GE.ge] at h
    omega
theorem zr_if_lt {g : zt_G} {μ : zt_M} {pc : Nat} {ls : List (Option zv_A)} {st : List zv_A} {M : zm_M} {Q : Option zv_A → zm_M → Prop} {a off : Int} {tgt : Nat} (hd : decode μ.2.1 pc = .ok (.ifCond .lt off, 3)) (ht : (pc : Int) + off = (tgt : Int)) (kt : zw a < 0 → zc_Z g μ (tgt) ls (st) M Q) (kf : 0 ≤ zw a → zc_Z g μ (pc + 3) ls (st) M Q) : zc_Z g μ pc ls (zv_i a :: st) M Q := by
  intro p e s m args below meth c Qf H locs la C hf hP hS hl
  have z0 : zw 0 = 0 := by decide
  refine lv_if_lt C.1 C.2.1 hd ht (fun h => kt ?_ p e s m args below meth c Qf H locs la C hf hP hS hl) (fun h => kf ?_ p e s m args below meth c Qf H locs la C hf hP hS hl)
  all_goals
    simp only [zw_0, zw_lt, zw_le, zw_ee, GT.gt, GE.ge, z0] at h
    omega
theorem zr_icmp_lt {g : zt_G} {μ : zt_M} {pc : Nat} {ls : List (Option zv_A)} {st : List zv_A} {M : zm_M} {Q : Option zv_A → zm_M → Prop} {a b off : Int} {tgt : Nat} (hd : decode μ.2.1 pc = .ok (.if_icmp .lt off, 3)) (ht : (pc : Int) + off = (tgt : Int)) (kt : zw a < zw b → zc_Z g μ (tgt) ls (st) M Q) (kf : zw b ≤ zw a → zc_Z g μ (pc + 3) ls (st) M Q) : zc_Z g μ pc ls (zv_i b :: zv_i a :: st) M Q := by
  intro p e s m args below meth c Qf H locs la C hf hP hS hl
  refine lv_icmp_lt C.1 C.2.1 hd ht (fun h => kt ?_ p e s m args below meth c Qf H locs la C hf hP hS hl) (fun h => kf ?_ p e s m args below meth c Qf H locs la C hf hP hS hl)
  all_goals
    simp only [zw_lt, zw_le, zw_ee, GT.gt, GE.ge] at h
    omega
theorem zr_if_ge {g : zt_G} {μ : zt_M} {pc : Nat} {ls : List (Option zv_A)} {st : List zv_A} {M : zm_M} {Q : Option zv_A → zm_M → Prop} {a off : Int} {tgt : Nat} (hd : decode μ.2.1 pc = .ok (.ifCond .ge off, 3)) (ht : (pc : Int) + off = (tgt : Int)) (kt : 0 ≤ zw a → zc_Z g μ (tgt) ls (st) M Q) (kf : zw a < 0 → zc_Z g μ (pc + 3) ls (st) M Q) : zc_Z g μ pc ls (zv_i a :: st) M Q := by
  intro p e s m args below meth c Qf H locs la C hf hP hS hl
  have z0 : zw 0 = 0 := by decide
  refine lv_if_ge C.1 C.2.1 hd ht (fun h => kt ?_ p e s m args below meth c Qf H locs la C hf hP hS hl) (fun h => kf ?_ p e s m args below meth c Qf H locs la C hf hP hS hl)
  all_goals
    simp only [zw_0, zw_lt, zw_le, zw_ee, GT.gt, GE.ge, z0] at h
    omega
theorem zr_icmp_ge {g : zt_G} {μ : zt_M} {pc : Nat} {ls : List (Option zv_A)} {st : List zv_A} {M : zm_M} {Q : Option zv_A → zm_M → Prop} {a b off : Int} {tgt : Nat} (hd : decode μ.2.1 pc = .ok (.if_icmp .ge off, 3)) (ht : (pc : Int) + off = (tgt : Int)) (kt : zw b ≤ zw a → zc_Z g μ (tgt) ls (st) M Q) (kf : zw a < zw b → zc_Z g μ (pc + 3) ls (st) M Q) : zc_Z g μ pc ls (zv_i b :: zv_i a :: st) M Q := by
  intro p e s m args below meth c Qf H locs la C hf hP hS hl
  refine lv_icmp_ge C.1 C.2.1 hd ht (fun h => kt ?_ p e s m args below meth c Qf H locs la C hf hP hS hl) (fun h => kf ?_ p e s m args below meth c Qf H locs la C hf hP hS hl)
  all_goals
    simp only [zw_lt, zw_le, zw_ee, GT.gt, GE.ge] at h
    omega
theorem zr_if_gt {g : zt_G} {μ : zt_M} {pc : Nat} {ls : List (Option zv_A)} {st : List zv_A} {M : zm_M} {Q : Option zv_A → zm_M → Prop} {a off : Int} {tgt : Nat} (hd : decode μ.2.1 pc = .ok (.ifCond .gt off, 3)) (ht : (pc : Int) + off = (tgt : Int)) (kt : 0 < zw a → zc_Z g μ (tgt) ls (st) M Q) (kf : zw a ≤ 0 → zc_Z g μ (pc + 3) ls (st) M Q) : zc_Z g μ pc ls (zv_i a :: st) M Q := by
  intro p e s m args below meth c Qf H locs la C hf hP hS hl
  have z0 : zw 0 = 0 := by decide
  refine lv_if_gt C.1 C.2.1 hd ht (fun h => kt ?_ p e s m args below meth c Qf H locs la C hf hP hS hl) (fun h => kf ?_ p e s m args below meth c Qf H locs la C hf hP hS hl)
  all_goals
    simp only [zw_0, zw_lt, zw_le, zw_ee, GT.gt, GE.ge, z0] at h
    omega
theorem zr_icmp_gt {g : zt_G} {μ : zt_M} {pc : Nat} {ls : List (Option zv_A)} {st : List zv_A} {M : zm_M} {Q : Option zv_A → zm_M → Prop} {a b off : Int} {tgt : Nat} (hd : decode μ.2.1 pc = .ok (.if_icmp .gt off, 3)) (ht : (pc : Int) + off = (tgt : Int)) (kt : zw b < zw a → zc_Z g μ (tgt) ls (st) M Q) (kf : zw a ≤ zw b → zc_Z g μ (pc + 3) ls (st) M Q) : zc_Z g μ pc ls (zv_i b :: zv_i a :: st) M Q := by
  intro p e s m args below meth c Qf H locs la C hf hP hS hl
  refine lv_icmp_gt C.1 C.2.1 hd ht (fun h => kt ?_ p e s m args below meth c Qf H locs la C hf hP hS hl) (fun h => kf ?_ p e s m args below meth c Qf H locs la C hf hP hS hl)
  all_goals
    simp only [zw_lt, zw_le, zw_ee, GT.gt, GE.ge] at h
    omega
theorem zr_if_le {g : zt_G} {μ : zt_M} {pc : Nat} {ls : List (Option zv_A)} {st : List zv_A} {M : zm_M} {Q : Option zv_A → zm_M → Prop} {a off : Int} {tgt : Nat} (hd : decode μ.2.1 pc = .ok (.ifCond .le off, 3)) (ht : (pc : Int) + off = (tgt : Int)) (kt : zw a ≤ 0 → zc_Z g μ (tgt) ls (st) M Q) (kf : 0 < zw a → zc_Z g μ (pc + 3) ls (st) M Q) : zc_Z g μ pc ls (zv_i a :: st) M Q := by
  intro p e s m args below meth c Qf H locs la C hf hP hS hl
  have z0 : zw 0 = 0 := by decide
  refine lv_if_le C.1 C.2.1 hd ht (fun h => kt ?_ p e s m args below meth c Qf H locs la C hf hP hS hl) (fun h => kf ?_ p e s m args below meth c Qf H locs la C hf hP hS hl)
  all_goals
    simp only [zw_0, zw_lt, zw_le, zw_ee, GT.gt, GE.ge, z0] at h
    omega
theorem zr_icmp_le {g : zt_G} {μ : zt_M} {pc : Nat} {ls : List (Option zv_A)} {st : List zv_A} {M : zm_M} {Q : Option zv_A → zm_M → Prop} {a b off : Int} {tgt : Nat} (hd : decode μ.2.1 pc = .ok (.if_icmp .le off, 3)) (ht : (pc : Int) + off = (tgt : Int)) (kt : zw a ≤ zw b → zc_Z g μ (tgt) ls (st) M Q) (kf : zw b < zw a → zc_Z g μ (pc + 3) ls (st) M Q) : zc_Z g μ pc ls (zv_i b :: zv_i a :: st) M Q := by
  intro p e s m args below meth c Qf H locs la C hf hP hS hl
  refine lv_icmp_le C.1 C.2.1 hd ht (fun h => kt ?_ p e s m args below meth c Qf H locs la C hf hP hS hl) (fun h => kf ?_ p e s m args below meth c Qf H locs la C hf hP hS hl)
  all_goals
    simp only [zw_lt, zw_le, zw_ee, GT.gt, GE.ge] at h
    omega
theorem zb_B0 {P : Prop} [Decidable P] : zw (zb_B P) = 0 ↔ ¬ P := by
  unfold zb_B
  split <;> simp_all [zw]
theorem zr_ifb_eq {g : zt_G} {μ : zt_M} {pc : Nat} {ls : List (Option zv_A)} {st : List zv_A} {M : zm_M} {Q : Option zv_A → zm_M → Prop} {P : Prop} [Decidable P] {off : Int} {tgt : Nat} (hd : decode μ.2.1 pc = .ok (.ifCond .eq off, 3)) (ht : (pc : Int) + off = (tgt : Int)) (kt : ¬ P → zc_Z g μ (tgt) ls (st) M Q) (kf : P → zc_Z g μ (pc + 3) ls (st) M Q) : zc_Z g μ pc ls (zv_i (zb_B P) :: st) M Q := by
  intro p e s m args below meth c Qf H locs la C hf hP hS hl
  have key := zb_B0 (P := P)
  refine (zr_if_eq hd ht (fun h => kt ?_) (fun h => kf ?_)) p e s m args below meth c Qf H locs la C hf hP hS hl
  all_goals
    by_cases hP2 : P <;> simp_all
theorem zr_ifb_ne {g : zt_G} {μ : zt_M} {pc : Nat} {ls : List (Option zv_A)} {st : List zv_A} {M : zm_M} {Q : Option zv_A → zm_M → Prop} {P : Prop} [Decidable P] {off : Int} {tgt : Nat} (hd : decode μ.2.1 pc = .ok (.ifCond .ne off, 3)) (ht : (pc : Int) + off = (tgt : Int)) (kt : P → zc_Z g μ (tgt) ls (st) M Q) (kf : ¬ P → zc_Z g μ (pc + 3) ls (st) M Q) : zc_Z g μ pc ls (zv_i (zb_B P) :: st) M Q := by
  intro p e s m args below meth c Qf H locs la C hf hP hS hl
  have key := zb_B0 (P := P)
  refine (zr_if_ne hd ht (fun h => kt ?_) (fun h => kf ?_)) p e s m args below meth c Qf H locs la C hf hP hS hl
  all_goals
    by_cases hP2 : P <;> simp_all
theorem zr_tab_in {g : zt_G} {μ : zt_M} {pc : Nat} {ls : List (Option zv_A)} {st : List zv_A} {M : zm_M} {Q : Option zv_A → zm_M → Prop} {a dflt lo hi off : Int} {offs : Array Int} {len tgt : Nat} (hd : decode μ.2.1 pc = .ok (.tableswitch dflt lo hi offs, len)) (h1 : lo ≤ zw a) (h2 : zw a ≤ hi) (ho : offs[(zw a - lo).toNat]? = some off) (ht : (pc : Int) + off = (tgt : Int)) (k : zc_Z g μ (tgt) ls (st) M Q) : zc_Z g μ pc ls (zv_i a :: st) M Q := by
  intro p e s m args below meth c Qf H locs la C hf hP hS hl
  refine lv_tableIn C.1 C.2.1 hd (by rw [zw_eq]; omega) (by rw [zw_eq]; omega) (by rw [zw_eq]; exact ho) ht (k p e s m args below meth c Qf H locs la C hf hP hS hl)
theorem zr_tab_out {g : zt_G} {μ : zt_M} {pc : Nat} {ls : List (Option zv_A)} {st : List zv_A} {M : zm_M} {Q : Option zv_A → zm_M → Prop} {a dflt lo hi : Int} {offs : Array Int} {len tgt : Nat} (hd : decode μ.2.1 pc = .ok (.tableswitch dflt lo hi offs, len)) (h : zw a < lo ∨ hi < zw a) (ht : (pc : Int) + dflt = (tgt : Int)) (k : zc_Z g μ (tgt) ls (st) M Q) : zc_Z g μ pc ls (zv_i a :: st) M Q := by
  intro p e s m args below meth c Qf H locs la C hf hP hS hl
  exact lv_tableOut C.1 C.2.1 hd (by rw [zw_eq]; exact h) ht (k p e s m args below meth c Qf H locs la C hf hP hS hl)
theorem zr_look {g : zt_G} {μ : zt_M} {pc : Nat} {ls : List (Option zv_A)} {st : List zv_A} {M : zm_M} {Q : Option zv_A → zm_M → Prop} {a dflt off : Int} {ps : Array (Int × Int)} {len tgt : Nat} (hd : decode μ.2.1 pc = .ok (.lookupswitch dflt ps, len)) (hp : (ps.toList.zip (ps.toList.drop 1)).all (fun (a, next) => a.1 < next.1) = true) (ho : Op.lookupswitch.offset ps.toList dflt (zw a) = off) (ht : (pc : Int) + off = (tgt : Int)) (k : zc_Z g μ (tgt) ls (st) M Q) : zc_Z g μ pc ls (zv_i a :: st) M Q := by
  intro p e s m args below meth c Qf H locs la C hf hP hS hl
  exact lv_lookup C.1 C.2.1 hd hp (by rw [zw_eq]; exact ho) ht (k p e s m args below meth c Qf H locs la C hf hP hS hl)
/-- a field as an instruction names it -/
def zt_F (own : String) (ix ci j : Nat) : Prop := ∃ (C : String) (T : u_T) (N : Nat), zl_cl[ci]? = some (C, T, N) ∧ (∀ w ∈ u_ws C T N, w ∈ zt_tb) ∧ j < N ∧ Cond.fieldLink own ix (T j).1 (T j).2.1 (T j).2.2.1 ∈ zt_tb
def zt_W (ci j : Nat) (ty : FieldType) : Prop := ∀ (C : String) (T : u_T) (N : Nat), zl_cl[ci]? = some (C, T, N) → (T j).2.2.2 = false ∧ parseFieldDescriptor (T j).2.2.1 = some ty ∧ (∃ ty0 : Nat → FieldType, ∀ k, k < N → parseFieldDescriptor (T k).2.2.1 = some (ty0 k)) ∧ ∀ a, a < N → ∀ b, b < N → a ≠ b → (T a).2.1 ≠ (T b).2.1
theorem zr_getI {g : zt_G} {μ : zt_M} {pc : Nat} {ls : List (Option zv_A)} {st : List zv_A} {M : zm_M} {Q : Option zv_A → zm_M → Prop} {o ci j ix : Nat} {own : String} {fs : List (Nat ⊕ Nat)} {z : Int} (hF : zt_F own ix ci j) (ho : zl_lay[o]? = some (.inl (ci, fs))) (hown : μ.1 = own) (hfs : fs[j]? = some (.inl 0)) (hz : (j : Int) = z) (hd : decode μ.2.1 pc = .ok (.getfield ix, 3)) (k : zc_Z g μ (pc + 3) ls (zv_i (M o z) :: st) M Q) : zc_Z g μ pc ls (zv_r o :: st) M Q := by
  intro p e s m args below meth c Qf H locs la C hf hP hS hl
  subst hz
  subst hown
  obtain ⟨CC, T, N, hc, hin, hj, hw⟩ := hF
  exact va_get C.1 C.2.1 (C.2.2.2.2.1) hin C.2.2.2.1 C.2.2.2.2.2.1.2.2.2.2.2.2 hP o (by rw [zl_w_at g M (zl_lt ho), zl_ct_o ho]) hc j hj (C.2.2.2.2.1 _ hw) (fun _ h => h) (zl_fs_at (g := g) (M := M) (k := o) fs 0 j _ hfs) hd (by rw [Nat.zero_add]; exact k p e s m args below meth c Qf H locs la C hf hP hS hl)
theorem zr_getL {g : zt_G} {μ : zt_M} {pc : Nat} {ls : List (Option zv_A)} {st : List zv_A} {M : zm_M} {Q : Option zv_A → zm_M → Prop} {o ci j ix : Nat} {own : String} {fs : List (Nat ⊕ Nat)} {z : Int} (hF : zt_F own ix ci j) (ho : zl_lay[o]? = some (.inl (ci, fs))) (hown : μ.1 = own) (hfs : fs[j]? = some (.inl 1)) (hz : (j : Int) = z) (hd : decode μ.2.1 pc = .ok (.getfield ix, 3)) (k : zc_Z g μ (pc + 3) ls (zv_l (M o z) :: st) M Q) : zc_Z g μ pc ls (zv_r o :: st) M Q := by
  intro p e s m args below meth c Qf H locs la C hf hP hS hl
  subst hz
  subst hown
  obtain ⟨CC, T, N, hc, hin, hj, hw⟩ := hF
  exact va_get C.1 C.2.1 (C.2.2.2.2.1) hin C.2.2.2.1 C.2.2.2.2.2.1.2.2.2.2.2.2 hP o (by rw [zl_w_at g M (zl_lt ho), zl_ct_o ho]) hc j hj (C.2.2.2.2.1 _ hw) (fun _ h => h) (zl_fs_at (g := g) (M := M) (k := o) fs 0 j _ hfs) hd (by rw [Nat.zero_add]; exact k p e s m args below meth c Qf H locs la C hf hP hS hl)
theorem zr_getR {g : zt_G} {μ : zt_M} {pc : Nat} {ls : List (Option zv_A)} {st : List zv_A} {M : zm_M} {Q : Option zv_A → zm_M → Prop} {o ci j ix : Nat} {own : String} {fs : List (Nat ⊕ Nat)} {t : Nat} (hF : zt_F own ix ci j) (ho : zl_lay[o]? = some (.inl (ci, fs))) (hown : μ.1 = own) (hfs : fs[j]? = some (.inr t)) (hd : decode μ.2.1 pc = .ok (.getfield ix, 3)) (k : zc_Z g μ (pc + 3) ls (zv_r t :: st) M Q) : zc_Z g μ pc ls (zv_r o :: st) M Q := by
  intro p e s m args below meth c Qf H locs la C hf hP hS hl
  subst hown
  obtain ⟨CC, T, N, hc, hin, hj, hw⟩ := hF
  exact va_get C.1 C.2.1 (C.2.2.2.2.1) hin C.2.2.2.1 C.2.2.2.2.2.1.2.2.2.2.2.2 hP o (by rw [zl_w_at g M (zl_lt ho), zl_ct_o ho]) hc j hj (C.2.2.2.2.1 _ hw) (fun _ h => h) (zl_fs_at (g := g) (M := M) (k := o) fs 0 j _ hfs) hd (by rw [Nat.zero_add]; exact k p e s m args below meth c Qf H locs la C hf hP hS hl)
theorem zr_putI {g : zt_G} {μ : zt_M} {pc : Nat} {ls : List (Option zv_A)} {st : List zv_A} {M : zm_M} {Q : Option zv_A → zm_M → Prop} {o ci j ix : Nat} {own : String} {fs : List (Nat ⊕ Nat)} {z a : Int} (hF : zt_F own ix ci j) (ho : zl_lay[o]? = some (.inl (ci, fs))) (hown : μ.1 = own) (hW : zt_W ci j .int) (hfs : fs[j]? = some (.inl 0)) (hz : (j : Int) = z) (hd : decode μ.2.1 pc = .ok (.putfield ix, 3)) (k : zc_Z g μ (pc + 3) ls (st) (zm_put M o z a) Q) : zc_Z g μ pc ls (zv_i a :: zv_r o :: st) M Q := by
  intro p e s m args below meth c Qf H locs la C hf hP hS hl
  subst hz
  subst hown
  obtain ⟨CC, T, N, hc, hin, hj, hw⟩ := hF
  obtain ⟨w1, w2, ⟨ty0, w3⟩, w4⟩ := hW CC T N hc
  have ho2 : (zl_w g M)[o]? = some (zg_ad g o, .inr (ci, zl_fs g M o 0 fs)) := by rw [zl_w_at g M (zl_lt ho), zl_ct_o ho]
  have hset := zl_fs_set (g := g) (M := M) (k := o) (v := a) fs 0 j 0 hfs
  rw [Nat.zero_add] at hset
  have hv : zl_fv g (zm_put M o (j : Int) a) o j (.inl 0) = zv_c g (zv_i a) := by
    show (_ : Value) = _
    simp [zl_fv, zv_c, zm_put]
  rw [hv] at hset
  have hws : (zl_w g M).set o (zg_ad g o, .inr (ci, (zl_fs g M o 0 fs).set j (zv_c g (zv_i a)))) = zl_w g (zm_put M o (j : Int) a) := by
    refine zl_w_set (zl_lt ho) ?_ (fun q hq i => by unfold zm_put; rw [if_neg (fun x => hq x.1)])
    rw [zl_ct_o ho, hset]
  refine va_put C.1 C.2.1 C.2.2.2.2.1 hin ty0 w3 w4 C.2.2.2.1 C.2.2.2.2.2.1.2.2.2.2.2.2 hP (zl_D M C.2.2.2.2.2.1.2.2.2.2.2.1) hS o ho2 hc j hj (C.2.2.2.2.1 _ hw) (fun _ h => h) w1 w2 rfl rfl (by rw [zl_fs_len]; exact (List.getElem?_eq_some_iff.mp hfs).1) hd (fun H1 locs1 hP1 hD1 hS1 => ?_)
  rw [hws] at hP1
  exact k p e s m args below meth c Qf H1 locs1 la C hf hP1 hS1 hl
theorem zr_putL {g : zt_G} {μ : zt_M} {pc : Nat} {ls : List (Option zv_A)} {st : List zv_A} {M : zm_M} {Q : Option zv_A → zm_M → Prop} {o ci j ix : Nat} {own : String} {fs : List (Nat ⊕ Nat)} {z a : Int} (hF : zt_F own ix ci j) (ho : zl_lay[o]? = some (.inl (ci, fs))) (hown : μ.1 = own) (hW : zt_W ci j .long) (hfs : fs[j]? = some (.inl 1)) (hz : (j : Int) = z) (hd : decode μ.2.1 pc = .ok (.putfield ix, 3)) (k : zc_Z g μ (pc + 3) ls (st) (zm_put M o z a) Q) : zc_Z g μ pc ls (zv_l a :: zv_r o :: st) M Q := by
  intro p e s m args below meth c Qf H locs la C hf hP hS hl
  subst hz
  subst hown
  obtain ⟨CC, T, N, hc, hin, hj, hw⟩ := hF
  obtain ⟨w1, w2, ⟨ty0, w3⟩, w4⟩ := hW CC T N hc
  have ho2 : (zl_w g M)[o]? = some (zg_ad g o, .inr (ci, zl_fs g M o 0 fs)) := by rw [zl_w_at g M (zl_lt ho), zl_ct_o ho]
  have hset := zl_fs_set (g := g) (M := M) (k := o) (v := a) fs 0 j 1 hfs
  rw [Nat.zero_add] at hset
  have hv : zl_fv g (zm_put M o (j : Int) a) o j (.inl 1) = zv_c g (zv_l a) := by
    show (_ : Value) = _
    simp [zl_fv, zv_c, zm_put]
  rw [hv] at hset
  have hws : (zl_w g M).set o (zg_ad g o, .inr (ci, (zl_fs g M o 0 fs).set j (zv_c g (zv_l a)))) = zl_w g (zm_put M o (j : Int) a) := by
    refine zl_w_set (zl_lt ho) ?_ (fun q hq i => by unfold zm_put; rw [if_neg (fun x => hq x.1)])
    rw [zl_ct_o ho, hset]
  refine va_put C.1 C.2.1 C.2.2.2.2.1 hin ty0 w3 w4 C.2.2.2.1 C.2.2.2.2.2.1.2.2.2.2.2.2 hP (zl_D M C.2.2.2.2.2.1.2.2.2.2.2.1) hS o ho2 hc j hj (C.2.2.2.2.1 _ hw) (fun _ h => h) w1 w2 rfl rfl (by rw [zl_fs_len]; exact (List.getElem?_eq_some_iff.mp hfs).1) hd (fun H1 locs1 hP1 hD1 hS1 => ?_)
  rw [hws] at hP1
  exact k p e s m args below meth c Qf H1 locs1 la C hf hP1 hS1 hl
theorem zr_iaload {g : zt_G} {μ : zt_M} {pc : Nat} {ls : List (Option zv_A)} {st : List zv_A} {M : zm_M} {Q : Option zv_A → zm_M → Prop} {q n : Nat} {a : Int} (hq : zl_lay[q]? = some (.inr (0, n))) (hi : 0 ≤ a ∧ a < n) (hd : decode μ.2.1 pc = .ok (.iaload, 1)) (k : zc_Z g μ (pc + 1) ls (zv_i (M q a) :: st) M Q) : zc_Z g μ pc ls (zv_i a :: zv_r q :: st) M Q := by
  intro p e s m args below meth c Qf H locs la C hf hP hS hl
  have hn := zl_len hq
  have k2 := k p e s m args below meth c Qf H locs la C hf hP hS hl
  have ea : ((a.toNat : Nat) : Int) = a := Int.toNat_of_nonneg hi.1
  refine va_iald C.1 C.2.1 C.2.2.2.2.2.1.2.2.2.2.2.2 hP q 0 (by rw [zl_w_at g M (zl_lt hq), zl_ct_a hq]; rfl) rfl (zw_in hi.1 hi.2 hn) hd ?_
  rw [zw_cl hi.1 (by omega), ea]
  exact k2
theorem zr_laload {g : zt_G} {μ : zt_M} {pc : Nat} {ls : List (Option zv_A)} {st : List zv_A} {M : zm_M} {Q : Option zv_A → zm_M → Prop} {q n : Nat} {a : Int} (hq : zl_lay[q]? = some (.inr (1, n))) (hi : 0 ≤ a ∧ a < n) (hd : decode μ.2.1 pc = .ok (.laload, 1)) (k : zc_Z g μ (pc + 1) ls (zv_l (M q a) :: st) M Q) : zc_Z g μ pc ls (zv_i a :: zv_r q :: st) M Q := by
  intro p e s m args below meth c Qf H locs la C hf hP hS hl
  have hn := zl_len hq
  have k2 := k p e s m args below meth c Qf H locs la C hf hP hS hl
  have ea : ((a.toNat : Nat) : Int) = a := Int.toNat_of_nonneg hi.1
  refine va_lald C.1 C.2.1 C.2.2.2.2.2.1.2.2.2.2.2.2 hP q 1 (by rw [zl_w_at g M (zl_lt hq), zl_ct_a hq]; rfl) rfl (zw_in hi.1 hi.2 hn) hd ?_
  rw [zw_cl hi.1 (by omega), ea]
  exact k2
theorem zr_zaload {g : zt_G} {μ : zt_M} {pc : Nat} {ls : List (Option zv_A)} {st : List zv_A} {M : zm_M} {Q : Option zv_A → zm_M → Prop} {q n : Nat} {a : Int} (hq : zl_lay[q]? = some (.inr (2, n))) (hi : 0 ≤ a ∧ a < n) (hd : decode μ.2.1 pc = .ok (.baload, 1)) (k : zc_Z g μ (pc + 1) ls (zv_i (M q a) :: st) M Q) : zc_Z g μ pc ls (zv_i a :: zv_r q :: st) M Q := by
  intro p e s m args below meth c Qf H locs la C hf hP hS hl
  have hn := zl_len hq
  have k2 := k p e s m args below meth c Qf H locs la C hf hP hS hl
  have ea : ((a.toNat : Nat) : Int) = a := Int.toNat_of_nonneg hi.1
  refine va_zald C.1 C.2.1 C.2.2.2.2.2.1.2.2.2.2.2.2 hP q 2 (by rw [zl_w_at g M (zl_lt hq), zl_ct_a hq]; rfl) rfl (zw_in hi.1 hi.2 hn) hd ?_
  rw [zw_cl hi.1 (by omega), ea]
  exact k2
theorem zr_iastore {g : zt_G} {μ : zt_M} {pc : Nat} {ls : List (Option zv_A)} {st : List zv_A} {M : zm_M} {Q : Option zv_A → zm_M → Prop} {q n : Nat} {a : Int} {b : Int} (hq : zl_lay[q]? = some (.inr (0, n))) (hi : 0 ≤ a ∧ a < n) (hd : decode μ.2.1 pc = .ok (.iastore, 1)) (k : zc_Z g μ (pc + 1) ls (st) (zm_put M q a b) Q) : zc_Z g μ pc ls (zv_i b :: zv_i a :: zv_r q :: st) M Q := by
  intro p e s m args below meth c Qf H locs la C hf hP hS hl
  have hn := zl_len hq
  have ea : ((a.toNat : Nat) : Int) = a := Int.toNat_of_nonneg hi.1
  refine va_iast C.1 C.2.1 C.2.2.2.2.2.1.2.2.2.2.2.2 hP (zl_D M C.2.2.2.2.2.1.2.2.2.2.2.1) hS q 0 (by rw [zl_w_at g M (zl_lt hq), zl_ct_a hq]; rfl) rfl (zw_in hi.1 hi.2 hn) hd (fun H1 locs1 hP1 hD1 hS1 => ?_)
  rw [zw_cl hi.1 (by omega)] at hP1
  have hws := zl_w_set (g := g) (M := M) (M2 := zm_put M q a b) (k := q) (zl_lt hq) (zl_ct_a hq) (fun x hx i => by unfold zm_put; rw [if_neg (fun y => hx y.1)])
  have he : zl_av (zm_put M q a b) q 0 = .inl (upd (fun j => Int32.ofInt (M q (j : Int))) a.toNat (Int32.ofInt b)) := by
    unfold zl_av
    simp only []
    congr 1
    funext j
    unfold upd zm_put
    by_cases hj : j = a.toNat
    · rw [if_pos hj, if_pos ⟨rfl, by omega⟩]
    · rw [if_neg hj, if_neg (fun x => hj (by omega))]
  rw [he] at hws
  have hP2 : va_P (zg_D g) zl_cl (zl_w g (zm_put M q a b)) H1 := by
    rw [← hws]
    exact hP1
  exact k p e s m args below meth c Qf H1 locs1 la C hf hP2 hS1 hl
theorem zr_lastore {g : zt_G} {μ : zt_M} {pc : Nat} {ls : List (Option zv_A)} {st : List zv_A} {M : zm_M} {Q : Option zv_A → zm_M → Prop} {q n : Nat} {a : Int} {b : Int} (hq : zl_lay[q]? = some (.inr (1, n))) (hi : 0 ≤ a ∧ a < n) (hd : decode μ.2.1 pc = .ok (.lastore, 1)) (k : zc_Z g μ (pc + 1) ls (st) (zm_put M q a b) Q) : zc_Z g μ pc ls (zv_l b :: zv_i a :: zv_r q :: st) M Q := by
  intro p e s m args below meth c Qf H locs la C hf hP hS hl
  have hn := zl_len hq
  have ea : ((a.toNat : Nat) : Int) = a := Int.toNat_of_nonneg hi.1
  refine va_last C.1 C.2.1 C.2.2.2.2.2.1.2.2.2.2.2.2 hP (zl_D M C.2.2.2.2.2.1.2.2.2.2.2.1) hS q 1 (by rw [zl_w_at g M (zl_lt hq), zl_ct_a hq]; rfl) rfl (zw_in hi.1 hi.2 hn) hd (fun H1 locs1 hP1 hD1 hS1 => ?_)
  rw [zw_cl hi.1 (by omega)] at hP1
  have hws := zl_w_set (g := g) (M := M) (M2 := zm_put M q a b) (k := q) (zl_lt hq) (zl_ct_a hq) (fun x hx i => by unfold zm_put; rw [if_neg (fun y => hx y.1)])
  have he : zl_av (zm_put M q a b) q 1 = .inr (.inl (vp_updL (fun j => Int64.ofInt (M q (j : Int))) a.toNat (Int64.ofInt b))) := by
    unfold zl_av
    simp only []
    congr 1
    congr 1
    funext j
    unfold vp_updL zm_put
    by_cases hj : j = a.toNat
    · rw [if_pos hj, if_pos ⟨rfl, by omega⟩]
    · rw [if_neg hj, if_neg (fun x => hj (by omega))]
  rw [he] at hws
  have hP2 : va_P (zg_D g) zl_cl (zl_w g (zm_put M q a b)) H1 := by
    rw [← hws]
    exact hP1
  exact k p e s m args below meth c Qf H1 locs1 la C hf hP2 hS1 hl
theorem zr_zastore {g : zt_G} {μ : zt_M} {pc : Nat} {ls : List (Option zv_A)} {st : List zv_A} {M : zm_M} {Q : Option zv_A → zm_M → Prop} {q n : Nat} {a : Int} {b : Int} (hb : b = 0 ∨ b = 1) (hq : zl_lay[q]? = some (.inr (2, n))) (hi : 0 ≤ a ∧ a < n) (hd : decode μ.2.1 pc = .ok (.bastore, 1)) (k : zc_Z g μ (pc + 1) ls (st) (zm_put M q a b) Q) : zc_Z g μ pc ls (zv_i b :: zv_i a :: zv_r q :: st) M Q := by
  intro p e s m args below meth c Qf H locs la C hf hP hS hl
  have hn := zl_len hq
  have ea : ((a.toNat : Nat) : Int) = a := Int.toNat_of_nonneg hi.1
  refine va_zast C.1 C.2.1 C.2.2.2.2.2.1.2.2.2.2.2.2 hP (zl_D M C.2.2.2.2.2.1.2.2.2.2.2.1) hS q 2 (by rw [zl_w_at g M (zl_lt hq), zl_ct_a hq]; rfl) rfl (zw_in hi.1 hi.2 hn) hd (fun H1 locs1 hP1 hD1 hS1 => ?_)
  rw [zw_cl hi.1 (by omega)] at hP1
  rw [show vp_nar .boolean (Int32.ofInt b) = Int32.ofInt b from by rcases hb with rfl | rfl <;> decide] at hP1
  have hws := zl_w_set (g := g) (M := M) (M2 := zm_put M q a b) (k := q) (zl_lt hq) (zl_ct_a hq) (fun x hx i => by unfold zm_put; rw [if_neg (fun y => hx y.1)])
  have he : zl_av (zm_put M q a b) q 2 = .inl (upd (fun j => Int32.ofInt (M q (j : Int))) a.toNat (Int32.ofInt b)) := by
    unfold zl_av
    simp only []
    congr 1
    funext j
    unfold upd zm_put
    by_cases hj : j = a.toNat
    · rw [if_pos hj, if_pos ⟨rfl, by omega⟩]
    · rw [if_neg hj, if_neg (fun x => hj (by omega))]
  rw [he] at hws
  have hP2 : va_P (zg_D g) zl_cl (zl_w g (zm_put M q a b)) H1 := by
    rw [← hws]
    exact hP1
  exact k p e s m args below meth c Qf H1 locs1 la C hf hP2 hS1 hl
end
section
/-! returns -/
theorem zr_ireturn {g : zt_G} {μ : zt_M} {pc : Nat} {ls : List (Option zv_A)} {M : zm_M} {Q : Option zv_A → zm_M → Prop} {a : Int} (hd : decode μ.2.1 pc = .ok (.ireturn, 1)) (hr : μ.2.2.2.1 = some .int) (hQ : Q (some (zv_i a)) M) : zc_Z g μ pc ls [zv_i a] M Q := by
  intro p e s m args below meth c Qf H locs la C hf hP hS hl
  exact hf (some (zv_i a)) M H locs la pc hQ ⟨hd, Or.inl hr⟩ hP hS
theorem zr_zreturn {g : zt_G} {μ : zt_M} {pc : Nat} {ls : List (Option zv_A)} {M : zm_M} {Q : Option zv_A → zm_M → Prop} {a : Int} (hd : decode μ.2.1 pc = .ok (.ireturn, 1)) (hr : μ.2.2.2.1 = some .boolean) (ha : a = 0 ∨ a = 1) (hQ : Q (some (zv_i a)) M) : zc_Z g μ pc ls [zv_i a] M Q := by
  intro p e s m args below meth c Qf H locs la C hf hP hS hl
  exact hf (some (zv_i a)) M H locs la pc hQ ⟨hd, Or.inr ⟨hr, ha⟩⟩ hP hS
theorem zr_lreturn {g : zt_G} {μ : zt_M} {pc : Nat} {ls : List (Option zv_A)} {M : zm_M} {Q : Option zv_A → zm_M → Prop} {a : Int} (hd : decode μ.2.1 pc = .ok (.lreturn, 1)) (hr : μ.2.2.2.1 = some .long) (hQ : Q (some (zv_l a)) M) : zc_Z g μ pc ls [zv_l a] M Q := by
  intro p e s m args below meth c Qf H locs la C hf hP hS hl
  exact hf (some (zv_l a)) M H locs la pc hQ ⟨hd, hr⟩ hP hS
theorem zr_return {g : zt_G} {μ : zt_M} {pc : Nat} {ls : List (Option zv_A)} {M : zm_M} {Q : Option zv_A → zm_M → Prop} (hd : decode μ.2.1 pc = .ok (.return_, 1)) (hr : μ.2.2.2.1 = none) (hQ : Q none M) : zc_Z g μ pc ls [] M Q := by
  intro p e s m args below meth c Qf H locs la C hf hP hS hl
  exact hf none M H locs la pc hQ ⟨hd, hr⟩ hP hS
/-- from the walk of a body to the contract -/
theorem zc_of {g : zt_G} {y : MethodName} {μ : zt_M} {av : List zv_A} {ls : List (Option zv_A)} {M : zm_M} {Q : Option zv_A → zm_M → Prop} (hy : plainName y.cls = true) (hown : μ.1 = y.cls) (hc : μ.2.2.2.2.2.1 = 0 ∧ μ.2.2.2.2.2.2 = 0) (hlen : (lg_sl (av.map (zv_c g))).length ≤ μ.2.2.1) (hls : lv_args 0 (av.map (zv_c g)) = zs_m g 0 ls) (h : zc_Z g μ 0 ls [] M Q) : zc_K g y μ av M Q := by
  obtain ⟨own, cc, nL, ret, R, c1, c2⟩ := μ
  obtain ⟨e1, e2⟩ := hc
  dsimp only at e1 e2 hown hlen
  subst e1
  subst e2
  subst hown
  refine Met.ofW (cc := cc) (maxL := nL) (ret := ret) hy rfl ?_
  intro p e s m args below meth c s₁ B hml hv
  obtain ⟨rfl, hP, hSt⟩ := hv
  have hts := atoms_spec (ws := .code y cc nL ret :: zt_tb) B.pre
  have hl := lv_entry (av.map (zv_c g)) (n := nL) hlen
  rw [hls] at hl
  rw [lg_entry_eq]
  refine h p e s m _ below meth c _ s.heap [] _ ⟨B.exec, B.bytes, hml, findClass_of_methodNamed B.named, fun w hw => hts w (List.mem_cons_of_mem _ hw), hSt, Nat.zero_le _, Nat.zero_le _⟩ ?_ hP va_S.rf hl
  intro v M2 H2 locs2 la2 pc2 hQ hR hP2 hS2
  have hlocks := B.notSynchronized
  have hr := B.returns
  rcases v with _ | z | z | k
  · exact W.vret B.exec B.bytes (by rw [hr]; exact hR.2) (fun t ht hW => ⟨⟨none, M2, rfl, hQ, by rw [ht]; exact hP2⟩, hS2.F ht⟩) hS2.2.2 hR.1
  · obtain ⟨hd, hty | ⟨hty, hz⟩⟩ := hR
    · exact W.iret B.exec B.bytes (by rw [hr]; exact hty) (fun t ht hW => ⟨⟨some (zv_i z), M2, rfl, hQ, by rw [ht]; exact hP2⟩, hS2.F ht⟩) hS2.2.2 hd
    · exact W.zret (ty := .boolean) B.exec B.bytes (by rw [hr]; exact hty) (by rcases hz with rfl | rfl <;> decide) (fun t ht hW => ⟨⟨some (zv_i z), M2, rfl, hQ, by rw [ht]; exact hP2⟩, hS2.F ht⟩) hS2.2.2 hd
  · exact W.lret B.exec B.bytes (by rw [hr]; exact hR.2) (fun t ht hW => ⟨⟨some (zv_l z), M2, rfl, hQ, by rw [ht]; exact hP2⟩, hS2.F ht⟩) hS2.2.2 hR.1
  · exact absurd hR (fun x => x)
theorem zq_blind {g : zt_G} {av : List zv_A} {M : zm_M} : FrameBlind (zq_P g av M) := fun a U f mk h => ⟨h.1, h.2.1, h.2.2.blind f mk a⟩
theorem zc_call {g : zt_G} {p : Program} {e : Env} {R : Room} {s : State} {m : MethodId} {args : Array Value} {below : List Frame} {meth : Method} {c : Code} {H : Heap} {locs : List Loc} {cells slots pc : Nat} {Qf : State → Prop} {la : Array Slot} {st0 rest : List Value} {a : Array Value} {Q : Option zv_A → zm_M → Prop}
    (hr : va_Run p (zg_l g) e R s m args below meth c H locs cells slots 0 0 (F0 m pc la st0) rest (zq_Q g Q a) (zg_A g)) (hS : va_S (zg_A g) s.heap H locs)
    (kk : ∀ (v : Option zv_A) (M2 : zm_M) (H1 : Heap) (locs1 : List Loc), Q v M2 → va_P (zg_D g) zl_cl (zl_w g M2) H1 → va_S (zg_A g) s.heap H1 locs1 → W p (zg_l g) e R s m args below meth c H1 locs1 cells slots Qf (F0 m (pc + 3) la (v.toList.map (zv_c g) ++ rest))) : W p (zg_l g) e R s m args below meth c H locs cells slots Qf (F0 m pc la st0) := by
  intro T hT X
  obtain ⟨v, st₀, t, T', L, h0, X', hL, e1, e2, ⟨⟨v2, M2, hv, hq, hP2⟩, hz, hk⟩, st⟩ := hr T hT X
  have hv2 : v = v2.map (zv_c g) := Outcome.returned.inj hv
  subst hv2
  rw [h0] at hz hk
  obtain ⟨t2, a1, b1⟩ := kk v2 M2 T'.heap (locs ++ L) hq (by rw [e1]; exact hP2)
    ⟨Nat.le_trans hS.1 (by rw [e1]; exact hz), fun q h1 h2 => by rw [e1, hk q (Nat.lt_of_lt_of_le h1 hS.1) h2]; exact hS.2.1 q h1 h2, fun q hq => by
      rcases List.mem_append.mp hq with h | h
      · exact hS.2.2 q h
      · exact hL q h⟩ T' rfl X'
  refine ⟨t2, st t2 ?_, b1⟩
  have e3 : (v2.map (zv_c g)).toList ++ rest = v2.toList.map (zv_c g) ++ rest := by cases v2 <;> rfl
  show Steps p.tables e below (T'.setTop (F0 m (pc + 3) la ((v2.map (zv_c g)).toList ++ rest))) t2
  rw [e3]
  exact a1
/-- how a call names its method -/
def zt_Y (y : MethodName) (n : Nat) : Prop := y.cls ≠ "java/lang/invoke/MethodHandle" ∧ y.cls ≠ "java/lang/invoke/VarHandle" ∧ (parseMethodDescriptor y.desc).map (fun d => d.parameters.length) = some n
def zt_V (own : String) (ix : Nat) (y : MethodName) (μ : zt_M) (n : Nat) : Prop := (∀ w ∈ [Cond.methodLink own ix y, Cond.instanceMethod y, Cond.selects y.cls y y, Cond.initialized y.cls, Cond.code y μ.2.1 μ.2.2.1 μ.2.2.2.1], w ∈ zt_tb) ∧ zt_Y y n
def zt_X (own : String) (ix : Nat) (y : MethodName) (μ : zt_M) (n : Nat) : Prop := (∀ w ∈ [Cond.methodLink own ix y, Cond.static y, Cond.initialized y.cls, Cond.code y μ.2.1 μ.2.2.1 μ.2.2.2.1], w ∈ zt_tb) ∧ zt_Y y n
def zt_N (own : String) (ix : Nat) (y : MethodName) (μ : zt_M) (n : Nat) : Prop := (∀ w ∈ [Cond.static y, Cond.initialized y.cls, Cond.code y μ.2.1 μ.2.2.1 μ.2.2.2.1], w ∈ zt_tb) ∧ zt_Y y n ∧ ∃ host, (own, ix, y, host) ∈ zk_nest
def zv_w : List zv_A → Nat
  | [] => 0
  | .inr (.inl _) :: r => 2 + zv_w r
  | _ :: r => 1 + zv_w r
theorem zv_w_eq (g : zt_G) : ∀ l : List zv_A, ((l.map (zv_c g)).map fun v => v.category).sum = zv_w l
  | [] => rfl
  | .inl z :: r => by
    have h := zv_w_eq g r
    simp [zv_w, zv_c, Value.category] at h ⊢
    omega
  | .inr (.inl z) :: r => by
    have h := zv_w_eq g r
    simp [zv_w, zv_c, Value.category] at h ⊢
    omega
  | .inr (.inr z) :: r => by
    have h := zv_w_eq g r
    simp [zv_w, zv_c, Value.category] at h ⊢
    omega
def zt_L (μ ν : zt_M) : Bool := Nat.ble (ν.2.2.2.2.1.frames + 1) μ.2.2.2.2.1.frames && Nat.ble (8 + (ν.2.2.1 + 11) + ν.2.2.2.2.1.locals) μ.2.2.2.2.1.locals && Nat.beq ν.2.2.2.2.1.cells 0 && Nat.beq ν.2.2.2.2.1.slots 0
theorem zt_L.of {μ ν : zt_M} (h : zt_L μ ν = true) : ν.2.2.2.2.1.frames + 1 ≤ μ.2.2.2.2.1.frames ∧ 8 + (ν.2.2.1 + 11) + ν.2.2.2.2.1.locals ≤ μ.2.2.2.2.1.locals ∧ ν.2.2.2.2.1.cells = 0 ∧ ν.2.2.2.2.1.slots = 0 := by
  unfold zt_L at h
  simp only [Bool.and_eq_true] at h
  obtain ⟨⟨⟨h1, h2⟩, h3⟩, h4⟩ := h
  exact ⟨Nat.le_of_ble_eq_true h1, Nat.le_of_ble_eq_true h2, Nat.eq_of_beq_eq_true h3, Nat.eq_of_beq_eq_true h4⟩
theorem zc_B {μ ν : zt_M} {s : State} {args : Array Value} {own : String} {ix n : Nat} {y : MethodName} (hts : ∀ w ∈ zt_tb, w.before args s = true) (hcode : Cond.code y ν.2.1 ν.2.2.1 ν.2.2.2.1 ∈ zt_tb) (hini : Cond.initialized y.cls ∈ zt_tb) (hlink : Cond.methodLink own ix y ∈ zt_tb) (hY : zt_Y y n) (hL : zt_L μ ν = true) : CallB μ.2.2.2.2.1 s args own ix y ν.2.1 ν.2.2.1 ν.2.2.2.1 (.code y ν.2.1 ν.2.2.1 ν.2.2.2.1 :: zt_tb) ν.2.2.2.2.1 0 0 n := by
  obtain ⟨l1, l2, l3, l4⟩ := zt_L.of hL
  exact callB_of n hts (zt_good hcode) rfl l3 l4 (hts _ hini) (hts _ hlink) hY ⟨l1, l2⟩
theorem zr_inv {g : zt_G} {μ : zt_M} {pc : Nat} {ls : List (Option zv_A)} {st : List zv_A} {M : zm_M} {Q : Option zv_A → zm_M → Prop} {own : String} {ix n o ci : Nat} {fs : List (Nat ⊕ Nat)} {y : MethodName} {ν : zt_M} {As rest : List zv_A} (hown : μ.1 = own) (hV : zt_V own ix y ν n) (ho : zl_lay[o]? = some (.inl (ci, fs))) (hcl : (zl_cl[ci]?).map (fun q => q.1) = some y.cls) (hL : zt_L μ ν = true) (hn : As.length = n) (hw : Nat.ble (zv_w rest) 8 = true) (hd : decode μ.2.1 pc = .ok (.invokevirtual ix, 3))
    (hst : st = As.reverse ++ zv_r o :: rest) (hK : zc_K g y ν (zv_r o :: As) M (fun v M2 => zc_Z g μ (pc + 3) ls (v.toList ++ rest) M2 Q)) : zc_Z g μ pc ls st M Q := by
  intro p e s m args below meth c Qf H locs la C hf hP hS hl
  subst hst
  subst hown
  obtain ⟨hV1, hY⟩ := hV
  have hts := C.2.2.2.2.1
  obtain ⟨q, hq, hq2⟩ : ∃ q, zl_cl[ci]? = some q ∧ q.1 = y.cls := by
    cases hz : zl_cl[ci]? with
    | none => rw [hz] at hcl; cases hcl
    | some q => rw [hz] at hcl; exact ⟨q, rfl, by simpa using hcl⟩
  have hrecv := va_recv C.2.2.2.2.2.1.2.2.2.2.2.2 hP hq (a := zg_ad g o) (q0 := o) (fs := zl_fs g M o 0 fs) (by rw [zl_w_at g M (zl_lt ho), zl_ct_o ho])
  rw [hq2] at hrecv
  have e1 : (As.reverse ++ zv_r o :: rest).map (zv_c g) = (As.map (zv_c g)).reverse ++ .ref (zg_ad g o) :: rest.map (zv_c g) := by
    rw [List.map_append, List.map_reverse]
    rfl
  rw [e1]
  refine zc_call (rest := rest.map (zv_c g)) (va_runV (As := As.map (zv_c g)) (rest := rest.map (zv_c g)) (C := y.cls) (b := zg_ad g o) ⟨C.1, C.2.1, C.2.2.1, C.2.2.2.1, hts⟩ hK ⟨zc_B hts (hV1 _ (by simp)) (hV1 _ (by simp)) (hV1 _ (by simp)) hY hL, hts _ (hV1 _ (by simp)), hts _ (hV1 _ (by simp))⟩ ⟨zq_blind, hrecv, fun U hU hW => ⟨rfl, by rw [hU]; exact hP, C.2.2.2.2.2.1.next hS hU hW⟩⟩ rfl (by rw [List.length_map]; exact hn) hl.1 rfl (lv_room (by rw [zv_w_eq]; exact Nat.le_of_ble_eq_true hw)) hd ⟨C.2.2.2.2.2.2.1, C.2.2.2.2.2.2.2⟩) hS (fun v M2 H1 locs1 hQ hP1 hS1 => ?_)
  rw [← List.map_append]
  exact hQ p e s m args below meth c Qf H1 locs1 la C hf hP1 hS1 hl
theorem zr_stat {g : zt_G} {μ : zt_M} {pc : Nat} {ls : List (Option zv_A)} {st : List zv_A} {M : zm_M} {Q : Option zv_A → zm_M → Prop} {own : String} {ix n : Nat} {y : MethodName} {ν : zt_M} {As rest : List zv_A} (hown : μ.1 = own) (hV : zt_X own ix y ν n) (hL : zt_L μ ν = true) (hn : As.length = n) (hw : Nat.ble (zv_w rest) 8 = true) (hd : decode μ.2.1 pc = .ok (.invokestatic ix, 3))
    (hst : st = As.reverse ++ rest) (hK : zc_K g y ν As M (fun v M2 => zc_Z g μ (pc + 3) ls (v.toList ++ rest) M2 Q)) : zc_Z g μ pc ls st M Q := by
  intro p e s m args below meth c Qf H locs la C hf hP hS hl
  subst hst
  subst hown
  obtain ⟨hV1, hY⟩ := hV
  have hts := C.2.2.2.2.1
  rw [List.map_append, List.map_reverse]
  refine zc_call (rest := rest.map (zv_c g)) (va_runS (As := As.map (zv_c g)) (rest := rest.map (zv_c g)) ⟨C.1, C.2.1, C.2.2.1, C.2.2.2.1, hts⟩ hK ⟨zc_B hts (hV1 _ (by simp)) (hV1 _ (by simp)) (hV1 _ (by simp)) hY hL, hts _ (hV1 _ (by simp))⟩ ⟨zq_blind, fun U hU hW => ⟨rfl, by rw [hU]; exact hP, C.2.2.2.2.2.1.next hS hU hW⟩⟩ rfl (by rw [List.length_map]; exact hn) hl.1 rfl (lv_room (by rw [zv_w_eq]; exact Nat.le_of_ble_eq_true hw)) hd ⟨C.2.2.2.2.2.2.1, C.2.2.2.2.2.2.2⟩) hS (fun v M2 H1 locs1 hQ hP1 hS1 => ?_)
  rw [← List.map_append]
  exact hQ p e s m args below meth c Qf H1 locs1 la C hf hP1 hS1 hl
theorem zr_nest {g : zt_G} {μ : zt_M} {pc : Nat} {ls : List (Option zv_A)} {st : List zv_A} {M : zm_M} {Q : Option zv_A → zm_M → Prop} {own : String} {ix n : Nat} {y : MethodName} {ν : zt_M} {As rest : List zv_A} (hown : μ.1 = own) (hV : zt_N own ix y ν n) (hL : zt_L μ ν = true) (hn : As.length = n) (hw : Nat.ble (zv_w rest) 8 = true) (hd : decode μ.2.1 pc = .ok (.invokestatic ix, 3))
    (hst : st = As.reverse ++ rest) (hK : zc_K g y ν As M (fun v M2 => zc_Z g μ (pc + 3) ls (v.toList ++ rest) M2 Q)) : zc_Z g μ pc ls st M Q := by
  intro p e s m args below meth c Qf H locs la C hf hP hS hl
  subst hst
  subst hown
  obtain ⟨hV1, hY, host, hh⟩ := hV
  obtain ⟨l1, l2, l3, l4⟩ := zt_L.of hL
  have hts := C.2.2.2.2.1
  have hnw := C.2.2.2.2.2.1.1 _ hh
  rw [List.map_append, List.map_reverse]
  refine zc_call (rest := rest.map (zv_c g)) (va_runSN (host := host) (As := As.map (zv_c g)) (rest := rest.map (zv_c g)) ⟨C.1, C.2.1, C.2.2.1, C.2.2.2.1, hts⟩ hK ⟨va_cnB n hts (zt_good (hV1 _ (by simp))) rfl l3 l4 hnw (hts _ (hV1 _ (by simp))) hY ⟨l1, l2⟩, hts _ (hV1 _ (by simp)), trivial⟩ ⟨zq_blind, fun U hU hW => ⟨rfl, by rw [hU]; exact hP, C.2.2.2.2.2.1.next hS hU hW⟩⟩ rfl (by rw [List.length_map]; exact hn) hl.1 rfl (lv_room (by rw [zv_w_eq]; exact Nat.le_of_ble_eq_true hw)) hd ⟨C.2.2.2.2.2.2.1, C.2.2.2.2.2.2.2⟩) hS (fun v M2 H1 locs1 hQ hP1 hS1 => ?_)
  rw [← List.map_append]
  exact hQ p e s m args below meth c Qf H1 locs1 la C hf hP1 hS1 hl
/-- contracts by what comes back -/
def zq_I (q : Int → zm_M → Prop) : Option zv_A → zm_M → Prop := fun v M => match v with
  | some (.inl r) => q r M
  | _ => False
def zq_L (q : Int → zm_M → Prop) : Option zv_A → zm_M → Prop := fun v M => match v with
  | some (.inr (.inl r)) => q r M
  | _ => False
def zq_V (q : zm_M → Prop) : Option zv_A → zm_M → Prop := fun v M => match v with
  | none => q M
  | _ => False
theorem zc_K.mono {g : zt_G} {y : MethodName} {μ : zt_M} {av : List zv_A} {M : zm_M} {Q Q2 : Option zv_A → zm_M → Prop} (h : zc_K g y μ av M Q) (hQ : ∀ v M2, Q v M2 → Q2 v M2) : zc_K g y μ av M Q2 := by
  intro p e ha hc hk s m args below hf happ hP hK
  obtain ⟨n, o, h1, h2, h3, ⟨⟨⟨v, M2, g1, g2, g3⟩, g4⟩, h5⟩⟩ := h p e ha hc hk s m args below hf happ hP hK
  exact ⟨n, o, h1, h2, h3, ⟨⟨⟨v, M2, g1, hQ v M2 g2, g3⟩, g4⟩, h5⟩⟩

theorem zr_inv0I {g : zt_G} {μ : zt_M} {pc : Nat} {ls : List (Option zv_A)} {st : List zv_A} {M : zm_M} {Q : Option zv_A → zm_M → Prop} {own : String} {ix o ci : Nat} {fs : List (Nat ⊕ Nat)} {y : MethodName} {ν : zt_M} (hown : μ.1 = own) (hV : zt_V own ix y ν 0) (ho : zl_lay[o]? = some (.inl (ci, fs))) (hcl : (zl_cl[ci]?).map (fun q => q.1) = some y.cls) (hL : zt_L μ ν = true) (hw : Nat.ble (zv_w st) 8 = true) (hd : decode μ.2.1 pc = .ok (.invokevirtual ix, 3)) (hK : zc_K g y ν [zv_r o] M (zq_I (fun r M2 => zc_Z g μ (pc + 3) ls (zv_i r :: st) M2 Q))) : zc_Z g μ pc ls (zv_r o :: st) M Q := by
  refine zr_inv (As := []) (rest := st) hown hV ho hcl hL rfl hw hd rfl (hK.mono ?_)
  intro v M2 h
  rcases v with _ | z | z | z
  all_goals first | exact h | exact absurd h (fun x => x)
theorem zr_inv0L {g : zt_G} {μ : zt_M} {pc : Nat} {ls : List (Option zv_A)} {st : List zv_A} {M : zm_M} {Q : Option zv_A → zm_M → Prop} {own : String} {ix o ci : Nat} {fs : List (Nat ⊕ Nat)} {y : MethodName} {ν : zt_M} (hown : μ.1 = own) (hV : zt_V own ix y ν 0) (ho : zl_lay[o]? = some (.inl (ci, fs))) (hcl : (zl_cl[ci]?).map (fun q => q.1) = some y.cls) (hL : zt_L μ ν = true) (hw : Nat.ble (zv_w st) 8 = true) (hd : decode μ.2.1 pc = .ok (.invokevirtual ix, 3)) (hK : zc_K g y ν [zv_r o] M (zq_L (fun r M2 => zc_Z g μ (pc + 3) ls (zv_l r :: st) M2 Q))) : zc_Z g μ pc ls (zv_r o :: st) M Q := by
  refine zr_inv (As := []) (rest := st) hown hV ho hcl hL rfl hw hd rfl (hK.mono ?_)
  intro v M2 h
  rcases v with _ | z | z | z
  all_goals first | exact h | exact absurd h (fun x => x)
theorem zr_inv0V {g : zt_G} {μ : zt_M} {pc : Nat} {ls : List (Option zv_A)} {st : List zv_A} {M : zm_M} {Q : Option zv_A → zm_M → Prop} {own : String} {ix o ci : Nat} {fs : List (Nat ⊕ Nat)} {y : MethodName} {ν : zt_M} (hown : μ.1 = own) (hV : zt_V own ix y ν 0) (ho : zl_lay[o]? = some (.inl (ci, fs))) (hcl : (zl_cl[ci]?).map (fun q => q.1) = some y.cls) (hL : zt_L μ ν = true) (hw : Nat.ble (zv_w st) 8 = true) (hd : decode μ.2.1 pc = .ok (.invokevirtual ix, 3)) (hK : zc_K g y ν [zv_r o] M (zq_V (fun M2 => zc_Z g μ (pc + 3) ls st M2 Q))) : zc_Z g μ pc ls (zv_r o :: st) M Q := by
  refine zr_inv (As := []) (rest := st) hown hV ho hcl hL rfl hw hd rfl (hK.mono ?_)
  intro v M2 h
  rcases v with _ | z | z | z
  all_goals first | exact h | exact absurd h (fun x => x)
theorem zr_inv1I {g : zt_G} {μ : zt_M} {pc : Nat} {ls : List (Option zv_A)} {st : List zv_A} {M : zm_M} {Q : Option zv_A → zm_M → Prop} {own : String} {ix o ci : Nat} {fs : List (Nat ⊕ Nat)} {y : MethodName} {ν : zt_M} {a1 : zv_A} (hown : μ.1 = own) (hV : zt_V own ix y ν 1) (ho : zl_lay[o]? = some (.inl (ci, fs))) (hcl : (zl_cl[ci]?).map (fun q => q.1) = some y.cls) (hL : zt_L μ ν = true) (hw : Nat.ble (zv_w st) 8 = true) (hd : decode μ.2.1 pc = .ok (.invokevirtual ix, 3)) (hK : zc_K g y ν [zv_r o, a1] M (zq_I (fun r M2 => zc_Z g μ (pc + 3) ls (zv_i r :: st) M2 Q))) : zc_Z g μ pc ls (a1 :: zv_r o :: st) M Q := by
  refine zr_inv (As := [a1]) (rest := st) hown hV ho hcl hL rfl hw hd rfl (hK.mono ?_)
  intro v M2 h
  rcases v with _ | z | z | z
  all_goals first | exact h | exact absurd h (fun x => x)
theorem zr_inv1L {g : zt_G} {μ : zt_M} {pc : Nat} {ls : List (Option zv_A)} {st : List zv_A} {M : zm_M} {Q : Option zv_A → zm_M → Prop} {own : String} {ix o ci : Nat} {fs : List (Nat ⊕ Nat)} {y : MethodName} {ν : zt_M} {a1 : zv_A} (hown : μ.1 = own) (hV : zt_V own ix y ν 1) (ho : zl_lay[o]? = some (.inl (ci, fs))) (hcl : (zl_cl[ci]?).map (fun q => q.1) = some y.cls) (hL : zt_L μ ν = true) (hw : Nat.ble (zv_w st) 8 = true) (hd : decode μ.2.1 pc = .ok (.invokevirtual ix, 3)) (hK : zc_K g y ν [zv_r o, a1] M (zq_L (fun r M2 => zc_Z g μ (pc + 3) ls (zv_l r :: st) M2 Q))) : zc_Z g μ pc ls (a1 :: zv_r o :: st) M Q := by
  refine zr_inv (As := [a1]) (rest := st) hown hV ho hcl hL rfl hw hd rfl (hK.mono ?_)
  intro v M2 h
  rcases v with _ | z | z | z
  all_goals first | exact h | exact absurd h (fun x => x)
theorem zr_inv1V {g : zt_G} {μ : zt_M} {pc : Nat} {ls : List (Option zv_A)} {st : List zv_A} {M : zm_M} {Q : Option zv_A → zm_M → Prop} {own : String} {ix o ci : Nat} {fs : List (Nat ⊕ Nat)} {y : MethodName} {ν : zt_M} {a1 : zv_A} (hown : μ.1 = own) (hV : zt_V own ix y ν 1) (ho : zl_lay[o]? = some (.inl (ci, fs))) (hcl : (zl_cl[ci]?).map (fun q => q.1) = some y.cls) (hL : zt_L μ ν = true) (hw : Nat.ble (zv_w st) 8 = true) (hd : decode μ.2.1 pc = .ok (.invokevirtual ix, 3)) (hK : zc_K g y ν [zv_r o, a1] M (zq_V (fun M2 => zc_Z g μ (pc + 3) ls st M2 Q))) : zc_Z g μ pc ls (a1 :: zv_r o :: st) M Q := by
  refine zr_inv (As := [a1]) (rest := st) hown hV ho hcl hL rfl hw hd rfl (hK.mono ?_)
  intro v M2 h
  rcases v with _ | z | z | z
  all_goals first | exact h | exact absurd h (fun x => x)
theorem zr_inv2I {g : zt_G} {μ : zt_M} {pc : Nat} {ls : List (Option zv_A)} {st : List zv_A} {M : zm_M} {Q : Option zv_A → zm_M → Prop} {own : String} {ix o ci : Nat} {fs : List (Nat ⊕ Nat)} {y : MethodName} {ν : zt_M} {a1 a2 : zv_A} (hown : μ.1 = own) (hV : zt_V own ix y ν 2) (ho : zl_lay[o]? = some (.inl (ci, fs))) (hcl : (zl_cl[ci]?).map (fun q => q.1) = some y.cls) (hL : zt_L μ ν = true) (hw : Nat.ble (zv_w st) 8 = true) (hd : decode μ.2.1 pc = .ok (.invokevirtual ix, 3)) (hK : zc_K g y ν [zv_r o, a1, a2] M (zq_I (fun r M2 => zc_Z g μ (pc + 3) ls (zv_i r :: st) M2 Q))) : zc_Z g μ pc ls (a2 :: a1 :: zv_r o :: st) M Q := by
  refine zr_inv (As := [a1, a2]) (rest := st) hown hV ho hcl hL rfl hw hd rfl (hK.mono ?_)
  intro v M2 h
  rcases v with _ | z | z | z
  all_goals first | exact h | exact absurd h (fun x => x)
theorem zr_inv2L {g : zt_G} {μ : zt_M} {pc : Nat} {ls : List (Option zv_A)} {st : List zv_A} {M : zm_M} {Q : Option zv_A → zm_M → Prop} {own : String} {ix o ci : Nat} {fs : List (Nat ⊕ Nat)} {y : MethodName} {ν : zt_M} {a1 a2 : zv_A} (hown : μ.1 = own) (hV : zt_V own ix y ν 2) (ho : zl_lay[o]? = some (.inl (ci, fs))) (hcl : (zl_cl[ci]?).map (fun q => q.1) = some y.cls) (hL : zt_L μ ν = true) (hw : Nat.ble (zv_w st) 8 = true) (hd : decode μ.2.1 pc = .ok (.invokevirtual ix, 3)) (hK : zc_K g y ν [zv_r o, a1, a2] M (zq_L (fun r M2 => zc_Z g μ (pc + 3) ls (zv_l r :: st) M2 Q))) : zc_Z g μ pc ls (a2 :: a1 :: zv_r o :: st) M Q := by
  refine zr_inv (As := [a1, a2]) (rest := st) hown hV ho hcl hL rfl hw hd rfl (hK.mono ?_)
  intro v M2 h
  rcases v with _ | z | z | z
  all_goals first | exact h | exact absurd h (fun x => x)
theorem zr_inv2V {g : zt_G} {μ : zt_M} {pc : Nat} {ls : List (Option zv_A)} {st : List zv_A} {M : zm_M} {Q : Option zv_A → zm_M → Prop} {own : String} {ix o ci : Nat} {fs : List (Nat ⊕ Nat)} {y : MethodName} {ν : zt_M} {a1 a2 : zv_A} (hown : μ.1 = own) (hV : zt_V own ix y ν 2) (ho : zl_lay[o]? = some (.inl (ci, fs))) (hcl : (zl_cl[ci]?).map (fun q => q.1) = some y.cls) (hL : zt_L μ ν = true) (hw : Nat.ble (zv_w st) 8 = true) (hd : decode μ.2.1 pc = .ok (.invokevirtual ix, 3)) (hK : zc_K g y ν [zv_r o, a1, a2] M (zq_V (fun M2 => zc_Z g μ (pc + 3) ls st M2 Q))) : zc_Z g μ pc ls (a2 :: a1 :: zv_r o :: st) M Q := by
  refine zr_inv (As := [a1, a2]) (rest := st) hown hV ho hcl hL rfl hw hd rfl (hK.mono ?_)
  intro v M2 h
  rcases v with _ | z | z | z
  all_goals first | exact h | exact absurd h (fun x => x)
theorem zr_inv3I {g : zt_G} {μ : zt_M} {pc : Nat} {ls : List (Option zv_A)} {st : List zv_A} {M : zm_M} {Q : Option zv_A → zm_M → Prop} {own : String} {ix o ci : Nat} {fs : List (Nat ⊕ Nat)} {y : MethodName} {ν : zt_M} {a1 a2 a3 : zv_A} (hown : μ.1 = own) (hV : zt_V own ix y ν 3) (ho : zl_lay[o]? = some (.inl (ci, fs))) (hcl : (zl_cl[ci]?).map (fun q => q.1) = some y.cls) (hL : zt_L μ ν = true) (hw : Nat.ble (zv_w st) 8 = true) (hd : decode μ.2.1 pc = .ok (.invokevirtual ix, 3)) (hK : zc_K g y ν [zv_r o, a1, a2, a3] M (zq_I (fun r M2 => zc_Z g μ (pc + 3) ls (zv_i r :: st) M2 Q))) : zc_Z g μ pc ls (a3 :: a2 :: a1 :: zv_r o :: st) M Q := by
  refine zr_inv (As := [a1, a2, a3]) (rest := st) hown hV ho hcl hL rfl hw hd rfl (hK.mono ?_)
  intro v M2 h
  rcases v with _ | z | z | z
  all_goals first | exact h | exact absurd h (fun x => x)
theorem zr_inv3L {g : zt_G} {μ : zt_M} {pc : Nat} {ls : List (Option zv_A)} {st : List zv_A} {M : zm_M} {Q : Option zv_A → zm_M → Prop} {own : String} {ix o ci : Nat} {fs : List (Nat ⊕ Nat)} {y : MethodName} {ν : zt_M} {a1 a2 a3 : zv_A} (hown : μ.1 = own) (hV : zt_V own ix y ν 3) (ho : zl_lay[o]? = some (.inl (ci, fs))) (hcl : (zl_cl[ci]?).map (fun q => q.1) = some y.cls) (hL : zt_L μ ν = true) (hw : Nat.ble (zv_w st) 8 = true) (hd : decode μ.2.1 pc = .ok (.invokevirtual ix, 3)) (hK : zc_K g y ν [zv_r o, a1, a2, a3] M (zq_L (fun r M2 => zc_Z g μ (pc + 3) ls (zv_l r :: st) M2 Q))) : zc_Z g μ pc ls (a3 :: a2 :: a1 :: zv_r o :: st) M Q := by
  refine zr_inv (As := [a1, a2, a3]) (rest := st) hown hV ho hcl hL rfl hw hd rfl (hK.mono ?_)
  intro v M2 h
  rcases v with _ | z | z | z
  all_goals first | exact h | exact absurd h (fun x => x)
theorem zr_inv3V {g : zt_G} {μ : zt_M} {pc : Nat} {ls : List (Option zv_A)} {st : List zv_A} {M : zm_M} {Q : Option zv_A → zm_M → Prop} {own : String} {ix o ci : Nat} {fs : List (Nat ⊕ Nat)} {y : MethodName} {ν : zt_M} {a1 a2 a3 : zv_A} (hown : μ.1 = own) (hV : zt_V own ix y ν 3) (ho : zl_lay[o]? = some (.inl (ci, fs))) (hcl : (zl_cl[ci]?).map (fun q => q.1) = some y.cls) (hL : zt_L μ ν = true) (hw : Nat.ble (zv_w st) 8 = true) (hd : decode μ.2.1 pc = .ok (.invokevirtual ix, 3)) (hK : zc_K g y ν [zv_r o, a1, a2, a3] M (zq_V (fun M2 => zc_Z g μ (pc + 3) ls st M2 Q))) : zc_Z g μ pc ls (a3 :: a2 :: a1 :: zv_r o :: st) M Q := by
  refine zr_inv (As := [a1, a2, a3]) (rest := st) hown hV ho hcl hL rfl hw hd rfl (hK.mono ?_)
  intro v M2 h
  rcases v with _ | z | z | z
  all_goals first | exact h | exact absurd h (fun x => x)
theorem zr_inv4I {g : zt_G} {μ : zt_M} {pc : Nat} {ls : List (Option zv_A)} {st : List zv_A} {M : zm_M} {Q : Option zv_A → zm_M → Prop} {own : String} {ix o ci : Nat} {fs : List (Nat ⊕ Nat)} {y : MethodName} {ν : zt_M} {a1 a2 a3 a4 : zv_A} (hown : μ.1 = own) (hV : zt_V own ix y ν 4) (ho : zl_lay[o]? = some (.inl (ci, fs))) (hcl : (zl_cl[ci]?).map (fun q => q.1) = some y.cls) (hL : zt_L μ ν = true) (hw : Nat.ble (zv_w st) 8 = true) (hd : decode μ.2.1 pc = .ok (.invokevirtual ix, 3)) (hK : zc_K g y ν [zv_r o, a1, a2, a3, a4] M (zq_I (fun r M2 => zc_Z g μ (pc + 3) ls (zv_i r :: st) M2 Q))) : zc_Z g μ pc ls (a4 :: a3 :: a2 :: a1 :: zv_r o :: st) M Q := by
  refine zr_inv (As := [a1, a2, a3, a4]) (rest := st) hown hV ho hcl hL rfl hw hd rfl (hK.mono ?_)
  intro v M2 h
  rcases v with _ | z | z | z
  all_goals first | exact h | exact absurd h (fun x => x)
theorem zr_inv4L {g : zt_G} {μ : zt_M} {pc : Nat} {ls : List (Option zv_A)} {st : List zv_A} {M : zm_M} {Q : Option zv_A → zm_M → Prop} {own : String} {ix o ci : Nat} {fs : List (Nat ⊕ Nat)} {y : MethodName} {ν : zt_M} {a1 a2 a3 a4 : zv_A} (hown : μ.1 = own) (hV : zt_V own ix y ν 4) (ho : zl_lay[o]? = some (.inl (ci, fs))) (hcl : (zl_cl[ci]?).map (fun q => q.1) = some y.cls) (hL : zt_L μ ν = true) (hw : Nat.ble (zv_w st) 8 = true) (hd : decode μ.2.1 pc = .ok (.invokevirtual ix, 3)) (hK : zc_K g y ν [zv_r o, a1, a2, a3, a4] M (zq_L (fun r M2 => zc_Z g μ (pc + 3) ls (zv_l r :: st) M2 Q))) : zc_Z g μ pc ls (a4 :: a3 :: a2 :: a1 :: zv_r o :: st) M Q := by
  refine zr_inv (As := [a1, a2, a3, a4]) (rest := st) hown hV ho hcl hL rfl hw hd rfl (hK.mono ?_)
  intro v M2 h
  rcases v with _ | z | z | z
  all_goals first | exact h | exact absurd h (fun x => x)
theorem zr_inv4V {g : zt_G} {μ : zt_M} {pc : Nat} {ls : List (Option zv_A)} {st : List zv_A} {M : zm_M} {Q : Option zv_A → zm_M → Prop} {own : String} {ix o ci : Nat} {fs : List (Nat ⊕ Nat)} {y : MethodName} {ν : zt_M} {a1 a2 a3 a4 : zv_A} (hown : μ.1 = own) (hV : zt_V own ix y ν 4) (ho : zl_lay[o]? = some (.inl (ci, fs))) (hcl : (zl_cl[ci]?).map (fun q => q.1) = some y.cls) (hL : zt_L μ ν = true) (hw : Nat.ble (zv_w st) 8 = true) (hd : decode μ.2.1 pc = .ok (.invokevirtual ix, 3)) (hK : zc_K g y ν [zv_r o, a1, a2, a3, a4] M (zq_V (fun M2 => zc_Z g μ (pc + 3) ls st M2 Q))) : zc_Z g μ pc ls (a4 :: a3 :: a2 :: a1 :: zv_r o :: st) M Q := by
  refine zr_inv (As := [a1, a2, a3, a4]) (rest := st) hown hV ho hcl hL rfl hw hd rfl (hK.mono ?_)
  intro v M2 h
  rcases v with _ | z | z | z
  all_goals first | exact h | exact absurd h (fun x => x)
theorem zr_inv5I {g : zt_G} {μ : zt_M} {pc : Nat} {ls : List (Option zv_A)} {st : List zv_A} {M : zm_M} {Q : Option zv_A → zm_M → Prop} {own : String} {ix o ci : Nat} {fs : List (Nat ⊕ Nat)} {y : MethodName} {ν : zt_M} {a1 a2 a3 a4 a5 : zv_A} (hown : μ.1 = own) (hV : zt_V own ix y ν 5) (ho : zl_lay[o]? = some (.inl (ci, fs))) (hcl : (zl_cl[ci]?).map (fun q => q.1) = some y.cls) (hL : zt_L μ ν = true) (hw : Nat.ble (zv_w st) 8 = true) (hd : decode μ.2.1 pc = .ok (.invokevirtual ix, 3)) (hK : zc_K g y ν [zv_r o, a1, a2, a3, a4, a5] M (zq_I (fun r M2 => zc_Z g μ (pc + 3) ls (zv_i r :: st) M2 Q))) : zc_Z g μ pc ls (a5 :: a4 :: a3 :: a2 :: a1 :: zv_r o :: st) M Q := by
  refine zr_inv (As := [a1, a2, a3, a4, a5]) (rest := st) hown hV ho hcl hL rfl hw hd rfl (hK.mono ?_)
  intro v M2 h
  rcases v with _ | z | z | z
  all_goals first | exact h | exact absurd h (fun x => x)
theorem zr_inv5L {g : zt_G} {μ : zt_M} {pc : Nat} {ls : List (Option zv_A)} {st : List zv_A} {M : zm_M} {Q : Option zv_A → zm_M → Prop} {own : String} {ix o ci : Nat} {fs : List (Nat ⊕ Nat)} {y : MethodName} {ν : zt_M} {a1 a2 a3 a4 a5 : zv_A} (hown : μ.1 = own) (hV : zt_V own ix y ν 5) (ho : zl_lay[o]? = some (.inl (ci, fs))) (hcl : (zl_cl[ci]?).map (fun q => q.1) = some y.cls) (hL : zt_L μ ν = true) (hw : Nat.ble (zv_w st) 8 = true) (hd : decode μ.2.1 pc = .ok (.invokevirtual ix, 3)) (hK : zc_K g y ν [zv_r o, a1, a2, a3, a4, a5] M (zq_L (fun r M2 => zc_Z g μ (pc + 3) ls (zv_l r :: st) M2 Q))) : zc_Z g μ pc ls (a5 :: a4 :: a3 :: a2 :: a1 :: zv_r o :: st) M Q := by
  refine zr_inv (As := [a1, a2, a3, a4, a5]) (rest := st) hown hV ho hcl hL rfl hw hd rfl (hK.mono ?_)
  intro v M2 h
  rcases v with _ | z | z | z
  all_goals first | exact h | exact absurd h (fun x => x)
theorem zr_inv5V {g : zt_G} {μ : zt_M} {pc : Nat} {ls : List (Option zv_A)} {st : List zv_A} {M : zm_M} {Q : Option zv_A → zm_M → Prop} {own : String} {ix o ci : Nat} {fs : List (Nat ⊕ Nat)} {y : MethodName} {ν : zt_M} {a1 a2 a3 a4 a5 : zv_A} (hown : μ.1 = own) (hV : zt_V own ix y ν 5) (ho : zl_lay[o]? = some (.inl (ci, fs))) (hcl : (zl_cl[ci]?).map (fun q => q.1) = some y.cls) (hL : zt_L μ ν = true) (hw : Nat.ble (zv_w st) 8 = true) (hd : decode μ.2.1 pc = .ok (.invokevirtual ix, 3)) (hK : zc_K g y ν [zv_r o, a1, a2, a3, a4, a5] M (zq_V (fun M2 => zc_Z g μ (pc + 3) ls st M2 Q))) : zc_Z g μ pc ls (a5 :: a4 :: a3 :: a2 :: a1 :: zv_r o :: st) M Q := by
  refine zr_inv (As := [a1, a2, a3, a4, a5]) (rest := st) hown hV ho hcl hL rfl hw hd rfl (hK.mono ?_)
  intro v M2 h
  rcases v with _ | z | z | z
  all_goals first | exact h | exact absurd h (fun x => x)
theorem zr_stat1I {g : zt_G} {μ : zt_M} {pc : Nat} {ls : List (Option zv_A)} {st : List zv_A} {M : zm_M} {Q : Option zv_A → zm_M → Prop} {own : String} {ix : Nat} {y : MethodName} {ν : zt_M} {a1 : zv_A} (hown : μ.1 = own) (hV : zt_X own ix y ν 1) (hL : zt_L μ ν = true) (hw : Nat.ble (zv_w st) 8 = true) (hd : decode μ.2.1 pc = .ok (.invokestatic ix, 3)) (hK : zc_K g y ν [a1] M (zq_I (fun r M2 => zc_Z g μ (pc + 3) ls (zv_i r :: st) M2 Q))) : zc_Z g μ pc ls (a1 :: st) M Q := by
  refine zr_stat (As := [a1]) (rest := st) hown hV hL rfl hw hd rfl (hK.mono ?_)
  intro v M2 h
  rcases v with _ | z | z | z
  all_goals first | exact h | exact absurd h (fun x => x)
theorem zr_stat1L {g : zt_G} {μ : zt_M} {pc : Nat} {ls : List (Option zv_A)} {st : List zv_A} {M : zm_M} {Q : Option zv_A → zm_M → Prop} {own : String} {ix : Nat} {y : MethodName} {ν : zt_M} {a1 : zv_A} (hown : μ.1 = own) (hV : zt_X own ix y ν 1) (hL : zt_L μ ν = true) (hw : Nat.ble (zv_w st) 8 = true) (hd : decode μ.2.1 pc = .ok (.invokestatic ix, 3)) (hK : zc_K g y ν [a1] M (zq_L (fun r M2 => zc_Z g μ (pc + 3) ls (zv_l r :: st) M2 Q))) : zc_Z g μ pc ls (a1 :: st) M Q := by
  refine zr_stat (As := [a1]) (rest := st) hown hV hL rfl hw hd rfl (hK.mono ?_)
  intro v M2 h
  rcases v with _ | z | z | z
  all_goals first | exact h | exact absurd h (fun x => x)
theorem zr_stat1V {g : zt_G} {μ : zt_M} {pc : Nat} {ls : List (Option zv_A)} {st : List zv_A} {M : zm_M} {Q : Option zv_A → zm_M → Prop} {own : String} {ix : Nat} {y : MethodName} {ν : zt_M} {a1 : zv_A} (hown : μ.1 = own) (hV : zt_X own ix y ν 1) (hL : zt_L μ ν = true) (hw : Nat.ble (zv_w st) 8 = true) (hd : decode μ.2.1 pc = .ok (.invokestatic ix, 3)) (hK : zc_K g y ν [a1] M (zq_V (fun M2 => zc_Z g μ (pc + 3) ls st M2 Q))) : zc_Z g μ pc ls (a1 :: st) M Q := by
  refine zr_stat (As := [a1]) (rest := st) hown hV hL rfl hw hd rfl (hK.mono ?_)
  intro v M2 h
  rcases v with _ | z | z | z
  all_goals first | exact h | exact absurd h (fun x => x)
theorem zr_stat2I {g : zt_G} {μ : zt_M} {pc : Nat} {ls : List (Option zv_A)} {st : List zv_A} {M : zm_M} {Q : Option zv_A → zm_M → Prop} {own : String} {ix : Nat} {y : MethodName} {ν : zt_M} {a1 a2 : zv_A} (hown : μ.1 = own) (hV : zt_X own ix y ν 2) (hL : zt_L μ ν = true) (hw : Nat.ble (zv_w st) 8 = true) (hd : decode μ.2.1 pc = .ok (.invokestatic ix, 3)) (hK : zc_K g y ν [a1, a2] M (zq_I (fun r M2 => zc_Z g μ (pc + 3) ls (zv_i r :: st) M2 Q))) : zc_Z g μ pc ls (a2 :: a1 :: st) M Q := by
  refine zr_stat (As := [a1, a2]) (rest := st) hown hV hL rfl hw hd rfl (hK.mono ?_)
  intro v M2 h
  rcases v with _ | z | z | z
  all_goals first | exact h | exact absurd h (fun x => x)
theorem zr_stat2L {g : zt_G} {μ : zt_M} {pc : Nat} {ls : List (Option zv_A)} {st : List zv_A} {M : zm_M} {Q : Option zv_A → zm_M → Prop} {own : String} {ix : Nat} {y : MethodName} {ν : zt_M} {a1 a2 : zv_A} (hown : μ.1 = own) (hV : zt_X own ix y ν 2) (hL : zt_L μ ν = true) (hw : Nat.ble (zv_w st) 8 = true) (hd : decode μ.2.1 pc = .ok (.invokestatic ix, 3)) (hK : zc_K g y ν [a1, a2] M (zq_L (fun r M2 => zc_Z g μ (pc + 3) ls (zv_l r :: st) M2 Q))) : zc_Z g μ pc ls (a2 :: a1 :: st) M Q := by
  refine zr_stat (As := [a1, a2]) (rest := st) hown hV hL rfl hw hd rfl (hK.mono ?_)
  intro v M2 h
  rcases v with _ | z | z | z
  all_goals first | exact h | exact absurd h (fun x => x)
theorem zr_stat2V {g : zt_G} {μ : zt_M} {pc : Nat} {ls : List (Option zv_A)} {st : List zv_A} {M : zm_M} {Q : Option zv_A → zm_M → Prop} {own : String} {ix : Nat} {y : MethodName} {ν : zt_M} {a1 a2 : zv_A} (hown : μ.1 = own) (hV : zt_X own ix y ν 2) (hL : zt_L μ ν = true) (hw : Nat.ble (zv_w st) 8 = true) (hd : decode μ.2.1 pc = .ok (.invokestatic ix, 3)) (hK : zc_K g y ν [a1, a2] M (zq_V (fun M2 => zc_Z g μ (pc + 3) ls st M2 Q))) : zc_Z g μ pc ls (a2 :: a1 :: st) M Q := by
  refine zr_stat (As := [a1, a2]) (rest := st) hown hV hL rfl hw hd rfl (hK.mono ?_)
  intro v M2 h
  rcases v with _ | z | z | z
  all_goals first | exact h | exact absurd h (fun x => x)
theorem zr_stat3I {g : zt_G} {μ : zt_M} {pc : Nat} {ls : List (Option zv_A)} {st : List zv_A} {M : zm_M} {Q : Option zv_A → zm_M → Prop} {own : String} {ix : Nat} {y : MethodName} {ν : zt_M} {a1 a2 a3 : zv_A} (hown : μ.1 = own) (hV : zt_X own ix y ν 3) (hL : zt_L μ ν = true) (hw : Nat.ble (zv_w st) 8 = true) (hd : decode μ.2.1 pc = .ok (.invokestatic ix, 3)) (hK : zc_K g y ν [a1, a2, a3] M (zq_I (fun r M2 => zc_Z g μ (pc + 3) ls (zv_i r :: st) M2 Q))) : zc_Z g μ pc ls (a3 :: a2 :: a1 :: st) M Q := by
  refine zr_stat (As := [a1, a2, a3]) (rest := st) hown hV hL rfl hw hd rfl (hK.mono ?_)
  intro v M2 h
  rcases v with _ | z | z | z
  all_goals first | exact h | exact absurd h (fun x => x)
theorem zr_stat3L {g : zt_G} {μ : zt_M} {pc : Nat} {ls : List (Option zv_A)} {st : List zv_A} {M : zm_M} {Q : Option zv_A → zm_M → Prop} {own : String} {ix : Nat} {y : MethodName} {ν : zt_M} {a1 a2 a3 : zv_A} (hown : μ.1 = own) (hV : zt_X own ix y ν 3) (hL : zt_L μ ν = true) (hw : Nat.ble (zv_w st) 8 = true) (hd : decode μ.2.1 pc = .ok (.invokestatic ix, 3)) (hK : zc_K g y ν [a1, a2, a3] M (zq_L (fun r M2 => zc_Z g μ (pc + 3) ls (zv_l r :: st) M2 Q))) : zc_Z g μ pc ls (a3 :: a2 :: a1 :: st) M Q := by
  refine zr_stat (As := [a1, a2, a3]) (rest := st) hown hV hL rfl hw hd rfl (hK.mono ?_)
  intro v M2 h
  rcases v with _ | z | z | z
  all_goals first | exact h | exact absurd h (fun x => x)
theorem zr_stat3V {g : zt_G} {μ : zt_M} {pc : Nat} {ls : List (Option zv_A)} {st : List zv_A} {M : zm_M} {Q : Option zv_A → zm_M → Prop} {own : String} {ix : Nat} {y : MethodName} {ν : zt_M} {a1 a2 a3 : zv_A} (hown : μ.1 = own) (hV : zt_X own ix y ν 3) (hL : zt_L μ ν = true) (hw : Nat.ble (zv_w st) 8 = true) (hd : decode μ.2.1 pc = .ok (.invokestatic ix, 3)) (hK : zc_K g y ν [a1, a2, a3] M (zq_V (fun M2 => zc_Z g μ (pc + 3) ls st M2 Q))) : zc_Z g μ pc ls (a3 :: a2 :: a1 :: st) M Q := by
  refine zr_stat (As := [a1, a2, a3]) (rest := st) hown hV hL rfl hw hd rfl (hK.mono ?_)
  intro v M2 h
  rcases v with _ | z | z | z
  all_goals first | exact h | exact absurd h (fun x => x)
theorem zr_stat4I {g : zt_G} {μ : zt_M} {pc : Nat} {ls : List (Option zv_A)} {st : List zv_A} {M : zm_M} {Q : Option zv_A → zm_M → Prop} {own : String} {ix : Nat} {y : MethodName} {ν : zt_M} {a1 a2 a3 a4 : zv_A} (hown : μ.1 = own) (hV : zt_X own ix y ν 4) (hL : zt_L μ ν = true) (hw : Nat.ble (zv_w st) 8 = true) (hd : decode μ.2.1 pc = .ok (.invokestatic ix, 3)) (hK : zc_K g y ν [a1, a2, a3, a4] M (zq_I (fun r M2 => zc_Z g μ (pc + 3) ls (zv_i r :: st) M2 Q))) : zc_Z g μ pc ls (a4 :: a3 :: a2 :: a1 :: st) M Q := by
  refine zr_stat (As := [a1, a2, a3, a4]) (rest := st) hown hV hL rfl hw hd rfl (hK.mono ?_)
  intro v M2 h
  rcases v with _ | z | z | z
  all_goals first | exact h | exact absurd h (fun x => x)
theorem zr_stat4L {g : zt_G} {μ : zt_M} {pc : Nat} {ls : List (Option zv_A)} {st : List zv_A} {M : zm_M} {Q : Option zv_A → zm_M → Prop} {own : String} {ix : Nat} {y : MethodName} {ν : zt_M} {a1 a2 a3 a4 : zv_A} (hown : μ.1 = own) (hV : zt_X own ix y ν 4) (hL : zt_L μ ν = true) (hw : Nat.ble (zv_w st) 8 = true) (hd : decode μ.2.1 pc = .ok (.invokestatic ix, 3)) (hK : zc_K g y ν [a1, a2, a3, a4] M (zq_L (fun r M2 => zc_Z g μ (pc + 3) ls (zv_l r :: st) M2 Q))) : zc_Z g μ pc ls (a4 :: a3 :: a2 :: a1 :: st) M Q := by
  refine zr_stat (As := [a1, a2, a3, a4]) (rest := st) hown hV hL rfl hw hd rfl (hK.mono ?_)
  intro v M2 h
  rcases v with _ | z | z | z
  all_goals first | exact h | exact absurd h (fun x => x)
theorem zr_stat4V {g : zt_G} {μ : zt_M} {pc : Nat} {ls : List (Option zv_A)} {st : List zv_A} {M : zm_M} {Q : Option zv_A → zm_M → Prop} {own : String} {ix : Nat} {y : MethodName} {ν : zt_M} {a1 a2 a3 a4 : zv_A} (hown : μ.1 = own) (hV : zt_X own ix y ν 4) (hL : zt_L μ ν = true) (hw : Nat.ble (zv_w st) 8 = true) (hd : decode μ.2.1 pc = .ok (.invokestatic ix, 3)) (hK : zc_K g y ν [a1, a2, a3, a4] M (zq_V (fun M2 => zc_Z g μ (pc + 3) ls st M2 Q))) : zc_Z g μ pc ls (a4 :: a3 :: a2 :: a1 :: st) M Q := by
  refine zr_stat (As := [a1, a2, a3, a4]) (rest := st) hown hV hL rfl hw hd rfl (hK.mono ?_)
  intro v M2 h
  rcases v with _ | z | z | z
  all_goals first | exact h | exact absurd h (fun x => x)
theorem zr_stat5I {g : zt_G} {μ : zt_M} {pc : Nat} {ls : List (Option zv_A)} {st : List zv_A} {M : zm_M} {Q : Option zv_A → zm_M → Prop} {own : String} {ix : Nat} {y : MethodName} {ν : zt_M} {a1 a2 a3 a4 a5 : zv_A} (hown : μ.1 = own) (hV : zt_X own ix y ν 5) (hL : zt_L μ ν = true) (hw : Nat.ble (zv_w st) 8 = true) (hd : decode μ.2.1 pc = .ok (.invokestatic ix, 3)) (hK : zc_K g y ν [a1, a2, a3, a4, a5] M (zq_I (fun r M2 => zc_Z g μ (pc + 3) ls (zv_i r :: st) M2 Q))) : zc_Z g μ pc ls (a5 :: a4 :: a3 :: a2 :: a1 :: st) M Q := by
  refine zr_stat (As := [a1, a2, a3, a4, a5]) (rest := st) hown hV hL rfl hw hd rfl (hK.mono ?_)
  intro v M2 h
  rcases v with _ | z | z | z
  all_goals first | exact h | exact absurd h (fun x => x)
theorem zr_stat5L {g : zt_G} {μ : zt_M} {pc : Nat} {ls : List (Option zv_A)} {st : List zv_A} {M : zm_M} {Q : Option zv_A → zm_M → Prop} {own : String} {ix : Nat} {y : MethodName} {ν : zt_M} {a1 a2 a3 a4 a5 : zv_A} (hown : μ.1 = own) (hV : zt_X own ix y ν 5) (hL : zt_L μ ν = true) (hw : Nat.ble (zv_w st) 8 = true) (hd : decode μ.2.1 pc = .ok (.invokestatic ix, 3)) (hK : zc_K g y ν [a1, a2, a3, a4, a5] M (zq_L (fun r M2 => zc_Z g μ (pc + 3) ls (zv_l r :: st) M2 Q))) : zc_Z g μ pc ls (a5 :: a4 :: a3 :: a2 :: a1 :: st) M Q := by
  refine zr_stat (As := [a1, a2, a3, a4, a5]) (rest := st) hown hV hL rfl hw hd rfl (hK.mono ?_)
  intro v M2 h
  rcases v with _ | z | z | z
  all_goals first | exact h | exact absurd h (fun x => x)
theorem zr_stat5V {g : zt_G} {μ : zt_M} {pc : Nat} {ls : List (Option zv_A)} {st : List zv_A} {M : zm_M} {Q : Option zv_A → zm_M → Prop} {own : String} {ix : Nat} {y : MethodName} {ν : zt_M} {a1 a2 a3 a4 a5 : zv_A} (hown : μ.1 = own) (hV : zt_X own ix y ν 5) (hL : zt_L μ ν = true) (hw : Nat.ble (zv_w st) 8 = true) (hd : decode μ.2.1 pc = .ok (.invokestatic ix, 3)) (hK : zc_K g y ν [a1, a2, a3, a4, a5] M (zq_V (fun M2 => zc_Z g μ (pc + 3) ls st M2 Q))) : zc_Z g μ pc ls (a5 :: a4 :: a3 :: a2 :: a1 :: st) M Q := by
  refine zr_stat (As := [a1, a2, a3, a4, a5]) (rest := st) hown hV hL rfl hw hd rfl (hK.mono ?_)
  intro v M2 h
  rcases v with _ | z | z | z
  all_goals first | exact h | exact absurd h (fun x => x)
theorem zr_nest1I {g : zt_G} {μ : zt_M} {pc : Nat} {ls : List (Option zv_A)} {st : List zv_A} {M : zm_M} {Q : Option zv_A → zm_M → Prop} {own : String} {ix : Nat} {y : MethodName} {ν : zt_M} {a1 : zv_A} (hown : μ.1 = own) (hV : zt_N own ix y ν 1) (hL : zt_L μ ν = true) (hw : Nat.ble (zv_w st) 8 = true) (hd : decode μ.2.1 pc = .ok (.invokestatic ix, 3)) (hK : zc_K g y ν [a1] M (zq_I (fun r M2 => zc_Z g μ (pc + 3) ls (zv_i r :: st) M2 Q))) : zc_Z g μ pc ls (a1 :: st) M Q := by
  refine zr_nest (As := [a1]) (rest := st) hown hV hL rfl hw hd rfl (hK.mono ?_)
  intro v M2 h
  rcases v with _ | z | z | z
  all_goals first | exact h | exact absurd h (fun x => x)
theorem zr_nest1L {g : zt_G} {μ : zt_M} {pc : Nat} {ls : List (Option zv_A)} {st : List zv_A} {M : zm_M} {Q : Option zv_A → zm_M → Prop} {own : String} {ix : Nat} {y : MethodName} {ν : zt_M} {a1 : zv_A} (hown : μ.1 = own) (hV : zt_N own ix y ν 1) (hL : zt_L μ ν = true) (hw : Nat.ble (zv_w st) 8 = true) (hd : decode μ.2.1 pc = .ok (.invokestatic ix, 3)) (hK : zc_K g y ν [a1] M (zq_L (fun r M2 => zc_Z g μ (pc + 3) ls (zv_l r :: st) M2 Q))) : zc_Z g μ pc ls (a1 :: st) M Q := by
  refine zr_nest (As := [a1]) (rest := st) hown hV hL rfl hw hd rfl (hK.mono ?_)
  intro v M2 h
  rcases v with _ | z | z | z
  all_goals first | exact h | exact absurd h (fun x => x)
theorem zr_nest1V {g : zt_G} {μ : zt_M} {pc : Nat} {ls : List (Option zv_A)} {st : List zv_A} {M : zm_M} {Q : Option zv_A → zm_M → Prop} {own : String} {ix : Nat} {y : MethodName} {ν : zt_M} {a1 : zv_A} (hown : μ.1 = own) (hV : zt_N own ix y ν 1) (hL : zt_L μ ν = true) (hw : Nat.ble (zv_w st) 8 = true) (hd : decode μ.2.1 pc = .ok (.invokestatic ix, 3)) (hK : zc_K g y ν [a1] M (zq_V (fun M2 => zc_Z g μ (pc + 3) ls st M2 Q))) : zc_Z g μ pc ls (a1 :: st) M Q := by
  refine zr_nest (As := [a1]) (rest := st) hown hV hL rfl hw hd rfl (hK.mono ?_)
  intro v M2 h
  rcases v with _ | z | z | z
  all_goals first | exact h | exact absurd h (fun x => x)
theorem zr_mabs {g : zt_G} {μ : zt_M} {pc : Nat} {ls : List (Option zv_A)} {st : List zv_A} {M : zm_M} {Q : Option zv_A → zm_M → Prop} {own : String} {ix : Nat} {a : Int} (hown : μ.1 = own) (hw : ∀ w ∈ [Cond.methodLink own ix Lib.Math.abs.name, Cond.static Lib.Math.abs.name, Cond.initialized "java/lang/Math", Cond.code Lib.Math.abs.name Lib.Math.abs.code 1 (some .int)], w ∈ zt_tb) (hr : (Nat.ble 1 μ.2.2.2.2.1.frames && Nat.ble (zv_w st + 13) μ.2.2.2.2.1.locals) = true) (hd : decode μ.2.1 pc = .ok (.invokestatic ix, 3)) (k : zc_Z g μ (pc + 3) ls (zv_i (if 0 ≤ zw a then a else 0 - a) :: st) M Q) : zc_Z g μ pc ls (zv_i a :: st) M Q := by
  intro p e s m args below meth c Qf H locs la C hf hP hS hl
  subst hown
  rw [Bool.and_eq_true] at hr
  have hts := C.2.2.2.2.1
  have k2 := k p e s m args below meth c Qf H locs la C hf hP hS hl
  have e1 : Int32.ofInt (if 0 ≤ zw a then a else 0 - a) = if 0 ≤ Int32.ofInt a then Int32.ofInt a else 0 - Int32.ofInt a := by
    have z0 : zw 0 = 0 := by decide
    rw [zw_0]
    simp only [zw_le, z0]
    split
    · rfl
    · rw [Int32.ofInt_sub]
  rw [show (zv_i (if 0 ≤ zw a then a else 0 - a) :: st).map (zv_c g) = .int (Int32.ofInt (if 0 ≤ zw a then a else 0 - a)) :: st.map (zv_c g) from rfl, e1] at k2
  exact va_mabs C.1 C.2.1 (by rw [C.2.2.1]; exact hl.1.symm) C.2.2.2.1 (hts _ (hw _ (by simp))) (hts _ (hw _ (by simp))) (hts _ (hw _ (by simp))) (hts _ (hw _ (by simp))) (Nat.le_of_ble_eq_true hr.1) (by rw [zv_w_eq]; exact Nat.le_of_ble_eq_true hr.2) C.2.2.2.2.2.2.1 C.2.2.2.2.2.2.2 hd k2
theorem zr_mmin {g : zt_G} {μ : zt_M} {pc : Nat} {ls : List (Option zv_A)} {st : List zv_A} {M : zm_M} {Q : Option zv_A → zm_M → Prop} {own : String} {ix : Nat} {a b : Int} (hown : μ.1 = own) (hw : ∀ w ∈ [Cond.methodLink own ix Lib.Math.min.name, Cond.static Lib.Math.min.name, Cond.initialized "java/lang/Math", Cond.code Lib.Math.min.name Lib.Math.min.code 2 (some .int)], w ∈ zt_tb) (hr : (Nat.ble 1 μ.2.2.2.2.1.frames && Nat.ble (zv_w st + 13) μ.2.2.2.2.1.locals) = true) (hd : decode μ.2.1 pc = .ok (.invokestatic ix, 3)) (k : zc_Z g μ (pc + 3) ls (zv_i (if zw b < zw a then b else a) :: st) M Q) : zc_Z g μ pc ls (zv_i b :: zv_i a :: st) M Q := by
  intro p e s m args below meth c Qf H locs la C hf hP hS hl
  subst hown
  rw [Bool.and_eq_true] at hr
  have hts := C.2.2.2.2.1
  have k2 := k p e s m args below meth c Qf H locs la C hf hP hS hl
  have e1 : Int32.ofInt (if zw b < zw a then b else a) = if Int32.ofInt b < Int32.ofInt a then Int32.ofInt b else Int32.ofInt a := by
    simp only [zw_lt]
    split <;> rfl
  rw [show (zv_i (if zw b < zw a then b else a) :: st).map (zv_c g) = .int (Int32.ofInt (if zw b < zw a then b else a)) :: st.map (zv_c g) from rfl, e1] at k2
  exact va_mmin C.1 C.2.1 (by rw [C.2.2.1]; exact hl.1.symm) C.2.2.2.1 (hts _ (hw _ (by simp))) (hts _ (hw _ (by simp))) (hts _ (hw _ (by simp))) (hts _ (hw _ (by simp))) (Nat.le_of_ble_eq_true hr.1) (by rw [zv_w_eq]; exact Nat.le_of_ble_eq_true hr.2) C.2.2.2.2.2.2.1 C.2.2.2.2.2.2.2 hd k2
theorem zr_mmax {g : zt_G} {μ : zt_M} {pc : Nat} {ls : List (Option zv_A)} {st : List zv_A} {M : zm_M} {Q : Option zv_A → zm_M → Prop} {own : String} {ix : Nat} {a b : Int} (hown : μ.1 = own) (hw : ∀ w ∈ [Cond.methodLink own ix Lib.Math.max.name, Cond.static Lib.Math.max.name, Cond.initialized "java/lang/Math", Cond.code Lib.Math.max.name Lib.Math.max.code 2 (some .int)], w ∈ zt_tb) (hr : (Nat.ble 1 μ.2.2.2.2.1.frames && Nat.ble (zv_w st + 13) μ.2.2.2.2.1.locals) = true) (hd : decode μ.2.1 pc = .ok (.invokestatic ix, 3)) (k : zc_Z g μ (pc + 3) ls (zv_i (if zw a < zw b then b else a) :: st) M Q) : zc_Z g μ pc ls (zv_i b :: zv_i a :: st) M Q := by
  intro p e s m args below meth c Qf H locs la C hf hP hS hl
  subst hown
  rw [Bool.and_eq_true] at hr
  have hts := C.2.2.2.2.1
  have k2 := k p e s m args below meth c Qf H locs la C hf hP hS hl
  have e1 : Int32.ofInt (if zw a < zw b then b else a) = if Int32.ofInt a < Int32.ofInt b then Int32.ofInt b else Int32.ofInt a := by
    simp only [zw_lt]
    split <;> rfl
  rw [show (zv_i (if zw a < zw b then b else a) :: st).map (zv_c g) = .int (Int32.ofInt (if zw a < zw b then b else a)) :: st.map (zv_c g) from rfl, e1] at k2
  exact va_mmax C.1 C.2.1 (by rw [C.2.2.1]; exact hl.1.symm) C.2.2.2.1 (hts _ (hw _ (by simp))) (hts _ (hw _ (by simp))) (hts _ (hw _ (by simp))) (hts _ (hw _ (by simp))) (Nat.le_of_ble_eq_true hr.1) (by rw [zv_w_eq]; exact Nat.le_of_ble_eq_true hr.2) C.2.2.2.2.2.2.1 C.2.2.2.2.2.2.2 hd k2
theorem zr_copyi {g : zt_G} {μ : zt_M} {pc : Nat} {ls : List (Option zv_A)} {st : List zv_A} {M : zm_M} {Q : Option zv_A → zm_M → Prop} {own : String} {ix a b n0 n1 : Nat} {sp dp n : Int} (hown : μ.1 = own) (hw : ∀ w ∈ [Cond.methodLink own ix arraycopyName, Cond.native arraycopyName, Cond.static arraycopyName, Cond.initialized "java/lang/System"], w ∈ zt_tb) (ha : zl_lay[a]? = some (.inr (0, n0))) (hb : zl_lay[b]? = some (.inr (0, n1))) (h1 : 0 ≤ sp ∧ 0 ≤ dp ∧ 0 ≤ n) (h2 : sp + n ≤ n0 ∧ dp + n ≤ n1) (hr : (Nat.ble 1 μ.2.2.2.2.1.frames && Nat.ble (zv_w st + 18) μ.2.2.2.2.1.locals) = true) (hd : decode μ.2.1 pc = .ok (.invokestatic ix, 3)) (k : zc_Z g μ (pc + 3) ls st (zm_cpy M a sp b dp n) Q) : zc_Z g μ pc ls (zv_i n :: zv_i dp :: zv_r b :: zv_i sp :: zv_r a :: st) M Q := by
  intro p e s m args below meth c Qf H locs la C hf hP hS hl
  subst hown
  obtain ⟨h1a, h1b, h1c⟩ := h1
  obtain ⟨h2a, h2b⟩ := h2
  rw [Bool.and_eq_true] at hr
  have hts := C.2.2.2.2.1
  have l0 := zl_len ha
  have l1 := zl_len hb
  have nn : ∀ z : Int, 0 ≤ z → z ≤ 4096 → ¬ Int32.ofInt z < 0 := by
    intro z hz hz2
    rw [zw_0, zw_lt, zw_id (by omega) (by omega), zw_id (by omega) (by omega)]
    omega
  have c1 : (Int32.ofInt sp).toNatClampNeg = sp.toNat := zw_cl h1a (by omega)
  have c2 : (Int32.ofInt dp).toNatClampNeg = dp.toNat := zw_cl h1b (by omega)
  have c3 : (Int32.ofInt n).toNatClampNeg = n.toNat := zw_cl h1c (by omega)
  refine va_copyi C.1 C.2.1 (by rw [C.2.2.1]; exact hl.1.symm) C.2.2.2.1 (hts _ (hw _ (by simp))) (hts _ (hw _ (by simp))) (hts _ (hw _ (by simp))) (hts _ (hw _ (by simp))) C.2.2.2.2.2.1.2.2.2.2.2.2 hP (zl_D M C.2.2.2.2.2.1.2.2.2.2.2.1) hS a b 0 0 (by rw [zl_w_at g M (zl_lt ha), zl_ct_a ha]; rfl) (by rw [zl_w_at g M (zl_lt hb), zl_ct_a hb]; rfl) rfl rfl rfl (nn _ h1a (by omega)) (nn _ h1b (by omega)) (nn _ h1c (by omega)) (by rw [c1, c3]; omega) (by rw [c2, c3]; omega) (fun _ _ => rfl) (Nat.le_of_ble_eq_true hr.1) (by rw [zv_w_eq]; exact Nat.le_of_ble_eq_true hr.2) hd (fun H1 locs1 hP1 hD1 hS1 => ?_)
  rw [c1, c2, c3] at hP1
  have hws := zl_w_set (g := g) (M := M) (M2 := zm_cpy M a sp b dp n) (k := b) (zl_lt hb) (zl_ct_a hb) (fun x hx i => by unfold zm_cpy; rw [if_neg (fun y => hx y.1)])
  have he : zl_av (zm_cpy M a sp b dp n) b 0 = .inl (va_cpy (fun j => Int32.ofInt (M a (j : Int))) (fun j => Int32.ofInt (M b (j : Int))) sp.toNat dp.toNat n.toNat) := by
    unfold zl_av
    simp only []
    congr 1
    funext j
    unfold va_cpy zm_cpy
    by_cases hj : dp.toNat ≤ j ∧ j < dp.toNat + n.toNat
    · rw [if_pos hj, if_pos ⟨rfl, by omega, by omega⟩]
      congr 2
      omega
    · rw [if_neg hj, if_neg (fun x => hj ⟨by omega, by omega⟩)]
  rw [he] at hws
  have hP2 : va_P (zg_D g) zl_cl (zl_w g (zm_cpy M a sp b dp n)) H1 := by
    rw [← hws]
    exact hP1
  exact k p e s m args below meth c Qf H1 locs1 la C hf hP2 hS1 hl
theorem zr_copyl {g : zt_G} {μ : zt_M} {pc : Nat} {ls : List (Option zv_A)} {st : List zv_A} {M : zm_M} {Q : Option zv_A → zm_M → Prop} {own : String} {ix a b n0 n1 : Nat} {sp dp n : Int} (hown : μ.1 = own) (hw : ∀ w ∈ [Cond.methodLink own ix arraycopyName, Cond.native arraycopyName, Cond.static arraycopyName, Cond.initialized "java/lang/System"], w ∈ zt_tb) (ha : zl_lay[a]? = some (.inr (1, n0))) (hb : zl_lay[b]? = some (.inr (1, n1))) (h1 : 0 ≤ sp ∧ 0 ≤ dp ∧ 0 ≤ n) (h2 : sp + n ≤ n0 ∧ dp + n ≤ n1) (hr : (Nat.ble 1 μ.2.2.2.2.1.frames && Nat.ble (zv_w st + 18) μ.2.2.2.2.1.locals) = true) (hd : decode μ.2.1 pc = .ok (.invokestatic ix, 3)) (k : zc_Z g μ (pc + 3) ls st (zm_cpy M a sp b dp n) Q) : zc_Z g μ pc ls (zv_i n :: zv_i dp :: zv_r b :: zv_i sp :: zv_r a :: st) M Q := by
  intro p e s m args below meth c Qf H locs la C hf hP hS hl
  subst hown
  obtain ⟨h1a, h1b, h1c⟩ := h1
  obtain ⟨h2a, h2b⟩ := h2
  rw [Bool.and_eq_true] at hr
  have hts := C.2.2.2.2.1
  have l0 := zl_len ha
  have l1 := zl_len hb
  have nn : ∀ z : Int, 0 ≤ z → z ≤ 4096 → ¬ Int32.ofInt z < 0 := by
    intro z hz hz2
    rw [zw_0, zw_lt, zw_id (by omega) (by omega), zw_id (by omega) (by omega)]
    omega
  have c1 : (Int32.ofInt sp).toNatClampNeg = sp.toNat := zw_cl h1a (by omega)
  have c2 : (Int32.ofInt dp).toNatClampNeg = dp.toNat := zw_cl h1b (by omega)
  have c3 : (Int32.ofInt n).toNatClampNeg = n.toNat := zw_cl h1c (by omega)
  refine va_copyl C.1 C.2.1 (by rw [C.2.2.1]; exact hl.1.symm) C.2.2.2.1 (hts _ (hw _ (by simp))) (hts _ (hw _ (by simp))) (hts _ (hw _ (by simp))) (hts _ (hw _ (by simp))) C.2.2.2.2.2.1.2.2.2.2.2.2 hP (zl_D M C.2.2.2.2.2.1.2.2.2.2.2.1) hS a b 1 1 (by rw [zl_w_at g M (zl_lt ha), zl_ct_a ha]; rfl) (by rw [zl_w_at g M (zl_lt hb), zl_ct_a hb]; rfl) rfl rfl rfl (nn _ h1a (by omega)) (nn _ h1b (by omega)) (nn _ h1c (by omega)) (by rw [c1, c3]; omega) (by rw [c2, c3]; omega) (fun _ _ => rfl) (Nat.le_of_ble_eq_true hr.1) (by rw [zv_w_eq]; exact Nat.le_of_ble_eq_true hr.2) hd (fun H1 locs1 hP1 hD1 hS1 => ?_)
  rw [c1, c2, c3] at hP1
  have hws := zl_w_set (g := g) (M := M) (M2 := zm_cpy M a sp b dp n) (k := b) (zl_lt hb) (zl_ct_a hb) (fun x hx i => by unfold zm_cpy; rw [if_neg (fun y => hx y.1)])
  have he : zl_av (zm_cpy M a sp b dp n) b 1 = .inr (.inl (va_cpy (fun j => Int64.ofInt (M a (j : Int))) (fun j => Int64.ofInt (M b (j : Int))) sp.toNat dp.toNat n.toNat)) := by
    unfold zl_av
    simp only []
    congr 1
    congr 1
    funext j
    unfold va_cpy zm_cpy
    by_cases hj : dp.toNat ≤ j ∧ j < dp.toNat + n.toNat
    · rw [if_pos hj, if_pos ⟨rfl, by omega, by omega⟩]
      congr 2
      omega
    · rw [if_neg hj, if_neg (fun x => hj ⟨by omega, by omega⟩)]
  rw [he] at hws
  have hP2 : va_P (zg_D g) zl_cl (zl_w g (zm_cpy M a sp b dp n)) H1 := by
    rw [← hws]
    exact hP1
  exact k p e s m args below meth c Qf H1 locs1 la C hf hP2 hS1 hl
def zk_row (a : Int) : Int := if a = 0 then 1 else if a = 1 then 1000 else if a = 2 then 1000000 else if a = 3 then 1000000000 else 1000000000000
theorem zr_gets {g : zt_G} {μ : zt_M} {pc : Nat} {ls : List (Option zv_A)} {st : List zv_A} {M : zm_M} {Q : Option zv_A → zm_M → Prop} {ix : Nat} (hw : Cond.fieldLink "ChalkTramps" ix "ChalkTramps" "DOING_ROWS" "[J" ∈ zt_tb) (hown : μ.1 = "ChalkTramps") (hd : decode μ.2.1 pc = .ok (.getstatic ix, 3)) (k : zc_Z g μ (pc + 3) ls (zv_r 64 :: st) M Q) : zc_Z g μ pc ls st M Q := by
  intro p e s m args below meth c Qf H locs la C hf hP hS hl
  have ho := C.2.2.2.1
  rw [hown] at ho
  exact va_gets C.1 C.2.1 C.2.2.2.2.2.1.2.1 hS ho (C.2.2.2.2.1 _ hw) (fun _ h => h) hd (k p e s m args below meth c Qf H locs la C hf hP hS hl)
theorem zr_rowld {g : zt_G} {μ : zt_M} {pc : Nat} {ls : List (Option zv_A)} {st : List zv_A} {M : zm_M} {Q : Option zv_A → zm_M → Prop} {a : Int} (hi : 0 ≤ a ∧ a < 5) (hd : decode μ.2.1 pc = .ok (.laload, 1)) (k : zc_Z g μ (pc + 1) ls (zv_l (zk_row a) :: st) M Q) : zc_Z g μ pc ls (zv_i a :: zv_r 64 :: st) M Q := by
  intro p e s m args below meth c Qf H locs la C hf hP hS hl
  refine va_tl C.1 C.2.1 C.2.2.2.2.2.1.2.2.1 hS (zw_in (n := 5) hi.1 hi.2 (by decide)) (v := .long (Int64.ofInt (zk_row a))) ?_ hd (k p e s m args below meth c Qf H locs la C hf hP hS hl)
  rw [zw_cl hi.1 (by omega)]
  obtain ⟨h0, h1⟩ := hi
  rcases (by omega : a = 0 ∨ a = 1 ∨ a = 2 ∨ a = 3 ∨ a = 4) with rfl | rfl | rfl | rfl | rfl <;> rfl
def zg_s (g : zt_G) (a : Int) : Int := (zg_x g a.toNat).toInt
theorem zr_scr {g : zt_G} {μ : zt_M} {pc : Nat} {ls : List (Option zv_A)} {st : List zv_A} {M : zm_M} {Q : Option zv_A → zm_M → Prop} {a : Int} (hL : zg_L g ≤ 4096) (hi : 0 ≤ a ∧ a < zg_L g) (hd : decode μ.2.1 pc = .ok (.iaload, 1)) (k : zc_Z g μ (pc + 1) ls (zv_i (zg_s g a) :: st) M Q) : zc_Z g μ pc ls (zv_i a :: zv_r 63 :: st) M Q := by
  intro p e s m args below meth c Qf H locs la C hf hP hS hl
  obtain ⟨-, -, -, hX, ⟨hb1, hb2⟩, -⟩ := C.2.2.2.2.2.1
  refine va_sld C.1 C.2.1 hX hb1 hb2 hS (zw_in hi.1 hi.2 hL) hd ?_
  have k2 := k p e s m args below meth c Qf H locs la C hf hP hS hl
  rw [show (zv_i (zg_s g a) :: st).map (zv_c g) = .int (Int32.ofInt (zg_s g a)) :: st.map (zv_c g) from rfl, show Int32.ofInt (zg_s g a) = zg_x g a.toNat from Int32.ofInt_toInt _] at k2
  rw [zw_cl hi.1 (by omega)]
  exact k2
theorem zr_slen {g : zt_G} {μ : zt_M} {pc : Nat} {ls : List (Option zv_A)} {st : List zv_A} {M : zm_M} {Q : Option zv_A → zm_M → Prop} (hd : decode μ.2.1 pc = .ok (.arraylength, 1)) (k : zc_Z g μ (pc + 1) ls (zv_i (zg_L g) :: st) M Q) : zc_Z g μ pc ls (zv_r 63 :: st) M Q := by
  intro p e s m args below meth c Qf H locs la C hf hP hS hl
  obtain ⟨-, -, -, hX, ⟨hb1, hb2⟩, -⟩ := C.2.2.2.2.2.1
  refine va_slen C.1 C.2.1 hX hb1 hb2 hS hd ?_
  have k2 := k p e s m args below meth c Qf H locs la C hf hP hS hl
  rw [show (zv_i (zg_L g) :: st).map (zv_c g) = .int (Int32.ofInt (zg_L g)) :: st.map (zv_c g) from rfl, Int32.ofInt_eq_ofNat] at k2
  exact k2
def zl_ushr (a b : Int) : Int := ((Int64.ofInt a).toUInt64 >>> ((Int32.ofInt b).toInt64.toUInt64 &&& Int64.toUInt64 63)).toInt64.toInt
theorem zr_lshl {g : zt_G} {μ : zt_M} {pc : Nat} {ls : List (Option zv_A)} {st : List zv_A} {M : zm_M} {Q : Option zv_A → zm_M → Prop} {a b : Int} (hd : decode μ.2.1 pc = .ok (.lshl, 1)) (k : zc_Z g μ (pc + 1) ls (zv_l (zl_shl a b) :: st) M Q) : zc_Z g μ pc ls (zv_i b :: zv_l a :: st) M Q := by
  intro p e s m args below meth c Qf H locs la C hf hP hS hl
  refine lv_lshl C.1 C.2.1 hd (v := Int64.ofInt (zl_shl a b)) ?_ (k p e s m args below meth c Qf H locs la C hf hP hS hl)
  unfold zl_shl
  rw [Int64.ofInt_toInt]
theorem zr_lshr {g : zt_G} {μ : zt_M} {pc : Nat} {ls : List (Option zv_A)} {st : List zv_A} {M : zm_M} {Q : Option zv_A → zm_M → Prop} {a b : Int} (hd : decode μ.2.1 pc = .ok (.lshr, 1)) (k : zc_Z g μ (pc + 1) ls (zv_l (zl_shr a b) :: st) M Q) : zc_Z g μ pc ls (zv_i b :: zv_l a :: st) M Q := by
  intro p e s m args below meth c Qf H locs la C hf hP hS hl
  refine lv_lshr C.1 C.2.1 hd (v := Int64.ofInt (zl_shr a b)) ?_ (k p e s m args below meth c Qf H locs la C hf hP hS hl)
  unfold zl_shr
  rw [Int64.ofInt_toInt]
theorem zr_lushr {g : zt_G} {μ : zt_M} {pc : Nat} {ls : List (Option zv_A)} {st : List zv_A} {M : zm_M} {Q : Option zv_A → zm_M → Prop} {a b : Int} (hd : decode μ.2.1 pc = .ok (.lushr, 1)) (k : zc_Z g μ (pc + 1) ls (zv_l (zl_ushr a b) :: st) M Q) : zc_Z g μ pc ls (zv_i b :: zv_l a :: st) M Q := by
  intro p e s m args below meth c Qf H locs la C hf hP hS hl
  refine lv_lushr C.1 C.2.1 hd (v := Int64.ofInt (zl_ushr a b)) ?_ (k p e s m args below meth c Qf H locs la C hf hP hS hl)
  unfold zl_ushr
  rw [Int64.ofInt_toInt]
end
section
abbrev mX0_clear : zt_M := (RX0, cX0_clear, 1, none, zt_rm 0, 0, 0)
abbrev mX0_push : zt_M := (RX0, cX0_push, 2, none, zt_rm 1, 0, 0)
abbrev mX0_pop : zt_M := (RX0, cX0_pop, 2, none, zt_rm 1, 0, 0)
abbrev mX1_clear : zt_M := (RX1, cX1_clear, 1, none, zt_rm 0, 0, 0)
abbrev mX1_copyFrom : zt_M := (RX1, cX1_copyFrom, 3, none, zt_rm 0, 0, 0)
abbrev mX1_addTramp : zt_M := (RX1, cX1_addTramp, 3, none, zt_rm 0, 0, 0)
abbrev mX1_packed : zt_M := (RX1, cX1_packed, 5, (some .long), zt_rm 0, 0, 0)
abbrev mX1_unpack : zt_M := (RX1, cX1_unpack, 5, none, zt_rm 0, 0, 0)
abbrev mX1_has : zt_M := (RX1, cX1_has, 2, (some .boolean), zt_rm 0, 0, 0)
abbrev mX1_isHummock : zt_M := (RX1, cX1_isHummock, 2, (some .boolean), zt_rm 0, 0, 0)
abbrev mX1_hasWalked : zt_M := (RX1, cX1_hasWalked, 2, (some .boolean), zt_rm 0, 0, 0)
abbrev mX1_speedOf : zt_M := (RX1, cX1_speedOf, 2, (some .int), zt_rm 0, 0, 0)
abbrev mX1_hummocks : zt_M := (RX1, cX1_hummocks, 3, (some .int), zt_rm 1, 0, 0)
abbrev mX1_trampsAt : zt_M := (RX1, cX1_trampsAt, 4, (some .int), zt_rm 0, 0, 0)
abbrev mX1_knownAt : zt_M := (RX1, cX1_knownAt, 4, (some .int), zt_rm 0, 0, 0)
abbrev mX1_knownByAny : zt_M := (RX1, cX1_knownByAny, 3, (some .int), zt_rm 0, 0, 0)
abbrev mX1_howManyKnow : zt_M := (RX1, cX1_howManyKnow, 4, (some .int), zt_rm 0, 0, 0)
abbrev mX1_allThatIsKnown : zt_M := (RX1, cX1_allThatIsKnown, 3, (some .int), zt_rm 1, 0, 0)
abbrev mX1_passNight : zt_M := (RX1, cX1_passNight, 5, none, zt_rm 2, 0, 0)
abbrev mX1_lieUp : zt_M := (RX1, cX1_lieUp, 7, none, zt_rm 1, 0, 0)
abbrev mX1_mayGo : zt_M := (RX1, cX1_mayGo, 4, (some .boolean), zt_rm 1, 0, 0)
abbrev mX1_goTo : zt_M := (RX1, cX1_goTo, 3, none, zt_rm 0, 0, 0)
abbrev mX1_goesIfItMay : zt_M := (RX1, cX1_goesIfItMay, 3, (some .boolean), zt_rm 2, 0, 0)
abbrev mX1_mayHear : zt_M := (RX1, cX1_mayHear, 3, (some .boolean), zt_rm 1, 0, 0)
abbrev mX1_hear : zt_M := (RX1, cX1_hear, 3, none, zt_rm 0, 0, 0)
abbrev mX1_hearsIfItMay : zt_M := (RX1, cX1_hearsIfItMay, 3, (some .boolean), zt_rm 2, 0, 0)
abbrev mX1_mayBathe : zt_M := (RX1, cX1_mayBathe, 2, (some .boolean), zt_rm 1, 0, 0)
abbrev mX1_bathe : zt_M := (RX1, cX1_bathe, 2, none, zt_rm 0, 0, 0)
abbrev mX1_bathesIfItMay : zt_M := (RX1, cX1_bathesIfItMay, 2, (some .boolean), zt_rm 2, 0, 0)
abbrev mX2_play : zt_M := (RX2, cX2_play, 8, none, zt_rm 4, 0, 0)
abbrev mX2_goToKiln : zt_M := (RX2, cX2_goToKiln, 4, none, zt_rm 3, 0, 0)
abbrev mX2_gainOf : zt_M := (RX2, cX2_gainOf, 4, (some .int), zt_rm 1, 0, 0)
abbrev mX2_isAtRest : zt_M := (RX2, cX2_isAtRest, 5, (some .boolean), zt_rm 0, 0, 0)
abbrev mX3_clear : zt_M := (RX3, cX3_clear, 1, none, zt_rm 0, 0, 0)
abbrev mX3_copyFrom : zt_M := (RX3, cX3_copyFrom, 2, none, zt_rm 1, 0, 0)
abbrev mX3_addKiln : zt_M := (RX3, cX3_addKiln, 2, none, zt_rm 0, 0, 0)
abbrev mX3_addLayer : zt_M := (RX3, cX3_addLayer, 3, (some .boolean), zt_rm 2, 0, 0)
abbrev mX3_has : zt_M := (RX3, cX3_has, 2, (some .boolean), zt_rm 0, 0, 0)
abbrev mX3_kilnAt : zt_M := (RX3, cX3_kilnAt, 3, (some .int), zt_rm 0, 0, 0)
abbrev mX3_layerOf : zt_M := (RX3, cX3_layerOf, 3, (some .int), zt_rm 0, 0, 0)
abbrev mX3_bitsOf : zt_M := (RX3, cX3_bitsOf, 4, (some .int), zt_rm 1, 0, 0)
abbrev mX3_figuresOf : zt_M := (RX3, cX3_figuresOf, 4, (some .int), zt_rm 1, 0, 0)
abbrev mX3_bitsOfAll : zt_M := (RX3, cX3_bitsOfAll, 3, (some .int), zt_rm 2, 0, 0)
abbrev mX3_weightOf : zt_M := (RX3, cX3_weightOf, 5, (some .int), zt_rm 0, 0, 0)
abbrev mX4_look : zt_M := (RX4, cX4_look, 4, none, zt_rm 3, 0, 0)
abbrev mX4_waysTo : zt_M := (RX4, cX4_waysTo, 5, (some .int), zt_rm 1, 0, 0)
abbrev mX4_canFollow : zt_M := (RX4, cX4_canFollow, 3, (some .boolean), zt_rm 0, 0, 0)
abbrev mX4_howMany : zt_M := (RX4, cX4_howMany, 1, (some .int), zt_rm 0, 0, 0)
abbrev mX4_least : zt_M := (RX4, cX4_least, 5, (some .int), zt_rm 2, 0, 0)
abbrev mX4_leastAfter : zt_M := (RX4, cX4_leastAfter, 3, (some .int), zt_rm 1, 0, 0)
abbrev mX5_read : zt_M := (RX5, cX5_read, 3, (some .int), zt_rm 5, 0, 0)
abbrev mX5_takes : zt_M := (RX5, cX5_takes, 2, (some .boolean), zt_rm 4, 0, 0)
abbrev mX5_beginsPart : zt_M := (RX5, cX5_beginsPart, 2, (some .boolean), zt_rm 0, 0, 0)
abbrev mX5_takesKilnPlace : zt_M := (RX5, cX5_takesKilnPlace, 2, (some .boolean), zt_rm 1, 0, 0)
abbrev mX5_takesLayer : zt_M := (RX5, cX5_takesLayer, 2, (some .boolean), zt_rm 3, 0, 0)
abbrev mX5_takesTrampKind : zt_M := (RX5, cX5_takesTrampKind, 2, (some .boolean), zt_rm 1, 0, 0)
abbrev mX6_add : zt_M := (RX6, cX6_add, 2, none, zt_rm 0, 0, 0)
abbrev mX7_finds : zt_M := (RX7, cX7_finds, 6, (some .boolean), zt_rm 4, 0, 0)
abbrev mX7_findsFrom : zt_M := (RX7, cX7_findsFrom, 7, (some .boolean), zt_rm 3, 0, 0)
abbrev mX7_addNext : zt_M := (RX7, cX7_addNext, 5, none, zt_rm 0, 0, 0)
abbrev mX7_turnToNext : zt_M := (RX7, cX7_turnToNext, 1, none, zt_rm 1, 0, 0)
abbrev mX8_clear : zt_M := (RX8, cX8_clear, 2, none, zt_rm 0, 0, 0)
abbrev mX8_holds : zt_M := (RX8, cX8_holds, 2, (some .boolean), zt_rm 1, 0, 0)
abbrev mX8_put : zt_M := (RX8, cX8_put, 3, none, zt_rm 1, 0, 0)
abbrev mX8_bringBack : zt_M := (RX8, cX8_bringBack, 3, none, zt_rm 2, 0, 0)
abbrev mX9_clear : zt_M := (RX9, cX9_clear, 1, none, zt_rm 0, 0, 0)
abbrev mX9_add : zt_M := (RX9, cX9_add, 3, none, zt_rm 0, 0, 0)
abbrev mX9_look : zt_M := (RX9, cX9_look, 5, none, zt_rm 2, 0, 0)
abbrev mX9_fits : zt_M := (RX9, cX9_fits, 2, (some .boolean), zt_rm 0, 0, 0)
abbrev mX9_takenIn : zt_M := (RX9, cX9_takenIn, 5, (some .int), zt_rm 1, 0, 0)
abbrev mX9_noteFound : zt_M := (RX9, cX9_noteFound, 2, none, zt_rm 0, 0, 0)
abbrev mX10_write : zt_M := (RX10, cX10_write, 2, (some .int), zt_rm 1, 0, 0)
abbrev mX10_wipe : zt_M := (RX10, cX10_wipe, 2, (some .int), zt_rm 0, 0, 0)
abbrev mX10_fault : zt_M := (RX10, cX10_fault, 1, (some .int), zt_rm 6, 0, 0)
abbrev mX10_hill : zt_M := (RX10, cX10_hill, 1, (some .int), zt_rm 6, 0, 0)
abbrev mX10_kiln : zt_M := (RX10, cX10_kiln, 3, (some .int), zt_rm 2, 0, 0)
abbrev mX10_tramp : zt_M := (RX10, cX10_tramp, 3, (some .int), zt_rm 1, 0, 0)
abbrev mX10_at : zt_M := (RX10, cX10_at, 2, (some .int), zt_rm 1, 0, 0)
abbrev mX10_night : zt_M := (RX10, cX10_night, 1, (some .int), zt_rm 3, 0, 0)
abbrev mX10_walk : zt_M := (RX10, cX10_walk, 4, (some .int), zt_rm 2, 0, 0)
abbrev mX10_tell : zt_M := (RX10, cX10_tell, 3, (some .int), zt_rm 2, 0, 0)
abbrev mX10_wash : zt_M := (RX10, cX10_wash, 3, (some .int), zt_rm 2, 0, 0)
abbrev mX10_undo : zt_M := (RX10, cX10_undo, 1, (some .int), zt_rm 2, 0, 0)
abbrev mX10_later : zt_M := (RX10, cX10_later, 5, (some .int), zt_rm 3, 0, 0)
abbrev mX10_hummock : zt_M := (RX10, cX10_hummock, 3, (some .int), zt_rm 3, 0, 0)
abbrev mX10_soon : zt_M := (RX10, cX10_soon, 4, (some .int), zt_rm 5, 0, 0)
abbrev mX10_beneath : zt_M := (RX10, cX10_beneath, 2, (some .int), zt_rm 4, 0, 0)
abbrev mX10_judge : zt_M := (RX10, cX10_judge, 6, (some .int), zt_rm 4, 0, 0)
abbrev mX10_canBe : zt_M := (RX10, cX10_canBe, 4, (some .boolean), zt_rm 3, 0, 0)
abbrev mX10_knew : zt_M := (RX10, cX10_knew, 3, (some .int), zt_rm 1, 0, 0)
abbrev mX10_unknew : zt_M := (RX10, cX10_unknew, 2, (some .int), zt_rm 1, 0, 0)
abbrev mX10_lay : zt_M := (RX10, cX10_lay, 2, (some .int), zt_rm 3, 0, 0)
abbrev mX10_share : zt_M := (RX10, cX10_share, 6, (some .int), zt_rm 2, 0, 0)
abbrev mX10_rests : zt_M := (RX10, cX10_rests, 4, (some .int), zt_rm 5, 0, 0)
abbrev mX10_cold : zt_M := (RX10, cX10_cold, 9, (some .int), zt_rm 3, 0, 0)
abbrev mX10_seed : zt_M := (RX10, cX10_seed, 5, (some .long), zt_rm 0, 0, 0)
abbrev mX10_years : zt_M := (RX10, cX10_years, 4, (some .int), zt_rm 4, 0, 0)
abbrev mX10_passYear : zt_M := (RX10, cX10_passYear, 2, none, zt_rm 3, 0, 0)
abbrev mX10_keep : zt_M := (RX10, cX10_keep, 2, (some .int), zt_rm 2, 0, 0)
abbrev mX10_again : zt_M := (RX10, cX10_again, 2, (some .int), zt_rm 3, 0, 0)
abbrev mX10_count : zt_M := (RX10, cX10_count, 2, (some .int), zt_rm 3, 0, 0)
abbrev mX10_isPlace : zt_M := (RX10, cX10_isPlace, 1, (some .boolean), zt_rm 0, 0, 0)
abbrev mX10_isSlot : zt_M := (RX10, cX10_isSlot, 1, (some .boolean), zt_rm 0, 0, 0)
abbrev mX10_isLayerFigure : zt_M := (RX10, cX10_isLayerFigure, 1, (some .boolean), zt_rm 0, 0, 0)
abbrev mX10_isFirstOrSecond : zt_M := (RX10, cX10_isFirstOrSecond, 1, (some .boolean), zt_rm 0, 0, 0)
abbrev mX10_appetiteOf : zt_M := (RX10, cX10_appetiteOf, 1, (some .int), zt_rm 0, 0, 0)
abbrev mX10_fractionPart : zt_M := (RX10, cX10_fractionPart, 4, (some .int), zt_rm 1, 0, 0)
abbrev mX10_commonDivisor : zt_M := (RX10, cX10_commonDivisor, 6, (some .int), zt_rm 0, 0, 0)
abbrev mX11_in : zt_M := (RX11, cX11_in, 6, (some .boolean), zt_rm 0, 0, 0)
abbrev mX11_has : zt_M := (RX11, cX11_has, 2, (some .boolean), zt_rm 0, 0, 0)
abbrev mX11_ones : zt_M := (RX11, cX11_ones, 3, (some .int), zt_rm 0, 0, 0)
abbrev mX11_write : zt_M := (RX11, cX11_write, 2, (some .int), zt_rm 1, 0, 0)
abbrev mX11_wipe : zt_M := (RX11, cX11_wipe, 2, (some .int), zt_rm 0, 0, 0)
abbrev mX11_nextOf : zt_M := (RX11, cX11_nextOf, 6, (some .int), zt_rm 1, 0, 0)
abbrev mX11_readText : zt_M := (RX11, cX11_readText, 1, (some .int), zt_rm 4, 0, 0)
abbrev mX11_readPart : zt_M := (RX11, cX11_readPart, 2, none, zt_rm 3, 0, 0)
abbrev mX11_readOne : zt_M := (RX11, cX11_readOne, 5, none, zt_rm 2, 0, 0)
abbrev mX11_fault : zt_M := (RX11, cX11_fault, 1, (some .int), zt_rm 5, 0, 0)
abbrev mX11_hill : zt_M := (RX11, cX11_hill, 2, (some .int), zt_rm 5, 0, 0)
abbrev mX11_isKiln : zt_M := (RX11, cX11_isKiln, 2, (some .boolean), zt_rm 1, 0, 0)
abbrev mX11_isTramp : zt_M := (RX11, cX11_isTramp, 2, (some .boolean), zt_rm 1, 0, 0)
abbrev mX11_isPlace : zt_M := (RX11, cX11_isPlace, 1, (some .boolean), zt_rm 1, 0, 0)
abbrev mX11_kilnOf : zt_M := (RX11, cX11_kilnOf, 3, (some .int), zt_rm 0, 0, 0)
abbrev mX11_setOf : zt_M := (RX11, cX11_setOf, 4, (some .int), zt_rm 0, 0, 0)
abbrev mX11_isHummock : zt_M := (RX11, cX11_isHummock, 3, (some .boolean), zt_rm 0, 0, 0)
abbrev mX11_speedOf : zt_M := (RX11, cX11_speedOf, 3, (some .int), zt_rm 0, 0, 0)
abbrev mX11_takeOn : zt_M := (RX11, cX11_takeOn, 8, none, zt_rm 1, 0, 0)
abbrev mX11_knownAt : zt_M := (RX11, cX11_knownAt, 5, (some .int), zt_rm 0, 0, 0)
abbrev mX11_passOn : zt_M := (RX11, cX11_passOn, 4, none, zt_rm 2, 0, 0)
abbrev mX11_far : zt_M := (RX11, cX11_far, 2, (some .int), zt_rm 0, 0, 0)
abbrev mX11_canWalk : zt_M := (RX11, cX11_canWalk, 5, (some .boolean), zt_rm 2, 0, 0)
abbrev mX11_walkOn : zt_M := (RX11, cX11_walkOn, 4, none, zt_rm 0, 0, 0)
abbrev mX11_canTell : zt_M := (RX11, cX11_canTell, 4, (some .boolean), zt_rm 2, 0, 0)
abbrev mX11_tellOn : zt_M := (RX11, cX11_tellOn, 4, none, zt_rm 0, 0, 0)
abbrev mX11_washOn : zt_M := (RX11, cX11_washOn, 3, none, zt_rm 0, 0, 0)
abbrev mX11_hummocksOn : zt_M := (RX11, cX11_hummocksOn, 4, (some .int), zt_rm 1, 0, 0)
abbrev mX11_figuresOf : zt_M := (RX11, cX11_figuresOf, 4, (some .int), zt_rm 0, 0, 0)
abbrev mX11_trampsAt : zt_M := (RX11, cX11_trampsAt, 4, (some .int), zt_rm 0, 0, 0)
abbrev mX11_kiln : zt_M := (RX11, cX11_kiln, 3, (some .int), zt_rm 2, 0, 0)
abbrev mX11_tramp : zt_M := (RX11, cX11_tramp, 3, (some .int), zt_rm 2, 0, 0)
abbrev mX11_at : zt_M := (RX11, cX11_at, 2, (some .int), zt_rm 2, 0, 0)
abbrev mX11_keepAct : zt_M := (RX11, cX11_keepAct, 2, none, zt_rm 0, 0, 0)
abbrev mX11_night : zt_M := (RX11, cX11_night, 1, (some .int), zt_rm 3, 0, 0)
abbrev mX11_walk : zt_M := (RX11, cX11_walk, 4, (some .int), zt_rm 3, 0, 0)
abbrev mX11_tell : zt_M := (RX11, cX11_tell, 3, (some .int), zt_rm 3, 0, 0)
abbrev mX11_wash : zt_M := (RX11, cX11_wash, 3, (some .int), zt_rm 2, 0, 0)
abbrev mX11_undo : zt_M := (RX11, cX11_undo, 2, (some .int), zt_rm 0, 0, 0)
abbrev mX11_layTrial : zt_M := (RX11, cX11_layTrial, 2, none, zt_rm 0, 0, 0)
abbrev mX11_later : zt_M := (RX11, cX11_later, 5, (some .int), zt_rm 3, 0, 0)
abbrev mX11_hummock : zt_M := (RX11, cX11_hummock, 3, (some .int), zt_rm 3, 0, 0)
abbrev mX11_tenTo : zt_M := (RX11, cX11_tenTo, 3, (some .int), zt_rm 0, 0, 0)
abbrev mX11_knowsBy : zt_M := (RX11, cX11_knowsBy, 7, (some .boolean), zt_rm 3, 0, 0)
abbrev mX11_soon : zt_M := (RX11, cX11_soon, 6, (some .int), zt_rm 4, 0, 0)
abbrev mX11_allLayers : zt_M := (RX11, cX11_allLayers, 3, (some .int), zt_rm 1, 0, 0)
abbrev mX11_isOrder : zt_M := (RX11, cX11_isOrder, 9, (some .boolean), zt_rm 2, 0, 0)
abbrev mX11_countOrders : zt_M := (RX11, cX11_countOrders, 6, none, zt_rm 3, 0, 0)
abbrev mX11_orderOf : zt_M := (RX11, cX11_orderOf, 12, (some .int), zt_rm 1, 0, 0)
abbrev mX11_beneath : zt_M := (RX11, cX11_beneath, 2, (some .int), zt_rm 4, 0, 0)
abbrev mX11_tryThing : zt_M := (RX11, cX11_tryThing, 7, (some .boolean), zt_rm 3, 0, 0)
abbrev mX11_thousandTo : zt_M := (RX11, cX11_thousandTo, 4, (some .long), zt_rm 0, 0, 0)
abbrev mX11_judge : zt_M := (RX11, cX11_judge, 6, (some .int), zt_rm 4, 0, 0)
abbrev mX11_knew : zt_M := (RX11, cX11_knew, 3, (some .int), zt_rm 1, 0, 0)
abbrev mX11_unknew : zt_M := (RX11, cX11_unknew, 2, (some .int), zt_rm 0, 0, 0)
abbrev mX11_upperOf : zt_M := (RX11, cX11_upperOf, 5, (some .int), zt_rm 0, 0, 0)
abbrev mX11_lay : zt_M := (RX11, cX11_lay, 10, (some .int), zt_rm 1, 0, 0)
abbrev mX11_factorial : zt_M := (RX11, cX11_factorial, 3, (some .int), zt_rm 0, 0, 0)
abbrev mX11_common : zt_M := (RX11, cX11_common, 5, (some .int), zt_rm 0, 0, 0)
abbrev mX11_knownBy : zt_M := (RX11, cX11_knownBy, 4, (some .int), zt_rm 1, 0, 0)
abbrev mX11_share : zt_M := (RX11, cX11_share, 6, (some .int), zt_rm 2, 0, 0)
abbrev mX11_goTo : zt_M := (RX11, cX11_goTo, 3, none, zt_rm 3, 0, 0)
abbrev mX11_gain : zt_M := (RX11, cX11_gain, 6, (some .int), zt_rm 4, 0, 0)
abbrev mX11_isRest : zt_M := (RX11, cX11_isRest, 7, (some .boolean), zt_rm 5, 0, 0)
abbrev mX11_rests : zt_M := (RX11, cX11_rests, 7, (some .int), zt_rm 6, 0, 0)
abbrev mX11_cold : zt_M := (RX11, cX11_cold, 10, (some .int), zt_rm 3, 0, 0)
abbrev mX11_seed : zt_M := (RX11, cX11_seed, 5, (some .long), zt_rm 0, 0, 0)
abbrev mX11_knownOfAll : zt_M := (RX11, cX11_knownOfAll, 3, (some .int), zt_rm 1, 0, 0)
abbrev mX11_years : zt_M := (RX11, cX11_years, 5, (some .int), zt_rm 4, 0, 0)
abbrev mX11_keep : zt_M := (RX11, cX11_keep, 3, (some .int), zt_rm 1, 0, 0)
abbrev mX11_again : zt_M := (RX11, cX11_again, 3, (some .int), zt_rm 1, 0, 0)
abbrev mX11_count : zt_M := (RX11, cX11_count, 2, (some .int), zt_rm 2, 0, 0)
abbrev mJ6_bitCount_0f7a4 : zt_M := (RJ6, cJ6_bitCount_0f7a4, 1, (some .int), zt_rm 0, 0, 0)
abbrev mL_law : zt_M := (RL, cL_law, 4, ret, room_1, 63, 2136)
theorem lo_0 : zl_lay[0]? = some (.inl (10, [.inr 1, .inr 3, .inr 13, .inr 17, .inr 22, .inr 27, .inr 30, .inr 34, .inr 39, .inr 42, .inr 43, .inl 1])) := rfl
theorem lo_1 : zl_lay[1]? = some (.inl (6, [.inr 2, .inl 0])) := rfl
theorem lo_2 : zl_lay[2]? = some (.inr (0, 48)) := rfl
theorem lo_3 : zl_lay[3]? = some (.inl (5, [.inr 4, .inr 8, .inl 0, .inl 0])) := rfl
theorem lo_4 : zl_lay[4]? = some (.inl (3, [.inr 5, .inr 6, .inr 7, .inl 0])) := rfl
theorem lo_5 : zl_lay[5]? = some (.inr (0, 4)) := rfl
theorem lo_6 : zl_lay[6]? = some (.inr (0, 4)) := rfl
theorem lo_7 : zl_lay[7]? = some (.inr (0, 16)) := rfl
theorem lo_8 : zl_lay[8]? = some (.inl (1, [.inr 9, .inr 10, .inr 11, .inr 12, .inl 0, .inl 0, .inl 0])) := rfl
theorem lo_9 : zl_lay[9]? = some (.inr (0, 4)) := rfl
theorem lo_10 : zl_lay[10]? = some (.inr (0, 4)) := rfl
theorem lo_11 : zl_lay[11]? = some (.inr (0, 4)) := rfl
theorem lo_12 : zl_lay[12]? = some (.inr (0, 4)) := rfl
theorem lo_13 : zl_lay[13]? = some (.inl (3, [.inr 14, .inr 15, .inr 16, .inl 0])) := rfl
theorem lo_14 : zl_lay[14]? = some (.inr (0, 4)) := rfl
theorem lo_15 : zl_lay[15]? = some (.inr (0, 4)) := rfl
theorem lo_16 : zl_lay[16]? = some (.inr (0, 16)) := rfl
theorem lo_17 : zl_lay[17]? = some (.inl (1, [.inr 18, .inr 19, .inr 20, .inr 21, .inl 0, .inl 0, .inl 0])) := rfl
theorem lo_18 : zl_lay[18]? = some (.inr (0, 4)) := rfl
theorem lo_19 : zl_lay[19]? = some (.inr (0, 4)) := rfl
theorem lo_20 : zl_lay[20]? = some (.inr (0, 4)) := rfl
theorem lo_21 : zl_lay[21]? = some (.inr (0, 4)) := rfl
theorem lo_22 : zl_lay[22]? = some (.inl (1, [.inr 23, .inr 24, .inr 25, .inr 26, .inl 0, .inl 0, .inl 0])) := rfl
theorem lo_23 : zl_lay[23]? = some (.inr (0, 4)) := rfl
theorem lo_24 : zl_lay[24]? = some (.inr (0, 4)) := rfl
theorem lo_25 : zl_lay[25]? = some (.inr (0, 4)) := rfl
theorem lo_26 : zl_lay[26]? = some (.inr (0, 4)) := rfl
theorem lo_27 : zl_lay[27]? = some (.inl (0, [.inr 28, .inr 29, .inl 0])) := rfl
theorem lo_28 : zl_lay[28]? = some (.inr (1, 14)) := rfl
theorem lo_29 : zl_lay[29]? = some (.inr (0, 14)) := rfl
theorem lo_30 : zl_lay[30]? = some (.inl (8, [.inr 31, .inr 32, .inr 33])) := rfl
theorem lo_31 : zl_lay[31]? = some (.inr (1, 2)) := rfl
theorem lo_32 : zl_lay[32]? = some (.inr (0, 2)) := rfl
theorem lo_33 : zl_lay[33]? = some (.inr (2, 2)) := rfl
theorem lo_34 : zl_lay[34]? = some (.inl (7, [.inr 35, .inr 36, .inr 37, .inr 38, .inl 0, .inl 0, .inl 0, .inl 0])) := rfl
theorem lo_35 : zl_lay[35]? = some (.inr (1, 343)) := rfl
theorem lo_36 : zl_lay[36]? = some (.inr (0, 343)) := rfl
theorem lo_37 : zl_lay[37]? = some (.inr (1, 343)) := rfl
theorem lo_38 : zl_lay[38]? = some (.inr (0, 343)) := rfl
theorem lo_39 : zl_lay[39]? = some (.inl (4, [.inr 40, .inr 41, .inl 0])) := rfl
theorem lo_40 : zl_lay[40]? = some (.inr (0, 6)) := rfl
theorem lo_41 : zl_lay[41]? = some (.inr (0, 64)) := rfl
theorem lo_42 : zl_lay[42]? = some (.inl (9, [.inl 0, .inl 0, .inl 0, .inl 0, .inl 0])) := rfl
theorem lo_43 : zl_lay[43]? = some (.inl (2, [.inr 44, .inr 45, .inl 0, .inl 0])) := rfl
theorem lo_44 : zl_lay[44]? = some (.inr (0, 16)) := rfl
theorem lo_45 : zl_lay[45]? = some (.inr (0, 16)) := rfl
theorem lo_46 : zl_lay[46]? = some (.inl (11, [.inl 0, .inl 0, .inr 47, .inr 48, .inr 49, .inr 50, .inr 51, .inr 52, .inr 53, .inr 54, .inr 55, .inl 0, .inl 0, .inl 0, .inr 56, .inl 0, .inl 0, .inl 0, .inl 0, .inl 0, .inl 0, .inr 57, .inr 58, .inl 0, .inl 0, .inl 0, .inr 59, .inr 60, .inl 1, .inr 61, .inr 62])) := rfl
theorem lo_47 : zl_lay[47]? = some (.inr (0, 4)) := rfl
theorem lo_48 : zl_lay[48]? = some (.inr (0, 4)) := rfl
theorem lo_49 : zl_lay[49]? = some (.inr (0, 16)) := rfl
theorem lo_50 : zl_lay[50]? = some (.inr (0, 4)) := rfl
theorem lo_51 : zl_lay[51]? = some (.inr (0, 28)) := rfl
theorem lo_52 : zl_lay[52]? = some (.inr (0, 4)) := rfl
theorem lo_53 : zl_lay[53]? = some (.inr (0, 4)) := rfl
theorem lo_54 : zl_lay[54]? = some (.inr (0, 16)) := rfl
theorem lo_55 : zl_lay[55]? = some (.inr (0, 8)) := rfl
theorem lo_56 : zl_lay[56]? = some (.inr (0, 48)) := rfl
theorem lo_57 : zl_lay[57]? = some (.inr (0, 196)) := rfl
theorem lo_58 : zl_lay[58]? = some (.inr (0, 6)) := rfl
theorem lo_59 : zl_lay[59]? = some (.inr (0, 6)) := rfl
theorem lo_60 : zl_lay[60]? = some (.inr (0, 6)) := rfl
theorem lo_61 : zl_lay[61]? = some (.inr (2, 2)) := rfl
theorem lo_62 : zl_lay[62]? = some (.inr (0, 28)) := rfl
theorem inqX0 : ∀ w ∈ u_ws RX0 TX0 3, w ∈ zt_tb := zt_ins _ [199, 201, 203] (by decide +kernel) (by decide +kernel)
theorem inqX1 : ∀ w ∈ u_ws RX1 TX1 7, w ∈ zt_tb := zt_ins _ [155, 157, 159, 161, 163, 165, 167] (by decide +kernel) (by decide +kernel)
theorem inqX2 : ∀ w ∈ u_ws RX2 TX2 4, w ∈ zt_tb := zt_ins _ [310, 312, 314, 316] (by decide +kernel) (by decide +kernel)
theorem inqX3 : ∀ w ∈ u_ws RX3 TX3 4, w ∈ zt_tb := zt_ins _ [119, 121, 123, 125] (by decide +kernel) (by decide +kernel)
theorem inqX4 : ∀ w ∈ u_ws RX4 TX4 3, w ∈ zt_tb := zt_ins _ [266, 268, 270] (by decide +kernel) (by decide +kernel)
theorem inqX5 : ∀ w ∈ u_ws RX5 TX5 4, w ∈ zt_tb := zt_ins _ [176, 178, 180, 182] (by decide +kernel) (by decide +kernel)
theorem inqX6 : ∀ w ∈ u_ws RX6 TX6 2, w ∈ zt_tb := zt_ins _ [87, 89] (by decide +kernel) (by decide +kernel)
theorem inqX7 : ∀ w ∈ u_ws RX7 TX7 8, w ∈ zt_tb := zt_ins _ [240, 242, 244, 246, 248, 250, 252, 254] (by decide +kernel) (by decide +kernel)
theorem inqX8 : ∀ w ∈ u_ws RX8 TX8 3, w ∈ zt_tb := zt_ins _ [216, 218, 220] (by decide +kernel) (by decide +kernel)
theorem inqX9 : ∀ w ∈ u_ws RX9 TX9 5, w ∈ zt_tb := zt_ins _ [287, 289, 291, 293, 295] (by decide +kernel) (by decide +kernel)
theorem inqX10 : ∀ w ∈ u_ws RX10 TX10 12, w ∈ zt_tb := zt_ins _ [331, 333, 335, 337, 339, 341, 343, 345, 347, 349, 351, 353] (by decide +kernel) (by decide +kernel)
theorem inqX11 : ∀ w ∈ u_ws RX11 TX11 31, w ∈ zt_tb := zt_ins _ [878, 880, 882, 884, 886, 888, 890, 892, 894, 896, 898, 900, 902, 904, 906, 908, 910, 912, 914, 916, 918, 920, 922, 924, 926, 928, 930, 932, 934, 936, 938] (by decide +kernel) (by decide +kernel)
theorem fX6_9 : zt_F RX6 9 6 0 := ⟨RX6, TX6, 2, rfl, inqX6, by decide, zt_ins [_] [82] (by decide +kernel) (by decide +kernel) _ (List.mem_singleton.mpr rfl)⟩
theorem fX5_41 : zt_F RX5 41 6 0 := ⟨RX6, TX6, 2, rfl, inqX6, by decide, zt_ins [_] [83] (by decide +kernel) (by decide +kernel) _ (List.mem_singleton.mpr rfl)⟩
theorem fX6_15 : zt_F RX6 15 6 1 := ⟨RX6, TX6, 2, rfl, inqX6, by decide, zt_ins [_] [84] (by decide +kernel) (by decide +kernel) _ (List.mem_singleton.mpr rfl)⟩
theorem fX10_86 : zt_F RX10 86 6 1 := ⟨RX6, TX6, 2, rfl, inqX6, by decide, zt_ins [_] [85] (by decide +kernel) (by decide +kernel) _ (List.mem_singleton.mpr rfl)⟩
theorem fX5_36 : zt_F RX5 36 6 1 := ⟨RX6, TX6, 2, rfl, inqX6, by decide, zt_ins [_] [86] (by decide +kernel) (by decide +kernel) _ (List.mem_singleton.mpr rfl)⟩
theorem fX3_9 : zt_F RX3 9 3 0 := ⟨RX3, TX3, 4, rfl, inqX3, by decide, zt_ins [_] [105] (by decide +kernel) (by decide +kernel) _ (List.mem_singleton.mpr rfl)⟩
theorem fX2_53 : zt_F RX2 53 3 0 := ⟨RX3, TX3, 4, rfl, inqX3, by decide, zt_ins [_] [106] (by decide +kernel) (by decide +kernel) _ (List.mem_singleton.mpr rfl)⟩
theorem fX10_121 : zt_F RX10 121 3 0 := ⟨RX3, TX3, 4, rfl, inqX3, by decide, zt_ins [_] [107] (by decide +kernel) (by decide +kernel) _ (List.mem_singleton.mpr rfl)⟩
theorem fX3_15 : zt_F RX3 15 3 1 := ⟨RX3, TX3, 4, rfl, inqX3, by decide, zt_ins [_] [108] (by decide +kernel) (by decide +kernel) _ (List.mem_singleton.mpr rfl)⟩
theorem fX4_31 : zt_F RX4 31 3 1 := ⟨RX3, TX3, 4, rfl, inqX3, by decide, zt_ins [_] [109] (by decide +kernel) (by decide +kernel) _ (List.mem_singleton.mpr rfl)⟩
theorem fX9_48 : zt_F RX9 48 3 1 := ⟨RX3, TX3, 4, rfl, inqX3, by decide, zt_ins [_] [110] (by decide +kernel) (by decide +kernel) _ (List.mem_singleton.mpr rfl)⟩
theorem fX10_125 : zt_F RX10 125 3 1 := ⟨RX3, TX3, 4, rfl, inqX3, by decide, zt_ins [_] [111] (by decide +kernel) (by decide +kernel) _ (List.mem_singleton.mpr rfl)⟩
theorem fX1_62 : zt_F RX1 62 3 1 := ⟨RX3, TX3, 4, rfl, inqX3, by decide, zt_ins [_] [112] (by decide +kernel) (by decide +kernel) _ (List.mem_singleton.mpr rfl)⟩
theorem fX3_18 : zt_F RX3 18 3 2 := ⟨RX3, TX3, 4, rfl, inqX3, by decide, zt_ins [_] [113] (by decide +kernel) (by decide +kernel) _ (List.mem_singleton.mpr rfl)⟩
theorem fX3_21 : zt_F RX3 21 3 3 := ⟨RX3, TX3, 4, rfl, inqX3, by decide, zt_ins [_] [114] (by decide +kernel) (by decide +kernel) _ (List.mem_singleton.mpr rfl)⟩
theorem fX4_28 : zt_F RX4 28 3 3 := ⟨RX3, TX3, 4, rfl, inqX3, by decide, zt_ins [_] [115] (by decide +kernel) (by decide +kernel) _ (List.mem_singleton.mpr rfl)⟩
theorem fX5_64 : zt_F RX5 64 3 3 := ⟨RX3, TX3, 4, rfl, inqX3, by decide, zt_ins [_] [116] (by decide +kernel) (by decide +kernel) _ (List.mem_singleton.mpr rfl)⟩
theorem fX9_27 : zt_F RX9 27 3 3 := ⟨RX3, TX3, 4, rfl, inqX3, by decide, zt_ins [_] [117] (by decide +kernel) (by decide +kernel) _ (List.mem_singleton.mpr rfl)⟩
theorem fX10_111 : zt_F RX10 111 3 3 := ⟨RX3, TX3, 4, rfl, inqX3, by decide, zt_ins [_] [118] (by decide +kernel) (by decide +kernel) _ (List.mem_singleton.mpr rfl)⟩
theorem fX1_9 : zt_F RX1 9 1 0 := ⟨RX1, TX1, 7, rfl, inqX1, by decide, zt_ins [_] [134] (by decide +kernel) (by decide +kernel) _ (List.mem_singleton.mpr rfl)⟩
theorem fX7_58 : zt_F RX7 58 1 0 := ⟨RX1, TX1, 7, rfl, inqX1, by decide, zt_ins [_] [135] (by decide +kernel) (by decide +kernel) _ (List.mem_singleton.mpr rfl)⟩
theorem fX2_68 : zt_F RX2 68 1 0 := ⟨RX1, TX1, 7, rfl, inqX1, by decide, zt_ins [_] [136] (by decide +kernel) (by decide +kernel) _ (List.mem_singleton.mpr rfl)⟩
theorem fX10_139 : zt_F RX10 139 1 0 := ⟨RX1, TX1, 7, rfl, inqX1, by decide, zt_ins [_] [137] (by decide +kernel) (by decide +kernel) _ (List.mem_singleton.mpr rfl)⟩
theorem fX1_15 : zt_F RX1 15 1 1 := ⟨RX1, TX1, 7, rfl, inqX1, by decide, zt_ins [_] [138] (by decide +kernel) (by decide +kernel) _ (List.mem_singleton.mpr rfl)⟩
theorem fX10_140 : zt_F RX10 140 1 1 := ⟨RX1, TX1, 7, rfl, inqX1, by decide, zt_ins [_] [139] (by decide +kernel) (by decide +kernel) _ (List.mem_singleton.mpr rfl)⟩
theorem fX1_18 : zt_F RX1 18 1 2 := ⟨RX1, TX1, 7, rfl, inqX1, by decide, zt_ins [_] [140] (by decide +kernel) (by decide +kernel) _ (List.mem_singleton.mpr rfl)⟩
theorem fX7_38 : zt_F RX7 38 1 2 := ⟨RX1, TX1, 7, rfl, inqX1, by decide, zt_ins [_] [141] (by decide +kernel) (by decide +kernel) _ (List.mem_singleton.mpr rfl)⟩
theorem fX2_59 : zt_F RX2 59 1 2 := ⟨RX1, TX1, 7, rfl, inqX1, by decide, zt_ins [_] [142] (by decide +kernel) (by decide +kernel) _ (List.mem_singleton.mpr rfl)⟩
theorem fX10_143 : zt_F RX10 143 1 2 := ⟨RX1, TX1, 7, rfl, inqX1, by decide, zt_ins [_] [143] (by decide +kernel) (by decide +kernel) _ (List.mem_singleton.mpr rfl)⟩
theorem fX1_21 : zt_F RX1 21 1 3 := ⟨RX1, TX1, 7, rfl, inqX1, by decide, zt_ins [_] [144] (by decide +kernel) (by decide +kernel) _ (List.mem_singleton.mpr rfl)⟩
theorem fX10_146 : zt_F RX10 146 1 3 := ⟨RX1, TX1, 7, rfl, inqX1, by decide, zt_ins [_] [145] (by decide +kernel) (by decide +kernel) _ (List.mem_singleton.mpr rfl)⟩
theorem fX1_24 : zt_F RX1 24 1 4 := ⟨RX1, TX1, 7, rfl, inqX1, by decide, zt_ins [_] [146] (by decide +kernel) (by decide +kernel) _ (List.mem_singleton.mpr rfl)⟩
theorem fX10_310 : zt_F RX10 310 1 4 := ⟨RX1, TX1, 7, rfl, inqX1, by decide, zt_ins [_] [147] (by decide +kernel) (by decide +kernel) _ (List.mem_singleton.mpr rfl)⟩
theorem fX1_28 : zt_F RX1 28 1 5 := ⟨RX1, TX1, 7, rfl, inqX1, by decide, zt_ins [_] [148] (by decide +kernel) (by decide +kernel) _ (List.mem_singleton.mpr rfl)⟩
theorem fX5_67 : zt_F RX5 67 1 5 := ⟨RX1, TX1, 7, rfl, inqX1, by decide, zt_ins [_] [149] (by decide +kernel) (by decide +kernel) _ (List.mem_singleton.mpr rfl)⟩
theorem fX10_114 : zt_F RX10 114 1 5 := ⟨RX1, TX1, 7, rfl, inqX1, by decide, zt_ins [_] [150] (by decide +kernel) (by decide +kernel) _ (List.mem_singleton.mpr rfl)⟩
theorem fX1_31 : zt_F RX1 31 1 6 := ⟨RX1, TX1, 7, rfl, inqX1, by decide, zt_ins [_] [151] (by decide +kernel) (by decide +kernel) _ (List.mem_singleton.mpr rfl)⟩
theorem fX0_35 : zt_F RX0 35 1 6 := ⟨RX1, TX1, 7, rfl, inqX1, by decide, zt_ins [_] [152] (by decide +kernel) (by decide +kernel) _ (List.mem_singleton.mpr rfl)⟩
theorem fX8_33 : zt_F RX8 33 1 6 := ⟨RX1, TX1, 7, rfl, inqX1, by decide, zt_ins [_] [153] (by decide +kernel) (by decide +kernel) _ (List.mem_singleton.mpr rfl)⟩
theorem fX10_303 : zt_F RX10 303 1 6 := ⟨RX1, TX1, 7, rfl, inqX1, by decide, zt_ins [_] [154] (by decide +kernel) (by decide +kernel) _ (List.mem_singleton.mpr rfl)⟩
theorem fX5_12 : zt_F RX5 12 5 0 := ⟨RX5, TX5, 4, rfl, inqX5, by decide, zt_ins [_] [170] (by decide +kernel) (by decide +kernel) _ (List.mem_singleton.mpr rfl)⟩
theorem fX10_98 : zt_F RX10 98 5 0 := ⟨RX5, TX5, 4, rfl, inqX5, by decide, zt_ins [_] [171] (by decide +kernel) (by decide +kernel) _ (List.mem_singleton.mpr rfl)⟩
theorem fX5_21 : zt_F RX5 21 5 1 := ⟨RX5, TX5, 4, rfl, inqX5, by decide, zt_ins [_] [172] (by decide +kernel) (by decide +kernel) _ (List.mem_singleton.mpr rfl)⟩
theorem fX10_103 : zt_F RX10 103 5 1 := ⟨RX5, TX5, 4, rfl, inqX5, by decide, zt_ins [_] [173] (by decide +kernel) (by decide +kernel) _ (List.mem_singleton.mpr rfl)⟩
theorem fX5_25 : zt_F RX5 25 5 2 := ⟨RX5, TX5, 4, rfl, inqX5, by decide, zt_ins [_] [174] (by decide +kernel) (by decide +kernel) _ (List.mem_singleton.mpr rfl)⟩
theorem fX5_29 : zt_F RX5 29 5 3 := ⟨RX5, TX5, 4, rfl, inqX5, by decide, zt_ins [_] [175] (by decide +kernel) (by decide +kernel) _ (List.mem_singleton.mpr rfl)⟩
theorem fX0_9 : zt_F RX0 9 0 0 := ⟨RX0, TX0, 3, rfl, inqX0, by decide, zt_ins [_] [195] (by decide +kernel) (by decide +kernel) _ (List.mem_singleton.mpr rfl)⟩
theorem fX0_15 : zt_F RX0 15 0 1 := ⟨RX0, TX0, 3, rfl, inqX0, by decide, zt_ins [_] [196] (by decide +kernel) (by decide +kernel) _ (List.mem_singleton.mpr rfl)⟩
theorem fX0_19 : zt_F RX0 19 0 2 := ⟨RX0, TX0, 3, rfl, inqX0, by decide, zt_ins [_] [197] (by decide +kernel) (by decide +kernel) _ (List.mem_singleton.mpr rfl)⟩
theorem fX10_205 : zt_F RX10 205 0 2 := ⟨RX0, TX0, 3, rfl, inqX0, by decide, zt_ins [_] [198] (by decide +kernel) (by decide +kernel) _ (List.mem_singleton.mpr rfl)⟩
theorem fX8_9 : zt_F RX8 9 8 0 := ⟨RX8, TX8, 3, rfl, inqX8, by decide, zt_ins [_] [213] (by decide +kernel) (by decide +kernel) _ (List.mem_singleton.mpr rfl)⟩
theorem fX8_15 : zt_F RX8 15 8 1 := ⟨RX8, TX8, 3, rfl, inqX8, by decide, zt_ins [_] [214] (by decide +kernel) (by decide +kernel) _ (List.mem_singleton.mpr rfl)⟩
theorem fX8_19 : zt_F RX8 19 8 2 := ⟨RX8, TX8, 3, rfl, inqX8, by decide, zt_ins [_] [215] (by decide +kernel) (by decide +kernel) _ (List.mem_singleton.mpr rfl)⟩
theorem fX7_11 : zt_F RX7 11 7 0 := ⟨RX7, TX7, 8, rfl, inqX7, by decide, zt_ins [_] [230] (by decide +kernel) (by decide +kernel) _ (List.mem_singleton.mpr rfl)⟩
theorem fX7_15 : zt_F RX7 15 7 1 := ⟨RX7, TX7, 8, rfl, inqX7, by decide, zt_ins [_] [231] (by decide +kernel) (by decide +kernel) _ (List.mem_singleton.mpr rfl)⟩
theorem fX7_19 : zt_F RX7 19 7 2 := ⟨RX7, TX7, 8, rfl, inqX7, by decide, zt_ins [_] [232] (by decide +kernel) (by decide +kernel) _ (List.mem_singleton.mpr rfl)⟩
theorem fX7_22 : zt_F RX7 22 7 3 := ⟨RX7, TX7, 8, rfl, inqX7, by decide, zt_ins [_] [233] (by decide +kernel) (by decide +kernel) _ (List.mem_singleton.mpr rfl)⟩
theorem fX7_25 : zt_F RX7 25 7 4 := ⟨RX7, TX7, 8, rfl, inqX7, by decide, zt_ins [_] [234] (by decide +kernel) (by decide +kernel) _ (List.mem_singleton.mpr rfl)⟩
theorem fX7_29 : zt_F RX7 29 7 5 := ⟨RX7, TX7, 8, rfl, inqX7, by decide, zt_ins [_] [235] (by decide +kernel) (by decide +kernel) _ (List.mem_singleton.mpr rfl)⟩
theorem fX7_32 : zt_F RX7 32 7 6 := ⟨RX7, TX7, 8, rfl, inqX7, by decide, zt_ins [_] [236] (by decide +kernel) (by decide +kernel) _ (List.mem_singleton.mpr rfl)⟩
theorem fX10_218 : zt_F RX10 218 7 6 := ⟨RX7, TX7, 8, rfl, inqX7, by decide, zt_ins [_] [237] (by decide +kernel) (by decide +kernel) _ (List.mem_singleton.mpr rfl)⟩
theorem fX7_35 : zt_F RX7 35 7 7 := ⟨RX7, TX7, 8, rfl, inqX7, by decide, zt_ins [_] [238] (by decide +kernel) (by decide +kernel) _ (List.mem_singleton.mpr rfl)⟩
theorem fX10_221 : zt_F RX10 221 7 7 := ⟨RX7, TX7, 8, rfl, inqX7, by decide, zt_ins [_] [239] (by decide +kernel) (by decide +kernel) _ (List.mem_singleton.mpr rfl)⟩
theorem fX4_9 : zt_F RX4 9 4 0 := ⟨RX4, TX4, 3, rfl, inqX4, by decide, zt_ins [_] [263] (by decide +kernel) (by decide +kernel) _ (List.mem_singleton.mpr rfl)⟩
theorem fX4_15 : zt_F RX4 15 4 1 := ⟨RX4, TX4, 3, rfl, inqX4, by decide, zt_ins [_] [264] (by decide +kernel) (by decide +kernel) _ (List.mem_singleton.mpr rfl)⟩
theorem fX4_18 : zt_F RX4 18 4 2 := ⟨RX4, TX4, 3, rfl, inqX4, by decide, zt_ins [_] [265] (by decide +kernel) (by decide +kernel) _ (List.mem_singleton.mpr rfl)⟩
theorem fX9_9 : zt_F RX9 9 9 0 := ⟨RX9, TX9, 5, rfl, inqX9, by decide, zt_ins [_] [279] (by decide +kernel) (by decide +kernel) _ (List.mem_singleton.mpr rfl)⟩
theorem fX9_15 : zt_F RX9 15 9 1 := ⟨RX9, TX9, 5, rfl, inqX9, by decide, zt_ins [_] [280] (by decide +kernel) (by decide +kernel) _ (List.mem_singleton.mpr rfl)⟩
theorem fX9_18 : zt_F RX9 18 9 2 := ⟨RX9, TX9, 5, rfl, inqX9, by decide, zt_ins [_] [281] (by decide +kernel) (by decide +kernel) _ (List.mem_singleton.mpr rfl)⟩
theorem fX10_255 : zt_F RX10 255 9 2 := ⟨RX9, TX9, 5, rfl, inqX9, by decide, zt_ins [_] [282] (by decide +kernel) (by decide +kernel) _ (List.mem_singleton.mpr rfl)⟩
theorem fX9_21 : zt_F RX9 21 9 3 := ⟨RX9, TX9, 5, rfl, inqX9, by decide, zt_ins [_] [283] (by decide +kernel) (by decide +kernel) _ (List.mem_singleton.mpr rfl)⟩
theorem fX10_261 : zt_F RX10 261 9 3 := ⟨RX9, TX9, 5, rfl, inqX9, by decide, zt_ins [_] [284] (by decide +kernel) (by decide +kernel) _ (List.mem_singleton.mpr rfl)⟩
theorem fX9_24 : zt_F RX9 24 9 4 := ⟨RX9, TX9, 5, rfl, inqX9, by decide, zt_ins [_] [285] (by decide +kernel) (by decide +kernel) _ (List.mem_singleton.mpr rfl)⟩
theorem fX10_264 : zt_F RX10 264 9 4 := ⟨RX9, TX9, 5, rfl, inqX9, by decide, zt_ins [_] [286] (by decide +kernel) (by decide +kernel) _ (List.mem_singleton.mpr rfl)⟩
theorem fX2_11 : zt_F RX2 11 2 0 := ⟨RX2, TX2, 4, rfl, inqX2, by decide, zt_ins [_] [304] (by decide +kernel) (by decide +kernel) _ (List.mem_singleton.mpr rfl)⟩
theorem fX2_15 : zt_F RX2 15 2 1 := ⟨RX2, TX2, 4, rfl, inqX2, by decide, zt_ins [_] [305] (by decide +kernel) (by decide +kernel) _ (List.mem_singleton.mpr rfl)⟩
theorem fX2_18 : zt_F RX2 18 2 2 := ⟨RX2, TX2, 4, rfl, inqX2, by decide, zt_ins [_] [306] (by decide +kernel) (by decide +kernel) _ (List.mem_singleton.mpr rfl)⟩
theorem fX10_278 : zt_F RX10 278 2 2 := ⟨RX2, TX2, 4, rfl, inqX2, by decide, zt_ins [_] [307] (by decide +kernel) (by decide +kernel) _ (List.mem_singleton.mpr rfl)⟩
theorem fX2_22 : zt_F RX2 22 2 3 := ⟨RX2, TX2, 4, rfl, inqX2, by decide, zt_ins [_] [308] (by decide +kernel) (by decide +kernel) _ (List.mem_singleton.mpr rfl)⟩
theorem fX10_279 : zt_F RX10 279 2 3 := ⟨RX2, TX2, 4, rfl, inqX2, by decide, zt_ins [_] [309] (by decide +kernel) (by decide +kernel) _ (List.mem_singleton.mpr rfl)⟩
theorem fX10_10 : zt_F RX10 10 10 0 := ⟨RX10, TX10, 12, rfl, inqX10, by decide, zt_ins [_] [319] (by decide +kernel) (by decide +kernel) _ (List.mem_singleton.mpr rfl)⟩
theorem fX10_19 : zt_F RX10 19 10 1 := ⟨RX10, TX10, 12, rfl, inqX10, by decide, zt_ins [_] [320] (by decide +kernel) (by decide +kernel) _ (List.mem_singleton.mpr rfl)⟩
theorem fX10_26 : zt_F RX10 26 10 2 := ⟨RX10, TX10, 12, rfl, inqX10, by decide, zt_ins [_] [321] (by decide +kernel) (by decide +kernel) _ (List.mem_singleton.mpr rfl)⟩
theorem fX10_33 : zt_F RX10 33 10 3 := ⟨RX10, TX10, 12, rfl, inqX10, by decide, zt_ins [_] [322] (by decide +kernel) (by decide +kernel) _ (List.mem_singleton.mpr rfl)⟩
theorem fX10_37 : zt_F RX10 37 10 4 := ⟨RX10, TX10, 12, rfl, inqX10, by decide, zt_ins [_] [323] (by decide +kernel) (by decide +kernel) _ (List.mem_singleton.mpr rfl)⟩
theorem fX10_43 : zt_F RX10 43 10 5 := ⟨RX10, TX10, 12, rfl, inqX10, by decide, zt_ins [_] [324] (by decide +kernel) (by decide +kernel) _ (List.mem_singleton.mpr rfl)⟩
theorem fX10_50 : zt_F RX10 50 10 6 := ⟨RX10, TX10, 12, rfl, inqX10, by decide, zt_ins [_] [325] (by decide +kernel) (by decide +kernel) _ (List.mem_singleton.mpr rfl)⟩
theorem fX10_57 : zt_F RX10 57 10 7 := ⟨RX10, TX10, 12, rfl, inqX10, by decide, zt_ins [_] [326] (by decide +kernel) (by decide +kernel) _ (List.mem_singleton.mpr rfl)⟩
theorem fX10_64 : zt_F RX10 64 10 8 := ⟨RX10, TX10, 12, rfl, inqX10, by decide, zt_ins [_] [327] (by decide +kernel) (by decide +kernel) _ (List.mem_singleton.mpr rfl)⟩
theorem fX10_71 : zt_F RX10 71 10 9 := ⟨RX10, TX10, 12, rfl, inqX10, by decide, zt_ins [_] [328] (by decide +kernel) (by decide +kernel) _ (List.mem_singleton.mpr rfl)⟩
theorem fX10_78 : zt_F RX10 78 10 10 := ⟨RX10, TX10, 12, rfl, inqX10, by decide, zt_ins [_] [329] (by decide +kernel) (by decide +kernel) _ (List.mem_singleton.mpr rfl)⟩
theorem fX10_82 : zt_F RX10 82 10 11 := ⟨RX10, TX10, 12, rfl, inqX10, by decide, zt_ins [_] [330] (by decide +kernel) (by decide +kernel) _ (List.mem_singleton.mpr rfl)⟩
theorem fw_static : Cond.fieldLink "ChalkTramps" 233 "ChalkTramps" "DOING_ROWS" "[J" ∈ zt_tb := zt_ins [_] [677] (by decide +kernel) (by decide +kernel) _ (List.mem_singleton.mpr rfl)
theorem fX11_107 : zt_F RX11 107 11 0 := ⟨RX11, TX11, 31, rfl, inqX11, by decide, zt_ins [_] [847] (by decide +kernel) (by decide +kernel) _ (List.mem_singleton.mpr rfl)⟩
theorem fX11_110 : zt_F RX11 110 11 1 := ⟨RX11, TX11, 31, rfl, inqX11, by decide, zt_ins [_] [848] (by decide +kernel) (by decide +kernel) _ (List.mem_singleton.mpr rfl)⟩
theorem fX11_7 : zt_F RX11 7 11 2 := ⟨RX11, TX11, 31, rfl, inqX11, by decide, zt_ins [_] [849] (by decide +kernel) (by decide +kernel) _ (List.mem_singleton.mpr rfl)⟩
theorem fX11_13 : zt_F RX11 13 11 3 := ⟨RX11, TX11, 31, rfl, inqX11, by decide, zt_ins [_] [850] (by decide +kernel) (by decide +kernel) _ (List.mem_singleton.mpr rfl)⟩
theorem fX11_16 : zt_F RX11 16 11 4 := ⟨RX11, TX11, 31, rfl, inqX11, by decide, zt_ins [_] [851] (by decide +kernel) (by decide +kernel) _ (List.mem_singleton.mpr rfl)⟩
theorem fX11_19 : zt_F RX11 19 11 5 := ⟨RX11, TX11, 31, rfl, inqX11, by decide, zt_ins [_] [852] (by decide +kernel) (by decide +kernel) _ (List.mem_singleton.mpr rfl)⟩
theorem fX11_22 : zt_F RX11 22 11 6 := ⟨RX11, TX11, 31, rfl, inqX11, by decide, zt_ins [_] [853] (by decide +kernel) (by decide +kernel) _ (List.mem_singleton.mpr rfl)⟩
theorem fX11_25 : zt_F RX11 25 11 7 := ⟨RX11, TX11, 31, rfl, inqX11, by decide, zt_ins [_] [854] (by decide +kernel) (by decide +kernel) _ (List.mem_singleton.mpr rfl)⟩
theorem fX11_28 : zt_F RX11 28 11 8 := ⟨RX11, TX11, 31, rfl, inqX11, by decide, zt_ins [_] [855] (by decide +kernel) (by decide +kernel) _ (List.mem_singleton.mpr rfl)⟩
theorem fX11_31 : zt_F RX11 31 11 9 := ⟨RX11, TX11, 31, rfl, inqX11, by decide, zt_ins [_] [856] (by decide +kernel) (by decide +kernel) _ (List.mem_singleton.mpr rfl)⟩
theorem fX11_34 : zt_F RX11 34 11 10 := ⟨RX11, TX11, 31, rfl, inqX11, by decide, zt_ins [_] [857] (by decide +kernel) (by decide +kernel) _ (List.mem_singleton.mpr rfl)⟩
theorem fX11_79 : zt_F RX11 79 11 11 := ⟨RX11, TX11, 31, rfl, inqX11, by decide, zt_ins [_] [858] (by decide +kernel) (by decide +kernel) _ (List.mem_singleton.mpr rfl)⟩
theorem fX11_82 : zt_F RX11 82 11 12 := ⟨RX11, TX11, 31, rfl, inqX11, by decide, zt_ins [_] [859] (by decide +kernel) (by decide +kernel) _ (List.mem_singleton.mpr rfl)⟩
theorem fX11_85 : zt_F RX11 85 11 13 := ⟨RX11, TX11, 31, rfl, inqX11, by decide, zt_ins [_] [860] (by decide +kernel) (by decide +kernel) _ (List.mem_singleton.mpr rfl)⟩
theorem fX11_37 : zt_F RX11 37 11 14 := ⟨RX11, TX11, 31, rfl, inqX11, by decide, zt_ins [_] [861] (by decide +kernel) (by decide +kernel) _ (List.mem_singleton.mpr rfl)⟩
theorem fX11_65 : zt_F RX11 65 11 15 := ⟨RX11, TX11, 31, rfl, inqX11, by decide, zt_ins [_] [862] (by decide +kernel) (by decide +kernel) _ (List.mem_singleton.mpr rfl)⟩
theorem fX11_72 : zt_F RX11 72 11 16 := ⟨RX11, TX11, 31, rfl, inqX11, by decide, zt_ins [_] [863] (by decide +kernel) (by decide +kernel) _ (List.mem_singleton.mpr rfl)⟩
theorem fX11_69 : zt_F RX11 69 11 17 := ⟨RX11, TX11, 31, rfl, inqX11, by decide, zt_ins [_] [864] (by decide +kernel) (by decide +kernel) _ (List.mem_singleton.mpr rfl)⟩
theorem fX11_125 : zt_F RX11 125 11 18 := ⟨RX11, TX11, 31, rfl, inqX11, by decide, zt_ins [_] [865] (by decide +kernel) (by decide +kernel) _ (List.mem_singleton.mpr rfl)⟩
theorem fX11_113 : zt_F RX11 113 11 19 := ⟨RX11, TX11, 31, rfl, inqX11, by decide, zt_ins [_] [866] (by decide +kernel) (by decide +kernel) _ (List.mem_singleton.mpr rfl)⟩
theorem fX11_161 : zt_F RX11 161 11 20 := ⟨RX11, TX11, 31, rfl, inqX11, by decide, zt_ins [_] [867] (by decide +kernel) (by decide +kernel) _ (List.mem_singleton.mpr rfl)⟩
theorem fX11_40 : zt_F RX11 40 11 21 := ⟨RX11, TX11, 31, rfl, inqX11, by decide, zt_ins [_] [868] (by decide +kernel) (by decide +kernel) _ (List.mem_singleton.mpr rfl)⟩
theorem fX11_43 : zt_F RX11 43 11 22 := ⟨RX11, TX11, 31, rfl, inqX11, by decide, zt_ins [_] [869] (by decide +kernel) (by decide +kernel) _ (List.mem_singleton.mpr rfl)⟩
theorem fX11_212 : zt_F RX11 212 11 23 := ⟨RX11, TX11, 31, rfl, inqX11, by decide, zt_ins [_] [870] (by decide +kernel) (by decide +kernel) _ (List.mem_singleton.mpr rfl)⟩
theorem fX11_215 : zt_F RX11 215 11 24 := ⟨RX11, TX11, 31, rfl, inqX11, by decide, zt_ins [_] [871] (by decide +kernel) (by decide +kernel) _ (List.mem_singleton.mpr rfl)⟩
theorem fX11_241 : zt_F RX11 241 11 25 := ⟨RX11, TX11, 31, rfl, inqX11, by decide, zt_ins [_] [872] (by decide +kernel) (by decide +kernel) _ (List.mem_singleton.mpr rfl)⟩
theorem fX11_46 : zt_F RX11 46 11 26 := ⟨RX11, TX11, 31, rfl, inqX11, by decide, zt_ins [_] [873] (by decide +kernel) (by decide +kernel) _ (List.mem_singleton.mpr rfl)⟩
theorem fX11_49 : zt_F RX11 49 11 27 := ⟨RX11, TX11, 31, rfl, inqX11, by decide, zt_ins [_] [874] (by decide +kernel) (by decide +kernel) _ (List.mem_singleton.mpr rfl)⟩
theorem fX11_268 : zt_F RX11 268 11 28 := ⟨RX11, TX11, 31, rfl, inqX11, by decide, zt_ins [_] [875] (by decide +kernel) (by decide +kernel) _ (List.mem_singleton.mpr rfl)⟩
theorem fX11_52 : zt_F RX11 52 11 29 := ⟨RX11, TX11, 31, rfl, inqX11, by decide, zt_ins [_] [876] (by decide +kernel) (by decide +kernel) _ (List.mem_singleton.mpr rfl)⟩
theorem fX11_56 : zt_F RX11 56 11 30 := ⟨RX11, TX11, 31, rfl, inqX11, by decide, zt_ins [_] [877] (by decide +kernel) (by decide +kernel) _ (List.mem_singleton.mpr rfl)⟩
theorem fwX0_2 : zt_W 0 2 .int := by
  intro C T N h
  cases h
  exact ⟨rfl, by decide +kernel, ⟨tyX0, tyX0_ok⟩, nmX0⟩
theorem fwX1_4 : zt_W 1 4 .int := by
  intro C T N h
  cases h
  exact ⟨rfl, by decide +kernel, ⟨tyX1, tyX1_ok⟩, nmX1⟩
theorem fwX1_5 : zt_W 1 5 .int := by
  intro C T N h
  cases h
  exact ⟨rfl, by decide +kernel, ⟨tyX1, tyX1_ok⟩, nmX1⟩
theorem fwX1_6 : zt_W 1 6 .int := by
  intro C T N h
  cases h
  exact ⟨rfl, by decide +kernel, ⟨tyX1, tyX1_ok⟩, nmX1⟩
theorem fwX10_11 : zt_W 10 11 .long := by
  intro C T N h
  cases h
  exact ⟨rfl, by decide +kernel, ⟨tyX10, tyX10_ok⟩, nmX10⟩
theorem fwX11_0 : zt_W 11 0 .int := by
  intro C T N h
  cases h
  exact ⟨rfl, by decide +kernel, ⟨tyX11, tyX11_ok⟩, nmX11⟩
theorem fwX11_1 : zt_W 11 1 .int := by
  intro C T N h
  cases h
  exact ⟨rfl, by decide +kernel, ⟨tyX11, tyX11_ok⟩, nmX11⟩
theorem fwX11_11 : zt_W 11 11 .int := by
  intro C T N h
  cases h
  exact ⟨rfl, by decide +kernel, ⟨tyX11, tyX11_ok⟩, nmX11⟩
theorem fwX11_12 : zt_W 11 12 .int := by
  intro C T N h
  cases h
  exact ⟨rfl, by decide +kernel, ⟨tyX11, tyX11_ok⟩, nmX11⟩
theorem fwX11_13 : zt_W 11 13 .int := by
  intro C T N h
  cases h
  exact ⟨rfl, by decide +kernel, ⟨tyX11, tyX11_ok⟩, nmX11⟩
theorem fwX11_15 : zt_W 11 15 .int := by
  intro C T N h
  cases h
  exact ⟨rfl, by decide +kernel, ⟨tyX11, tyX11_ok⟩, nmX11⟩
theorem fwX11_16 : zt_W 11 16 .int := by
  intro C T N h
  cases h
  exact ⟨rfl, by decide +kernel, ⟨tyX11, tyX11_ok⟩, nmX11⟩
theorem fwX11_17 : zt_W 11 17 .int := by
  intro C T N h
  cases h
  exact ⟨rfl, by decide +kernel, ⟨tyX11, tyX11_ok⟩, nmX11⟩
theorem fwX11_18 : zt_W 11 18 .int := by
  intro C T N h
  cases h
  exact ⟨rfl, by decide +kernel, ⟨tyX11, tyX11_ok⟩, nmX11⟩
theorem fwX11_19 : zt_W 11 19 .int := by
  intro C T N h
  cases h
  exact ⟨rfl, by decide +kernel, ⟨tyX11, tyX11_ok⟩, nmX11⟩
theorem fwX11_20 : zt_W 11 20 .int := by
  intro C T N h
  cases h
  exact ⟨rfl, by decide +kernel, ⟨tyX11, tyX11_ok⟩, nmX11⟩
theorem fwX11_23 : zt_W 11 23 .int := by
  intro C T N h
  cases h
  exact ⟨rfl, by decide +kernel, ⟨tyX11, tyX11_ok⟩, nmX11⟩
theorem fwX11_24 : zt_W 11 24 .int := by
  intro C T N h
  cases h
  exact ⟨rfl, by decide +kernel, ⟨tyX11, tyX11_ok⟩, nmX11⟩
theorem fwX11_25 : zt_W 11 25 .int := by
  intro C T N h
  cases h
  exact ⟨rfl, by decide +kernel, ⟨tyX11, tyX11_ok⟩, nmX11⟩
theorem fwX11_28 : zt_W 11 28 .long := by
  intro C T N h
  cases h
  exact ⟨rfl, by decide +kernel, ⟨tyX11, tyX11_ok⟩, nmX11⟩
theorem fwX2_2 : zt_W 2 2 .int := by
  intro C T N h
  cases h
  exact ⟨rfl, by decide +kernel, ⟨tyX2, tyX2_ok⟩, nmX2⟩
theorem fwX2_3 : zt_W 2 3 .int := by
  intro C T N h
  cases h
  exact ⟨rfl, by decide +kernel, ⟨tyX2, tyX2_ok⟩, nmX2⟩
theorem fwX3_3 : zt_W 3 3 .int := by
  intro C T N h
  cases h
  exact ⟨rfl, by decide +kernel, ⟨tyX3, tyX3_ok⟩, nmX3⟩
theorem fwX4_2 : zt_W 4 2 .int := by
  intro C T N h
  cases h
  exact ⟨rfl, by decide +kernel, ⟨tyX4, tyX4_ok⟩, nmX4⟩
theorem fwX5_2 : zt_W 5 2 .int := by
  intro C T N h
  cases h
  exact ⟨rfl, by decide +kernel, ⟨tyX5, tyX5_ok⟩, nmX5⟩
theorem fwX5_3 : zt_W 5 3 .int := by
  intro C T N h
  cases h
  exact ⟨rfl, by decide +kernel, ⟨tyX5, tyX5_ok⟩, nmX5⟩
theorem fwX6_1 : zt_W 6 1 .int := by
  intro C T N h
  cases h
  exact ⟨rfl, by decide +kernel, ⟨tyX6, tyX6_ok⟩, nmX6⟩
theorem fwX7_4 : zt_W 7 4 .int := by
  intro C T N h
  cases h
  exact ⟨rfl, by decide +kernel, ⟨tyX7, tyX7_ok⟩, nmX7⟩
theorem fwX7_5 : zt_W 7 5 .int := by
  intro C T N h
  cases h
  exact ⟨rfl, by decide +kernel, ⟨tyX7, tyX7_ok⟩, nmX7⟩
theorem fwX7_6 : zt_W 7 6 .int := by
  intro C T N h
  cases h
  exact ⟨rfl, by decide +kernel, ⟨tyX7, tyX7_ok⟩, nmX7⟩
theorem fwX7_7 : zt_W 7 7 .int := by
  intro C T N h
  cases h
  exact ⟨rfl, by decide +kernel, ⟨tyX7, tyX7_ok⟩, nmX7⟩
theorem fwX9_0 : zt_W 9 0 .int := by
  intro C T N h
  cases h
  exact ⟨rfl, by decide +kernel, ⟨tyX9, tyX9_ok⟩, nmX9⟩
theorem fwX9_1 : zt_W 9 1 .int := by
  intro C T N h
  cases h
  exact ⟨rfl, by decide +kernel, ⟨tyX9, tyX9_ok⟩, nmX9⟩
theorem fwX9_2 : zt_W 9 2 .int := by
  intro C T N h
  cases h
  exact ⟨rfl, by decide +kernel, ⟨tyX9, tyX9_ok⟩, nmX9⟩
theorem fwX9_3 : zt_W 9 3 .int := by
  intro C T N h
  cases h
  exact ⟨rfl, by decide +kernel, ⟨tyX9, tyX9_ok⟩, nmX9⟩
theorem fwX9_4 : zt_W 9 4 .int := by
  intro C T N h
  cases h
  exact ⟨rfl, by decide +kernel, ⟨tyX9, tyX9_ok⟩, nmX9⟩
theorem kJ6_265 : Cond.constant RJ6 265 (1431655765) ∈ zt_tb := zt_ins [_] [540] (by decide +kernel) (by decide +kernel) _ (List.mem_singleton.mpr rfl)
theorem kJ6_266 : Cond.constant RJ6 266 (858993459) ∈ zt_tb := zt_ins [_] [541] (by decide +kernel) (by decide +kernel) _ (List.mem_singleton.mpr rfl)
theorem kJ6_267 : Cond.constant RJ6 267 (252645135) ∈ zt_tb := zt_ins [_] [542] (by decide +kernel) (by decide +kernel) _ (List.mem_singleton.mpr rfl)
theorem kX10_237 : Cond.constantLong RX10 237 (1000) ∈ zt_tb := zt_ins [_] [679] (by decide +kernel) (by decide +kernel) _ (List.mem_singleton.mpr rfl)
theorem kX10_284 : Cond.constantLong RX10 284 (6364136223846793005) ∈ zt_tb := zt_ins [_] [793] (by decide +kernel) (by decide +kernel) _ (List.mem_singleton.mpr rfl)
theorem kX10_286 : Cond.constantLong RX10 286 (1442695040888963407) ∈ zt_tb := zt_ins [_] [794] (by decide +kernel) (by decide +kernel) _ (List.mem_singleton.mpr rfl)
theorem kX10_288 : Cond.constantLong RX10 288 (64) ∈ zt_tb := zt_ins [_] [795] (by decide +kernel) (by decide +kernel) _ (List.mem_singleton.mpr rfl)
theorem kX11_59 : Cond.constantLong RX11 59 (255) ∈ zt_tb := zt_ins [_] [945] (by decide +kernel) (by decide +kernel) _ (List.mem_singleton.mpr rfl)
theorem kX11_99 : Cond.constantLong RX11 99 (97) ∈ zt_tb := zt_ins [_] [976] (by decide +kernel) (by decide +kernel) _ (List.mem_singleton.mpr rfl)
theorem kX11_101 : Cond.constantLong RX11 101 (102) ∈ zt_tb := zt_ins [_] [977] (by decide +kernel) (by decide +kernel) _ (List.mem_singleton.mpr rfl)
theorem kX11_116 : Cond.constantLong RX11 116 (9) ∈ zt_tb := zt_ins [_] [1025] (by decide +kernel) (by decide +kernel) _ (List.mem_singleton.mpr rfl)
theorem kX11_193 : Cond.constantLong RX11 193 (20) ∈ zt_tb := zt_ins [_] [1100] (by decide +kernel) (by decide +kernel) _ (List.mem_singleton.mpr rfl)
theorem kX11_201 : Cond.constantLong RX11 201 (63) ∈ zt_tb := zt_ins [_] [1113] (by decide +kernel) (by decide +kernel) _ (List.mem_singleton.mpr rfl)
theorem kX11_210 : Cond.constantLong RX11 210 (5) ∈ zt_tb := zt_ins [_] [1141] (by decide +kernel) (by decide +kernel) _ (List.mem_singleton.mpr rfl)
theorem kX11_232 : Cond.constantLong RX11 232 (4) ∈ zt_tb := zt_ins [_] [1146] (by decide +kernel) (by decide +kernel) _ (List.mem_singleton.mpr rfl)
theorem kX11_230 : Cond.constantLong RX11 230 (1000) ∈ zt_tb := zt_ins [_] [1150] (by decide +kernel) (by decide +kernel) _ (List.mem_singleton.mpr rfl)
theorem kX11_228 : Cond.constantLong RX11 228 (6) ∈ zt_tb := zt_ins [_] [1155] (by decide +kernel) (by decide +kernel) _ (List.mem_singleton.mpr rfl)
theorem kX11_266 : Cond.constantLong RX11 266 (10) ∈ zt_tb := zt_ins [_] [1206] (by decide +kernel) (by decide +kernel) _ (List.mem_singleton.mpr rfl)
theorem kX11_272 : Cond.constantLong RX11 272 (30) ∈ zt_tb := zt_ins [_] [1215] (by decide +kernel) (by decide +kernel) _ (List.mem_singleton.mpr rfl)
theorem kX11_274 : Cond.constantLong RX11 274 (6364136223846793005) ∈ zt_tb := zt_ins [_] [1216] (by decide +kernel) (by decide +kernel) _ (List.mem_singleton.mpr rfl)
theorem kX11_276 : Cond.constantLong RX11 276 (1442695040888963407) ∈ zt_tb := zt_ins [_] [1217] (by decide +kernel) (by decide +kernel) _ (List.mem_singleton.mpr rfl)
theorem kX11_278 : Cond.constantLong RX11 278 (64) ∈ zt_tb := zt_ins [_] [1218] (by decide +kernel) (by decide +kernel) _ (List.mem_singleton.mpr rfl)
theorem kL_81 : Cond.constantLong RL 81 (4294967295) ∈ zt_tb := zt_ins [_] [1235] (by decide +kernel) (by decide +kernel) _ (List.mem_singleton.mpr rfl)
theorem sX0_23 : ∀ w ∈ [Cond.methodLink RX0 23 arraycopyName, Cond.native arraycopyName, Cond.static arraycopyName, Cond.initialized "java/lang/System"], w ∈ zt_tb := zt_ins _ [506, 445, 444, 65] (by decide +kernel) (by decide +kernel)
theorem sX0_29 : zt_V RX0 29 yX1_packed mX1_packed 0 := ⟨zt_ins _ [507, 508, 509, 57, 510] (by decide +kernel) (by decide +kernel), ⟨by decide, by decide, by decide +kernel⟩⟩
theorem sX0_37 : zt_V RX0 37 yX1_unpack mX1_unpack 1 := ⟨zt_ins _ [595, 596, 597, 57, 598] (by decide +kernel) (by decide +kernel), ⟨by decide, by decide, by decide +kernel⟩⟩
theorem sX1_34 : zt_V RX1 34 yX1_isHummock mX1_isHummock 1 := ⟨zt_ins _ [517, 489, 490, 57, 491] (by decide +kernel) (by decide +kernel), ⟨by decide, by decide, by decide +kernel⟩⟩
theorem sX1_38 : zt_X RX1 38 yJ6_bitCount_0f7a4 mJ6_bitCount_0f7a4 1 := ⟨zt_ins _ [804, 538, 67, 539] (by decide +kernel) (by decide +kernel), ⟨by decide, by decide, by decide +kernel⟩⟩
theorem sX1_44 : zt_V RX1 44 yX3_kilnAt mX3_kilnAt 1 := ⟨zt_ins _ [515, 396, 397, 56, 398] (by decide +kernel) (by decide +kernel), ⟨by decide, by decide, by decide +kernel⟩⟩
theorem sX1_49 : zt_V RX1 49 yX3_has mX3_has 1 := ⟨zt_ins _ [516, 412, 413, 56, 414] (by decide +kernel) (by decide +kernel), ⟨by decide, by decide, by decide +kernel⟩⟩
theorem sX1_52 : zt_V RX1 52 yX1_lieUp mX1_lieUp 3 := ⟨zt_ins _ [518, 520, 5, 57, 521] (by decide +kernel) (by decide +kernel), ⟨by decide, by decide, by decide +kernel⟩⟩
theorem sX1_56 : zt_V RX1 56 yX1_knownAt mX1_knownAt 1 := ⟨zt_ins _ [529, 530, 531, 57, 532] (by decide +kernel) (by decide +kernel), ⟨by decide, by decide, by decide +kernel⟩⟩
theorem sX1_59 : zt_N RX1 59 yX10_appetiteOf mX10_appetiteOf 1 := ⟨zt_ins _ [523, 53, 524] (by decide +kernel) (by decide +kernel), ⟨by decide, by decide, by decide +kernel⟩, ⟨"ChalkTramps", by decide +kernel⟩⟩
theorem sX1_65 : zt_V RX1 65 yX3_layerOf mX3_layerOf 2 := ⟨zt_ins _ [525, 420, 421, 56, 422] (by decide +kernel) (by decide +kernel), ⟨by decide, by decide, by decide +kernel⟩⟩
theorem sX1_69 : ∀ w ∈ [Cond.methodLink RX1 69 Lib.Math.min.name, Cond.static Lib.Math.min.name, Cond.initialized "java/lang/Math", Cond.code Lib.Math.min.name Lib.Math.min.code 2 (some .int)], w ∈ zt_tb := zt_ins _ [526, 527, 66, 528] (by decide +kernel) (by decide +kernel)
theorem sX1_74 : zt_V RX1 74 yX1_has mX1_has 1 := ⟨zt_ins _ [551, 477, 478, 57, 479] (by decide +kernel) (by decide +kernel), ⟨by decide, by decide, by decide +kernel⟩⟩
theorem sX1_75 : zt_N RX1 75 yX10_isPlace mX10_isPlace 1 := ⟨zt_ins _ [393, 53, 394] (by decide +kernel) (by decide +kernel), ⟨by decide, by decide, by decide +kernel⟩, ⟨"ChalkTramps", by decide +kernel⟩⟩
theorem sX1_78 : zt_V RX1 78 yX1_hasWalked mX1_hasWalked 1 := ⟨zt_ins _ [553, 485, 486, 57, 487] (by decide +kernel) (by decide +kernel), ⟨by decide, by decide, by decide +kernel⟩⟩
theorem sX1_81 : ∀ w ∈ [Cond.methodLink RX1 81 Lib.Math.abs.name, Cond.static Lib.Math.abs.name, Cond.initialized "java/lang/Math", Cond.code Lib.Math.abs.name Lib.Math.abs.code 1 (some .int)], w ∈ zt_tb := zt_ins _ [554, 555, 66, 556] (by decide +kernel) (by decide +kernel)
theorem sX1_84 : zt_V RX1 84 yX1_speedOf mX1_speedOf 1 := ⟨zt_ins _ [557, 481, 482, 57, 483] (by decide +kernel) (by decide +kernel), ⟨by decide, by decide, by decide +kernel⟩⟩
theorem sX1_87 : zt_V RX1 87 yX1_mayGo mX1_mayGo 2 := ⟨zt_ins _ [628, 548, 549, 57, 550] (by decide +kernel) (by decide +kernel), ⟨by decide, by decide, by decide +kernel⟩⟩
theorem sX1_91 : zt_V RX1 91 yX1_goTo mX1_goTo 2 := ⟨zt_ins _ [629, 560, 561, 57, 562] (by decide +kernel) (by decide +kernel), ⟨by decide, by decide, by decide +kernel⟩⟩
theorem sX1_95 : zt_V RX1 95 yX1_mayHear mX1_mayHear 2 := ⟨zt_ins _ [689, 568, 569, 57, 570] (by decide +kernel) (by decide +kernel), ⟨by decide, by decide, by decide +kernel⟩⟩
theorem sX1_98 : zt_V RX1 98 yX1_hear mX1_hear 2 := ⟨zt_ins _ [690, 572, 573, 57, 574] (by decide +kernel) (by decide +kernel), ⟨by decide, by decide, by decide +kernel⟩⟩
theorem sX1_101 : zt_V RX1 101 yX1_mayBathe mX1_mayBathe 1 := ⟨zt_ins _ [695, 580, 581, 57, 582] (by decide +kernel) (by decide +kernel), ⟨by decide, by decide, by decide +kernel⟩⟩
theorem sX1_104 : zt_V RX1 104 yX1_bathe mX1_bathe 1 := ⟨zt_ins _ [696, 584, 585, 57, 586] (by decide +kernel) (by decide +kernel), ⟨by decide, by decide, by decide +kernel⟩⟩
theorem sX2_25 : zt_V RX2 25 yX1_copyFrom mX1_copyFrom 1 := ⟨zt_ins _ [762, 447, 448, 57, 449] (by decide +kernel) (by decide +kernel), ⟨by decide, by decide, by decide +kernel⟩⟩
theorem sX2_31 : zt_X RX2 31 yX2_goToKiln mX2_goToKiln 4 := ⟨zt_ins _ [763, 764, 63, 765] (by decide +kernel) (by decide +kernel), ⟨by decide, by decide, by decide +kernel⟩⟩
theorem sX2_35 : zt_V RX2 35 yX1_passNight mX1_passNight 2 := ⟨zt_ins _ [768, 512, 513, 57, 514] (by decide +kernel) (by decide +kernel), ⟨by decide, by decide, by decide +kernel⟩⟩
theorem sX2_39 : zt_X RX2 39 yX2_gainOf mX2_gainOf 3 := ⟨zt_ins _ [769, 770, 63, 771] (by decide +kernel) (by decide +kernel), ⟨by decide, by decide, by decide +kernel⟩⟩
theorem sX2_43 : zt_V RX2 43 yX2_isAtRest mX2_isAtRest 2 := ⟨zt_ins _ [773, 775, 15, 63, 776] (by decide +kernel) (by decide +kernel), ⟨by decide, by decide, by decide +kernel⟩⟩
theorem sX2_47 : zt_V RX2 47 yX3_has mX3_has 1 := ⟨zt_ins _ [766, 412, 413, 56, 414] (by decide +kernel) (by decide +kernel), ⟨by decide, by decide, by decide +kernel⟩⟩
theorem sX2_56 : zt_V RX2 56 yX1_goesIfItMay mX1_goesIfItMay 2 := ⟨zt_ins _ [767, 625, 626, 57, 627] (by decide +kernel) (by decide +kernel), ⟨by decide, by decide, by decide +kernel⟩⟩
theorem sX2_62 : zt_X RX2 62 yJ6_bitCount_0f7a4 mJ6_bitCount_0f7a4 1 := ⟨zt_ins _ [772, 538, 67, 539] (by decide +kernel) (by decide +kernel), ⟨by decide, by decide, by decide +kernel⟩⟩
theorem sX3_25 : ∀ w ∈ [Cond.methodLink RX3 25 arraycopyName, Cond.native arraycopyName, Cond.static arraycopyName, Cond.initialized "java/lang/System"], w ∈ zt_tb := zt_ins _ [443, 445, 444, 65] (by decide +kernel) (by decide +kernel)
theorem sX3_31 : zt_V RX3 31 yX3_has mX3_has 1 := ⟨zt_ins _ [411, 412, 413, 56, 414] (by decide +kernel) (by decide +kernel), ⟨by decide, by decide, by decide +kernel⟩⟩
theorem sX3_35 : zt_V RX3 35 yX3_bitsOf mX3_bitsOf 1 := ⟨zt_ins _ [415, 416, 417, 56, 418] (by decide +kernel) (by decide +kernel), ⟨by decide, by decide, by decide +kernel⟩⟩
theorem sX3_39 : zt_V RX3 39 yX3_layerOf mX3_layerOf 2 := ⟨zt_ins _ [419, 420, 421, 56, 422] (by decide +kernel) (by decide +kernel), ⟨by decide, by decide, by decide +kernel⟩⟩
theorem sX4_22 : zt_V RX4 22 yX3_bitsOfAll mX3_bitsOfAll 0 := ⟨zt_ins _ [648, 649, 650, 56, 651] (by decide +kernel) (by decide +kernel), ⟨by decide, by decide, by decide +kernel⟩⟩
theorem sX4_34 : zt_V RX4 34 yX3_layerOf mX3_layerOf 2 := ⟨zt_ins _ [652, 420, 421, 56, 422] (by decide +kernel) (by decide +kernel), ⟨by decide, by decide, by decide +kernel⟩⟩
theorem sX4_38 : zt_V RX4 38 yX4_waysTo mX4_waysTo 1 := ⟨zt_ins _ [653, 655, 9, 61, 656] (by decide +kernel) (by decide +kernel), ⟨by decide, by decide, by decide +kernel⟩⟩
theorem sX4_42 : zt_V RX4 42 yX4_canFollow mX4_canFollow 2 := ⟨zt_ins _ [657, 659, 10, 61, 660] (by decide +kernel) (by decide +kernel), ⟨by decide, by decide, by decide +kernel⟩⟩
theorem sX4_46 : zt_V RX4 46 yX4_leastAfter mX4_leastAfter 1 := ⟨zt_ins _ [669, 671, 11, 61, 672] (by decide +kernel) (by decide +kernel), ⟨by decide, by decide, by decide +kernel⟩⟩
theorem sX5_32 : zt_V RX5 32 yX3_clear mX3_clear 0 := ⟨zt_ins _ [376, 377, 378, 56, 379] (by decide +kernel) (by decide +kernel), ⟨by decide, by decide, by decide +kernel⟩⟩
theorem sX5_35 : zt_V RX5 35 yX1_clear mX1_clear 0 := ⟨zt_ins _ [380, 381, 382, 57, 383] (by decide +kernel) (by decide +kernel), ⟨by decide, by decide, by decide +kernel⟩⟩
theorem sX5_45 : zt_V RX5 45 yX5_takes mX5_takes 1 := ⟨zt_ins _ [384, 386, 0, 55, 387] (by decide +kernel) (by decide +kernel), ⟨by decide, by decide, by decide +kernel⟩⟩
theorem sX5_49 : zt_V RX5 49 yX5_takesKilnPlace mX5_takesKilnPlace 1 := ⟨zt_ins _ [388, 390, 1, 55, 391] (by decide +kernel) (by decide +kernel), ⟨by decide, by decide, by decide +kernel⟩⟩
theorem sX5_52 : zt_V RX5 52 yX5_takesLayer mX5_takesLayer 1 := ⟨zt_ins _ [403, 405, 2, 55, 406] (by decide +kernel) (by decide +kernel), ⟨by decide, by decide, by decide +kernel⟩⟩
theorem sX5_55 : zt_V RX5 55 yX5_beginsPart mX5_beginsPart 1 := ⟨zt_ins _ [423, 425, 3, 55, 426] (by decide +kernel) (by decide +kernel), ⟨by decide, by decide, by decide +kernel⟩⟩
theorem sX5_58 : zt_N RX5 58 yX10_isPlace mX10_isPlace 1 := ⟨zt_ins _ [393, 53, 394] (by decide +kernel) (by decide +kernel), ⟨by decide, by decide, by decide +kernel⟩, ⟨"ChalkTramps", by decide +kernel⟩⟩
theorem sX5_61 : zt_V RX5 61 yX5_takesTrampKind mX5_takesTrampKind 1 := ⟨zt_ins _ [427, 429, 4, 55, 430] (by decide +kernel) (by decide +kernel), ⟨by decide, by decide, by decide +kernel⟩⟩
theorem sX5_70 : zt_V RX5 70 yX3_kilnAt mX3_kilnAt 1 := ⟨zt_ins _ [395, 396, 397, 56, 398] (by decide +kernel) (by decide +kernel), ⟨by decide, by decide, by decide +kernel⟩⟩
theorem sX5_74 : zt_V RX5 74 yX3_addKiln mX3_addKiln 1 := ⟨zt_ins _ [399, 400, 401, 56, 402] (by decide +kernel) (by decide +kernel), ⟨by decide, by decide, by decide +kernel⟩⟩
theorem sX5_78 : zt_V RX5 78 yX3_addLayer mX3_addLayer 1 := ⟨zt_ins _ [407, 408, 409, 56, 410] (by decide +kernel) (by decide +kernel), ⟨by decide, by decide, by decide +kernel⟩⟩
theorem sX5_81 : zt_V RX5 81 yX1_addTramp mX1_addTramp 2 := ⟨zt_ins _ [431, 432, 433, 57, 434] (by decide +kernel) (by decide +kernel), ⟨by decide, by decide, by decide +kernel⟩⟩
theorem sX7_43 : zt_V RX7 43 yX1_packed mX1_packed 0 := ⟨zt_ins _ [618, 508, 509, 57, 510] (by decide +kernel) (by decide +kernel), ⟨by decide, by decide, by decide +kernel⟩⟩
theorem sX7_47 : zt_V RX7 47 yX7_findsFrom mX7_findsFrom 5 := ⟨zt_ins _ [619, 621, 6, 60, 622] (by decide +kernel) (by decide +kernel), ⟨by decide, by decide, by decide +kernel⟩⟩
theorem sX7_51 : zt_V RX7 51 yX7_turnToNext mX7_turnToNext 0 := ⟨zt_ins _ [635, 637, 8, 60, 638] (by decide +kernel) (by decide +kernel), ⟨by decide, by decide, by decide +kernel⟩⟩
theorem sX7_54 : zt_V RX7 54 yX1_unpack mX1_unpack 1 := ⟨zt_ins _ [623, 596, 597, 57, 598] (by decide +kernel) (by decide +kernel), ⟨by decide, by decide, by decide +kernel⟩⟩
theorem sX7_61 : zt_V RX7 61 yX1_goesIfItMay mX1_goesIfItMay 2 := ⟨zt_ins _ [624, 625, 626, 57, 627] (by decide +kernel) (by decide +kernel), ⟨by decide, by decide, by decide +kernel⟩⟩
theorem sX7_65 : zt_V RX7 65 yX1_passNight mX1_passNight 2 := ⟨zt_ins _ [630, 512, 513, 57, 514] (by decide +kernel) (by decide +kernel), ⟨by decide, by decide, by decide +kernel⟩⟩
theorem sX7_69 : zt_V RX7 69 yX7_addNext mX7_addNext 2 := ⟨zt_ins _ [631, 633, 7, 60, 634] (by decide +kernel) (by decide +kernel), ⟨by decide, by decide, by decide +kernel⟩⟩
theorem sX7_73 : ∀ w ∈ [Cond.methodLink RX7 73 arraycopyName, Cond.native arraycopyName, Cond.static arraycopyName, Cond.initialized "java/lang/System"], w ∈ zt_tb := zt_ins _ [639, 445, 444, 65] (by decide +kernel) (by decide +kernel)
theorem sX8_23 : zt_N RX8 23 yX10_isSlot mX10_isSlot 1 := ⟨zt_ins _ [810, 53, 811] (by decide +kernel) (by decide +kernel), ⟨by decide, by decide, by decide +kernel⟩, ⟨"ChalkTramps", by decide +kernel⟩⟩
theorem sX8_27 : zt_V RX8 27 yX1_packed mX1_packed 0 := ⟨zt_ins _ [817, 508, 509, 57, 510] (by decide +kernel) (by decide +kernel), ⟨by decide, by decide, by decide +kernel⟩⟩
theorem sX8_36 : zt_V RX8 36 yX8_holds mX8_holds 1 := ⟨zt_ins _ [830, 823, 824, 59, 825] (by decide +kernel) (by decide +kernel), ⟨by decide, by decide, by decide +kernel⟩⟩
theorem sX8_39 : zt_V RX8 39 yX1_unpack mX1_unpack 1 := ⟨zt_ins _ [831, 596, 597, 57, 598] (by decide +kernel) (by decide +kernel), ⟨by decide, by decide, by decide +kernel⟩⟩
theorem sX9_32 : zt_N RX9 32 yX10_appetiteOf mX10_appetiteOf 1 := ⟨zt_ins _ [523, 53, 524] (by decide +kernel) (by decide +kernel), ⟨by decide, by decide, by decide +kernel⟩, ⟨"ChalkTramps", by decide +kernel⟩⟩
theorem sX9_36 : zt_X RX9 36 yX9_takenIn mX9_takenIn 3 := ⟨zt_ins _ [725, 726, 62, 727] (by decide +kernel) (by decide +kernel), ⟨by decide, by decide, by decide +kernel⟩⟩
theorem sX9_40 : zt_V RX9 40 yX9_fits mX9_fits 1 := ⟨zt_ins _ [729, 731, 13, 62, 732] (by decide +kernel) (by decide +kernel), ⟨by decide, by decide, by decide +kernel⟩⟩
theorem sX9_44 : zt_V RX9 44 yX9_noteFound mX9_noteFound 1 := ⟨zt_ins _ [733, 735, 14, 62, 736] (by decide +kernel) (by decide +kernel), ⟨by decide, by decide, by decide +kernel⟩⟩
theorem sX9_52 : zt_V RX9 52 yX3_layerOf mX3_layerOf 2 := ⟨zt_ins _ [728, 420, 421, 56, 422] (by decide +kernel) (by decide +kernel), ⟨by decide, by decide, by decide +kernel⟩⟩
theorem sX10_90 : zt_V RX10 90 yX6_add mX6_add 1 := ⟨zt_ins _ [360, 361, 362, 54, 363] (by decide +kernel) (by decide +kernel), ⟨by decide, by decide, by decide +kernel⟩⟩
theorem sX10_94 : zt_V RX10 94 yX5_read mX5_read 1 := ⟨zt_ins _ [372, 373, 374, 55, 375] (by decide +kernel) (by decide +kernel), ⟨by decide, by decide, by decide +kernel⟩⟩
theorem sX10_99 : zt_V RX10 99 yX3_copyFrom mX3_copyFrom 1 := ⟨zt_ins _ [439, 440, 441, 56, 442] (by decide +kernel) (by decide +kernel), ⟨by decide, by decide, by decide +kernel⟩⟩
theorem sX10_104 : zt_V RX10 104 yX1_copyFrom mX1_copyFrom 1 := ⟨zt_ins _ [446, 447, 448, 57, 449] (by decide +kernel) (by decide +kernel), ⟨by decide, by decide, by decide +kernel⟩⟩
theorem sX10_107 : zt_V RX10 107 yX0_clear mX0_clear 0 := ⟨zt_ins _ [450, 451, 452, 58, 453] (by decide +kernel) (by decide +kernel), ⟨by decide, by decide, by decide +kernel⟩⟩
theorem sX10_110 : zt_V RX10 110 yX8_clear mX8_clear 0 := ⟨zt_ins _ [454, 455, 456, 59, 457] (by decide +kernel) (by decide +kernel), ⟨by decide, by decide, by decide +kernel⟩⟩
theorem sX10_117 : zt_V RX10 117 yX3_has mX3_has 1 := ⟨zt_ins _ [462, 412, 413, 56, 414] (by decide +kernel) (by decide +kernel), ⟨by decide, by decide, by decide +kernel⟩⟩
theorem sX10_128 : zt_V RX10 128 yX3_bitsOf mX3_bitsOf 1 := ⟨zt_ins _ [463, 416, 417, 56, 418] (by decide +kernel) (by decide +kernel), ⟨by decide, by decide, by decide +kernel⟩⟩
theorem sX10_132 : zt_V RX10 132 yX3_figuresOf mX3_figuresOf 1 := ⟨zt_ins _ [464, 465, 466, 56, 467] (by decide +kernel) (by decide +kernel), ⟨by decide, by decide, by decide +kernel⟩⟩
theorem sX10_135 : zt_V RX10 135 yX1_trampsAt mX1_trampsAt 1 := ⟨zt_ins _ [468, 469, 470, 57, 471] (by decide +kernel) (by decide +kernel), ⟨by decide, by decide, by decide +kernel⟩⟩
theorem sX10_138 : zt_V RX10 138 yX1_has mX1_has 1 := ⟨zt_ins _ [476, 477, 478, 57, 479] (by decide +kernel) (by decide +kernel), ⟨by decide, by decide, by decide +kernel⟩⟩
theorem sX10_149 : zt_V RX10 149 yX1_speedOf mX1_speedOf 1 := ⟨zt_ins _ [480, 481, 482, 57, 483] (by decide +kernel) (by decide +kernel), ⟨by decide, by decide, by decide +kernel⟩⟩
theorem sX10_152 : zt_V RX10 152 yX1_hasWalked mX1_hasWalked 1 := ⟨zt_ins _ [484, 485, 486, 57, 487] (by decide +kernel) (by decide +kernel), ⟨by decide, by decide, by decide +kernel⟩⟩
theorem sX10_155 : zt_V RX10 155 yX1_isHummock mX1_isHummock 1 := ⟨zt_ins _ [488, 489, 490, 57, 491] (by decide +kernel) (by decide +kernel), ⟨by decide, by decide, by decide +kernel⟩⟩
theorem sX10_158 : zt_X RX10 158 yX10_isPlace mX10_isPlace 1 := ⟨zt_ins _ [496, 393, 53, 394] (by decide +kernel) (by decide +kernel), ⟨by decide, by decide, by decide +kernel⟩⟩
theorem sX10_161 : zt_V RX10 161 yX3_kilnAt mX3_kilnAt 1 := ⟨zt_ins _ [497, 396, 397, 56, 398] (by decide +kernel) (by decide +kernel), ⟨by decide, by decide, by decide +kernel⟩⟩
theorem sX10_164 : zt_V RX10 164 yX0_push mX0_push 1 := ⟨zt_ins _ [502, 503, 504, 58, 505] (by decide +kernel) (by decide +kernel), ⟨by decide, by decide, by decide +kernel⟩⟩
theorem sX10_167 : zt_V RX10 167 yX1_passNight mX1_passNight 2 := ⟨zt_ins _ [511, 512, 513, 57, 514] (by decide +kernel) (by decide +kernel), ⟨by decide, by decide, by decide +kernel⟩⟩
theorem sX10_171 : zt_V RX10 171 yX1_hummocks mX1_hummocks 0 := ⟨zt_ins _ [533, 534, 535, 57, 536] (by decide +kernel) (by decide +kernel), ⟨by decide, by decide, by decide +kernel⟩⟩
theorem sX10_175 : zt_X RX10 175 yJ6_bitCount_0f7a4 mJ6_bitCount_0f7a4 1 := ⟨zt_ins _ [537, 538, 67, 539] (by decide +kernel) (by decide +kernel), ⟨by decide, by decide, by decide +kernel⟩⟩
theorem sX10_180 : zt_V RX10 180 yX1_mayGo mX1_mayGo 2 := ⟨zt_ins _ [547, 548, 549, 57, 550] (by decide +kernel) (by decide +kernel), ⟨by decide, by decide, by decide +kernel⟩⟩
theorem sX10_184 : ∀ w ∈ [Cond.methodLink RX10 184 Lib.Math.abs.name, Cond.static Lib.Math.abs.name, Cond.initialized "java/lang/Math", Cond.code Lib.Math.abs.name Lib.Math.abs.code 1 (some .int)], w ∈ zt_tb := zt_ins _ [558, 555, 66, 556] (by decide +kernel) (by decide +kernel)
theorem sX10_189 : zt_V RX10 189 yX1_goTo mX1_goTo 2 := ⟨zt_ins _ [559, 560, 561, 57, 562] (by decide +kernel) (by decide +kernel), ⟨by decide, by decide, by decide +kernel⟩⟩
theorem sX10_193 : zt_V RX10 193 yX1_mayHear mX1_mayHear 2 := ⟨zt_ins _ [567, 568, 569, 57, 570] (by decide +kernel) (by decide +kernel), ⟨by decide, by decide, by decide +kernel⟩⟩
theorem sX10_196 : zt_V RX10 196 yX1_hear mX1_hear 2 := ⟨zt_ins _ [571, 572, 573, 57, 574] (by decide +kernel) (by decide +kernel), ⟨by decide, by decide, by decide +kernel⟩⟩
theorem sX10_199 : zt_V RX10 199 yX1_mayBathe mX1_mayBathe 1 := ⟨zt_ins _ [579, 580, 581, 57, 582] (by decide +kernel) (by decide +kernel), ⟨by decide, by decide, by decide +kernel⟩⟩
theorem sX10_202 : zt_V RX10 202 yX1_bathe mX1_bathe 1 := ⟨zt_ins _ [583, 584, 585, 57, 586] (by decide +kernel) (by decide +kernel), ⟨by decide, by decide, by decide +kernel⟩⟩
theorem sX10_208 : zt_V RX10 208 yX0_pop mX0_pop 1 := ⟨zt_ins _ [591, 592, 593, 58, 594] (by decide +kernel) (by decide +kernel), ⟨by decide, by decide, by decide +kernel⟩⟩
theorem sX10_211 : zt_X RX10 211 yX10_isFirstOrSecond mX10_isFirstOrSecond 1 := ⟨zt_ins _ [603, 604, 53, 605] (by decide +kernel) (by decide +kernel), ⟨by decide, by decide, by decide +kernel⟩⟩
theorem sX10_214 : zt_V RX10 214 yX7_finds mX7_finds 4 := ⟨zt_ins _ [614, 615, 616, 60, 617] (by decide +kernel) (by decide +kernel), ⟨by decide, by decide, by decide +kernel⟩⟩
theorem sX10_224 : zt_V RX10 224 yX4_look mX4_look 1 := ⟨zt_ins _ [644, 645, 646, 61, 647] (by decide +kernel) (by decide +kernel), ⟨by decide, by decide, by decide +kernel⟩⟩
theorem sX10_227 : zt_V RX10 227 yX4_howMany mX4_howMany 0 := ⟨zt_ins _ [661, 662, 663, 61, 664] (by decide +kernel) (by decide +kernel), ⟨by decide, by decide, by decide +kernel⟩⟩
theorem sX10_230 : zt_V RX10 230 yX4_least mX4_least 0 := ⟨zt_ins _ [665, 666, 667, 61, 668] (by decide +kernel) (by decide +kernel), ⟨by decide, by decide, by decide +kernel⟩⟩
theorem sX10_239 : zt_V RX10 239 yX10_canBe mX10_canBe 3 := ⟨zt_ins _ [680, 682, 12, 53, 683] (by decide +kernel) (by decide +kernel), ⟨by decide, by decide, by decide +kernel⟩⟩
theorem sX10_243 : zt_V RX10 243 yX1_goesIfItMay mX1_goesIfItMay 2 := ⟨zt_ins _ [684, 625, 626, 57, 627] (by decide +kernel) (by decide +kernel), ⟨by decide, by decide, by decide +kernel⟩⟩
theorem sX10_246 : zt_V RX10 246 yX1_hearsIfItMay mX1_hearsIfItMay 2 := ⟨zt_ins _ [685, 686, 687, 57, 688] (by decide +kernel) (by decide +kernel), ⟨by decide, by decide, by decide +kernel⟩⟩
theorem sX10_249 : zt_V RX10 249 yX1_bathesIfItMay mX1_bathesIfItMay 1 := ⟨zt_ins _ [691, 692, 693, 57, 694] (by decide +kernel) (by decide +kernel), ⟨by decide, by decide, by decide +kernel⟩⟩
theorem sX10_252 : zt_X RX10 252 yX10_isLayerFigure mX10_isLayerFigure 1 := ⟨zt_ins _ [697, 698, 53, 699] (by decide +kernel) (by decide +kernel), ⟨by decide, by decide, by decide +kernel⟩⟩
theorem sX10_256 : zt_V RX10 256 yX9_add mX9_add 2 := ⟨zt_ins _ [704, 705, 706, 62, 707] (by decide +kernel) (by decide +kernel), ⟨by decide, by decide, by decide +kernel⟩⟩
theorem sX10_259 : zt_V RX10 259 yX9_clear mX9_clear 0 := ⟨zt_ins _ [712, 713, 714, 62, 715] (by decide +kernel) (by decide +kernel), ⟨by decide, by decide, by decide +kernel⟩⟩
theorem sX10_260 : zt_V RX10 260 yX9_look mX9_look 1 := ⟨zt_ins _ [720, 721, 722, 62, 723] (by decide +kernel) (by decide +kernel), ⟨by decide, by decide, by decide +kernel⟩⟩
theorem sX10_267 : zt_V RX10 267 yX1_howManyKnow mX1_howManyKnow 1 := ⟨zt_ins _ [741, 742, 743, 57, 744] (by decide +kernel) (by decide +kernel), ⟨by decide, by decide, by decide +kernel⟩⟩
theorem sX10_270 : zt_X RX10 270 yX10_fractionPart mX10_fractionPart 3 := ⟨zt_ins _ [745, 746, 53, 747] (by decide +kernel) (by decide +kernel), ⟨by decide, by decide, by decide +kernel⟩⟩
theorem sX10_274 : zt_V RX10 274 yX2_play mX2_play 5 := ⟨zt_ins _ [758, 759, 760, 63, 761] (by decide +kernel) (by decide +kernel), ⟨by decide, by decide, by decide +kernel⟩⟩
theorem sX10_280 : zt_V RX10 280 yX3_weightOf mX3_weightOf 2 := ⟨zt_ins _ [781, 782, 783, 56, 784] (by decide +kernel) (by decide +kernel), ⟨by decide, by decide, by decide +kernel⟩⟩
theorem sX10_290 : zt_V RX10 290 yX10_passYear mX10_passYear 1 := ⟨zt_ins _ [796, 798, 16, 53, 799] (by decide +kernel) (by decide +kernel), ⟨by decide, by decide, by decide +kernel⟩⟩
theorem sX10_293 : zt_V RX10 293 yX1_allThatIsKnown mX1_allThatIsKnown 0 := ⟨zt_ins _ [800, 801, 802, 57, 803] (by decide +kernel) (by decide +kernel), ⟨by decide, by decide, by decide +kernel⟩⟩
theorem sX10_296 : zt_X RX10 296 yX10_isSlot mX10_isSlot 1 := ⟨zt_ins _ [809, 810, 53, 811] (by decide +kernel) (by decide +kernel), ⟨by decide, by decide, by decide +kernel⟩⟩
theorem sX10_299 : zt_V RX10 299 yX8_put mX8_put 2 := ⟨zt_ins _ [812, 813, 814, 59, 815] (by decide +kernel) (by decide +kernel), ⟨by decide, by decide, by decide +kernel⟩⟩
theorem sX10_304 : zt_V RX10 304 yX8_holds mX8_holds 1 := ⟨zt_ins _ [822, 823, 824, 59, 825] (by decide +kernel) (by decide +kernel), ⟨by decide, by decide, by decide +kernel⟩⟩
theorem sX10_307 : zt_V RX10 307 yX8_bringBack mX8_bringBack 2 := ⟨zt_ins _ [826, 827, 828, 59, 829] (by decide +kernel) (by decide +kernel), ⟨by decide, by decide, by decide +kernel⟩⟩
theorem sX10_313 : zt_V RX10 313 yX1_knownByAny mX1_knownByAny 0 := ⟨zt_ins _ [836, 837, 838, 57, 839] (by decide +kernel) (by decide +kernel), ⟨by decide, by decide, by decide +kernel⟩⟩
theorem sX10_316 : zt_V RX10 316 yX3_bitsOfAll mX3_bitsOfAll 0 := ⟨zt_ins _ [840, 649, 650, 56, 651] (by decide +kernel) (by decide +kernel), ⟨by decide, by decide, by decide +kernel⟩⟩
theorem sX10_319 : zt_X RX10 319 yX10_commonDivisor mX10_commonDivisor 2 := ⟨zt_ins _ [748, 749, 53, 750] (by decide +kernel) (by decide +kernel), ⟨by decide, by decide, by decide +kernel⟩⟩
theorem sX10_322 : ∀ w ∈ [Cond.methodLink RX10 322 Lib.Math.max.name, Cond.static Lib.Math.max.name, Cond.initialized "java/lang/Math", Cond.code Lib.Math.max.name Lib.Math.max.code 2 (some .int)], w ∈ zt_tb := zt_ins _ [751, 752, 66, 753] (by decide +kernel) (by decide +kernel)
theorem sX11_61 : zt_X RX11 61 yX11_in mX11_in 3 := ⟨zt_ins _ [946, 947, 64, 948] (by decide +kernel) (by decide +kernel), ⟨by decide, by decide, by decide +kernel⟩⟩
theorem sX11_75 : zt_X RX11 75 yX11_has mX11_has 2 := ⟨zt_ins _ [973, 974, 64, 975] (by decide +kernel) (by decide +kernel), ⟨by decide, by decide, by decide +kernel⟩⟩
theorem sX11_88 : zt_V RX11 88 yX11_readPart mX11_readPart 1 := ⟨zt_ins _ [961, 963, 18, 64, 964] (by decide +kernel) (by decide +kernel), ⟨by decide, by decide, by decide +kernel⟩⟩
theorem sX11_92 : zt_V RX11 92 yX11_readOne mX11_readOne 0 := ⟨zt_ins _ [965, 967, 19, 64, 968] (by decide +kernel) (by decide +kernel), ⟨by decide, by decide, by decide +kernel⟩⟩
theorem sX11_95 : zt_V RX11 95 yX11_nextOf mX11_nextOf 3 := ⟨zt_ins _ [969, 971, 20, 64, 972] (by decide +kernel) (by decide +kernel), ⟨by decide, by decide, by decide +kernel⟩⟩
theorem sX11_103 : zt_V RX11 103 yX11_readText mX11_readText 0 := ⟨zt_ins _ [957, 959, 17, 64, 960] (by decide +kernel) (by decide +kernel), ⟨by decide, by decide, by decide +kernel⟩⟩
theorem sX11_118 : zt_V RX11 118 yX11_kilnOf mX11_kilnOf 1 := ⟨zt_ins _ [1026, 1028, 28, 64, 1029] (by decide +kernel) (by decide +kernel), ⟨by decide, by decide, by decide +kernel⟩⟩
theorem sX11_122 : zt_V RX11 122 yX11_isHummock mX11_isHummock 2 := ⟨zt_ins _ [1014, 1016, 27, 64, 1017] (by decide +kernel) (by decide +kernel), ⟨by decide, by decide, by decide +kernel⟩⟩
theorem sX11_128 : zt_V RX11 128 yX11_takeOn mX11_takeOn 2 := ⟨zt_ins _ [1042, 1044, 31, 64, 1045] (by decide +kernel) (by decide +kernel), ⟨by decide, by decide, by decide +kernel⟩⟩
theorem sX11_132 : zt_V RX11 132 yX11_knownAt mX11_knownAt 2 := ⟨zt_ins _ [1046, 1048, 32, 64, 1049] (by decide +kernel) (by decide +kernel), ⟨by decide, by decide, by decide +kernel⟩⟩
theorem sX11_136 : zt_V RX11 136 yX11_isTramp mX11_isTramp 1 := ⟨zt_ins _ [1006, 1008, 25, 64, 1009] (by decide +kernel) (by decide +kernel), ⟨by decide, by decide, by decide +kernel⟩⟩
theorem sX11_140 : zt_X RX11 140 yX11_isPlace mX11_isPlace 1 := ⟨zt_ins _ [1022, 1023, 64, 1024] (by decide +kernel) (by decide +kernel), ⟨by decide, by decide, by decide +kernel⟩⟩
theorem sX11_143 : zt_X RX11 143 yX11_far mX11_far 2 := ⟨zt_ins _ [1065, 1066, 64, 1067] (by decide +kernel) (by decide +kernel), ⟨by decide, by decide, by decide +kernel⟩⟩
theorem sX11_146 : zt_V RX11 146 yX11_speedOf mX11_speedOf 2 := ⟨zt_ins _ [1010, 1012, 26, 64, 1013] (by decide +kernel) (by decide +kernel), ⟨by decide, by decide, by decide +kernel⟩⟩
theorem sX11_149 : zt_V RX11 149 yX11_isKiln mX11_isKiln 1 := ⟨zt_ins _ [986, 988, 21, 64, 989] (by decide +kernel) (by decide +kernel), ⟨by decide, by decide, by decide +kernel⟩⟩
theorem sX11_152 : zt_V RX11 152 yX11_setOf mX11_setOf 1 := ⟨zt_ins _ [990, 992, 22, 64, 993] (by decide +kernel) (by decide +kernel), ⟨by decide, by decide, by decide +kernel⟩⟩
theorem sX11_155 : zt_V RX11 155 yX11_figuresOf mX11_figuresOf 1 := ⟨zt_ins _ [994, 996, 23, 64, 997] (by decide +kernel) (by decide +kernel), ⟨by decide, by decide, by decide +kernel⟩⟩
theorem sX11_158 : zt_V RX11 158 yX11_trampsAt mX11_trampsAt 1 := ⟨zt_ins _ [998, 1000, 24, 64, 1001] (by decide +kernel) (by decide +kernel), ⟨by decide, by decide, by decide +kernel⟩⟩
theorem sX11_164 : zt_V RX11 164 yX11_keepAct mX11_keepAct 0 := ⟨zt_ins _ [1034, 1036, 29, 64, 1037] (by decide +kernel) (by decide +kernel), ⟨by decide, by decide, by decide +kernel⟩⟩
theorem sX11_167 : zt_V RX11 167 yX11_passOn mX11_passOn 1 := ⟨zt_ins _ [1038, 1040, 30, 64, 1041] (by decide +kernel) (by decide +kernel), ⟨by decide, by decide, by decide +kernel⟩⟩
theorem sX11_170 : zt_V RX11 170 yX11_hummocksOn mX11_hummocksOn 1 := ⟨zt_ins _ [1050, 1052, 33, 64, 1053] (by decide +kernel) (by decide +kernel), ⟨by decide, by decide, by decide +kernel⟩⟩
theorem sX11_173 : zt_X RX11 173 yX11_ones mX11_ones 1 := ⟨zt_ins _ [1054, 1055, 64, 1056] (by decide +kernel) (by decide +kernel), ⟨by decide, by decide, by decide +kernel⟩⟩
theorem sX11_176 : zt_V RX11 176 yX11_canWalk mX11_canWalk 3 := ⟨zt_ins _ [1061, 1063, 34, 64, 1064] (by decide +kernel) (by decide +kernel), ⟨by decide, by decide, by decide +kernel⟩⟩
theorem sX11_180 : zt_V RX11 180 yX11_walkOn mX11_walkOn 3 := ⟨zt_ins _ [1068, 1070, 35, 64, 1071] (by decide +kernel) (by decide +kernel), ⟨by decide, by decide, by decide +kernel⟩⟩
theorem sX11_184 : zt_V RX11 184 yX11_canTell mX11_canTell 3 := ⟨zt_ins _ [1076, 1078, 36, 64, 1079] (by decide +kernel) (by decide +kernel), ⟨by decide, by decide, by decide +kernel⟩⟩
theorem sX11_187 : zt_V RX11 187 yX11_tellOn mX11_tellOn 3 := ⟨zt_ins _ [1080, 1082, 37, 64, 1083] (by decide +kernel) (by decide +kernel), ⟨by decide, by decide, by decide +kernel⟩⟩
theorem sX11_190 : zt_V RX11 190 yX11_washOn mX11_washOn 2 := ⟨zt_ins _ [1088, 1090, 38, 64, 1091] (by decide +kernel) (by decide +kernel), ⟨by decide, by decide, by decide +kernel⟩⟩
theorem sX11_195 : zt_V RX11 195 yX11_layTrial mX11_layTrial 0 := ⟨zt_ins _ [1101, 1103, 39, 64, 1104] (by decide +kernel) (by decide +kernel), ⟨by decide, by decide, by decide +kernel⟩⟩
theorem sX11_198 : zt_X RX11 198 yX11_tenTo mX11_tenTo 1 := ⟨zt_ins _ [1114, 1115, 64, 1116] (by decide +kernel) (by decide +kernel), ⟨by decide, by decide, by decide +kernel⟩⟩
theorem sX11_203 : zt_V RX11 203 yX11_knowsBy mX11_knowsBy 4 := ⟨zt_ins _ [1117, 1119, 40, 64, 1120] (by decide +kernel) (by decide +kernel), ⟨by decide, by decide, by decide +kernel⟩⟩
theorem sX11_207 : zt_V RX11 207 yX11_allLayers mX11_allLayers 0 := ⟨zt_ins _ [1129, 1131, 42, 64, 1132] (by decide +kernel) (by decide +kernel), ⟨by decide, by decide, by decide +kernel⟩⟩
theorem sX11_218 : zt_V RX11 218 yX11_orderOf mX11_orderOf 4 := ⟨zt_ins _ [1133, 1135, 43, 64, 1136] (by decide +kernel) (by decide +kernel), ⟨by decide, by decide, by decide +kernel⟩⟩
theorem sX11_222 : zt_V RX11 222 yX11_isOrder mX11_isOrder 2 := ⟨zt_ins _ [1137, 1139, 44, 64, 1140] (by decide +kernel) (by decide +kernel), ⟨by decide, by decide, by decide +kernel⟩⟩
theorem sX11_225 : zt_V RX11 225 yX11_countOrders mX11_countOrders 0 := ⟨zt_ins _ [1125, 1127, 41, 64, 1128] (by decide +kernel) (by decide +kernel), ⟨by decide, by decide, by decide +kernel⟩⟩
theorem sX11_234 : zt_X RX11 234 yX11_thousandTo mX11_thousandTo 1 := ⟨zt_ins _ [1147, 1148, 64, 1149] (by decide +kernel) (by decide +kernel), ⟨by decide, by decide, by decide +kernel⟩⟩
theorem sX11_238 : zt_V RX11 238 yX11_tryThing mX11_tryThing 3 := ⟨zt_ins _ [1151, 1153, 45, 64, 1154] (by decide +kernel) (by decide +kernel), ⟨by decide, by decide, by decide +kernel⟩⟩
theorem sX11_244 : zt_V RX11 244 yX11_upperOf mX11_upperOf 2 := ⟨zt_ins _ [1168, 1170, 46, 64, 1171] (by decide +kernel) (by decide +kernel), ⟨by decide, by decide, by decide +kernel⟩⟩
theorem sX11_247 : zt_X RX11 247 yX11_factorial mX11_factorial 1 := ⟨zt_ins _ [1176, 1177, 64, 1178] (by decide +kernel) (by decide +kernel), ⟨by decide, by decide, by decide +kernel⟩⟩
theorem sX11_250 : zt_V RX11 250 yX11_knownBy mX11_knownBy 1 := ⟨zt_ins _ [1179, 1181, 47, 64, 1182] (by decide +kernel) (by decide +kernel), ⟨by decide, by decide, by decide +kernel⟩⟩
theorem sX11_253 : zt_X RX11 253 yX11_common mX11_common 2 := ⟨zt_ins _ [1183, 1184, 64, 1185] (by decide +kernel) (by decide +kernel), ⟨by decide, by decide, by decide +kernel⟩⟩
theorem sX11_256 : zt_V RX11 256 yX11_goTo mX11_goTo 2 := ⟨zt_ins _ [1198, 1200, 50, 64, 1201] (by decide +kernel) (by decide +kernel), ⟨by decide, by decide, by decide +kernel⟩⟩
theorem sX11_259 : zt_V RX11 259 yX11_gain mX11_gain 5 := ⟨zt_ins _ [1194, 1196, 49, 64, 1197] (by decide +kernel) (by decide +kernel), ⟨by decide, by decide, by decide +kernel⟩⟩
theorem sX11_263 : zt_V RX11 263 yX11_isRest mX11_isRest 4 := ⟨zt_ins _ [1190, 1192, 48, 64, 1193] (by decide +kernel) (by decide +kernel), ⟨by decide, by decide, by decide +kernel⟩⟩
theorem sX11_280 : zt_V RX11 280 yX11_knownOfAll mX11_knownOfAll 0 := ⟨zt_ins _ [1219, 1221, 51, 64, 1222] (by decide +kernel) (by decide +kernel), ⟨by decide, by decide, by decide +kernel⟩⟩
theorem sL_13 : zt_V RL 13 yX10_write mX10_write 1 := ⟨zt_ins _ [356, 357, 358, 53, 359] (by decide +kernel) (by decide +kernel), ⟨by decide, by decide, by decide +kernel⟩⟩
theorem sL_17 : zt_V RL 17 yX11_write mX11_write 1 := ⟨zt_ins _ [941, 942, 943, 64, 944] (by decide +kernel) (by decide +kernel), ⟨by decide, by decide, by decide +kernel⟩⟩
theorem sL_18 : zt_V RL 18 yX10_wipe mX10_wipe 0 := ⟨zt_ins _ [364, 365, 366, 53, 367] (by decide +kernel) (by decide +kernel), ⟨by decide, by decide, by decide +kernel⟩⟩
theorem sL_22 : zt_V RL 22 yX11_wipe mX11_wipe 0 := ⟨zt_ins _ [949, 950, 951, 64, 952] (by decide +kernel) (by decide +kernel), ⟨by decide, by decide, by decide +kernel⟩⟩
theorem sL_23 : zt_V RL 23 yX10_fault mX10_fault 0 := ⟨zt_ins _ [368, 369, 370, 53, 371] (by decide +kernel) (by decide +kernel), ⟨by decide, by decide, by decide +kernel⟩⟩
theorem sL_26 : zt_V RL 26 yX11_fault mX11_fault 0 := ⟨zt_ins _ [953, 954, 955, 64, 956] (by decide +kernel) (by decide +kernel), ⟨by decide, by decide, by decide +kernel⟩⟩
theorem sL_27 : zt_V RL 27 yX10_hill mX10_hill 0 := ⟨zt_ins _ [435, 436, 437, 53, 438] (by decide +kernel) (by decide +kernel), ⟨by decide, by decide, by decide +kernel⟩⟩
theorem sL_30 : zt_V RL 30 yX11_hill mX11_hill 0 := ⟨zt_ins _ [978, 979, 980, 64, 981] (by decide +kernel) (by decide +kernel), ⟨by decide, by decide, by decide +kernel⟩⟩
theorem sL_31 : zt_V RL 31 yX10_kiln mX10_kiln 2 := ⟨zt_ins _ [458, 459, 460, 53, 461] (by decide +kernel) (by decide +kernel), ⟨by decide, by decide, by decide +kernel⟩⟩
theorem sL_35 : zt_V RL 35 yX11_kiln mX11_kiln 2 := ⟨zt_ins _ [982, 983, 984, 64, 985] (by decide +kernel) (by decide +kernel), ⟨by decide, by decide, by decide +kernel⟩⟩
theorem sL_36 : zt_V RL 36 yX10_tramp mX10_tramp 2 := ⟨zt_ins _ [472, 473, 474, 53, 475] (by decide +kernel) (by decide +kernel), ⟨by decide, by decide, by decide +kernel⟩⟩
theorem sL_39 : zt_V RL 39 yX11_tramp mX11_tramp 2 := ⟨zt_ins _ [1002, 1003, 1004, 64, 1005] (by decide +kernel) (by decide +kernel), ⟨by decide, by decide, by decide +kernel⟩⟩
theorem sL_40 : zt_V RL 40 yX10_at mX10_at 1 := ⟨zt_ins _ [492, 493, 494, 53, 495] (by decide +kernel) (by decide +kernel), ⟨by decide, by decide, by decide +kernel⟩⟩
theorem sL_43 : zt_V RL 43 yX11_at mX11_at 1 := ⟨zt_ins _ [1018, 1019, 1020, 64, 1021] (by decide +kernel) (by decide +kernel), ⟨by decide, by decide, by decide +kernel⟩⟩
theorem sL_44 : zt_V RL 44 yX10_night mX10_night 0 := ⟨zt_ins _ [498, 499, 500, 53, 501] (by decide +kernel) (by decide +kernel), ⟨by decide, by decide, by decide +kernel⟩⟩
theorem sL_47 : zt_V RL 47 yX11_night mX11_night 0 := ⟨zt_ins _ [1030, 1031, 1032, 64, 1033] (by decide +kernel) (by decide +kernel), ⟨by decide, by decide, by decide +kernel⟩⟩
theorem sL_48 : zt_V RL 48 yX10_walk mX10_walk 2 := ⟨zt_ins _ [543, 544, 545, 53, 546] (by decide +kernel) (by decide +kernel), ⟨by decide, by decide, by decide +kernel⟩⟩
theorem sL_51 : zt_V RL 51 yX11_walk mX11_walk 2 := ⟨zt_ins _ [1057, 1058, 1059, 64, 1060] (by decide +kernel) (by decide +kernel), ⟨by decide, by decide, by decide +kernel⟩⟩
theorem sL_52 : zt_V RL 52 yX10_tell mX10_tell 2 := ⟨zt_ins _ [563, 564, 565, 53, 566] (by decide +kernel) (by decide +kernel), ⟨by decide, by decide, by decide +kernel⟩⟩
theorem sL_55 : zt_V RL 55 yX11_tell mX11_tell 2 := ⟨zt_ins _ [1072, 1073, 1074, 64, 1075] (by decide +kernel) (by decide +kernel), ⟨by decide, by decide, by decide +kernel⟩⟩
theorem sL_56 : zt_V RL 56 yX10_wash mX10_wash 1 := ⟨zt_ins _ [575, 576, 577, 53, 578] (by decide +kernel) (by decide +kernel), ⟨by decide, by decide, by decide +kernel⟩⟩
theorem sL_59 : zt_V RL 59 yX11_wash mX11_wash 1 := ⟨zt_ins _ [1084, 1085, 1086, 64, 1087] (by decide +kernel) (by decide +kernel), ⟨by decide, by decide, by decide +kernel⟩⟩
theorem sL_60 : zt_V RL 60 yX10_undo mX10_undo 0 := ⟨zt_ins _ [587, 588, 589, 53, 590] (by decide +kernel) (by decide +kernel), ⟨by decide, by decide, by decide +kernel⟩⟩
theorem sL_63 : zt_V RL 63 yX11_undo mX11_undo 0 := ⟨zt_ins _ [1092, 1093, 1094, 64, 1095] (by decide +kernel) (by decide +kernel), ⟨by decide, by decide, by decide +kernel⟩⟩
theorem sL_64 : zt_V RL 64 yX10_later mX10_later 3 := ⟨zt_ins _ [599, 600, 601, 53, 602] (by decide +kernel) (by decide +kernel), ⟨by decide, by decide, by decide +kernel⟩⟩
theorem sL_68 : zt_V RL 68 yX11_later mX11_later 3 := ⟨zt_ins _ [1096, 1097, 1098, 64, 1099] (by decide +kernel) (by decide +kernel), ⟨by decide, by decide, by decide +kernel⟩⟩
theorem sL_69 : zt_V RL 69 yX10_hummock mX10_hummock 1 := ⟨zt_ins _ [606, 607, 608, 53, 609] (by decide +kernel) (by decide +kernel), ⟨by decide, by decide, by decide +kernel⟩⟩
theorem sL_72 : zt_V RL 72 yX11_hummock mX11_hummock 1 := ⟨zt_ins _ [1105, 1106, 1107, 64, 1108] (by decide +kernel) (by decide +kernel), ⟨by decide, by decide, by decide +kernel⟩⟩
theorem sL_73 : zt_V RL 73 yX10_soon mX10_soon 3 := ⟨zt_ins _ [610, 611, 612, 53, 613] (by decide +kernel) (by decide +kernel), ⟨by decide, by decide, by decide +kernel⟩⟩
theorem sL_76 : zt_V RL 76 yX11_soon mX11_soon 3 := ⟨zt_ins _ [1109, 1110, 1111, 64, 1112] (by decide +kernel) (by decide +kernel), ⟨by decide, by decide, by decide +kernel⟩⟩
theorem sL_77 : zt_V RL 77 yX10_beneath mX10_beneath 1 := ⟨zt_ins _ [640, 641, 642, 53, 643] (by decide +kernel) (by decide +kernel), ⟨by decide, by decide, by decide +kernel⟩⟩
theorem sL_80 : zt_V RL 80 yX11_beneath mX11_beneath 1 := ⟨zt_ins _ [1121, 1122, 1123, 64, 1124] (by decide +kernel) (by decide +kernel), ⟨by decide, by decide, by decide +kernel⟩⟩
theorem sL_83 : zt_V RL 83 yX10_judge mX10_judge 2 := ⟨zt_ins _ [673, 674, 675, 53, 676] (by decide +kernel) (by decide +kernel), ⟨by decide, by decide, by decide +kernel⟩⟩
theorem sL_87 : zt_V RL 87 yX11_judge mX11_judge 2 := ⟨zt_ins _ [1142, 1143, 1144, 64, 1145] (by decide +kernel) (by decide +kernel), ⟨by decide, by decide, by decide +kernel⟩⟩
theorem sL_88 : zt_V RL 88 yX10_knew mX10_knew 2 := ⟨zt_ins _ [700, 701, 702, 53, 703] (by decide +kernel) (by decide +kernel), ⟨by decide, by decide, by decide +kernel⟩⟩
theorem sL_91 : zt_V RL 91 yX11_knew mX11_knew 2 := ⟨zt_ins _ [1156, 1157, 1158, 64, 1159] (by decide +kernel) (by decide +kernel), ⟨by decide, by decide, by decide +kernel⟩⟩
theorem sL_92 : zt_V RL 92 yX10_unknew mX10_unknew 0 := ⟨zt_ins _ [708, 709, 710, 53, 711] (by decide +kernel) (by decide +kernel), ⟨by decide, by decide, by decide +kernel⟩⟩
theorem sL_95 : zt_V RL 95 yX11_unknew mX11_unknew 0 := ⟨zt_ins _ [1160, 1161, 1162, 64, 1163] (by decide +kernel) (by decide +kernel), ⟨by decide, by decide, by decide +kernel⟩⟩
theorem sL_96 : zt_V RL 96 yX10_lay mX10_lay 1 := ⟨zt_ins _ [716, 717, 718, 53, 719] (by decide +kernel) (by decide +kernel), ⟨by decide, by decide, by decide +kernel⟩⟩
theorem sL_99 : zt_V RL 99 yX11_lay mX11_lay 1 := ⟨zt_ins _ [1164, 1165, 1166, 64, 1167] (by decide +kernel) (by decide +kernel), ⟨by decide, by decide, by decide +kernel⟩⟩
theorem sL_100 : zt_V RL 100 yX10_share mX10_share 2 := ⟨zt_ins _ [737, 738, 739, 53, 740] (by decide +kernel) (by decide +kernel), ⟨by decide, by decide, by decide +kernel⟩⟩
theorem sL_104 : zt_V RL 104 yX11_share mX11_share 2 := ⟨zt_ins _ [1172, 1173, 1174, 64, 1175] (by decide +kernel) (by decide +kernel), ⟨by decide, by decide, by decide +kernel⟩⟩
theorem sL_105 : zt_V RL 105 yX10_rests mX10_rests 3 := ⟨zt_ins _ [754, 755, 756, 53, 757] (by decide +kernel) (by decide +kernel), ⟨by decide, by decide, by decide +kernel⟩⟩
theorem sL_108 : zt_V RL 108 yX11_rests mX11_rests 3 := ⟨zt_ins _ [1186, 1187, 1188, 64, 1189] (by decide +kernel) (by decide +kernel), ⟨by decide, by decide, by decide +kernel⟩⟩
theorem sL_109 : zt_V RL 109 yX10_cold mX10_cold 4 := ⟨zt_ins _ [777, 778, 779, 53, 780] (by decide +kernel) (by decide +kernel), ⟨by decide, by decide, by decide +kernel⟩⟩
theorem sL_113 : zt_V RL 113 yX11_cold mX11_cold 4 := ⟨zt_ins _ [1202, 1203, 1204, 64, 1205] (by decide +kernel) (by decide +kernel), ⟨by decide, by decide, by decide +kernel⟩⟩
theorem sL_114 : zt_V RL 114 yX10_seed mX10_seed 1 := ⟨zt_ins _ [785, 786, 787, 53, 788] (by decide +kernel) (by decide +kernel), ⟨by decide, by decide, by decide +kernel⟩⟩
theorem sL_118 : zt_V RL 118 yX11_seed mX11_seed 1 := ⟨zt_ins _ [1207, 1208, 1209, 64, 1210] (by decide +kernel) (by decide +kernel), ⟨by decide, by decide, by decide +kernel⟩⟩
theorem sL_119 : zt_V RL 119 yX10_years mX10_years 1 := ⟨zt_ins _ [789, 790, 791, 53, 792] (by decide +kernel) (by decide +kernel), ⟨by decide, by decide, by decide +kernel⟩⟩
theorem sL_122 : zt_V RL 122 yX11_years mX11_years 1 := ⟨zt_ins _ [1211, 1212, 1213, 64, 1214] (by decide +kernel) (by decide +kernel), ⟨by decide, by decide, by decide +kernel⟩⟩
theorem sL_123 : zt_V RL 123 yX10_keep mX10_keep 1 := ⟨zt_ins _ [805, 806, 807, 53, 808] (by decide +kernel) (by decide +kernel), ⟨by decide, by decide, by decide +kernel⟩⟩
theorem sL_126 : zt_V RL 126 yX11_keep mX11_keep 1 := ⟨zt_ins _ [1223, 1224, 1225, 64, 1226] (by decide +kernel) (by decide +kernel), ⟨by decide, by decide, by decide +kernel⟩⟩
theorem sL_127 : zt_V RL 127 yX10_again mX10_again 1 := ⟨zt_ins _ [818, 819, 820, 53, 821] (by decide +kernel) (by decide +kernel), ⟨by decide, by decide, by decide +kernel⟩⟩
theorem sL_130 : zt_V RL 130 yX11_again mX11_again 1 := ⟨zt_ins _ [1227, 1228, 1229, 64, 1230] (by decide +kernel) (by decide +kernel), ⟨by decide, by decide, by decide +kernel⟩⟩
theorem sL_131 : zt_V RL 131 yX10_count mX10_count 1 := ⟨zt_ins _ [832, 833, 834, 53, 835] (by decide +kernel) (by decide +kernel), ⟨by decide, by decide, by decide +kernel⟩⟩
theorem sL_134 : zt_V RL 134 yX11_count mX11_count 1 := ⟨zt_ins _ [1231, 1232, 1233, 64, 1234] (by decide +kernel) (by decide +kernel), ⟨by decide, by decide, by decide +kernel⟩⟩
end
section
theorem dX0_init_0 : decode cX0_init 0 = .ok (.aload_n 0, 1) := by decide +kernel
theorem dX0_init_1 : decode cX0_init 1 = .ok (.invokespecial 3, 3) := by decide +kernel
theorem dX0_init_4 : decode cX0_init 4 = .ok (.aload_n 0, 1) := by decide +kernel
theorem dX0_init_5 : decode cX0_init 5 = .ok (.bipush 14, 2) := by decide +kernel
theorem dX0_init_7 : decode cX0_init 7 = .ok (.newarray .long, 2) := by decide +kernel
theorem dX0_init_9 : decode cX0_init 9 = .ok (.putfield 9, 3) := by decide +kernel
theorem dX0_init_12 : decode cX0_init 12 = .ok (.aload_n 0, 1) := by decide +kernel
theorem dX0_init_13 : decode cX0_init 13 = .ok (.bipush 14, 2) := by decide +kernel
theorem dX0_init_15 : decode cX0_init 15 = .ok (.newarray .int, 2) := by decide +kernel
theorem dX0_init_17 : decode cX0_init 17 = .ok (.putfield 15, 3) := by decide +kernel
theorem dX0_init_20 : decode cX0_init 20 = .ok (.aload_n 0, 1) := by decide +kernel
theorem dX0_init_21 : decode cX0_init 21 = .ok (.iconst 0, 1) := by decide +kernel
theorem dX0_init_22 : decode cX0_init 22 = .ok (.putfield 19, 3) := by decide +kernel
theorem dX0_init_25 : decode cX0_init 25 = .ok (.return_, 1) := by decide +kernel
theorem dX0_clear_0 : decode cX0_clear 0 = .ok (.aload_n 0, 1) := by decide +kernel
theorem dX0_clear_1 : decode cX0_clear 1 = .ok (.iconst 0, 1) := by decide +kernel
theorem dX0_clear_2 : decode cX0_clear 2 = .ok (.putfield 19, 3) := by decide +kernel
theorem dX0_clear_5 : decode cX0_clear 5 = .ok (.return_, 1) := by decide +kernel
theorem dX0_push_0 : decode cX0_push 0 = .ok (.aload_n 0, 1) := by decide +kernel
theorem dX0_push_1 : decode cX0_push 1 = .ok (.getfield 19, 3) := by decide +kernel
theorem dX0_push_4 : decode cX0_push 4 = .ok (.bipush 14, 2) := by decide +kernel
theorem dX0_push_6 : decode cX0_push 6 = .ok (.if_icmp .lt 39, 3) := by decide +kernel
theorem dX0_push_9 : decode cX0_push 9 = .ok (.aload_n 0, 1) := by decide +kernel
theorem dX0_push_10 : decode cX0_push 10 = .ok (.getfield 9, 3) := by decide +kernel
theorem dX0_push_13 : decode cX0_push 13 = .ok (.iconst 1, 1) := by decide +kernel
theorem dX0_push_14 : decode cX0_push 14 = .ok (.aload_n 0, 1) := by decide +kernel
theorem dX0_push_15 : decode cX0_push 15 = .ok (.getfield 9, 3) := by decide +kernel
theorem dX0_push_18 : decode cX0_push 18 = .ok (.iconst 0, 1) := by decide +kernel
theorem dX0_push_19 : decode cX0_push 19 = .ok (.bipush 13, 2) := by decide +kernel
theorem dX0_push_21 : decode cX0_push 21 = .ok (.invokestatic 23, 3) := by decide +kernel
theorem dX0_push_24 : decode cX0_push 24 = .ok (.aload_n 0, 1) := by decide +kernel
theorem dX0_push_25 : decode cX0_push 25 = .ok (.getfield 15, 3) := by decide +kernel
theorem dX0_push_28 : decode cX0_push 28 = .ok (.iconst 1, 1) := by decide +kernel
theorem dX0_push_29 : decode cX0_push 29 = .ok (.aload_n 0, 1) := by decide +kernel
theorem dX0_push_30 : decode cX0_push 30 = .ok (.getfield 15, 3) := by decide +kernel
theorem dX0_push_33 : decode cX0_push 33 = .ok (.iconst 0, 1) := by decide +kernel
theorem dX0_push_34 : decode cX0_push 34 = .ok (.bipush 13, 2) := by decide +kernel
theorem dX0_push_36 : decode cX0_push 36 = .ok (.invokestatic 23, 3) := by decide +kernel
theorem dX0_push_39 : decode cX0_push 39 = .ok (.aload_n 0, 1) := by decide +kernel
theorem dX0_push_40 : decode cX0_push 40 = .ok (.bipush 13, 2) := by decide +kernel
theorem dX0_push_42 : decode cX0_push 42 = .ok (.putfield 19, 3) := by decide +kernel
theorem dX0_push_45 : decode cX0_push 45 = .ok (.aload_n 0, 1) := by decide +kernel
theorem dX0_push_46 : decode cX0_push 46 = .ok (.getfield 9, 3) := by decide +kernel
theorem dX0_push_49 : decode cX0_push 49 = .ok (.aload_n 0, 1) := by decide +kernel
theorem dX0_push_50 : decode cX0_push 50 = .ok (.getfield 19, 3) := by decide +kernel
theorem dX0_push_53 : decode cX0_push 53 = .ok (.aload_n 1, 1) := by decide +kernel
theorem dX0_push_54 : decode cX0_push 54 = .ok (.invokevirtual 29, 3) := by decide +kernel
theorem dX0_push_57 : decode cX0_push 57 = .ok (.lastore, 1) := by decide +kernel
theorem dX0_push_58 : decode cX0_push 58 = .ok (.aload_n 0, 1) := by decide +kernel
theorem dX0_push_59 : decode cX0_push 59 = .ok (.getfield 15, 3) := by decide +kernel
theorem dX0_push_62 : decode cX0_push 62 = .ok (.aload_n 0, 1) := by decide +kernel
theorem dX0_push_63 : decode cX0_push 63 = .ok (.getfield 19, 3) := by decide +kernel
theorem dX0_push_66 : decode cX0_push 66 = .ok (.aload_n 1, 1) := by decide +kernel
theorem dX0_push_67 : decode cX0_push 67 = .ok (.getfield 35, 3) := by decide +kernel
theorem dX0_push_70 : decode cX0_push 70 = .ok (.iastore, 1) := by decide +kernel
theorem dX0_push_71 : decode cX0_push 71 = .ok (.aload_n 0, 1) := by decide +kernel
theorem dX0_push_72 : decode cX0_push 72 = .ok (.dup, 1) := by decide +kernel
theorem dX0_push_73 : decode cX0_push 73 = .ok (.getfield 19, 3) := by decide +kernel
theorem dX0_push_76 : decode cX0_push 76 = .ok (.iconst 1, 1) := by decide +kernel
theorem dX0_push_77 : decode cX0_push 77 = .ok (.iadd, 1) := by decide +kernel
theorem dX0_push_78 : decode cX0_push 78 = .ok (.putfield 19, 3) := by decide +kernel
theorem dX0_push_81 : decode cX0_push 81 = .ok (.return_, 1) := by decide +kernel
theorem dX0_pop_0 : decode cX0_pop 0 = .ok (.aload_n 0, 1) := by decide +kernel
theorem dX0_pop_1 : decode cX0_pop 1 = .ok (.getfield 19, 3) := by decide +kernel
theorem dX0_pop_4 : decode cX0_pop 4 = .ok (.ifCond .le 39, 3) := by decide +kernel
theorem dX0_pop_7 : decode cX0_pop 7 = .ok (.aload_n 0, 1) := by decide +kernel
theorem dX0_pop_8 : decode cX0_pop 8 = .ok (.dup, 1) := by decide +kernel
theorem dX0_pop_9 : decode cX0_pop 9 = .ok (.getfield 19, 3) := by decide +kernel
theorem dX0_pop_12 : decode cX0_pop 12 = .ok (.iconst 1, 1) := by decide +kernel
theorem dX0_pop_13 : decode cX0_pop 13 = .ok (.isub, 1) := by decide +kernel
theorem dX0_pop_14 : decode cX0_pop 14 = .ok (.putfield 19, 3) := by decide +kernel
theorem dX0_pop_17 : decode cX0_pop 17 = .ok (.aload_n 1, 1) := by decide +kernel
theorem dX0_pop_18 : decode cX0_pop 18 = .ok (.aload_n 0, 1) := by decide +kernel
theorem dX0_pop_19 : decode cX0_pop 19 = .ok (.getfield 9, 3) := by decide +kernel
theorem dX0_pop_22 : decode cX0_pop 22 = .ok (.aload_n 0, 1) := by decide +kernel
theorem dX0_pop_23 : decode cX0_pop 23 = .ok (.getfield 19, 3) := by decide +kernel
theorem dX0_pop_26 : decode cX0_pop 26 = .ok (.laload, 1) := by decide +kernel
theorem dX0_pop_27 : decode cX0_pop 27 = .ok (.invokevirtual 37, 3) := by decide +kernel
theorem dX0_pop_30 : decode cX0_pop 30 = .ok (.aload_n 1, 1) := by decide +kernel
theorem dX0_pop_31 : decode cX0_pop 31 = .ok (.aload_n 0, 1) := by decide +kernel
theorem dX0_pop_32 : decode cX0_pop 32 = .ok (.getfield 15, 3) := by decide +kernel
theorem dX0_pop_35 : decode cX0_pop 35 = .ok (.aload_n 0, 1) := by decide +kernel
theorem dX0_pop_36 : decode cX0_pop 36 = .ok (.getfield 19, 3) := by decide +kernel
theorem dX0_pop_39 : decode cX0_pop 39 = .ok (.iaload, 1) := by decide +kernel
theorem dX0_pop_40 : decode cX0_pop 40 = .ok (.putfield 35, 3) := by decide +kernel
theorem dX0_pop_43 : decode cX0_pop 43 = .ok (.return_, 1) := by decide +kernel
theorem dX1_init_0 : decode cX1_init 0 = .ok (.aload_n 0, 1) := by decide +kernel
theorem dX1_init_1 : decode cX1_init 1 = .ok (.invokespecial 3, 3) := by decide +kernel
theorem dX1_init_4 : decode cX1_init 4 = .ok (.aload_n 0, 1) := by decide +kernel
theorem dX1_init_5 : decode cX1_init 5 = .ok (.iconst 4, 1) := by decide +kernel
theorem dX1_init_6 : decode cX1_init 6 = .ok (.newarray .int, 2) := by decide +kernel
theorem dX1_init_8 : decode cX1_init 8 = .ok (.putfield 9, 3) := by decide +kernel
theorem dX1_init_11 : decode cX1_init 11 = .ok (.aload_n 0, 1) := by decide +kernel
theorem dX1_init_12 : decode cX1_init 12 = .ok (.iconst 4, 1) := by decide +kernel
theorem dX1_init_13 : decode cX1_init 13 = .ok (.newarray .int, 2) := by decide +kernel
theorem dX1_init_15 : decode cX1_init 15 = .ok (.putfield 15, 3) := by decide +kernel
theorem dX1_init_18 : decode cX1_init 18 = .ok (.aload_n 0, 1) := by decide +kernel
theorem dX1_init_19 : decode cX1_init 19 = .ok (.iconst 4, 1) := by decide +kernel
theorem dX1_init_20 : decode cX1_init 20 = .ok (.newarray .int, 2) := by decide +kernel
theorem dX1_init_22 : decode cX1_init 22 = .ok (.putfield 18, 3) := by decide +kernel
theorem dX1_init_25 : decode cX1_init 25 = .ok (.aload_n 0, 1) := by decide +kernel
theorem dX1_init_26 : decode cX1_init 26 = .ok (.iconst 4, 1) := by decide +kernel
theorem dX1_init_27 : decode cX1_init 27 = .ok (.newarray .int, 2) := by decide +kernel
theorem dX1_init_29 : decode cX1_init 29 = .ok (.putfield 21, 3) := by decide +kernel
theorem dX1_init_32 : decode cX1_init 32 = .ok (.aload_n 0, 1) := by decide +kernel
theorem dX1_init_33 : decode cX1_init 33 = .ok (.iconst 0, 1) := by decide +kernel
theorem dX1_init_34 : decode cX1_init 34 = .ok (.putfield 24, 3) := by decide +kernel
theorem dX1_init_37 : decode cX1_init 37 = .ok (.aload_n 0, 1) := by decide +kernel
theorem dX1_init_38 : decode cX1_init 38 = .ok (.iconst 0, 1) := by decide +kernel
theorem dX1_init_39 : decode cX1_init 39 = .ok (.putfield 28, 3) := by decide +kernel
theorem dX1_init_42 : decode cX1_init 42 = .ok (.aload_n 0, 1) := by decide +kernel
theorem dX1_init_43 : decode cX1_init 43 = .ok (.iconst 0, 1) := by decide +kernel
theorem dX1_init_44 : decode cX1_init 44 = .ok (.putfield 31, 3) := by decide +kernel
theorem dX1_init_47 : decode cX1_init 47 = .ok (.return_, 1) := by decide +kernel
theorem dX1_clear_0 : decode cX1_clear 0 = .ok (.aload_n 0, 1) := by decide +kernel
theorem dX1_clear_1 : decode cX1_clear 1 = .ok (.iconst 0, 1) := by decide +kernel
theorem dX1_clear_2 : decode cX1_clear 2 = .ok (.putfield 28, 3) := by decide +kernel
theorem dX1_clear_5 : decode cX1_clear 5 = .ok (.aload_n 0, 1) := by decide +kernel
theorem dX1_clear_6 : decode cX1_clear 6 = .ok (.iconst 0, 1) := by decide +kernel
theorem dX1_clear_7 : decode cX1_clear 7 = .ok (.putfield 24, 3) := by decide +kernel
theorem dX1_clear_10 : decode cX1_clear 10 = .ok (.aload_n 0, 1) := by decide +kernel
theorem dX1_clear_11 : decode cX1_clear 11 = .ok (.iconst 0, 1) := by decide +kernel
theorem dX1_clear_12 : decode cX1_clear 12 = .ok (.putfield 31, 3) := by decide +kernel
theorem dX1_clear_15 : decode cX1_clear 15 = .ok (.return_, 1) := by decide +kernel
theorem dX1_copyFrom_0 : decode cX1_copyFrom 0 = .ok (.iconst 0, 1) := by decide +kernel
theorem dX1_copyFrom_1 : decode cX1_copyFrom 1 = .ok (.istore_n 2, 1) := by decide +kernel
theorem dX1_copyFrom_2 : decode cX1_copyFrom 2 = .ok (.iload_n 2, 1) := by decide +kernel
theorem dX1_copyFrom_3 : decode cX1_copyFrom 3 = .ok (.aload_n 1, 1) := by decide +kernel
theorem dX1_copyFrom_4 : decode cX1_copyFrom 4 = .ok (.getfield 28, 3) := by decide +kernel
theorem dX1_copyFrom_7 : decode cX1_copyFrom 7 = .ok (.if_icmp .ge 57, 3) := by decide +kernel
theorem dX1_copyFrom_10 : decode cX1_copyFrom 10 = .ok (.aload_n 0, 1) := by decide +kernel
theorem dX1_copyFrom_11 : decode cX1_copyFrom 11 = .ok (.getfield 9, 3) := by decide +kernel
theorem dX1_copyFrom_14 : decode cX1_copyFrom 14 = .ok (.iload_n 2, 1) := by decide +kernel
theorem dX1_copyFrom_15 : decode cX1_copyFrom 15 = .ok (.aload_n 1, 1) := by decide +kernel
theorem dX1_copyFrom_16 : decode cX1_copyFrom 16 = .ok (.getfield 9, 3) := by decide +kernel
theorem dX1_copyFrom_19 : decode cX1_copyFrom 19 = .ok (.iload_n 2, 1) := by decide +kernel
theorem dX1_copyFrom_20 : decode cX1_copyFrom 20 = .ok (.iaload, 1) := by decide +kernel
theorem dX1_copyFrom_21 : decode cX1_copyFrom 21 = .ok (.iastore, 1) := by decide +kernel
theorem dX1_copyFrom_22 : decode cX1_copyFrom 22 = .ok (.aload_n 0, 1) := by decide +kernel
theorem dX1_copyFrom_23 : decode cX1_copyFrom 23 = .ok (.getfield 15, 3) := by decide +kernel
theorem dX1_copyFrom_26 : decode cX1_copyFrom 26 = .ok (.iload_n 2, 1) := by decide +kernel
theorem dX1_copyFrom_27 : decode cX1_copyFrom 27 = .ok (.aload_n 1, 1) := by decide +kernel
theorem dX1_copyFrom_28 : decode cX1_copyFrom 28 = .ok (.getfield 15, 3) := by decide +kernel
theorem dX1_copyFrom_31 : decode cX1_copyFrom 31 = .ok (.iload_n 2, 1) := by decide +kernel
theorem dX1_copyFrom_32 : decode cX1_copyFrom 32 = .ok (.iaload, 1) := by decide +kernel
theorem dX1_copyFrom_33 : decode cX1_copyFrom 33 = .ok (.iastore, 1) := by decide +kernel
theorem dX1_copyFrom_34 : decode cX1_copyFrom 34 = .ok (.aload_n 0, 1) := by decide +kernel
theorem dX1_copyFrom_35 : decode cX1_copyFrom 35 = .ok (.getfield 18, 3) := by decide +kernel
theorem dX1_copyFrom_38 : decode cX1_copyFrom 38 = .ok (.iload_n 2, 1) := by decide +kernel
theorem dX1_copyFrom_39 : decode cX1_copyFrom 39 = .ok (.aload_n 1, 1) := by decide +kernel
theorem dX1_copyFrom_40 : decode cX1_copyFrom 40 = .ok (.getfield 18, 3) := by decide +kernel
theorem dX1_copyFrom_43 : decode cX1_copyFrom 43 = .ok (.iload_n 2, 1) := by decide +kernel
theorem dX1_copyFrom_44 : decode cX1_copyFrom 44 = .ok (.iaload, 1) := by decide +kernel
theorem dX1_copyFrom_45 : decode cX1_copyFrom 45 = .ok (.iastore, 1) := by decide +kernel
theorem dX1_copyFrom_46 : decode cX1_copyFrom 46 = .ok (.aload_n 0, 1) := by decide +kernel
theorem dX1_copyFrom_47 : decode cX1_copyFrom 47 = .ok (.getfield 21, 3) := by decide +kernel
theorem dX1_copyFrom_50 : decode cX1_copyFrom 50 = .ok (.iload_n 2, 1) := by decide +kernel
theorem dX1_copyFrom_51 : decode cX1_copyFrom 51 = .ok (.aload_n 1, 1) := by decide +kernel
theorem dX1_copyFrom_52 : decode cX1_copyFrom 52 = .ok (.getfield 21, 3) := by decide +kernel
theorem dX1_copyFrom_55 : decode cX1_copyFrom 55 = .ok (.iload_n 2, 1) := by decide +kernel
theorem dX1_copyFrom_56 : decode cX1_copyFrom 56 = .ok (.iaload, 1) := by decide +kernel
theorem dX1_copyFrom_57 : decode cX1_copyFrom 57 = .ok (.iastore, 1) := by decide +kernel
theorem dX1_copyFrom_58 : decode cX1_copyFrom 58 = .ok (.iinc 2 1, 3) := by decide +kernel
theorem dX1_copyFrom_61 : decode cX1_copyFrom 61 = .ok (.goto (-59), 3) := by decide +kernel
theorem dX1_copyFrom_64 : decode cX1_copyFrom 64 = .ok (.aload_n 0, 1) := by decide +kernel
theorem dX1_copyFrom_65 : decode cX1_copyFrom 65 = .ok (.aload_n 1, 1) := by decide +kernel
theorem dX1_copyFrom_66 : decode cX1_copyFrom 66 = .ok (.getfield 24, 3) := by decide +kernel
theorem dX1_copyFrom_69 : decode cX1_copyFrom 69 = .ok (.putfield 24, 3) := by decide +kernel
theorem dX1_copyFrom_72 : decode cX1_copyFrom 72 = .ok (.aload_n 0, 1) := by decide +kernel
theorem dX1_copyFrom_73 : decode cX1_copyFrom 73 = .ok (.aload_n 1, 1) := by decide +kernel
theorem dX1_copyFrom_74 : decode cX1_copyFrom 74 = .ok (.getfield 28, 3) := by decide +kernel
theorem dX1_copyFrom_77 : decode cX1_copyFrom 77 = .ok (.putfield 28, 3) := by decide +kernel
theorem dX1_copyFrom_80 : decode cX1_copyFrom 80 = .ok (.aload_n 0, 1) := by decide +kernel
theorem dX1_copyFrom_81 : decode cX1_copyFrom 81 = .ok (.aload_n 1, 1) := by decide +kernel
theorem dX1_copyFrom_82 : decode cX1_copyFrom 82 = .ok (.getfield 31, 3) := by decide +kernel
theorem dX1_copyFrom_85 : decode cX1_copyFrom 85 = .ok (.putfield 31, 3) := by decide +kernel
theorem dX1_copyFrom_88 : decode cX1_copyFrom 88 = .ok (.return_, 1) := by decide +kernel
theorem dX1_addTramp_0 : decode cX1_addTramp 0 = .ok (.aload_n 0, 1) := by decide +kernel
theorem dX1_addTramp_1 : decode cX1_addTramp 1 = .ok (.getfield 28, 3) := by decide +kernel
theorem dX1_addTramp_4 : decode cX1_addTramp 4 = .ok (.iconst 4, 1) := by decide +kernel
theorem dX1_addTramp_5 : decode cX1_addTramp 5 = .ok (.if_icmp .ge 53, 3) := by decide +kernel
theorem dX1_addTramp_8 : decode cX1_addTramp 8 = .ok (.aload_n 0, 1) := by decide +kernel
theorem dX1_addTramp_9 : decode cX1_addTramp 9 = .ok (.getfield 9, 3) := by decide +kernel
theorem dX1_addTramp_12 : decode cX1_addTramp 12 = .ok (.aload_n 0, 1) := by decide +kernel
theorem dX1_addTramp_13 : decode cX1_addTramp 13 = .ok (.getfield 28, 3) := by decide +kernel
theorem dX1_addTramp_16 : decode cX1_addTramp 16 = .ok (.iload_n 1, 1) := by decide +kernel
theorem dX1_addTramp_17 : decode cX1_addTramp 17 = .ok (.iastore, 1) := by decide +kernel
theorem dX1_addTramp_18 : decode cX1_addTramp 18 = .ok (.aload_n 0, 1) := by decide +kernel
theorem dX1_addTramp_19 : decode cX1_addTramp 19 = .ok (.getfield 15, 3) := by decide +kernel
theorem dX1_addTramp_22 : decode cX1_addTramp 22 = .ok (.aload_n 0, 1) := by decide +kernel
theorem dX1_addTramp_23 : decode cX1_addTramp 23 = .ok (.getfield 28, 3) := by decide +kernel
theorem dX1_addTramp_26 : decode cX1_addTramp 26 = .ok (.iload_n 2, 1) := by decide +kernel
theorem dX1_addTramp_27 : decode cX1_addTramp 27 = .ok (.iastore, 1) := by decide +kernel
theorem dX1_addTramp_28 : decode cX1_addTramp 28 = .ok (.aload_n 0, 1) := by decide +kernel
theorem dX1_addTramp_29 : decode cX1_addTramp 29 = .ok (.getfield 18, 3) := by decide +kernel
theorem dX1_addTramp_32 : decode cX1_addTramp 32 = .ok (.aload_n 0, 1) := by decide +kernel
theorem dX1_addTramp_33 : decode cX1_addTramp 33 = .ok (.getfield 28, 3) := by decide +kernel
theorem dX1_addTramp_36 : decode cX1_addTramp 36 = .ok (.iconst 0, 1) := by decide +kernel
theorem dX1_addTramp_37 : decode cX1_addTramp 37 = .ok (.iastore, 1) := by decide +kernel
theorem dX1_addTramp_38 : decode cX1_addTramp 38 = .ok (.aload_n 0, 1) := by decide +kernel
theorem dX1_addTramp_39 : decode cX1_addTramp 39 = .ok (.getfield 21, 3) := by decide +kernel
theorem dX1_addTramp_42 : decode cX1_addTramp 42 = .ok (.aload_n 0, 1) := by decide +kernel
theorem dX1_addTramp_43 : decode cX1_addTramp 43 = .ok (.getfield 28, 3) := by decide +kernel
theorem dX1_addTramp_46 : decode cX1_addTramp 46 = .ok (.iconst 0, 1) := by decide +kernel
theorem dX1_addTramp_47 : decode cX1_addTramp 47 = .ok (.iastore, 1) := by decide +kernel
theorem dX1_addTramp_48 : decode cX1_addTramp 48 = .ok (.aload_n 0, 1) := by decide +kernel
theorem dX1_addTramp_49 : decode cX1_addTramp 49 = .ok (.dup, 1) := by decide +kernel
theorem dX1_addTramp_50 : decode cX1_addTramp 50 = .ok (.getfield 28, 3) := by decide +kernel
theorem dX1_addTramp_53 : decode cX1_addTramp 53 = .ok (.iconst 1, 1) := by decide +kernel
theorem dX1_addTramp_54 : decode cX1_addTramp 54 = .ok (.iadd, 1) := by decide +kernel
theorem dX1_addTramp_55 : decode cX1_addTramp 55 = .ok (.putfield 28, 3) := by decide +kernel
theorem dX1_addTramp_58 : decode cX1_addTramp 58 = .ok (.return_, 1) := by decide +kernel
theorem dX1_packed_0 : decode cX1_packed 0 = .ok (.lconst 0, 1) := by decide +kernel
theorem dX1_packed_1 : decode cX1_packed 1 = .ok (.lstore_n 1, 1) := by decide +kernel
theorem dX1_packed_2 : decode cX1_packed 2 = .ok (.aload_n 0, 1) := by decide +kernel
theorem dX1_packed_3 : decode cX1_packed 3 = .ok (.getfield 28, 3) := by decide +kernel
theorem dX1_packed_6 : decode cX1_packed 6 = .ok (.iconst 1, 1) := by decide +kernel
theorem dX1_packed_7 : decode cX1_packed 7 = .ok (.isub, 1) := by decide +kernel
theorem dX1_packed_8 : decode cX1_packed 8 = .ok (.istore_n 3, 1) := by decide +kernel
theorem dX1_packed_9 : decode cX1_packed 9 = .ok (.iload_n 3, 1) := by decide +kernel
theorem dX1_packed_10 : decode cX1_packed 10 = .ok (.ifCond .lt 68, 3) := by decide +kernel
theorem dX1_packed_13 : decode cX1_packed 13 = .ok (.aload_n 0, 1) := by decide +kernel
theorem dX1_packed_14 : decode cX1_packed 14 = .ok (.getfield 24, 3) := by decide +kernel
theorem dX1_packed_17 : decode cX1_packed 17 = .ok (.iload_n 3, 1) := by decide +kernel
theorem dX1_packed_18 : decode cX1_packed 18 = .ok (.ishr, 1) := by decide +kernel
theorem dX1_packed_19 : decode cX1_packed 19 = .ok (.iconst 1, 1) := by decide +kernel
theorem dX1_packed_20 : decode cX1_packed 20 = .ok (.iand, 1) := by decide +kernel
theorem dX1_packed_21 : decode cX1_packed 21 = .ok (.istore 4, 2) := by decide +kernel
theorem dX1_packed_23 : decode cX1_packed 23 = .ok (.iload 4, 2) := by decide +kernel
theorem dX1_packed_25 : decode cX1_packed 25 = .ok (.iconst 4, 1) := by decide +kernel
theorem dX1_packed_26 : decode cX1_packed 26 = .ok (.ishl, 1) := by decide +kernel
theorem dX1_packed_27 : decode cX1_packed 27 = .ok (.aload_n 0, 1) := by decide +kernel
theorem dX1_packed_28 : decode cX1_packed 28 = .ok (.getfield 9, 3) := by decide +kernel
theorem dX1_packed_31 : decode cX1_packed 31 = .ok (.iload_n 3, 1) := by decide +kernel
theorem dX1_packed_32 : decode cX1_packed 32 = .ok (.iaload, 1) := by decide +kernel
theorem dX1_packed_33 : decode cX1_packed 33 = .ok (.ior, 1) := by decide +kernel
theorem dX1_packed_34 : decode cX1_packed 34 = .ok (.istore 4, 2) := by decide +kernel
theorem dX1_packed_36 : decode cX1_packed 36 = .ok (.iload 4, 2) := by decide +kernel
theorem dX1_packed_38 : decode cX1_packed 38 = .ok (.iconst 4, 1) := by decide +kernel
theorem dX1_packed_39 : decode cX1_packed 39 = .ok (.ishl, 1) := by decide +kernel
theorem dX1_packed_40 : decode cX1_packed 40 = .ok (.aload_n 0, 1) := by decide +kernel
theorem dX1_packed_41 : decode cX1_packed 41 = .ok (.getfield 21, 3) := by decide +kernel
theorem dX1_packed_44 : decode cX1_packed 44 = .ok (.iload_n 3, 1) := by decide +kernel
theorem dX1_packed_45 : decode cX1_packed 45 = .ok (.iaload, 1) := by decide +kernel
theorem dX1_packed_46 : decode cX1_packed 46 = .ok (.ior, 1) := by decide +kernel
theorem dX1_packed_47 : decode cX1_packed 47 = .ok (.istore 4, 2) := by decide +kernel
theorem dX1_packed_49 : decode cX1_packed 49 = .ok (.iload 4, 2) := by decide +kernel
theorem dX1_packed_51 : decode cX1_packed 51 = .ok (.bipush 6, 2) := by decide +kernel
theorem dX1_packed_53 : decode cX1_packed 53 = .ok (.ishl, 1) := by decide +kernel
theorem dX1_packed_54 : decode cX1_packed 54 = .ok (.aload_n 0, 1) := by decide +kernel
theorem dX1_packed_55 : decode cX1_packed 55 = .ok (.getfield 18, 3) := by decide +kernel
theorem dX1_packed_58 : decode cX1_packed 58 = .ok (.iload_n 3, 1) := by decide +kernel
theorem dX1_packed_59 : decode cX1_packed 59 = .ok (.iaload, 1) := by decide +kernel
theorem dX1_packed_60 : decode cX1_packed 60 = .ok (.ior, 1) := by decide +kernel
theorem dX1_packed_61 : decode cX1_packed 61 = .ok (.istore 4, 2) := by decide +kernel
theorem dX1_packed_63 : decode cX1_packed 63 = .ok (.lload_n 1, 1) := by decide +kernel
theorem dX1_packed_64 : decode cX1_packed 64 = .ok (.bipush 15, 2) := by decide +kernel
theorem dX1_packed_66 : decode cX1_packed 66 = .ok (.lshl, 1) := by decide +kernel
theorem dX1_packed_67 : decode cX1_packed 67 = .ok (.iload 4, 2) := by decide +kernel
theorem dX1_packed_69 : decode cX1_packed 69 = .ok (.i2l, 1) := by decide +kernel
theorem dX1_packed_70 : decode cX1_packed 70 = .ok (.lor, 1) := by decide +kernel
theorem dX1_packed_71 : decode cX1_packed 71 = .ok (.lstore_n 1, 1) := by decide +kernel
theorem dX1_packed_72 : decode cX1_packed 72 = .ok (.iinc 3 (-1), 3) := by decide +kernel
theorem dX1_packed_75 : decode cX1_packed 75 = .ok (.goto (-66), 3) := by decide +kernel
theorem dX1_packed_78 : decode cX1_packed 78 = .ok (.lload_n 1, 1) := by decide +kernel
theorem dX1_packed_79 : decode cX1_packed 79 = .ok (.lreturn, 1) := by decide +kernel
theorem dX1_unpack_0 : decode cX1_unpack 0 = .ok (.aload_n 0, 1) := by decide +kernel
theorem dX1_unpack_1 : decode cX1_unpack 1 = .ok (.iconst 0, 1) := by decide +kernel
theorem dX1_unpack_2 : decode cX1_unpack 2 = .ok (.putfield 24, 3) := by decide +kernel
theorem dX1_unpack_5 : decode cX1_unpack 5 = .ok (.iconst 0, 1) := by decide +kernel
theorem dX1_unpack_6 : decode cX1_unpack 6 = .ok (.istore_n 3, 1) := by decide +kernel
theorem dX1_unpack_7 : decode cX1_unpack 7 = .ok (.iload_n 3, 1) := by decide +kernel
theorem dX1_unpack_8 : decode cX1_unpack 8 = .ok (.aload_n 0, 1) := by decide +kernel
theorem dX1_unpack_9 : decode cX1_unpack 9 = .ok (.getfield 28, 3) := by decide +kernel
theorem dX1_unpack_12 : decode cX1_unpack 12 = .ok (.if_icmp .ge 75, 3) := by decide +kernel
theorem dX1_unpack_15 : decode cX1_unpack 15 = .ok (.lload_n 1, 1) := by decide +kernel
theorem dX1_unpack_16 : decode cX1_unpack 16 = .ok (.bipush 15, 2) := by decide +kernel
theorem dX1_unpack_18 : decode cX1_unpack 18 = .ok (.iload_n 3, 1) := by decide +kernel
theorem dX1_unpack_19 : decode cX1_unpack 19 = .ok (.imul, 1) := by decide +kernel
theorem dX1_unpack_20 : decode cX1_unpack 20 = .ok (.lshr, 1) := by decide +kernel
theorem dX1_unpack_21 : decode cX1_unpack 21 = .ok (.l2i, 1) := by decide +kernel
theorem dX1_unpack_22 : decode cX1_unpack 22 = .ok (.istore 4, 2) := by decide +kernel
theorem dX1_unpack_24 : decode cX1_unpack 24 = .ok (.aload_n 0, 1) := by decide +kernel
theorem dX1_unpack_25 : decode cX1_unpack 25 = .ok (.getfield 18, 3) := by decide +kernel
theorem dX1_unpack_28 : decode cX1_unpack 28 = .ok (.iload_n 3, 1) := by decide +kernel
theorem dX1_unpack_29 : decode cX1_unpack 29 = .ok (.iload 4, 2) := by decide +kernel
theorem dX1_unpack_31 : decode cX1_unpack 31 = .ok (.bipush 63, 2) := by decide +kernel
theorem dX1_unpack_33 : decode cX1_unpack 33 = .ok (.iand, 1) := by decide +kernel
theorem dX1_unpack_34 : decode cX1_unpack 34 = .ok (.iastore, 1) := by decide +kernel
theorem dX1_unpack_35 : decode cX1_unpack 35 = .ok (.aload_n 0, 1) := by decide +kernel
theorem dX1_unpack_36 : decode cX1_unpack 36 = .ok (.getfield 21, 3) := by decide +kernel
theorem dX1_unpack_39 : decode cX1_unpack 39 = .ok (.iload_n 3, 1) := by decide +kernel
theorem dX1_unpack_40 : decode cX1_unpack 40 = .ok (.iload 4, 2) := by decide +kernel
theorem dX1_unpack_42 : decode cX1_unpack 42 = .ok (.bipush 6, 2) := by decide +kernel
theorem dX1_unpack_44 : decode cX1_unpack 44 = .ok (.ishr, 1) := by decide +kernel
theorem dX1_unpack_45 : decode cX1_unpack 45 = .ok (.bipush 15, 2) := by decide +kernel
theorem dX1_unpack_47 : decode cX1_unpack 47 = .ok (.iand, 1) := by decide +kernel
theorem dX1_unpack_48 : decode cX1_unpack 48 = .ok (.iastore, 1) := by decide +kernel
theorem dX1_unpack_49 : decode cX1_unpack 49 = .ok (.aload_n 0, 1) := by decide +kernel
theorem dX1_unpack_50 : decode cX1_unpack 50 = .ok (.getfield 9, 3) := by decide +kernel
theorem dX1_unpack_53 : decode cX1_unpack 53 = .ok (.iload_n 3, 1) := by decide +kernel
theorem dX1_unpack_54 : decode cX1_unpack 54 = .ok (.iload 4, 2) := by decide +kernel
theorem dX1_unpack_56 : decode cX1_unpack 56 = .ok (.bipush 10, 2) := by decide +kernel
theorem dX1_unpack_58 : decode cX1_unpack 58 = .ok (.ishr, 1) := by decide +kernel
theorem dX1_unpack_59 : decode cX1_unpack 59 = .ok (.bipush 15, 2) := by decide +kernel
theorem dX1_unpack_61 : decode cX1_unpack 61 = .ok (.iand, 1) := by decide +kernel
theorem dX1_unpack_62 : decode cX1_unpack 62 = .ok (.iastore, 1) := by decide +kernel
theorem dX1_unpack_63 : decode cX1_unpack 63 = .ok (.aload_n 0, 1) := by decide +kernel
theorem dX1_unpack_64 : decode cX1_unpack 64 = .ok (.dup, 1) := by decide +kernel
theorem dX1_unpack_65 : decode cX1_unpack 65 = .ok (.getfield 24, 3) := by decide +kernel
theorem dX1_unpack_68 : decode cX1_unpack 68 = .ok (.iload 4, 2) := by decide +kernel
theorem dX1_unpack_70 : decode cX1_unpack 70 = .ok (.bipush 14, 2) := by decide +kernel
theorem dX1_unpack_72 : decode cX1_unpack 72 = .ok (.ishr, 1) := by decide +kernel
theorem dX1_unpack_73 : decode cX1_unpack 73 = .ok (.iconst 1, 1) := by decide +kernel
theorem dX1_unpack_74 : decode cX1_unpack 74 = .ok (.iand, 1) := by decide +kernel
theorem dX1_unpack_75 : decode cX1_unpack 75 = .ok (.iload_n 3, 1) := by decide +kernel
theorem dX1_unpack_76 : decode cX1_unpack 76 = .ok (.ishl, 1) := by decide +kernel
theorem dX1_unpack_77 : decode cX1_unpack 77 = .ok (.ior, 1) := by decide +kernel
theorem dX1_unpack_78 : decode cX1_unpack 78 = .ok (.putfield 24, 3) := by decide +kernel
theorem dX1_unpack_81 : decode cX1_unpack 81 = .ok (.iinc 3 1, 3) := by decide +kernel
theorem dX1_unpack_84 : decode cX1_unpack 84 = .ok (.goto (-77), 3) := by decide +kernel
theorem dX1_unpack_87 : decode cX1_unpack 87 = .ok (.return_, 1) := by decide +kernel
theorem dX1_has_0 : decode cX1_has 0 = .ok (.iload_n 1, 1) := by decide +kernel
theorem dX1_has_1 : decode cX1_has 1 = .ok (.ifCond .lt 15, 3) := by decide +kernel
theorem dX1_has_4 : decode cX1_has 4 = .ok (.iload_n 1, 1) := by decide +kernel
theorem dX1_has_5 : decode cX1_has 5 = .ok (.aload_n 0, 1) := by decide +kernel
theorem dX1_has_6 : decode cX1_has 6 = .ok (.getfield 28, 3) := by decide +kernel
theorem dX1_has_9 : decode cX1_has 9 = .ok (.if_icmp .ge 7, 3) := by decide +kernel
theorem dX1_has_12 : decode cX1_has 12 = .ok (.iconst 1, 1) := by decide +kernel
theorem dX1_has_13 : decode cX1_has 13 = .ok (.goto 4, 3) := by decide +kernel
theorem dX1_has_16 : decode cX1_has 16 = .ok (.iconst 0, 1) := by decide +kernel
theorem dX1_has_17 : decode cX1_has 17 = .ok (.ireturn, 1) := by decide +kernel
theorem dX1_isHummock_0 : decode cX1_isHummock 0 = .ok (.aload_n 0, 1) := by decide +kernel
theorem dX1_isHummock_1 : decode cX1_isHummock 1 = .ok (.getfield 21, 3) := by decide +kernel
theorem dX1_isHummock_4 : decode cX1_isHummock 4 = .ok (.iload_n 1, 1) := by decide +kernel
theorem dX1_isHummock_5 : decode cX1_isHummock 5 = .ok (.iaload, 1) := by decide +kernel
theorem dX1_isHummock_6 : decode cX1_isHummock 6 = .ok (.bipush 9, 2) := by decide +kernel
theorem dX1_isHummock_8 : decode cX1_isHummock 8 = .ok (.if_icmp .lt 7, 3) := by decide +kernel
theorem dX1_isHummock_11 : decode cX1_isHummock 11 = .ok (.iconst 1, 1) := by decide +kernel
theorem dX1_isHummock_12 : decode cX1_isHummock 12 = .ok (.goto 4, 3) := by decide +kernel
theorem dX1_isHummock_15 : decode cX1_isHummock 15 = .ok (.iconst 0, 1) := by decide +kernel
theorem dX1_isHummock_16 : decode cX1_isHummock 16 = .ok (.ireturn, 1) := by decide +kernel
theorem dX1_hasWalked_0 : decode cX1_hasWalked 0 = .ok (.aload_n 0, 1) := by decide +kernel
theorem dX1_hasWalked_1 : decode cX1_hasWalked 1 = .ok (.getfield 24, 3) := by decide +kernel
theorem dX1_hasWalked_4 : decode cX1_hasWalked 4 = .ok (.iconst 1, 1) := by decide +kernel
theorem dX1_hasWalked_5 : decode cX1_hasWalked 5 = .ok (.iload_n 1, 1) := by decide +kernel
theorem dX1_hasWalked_6 : decode cX1_hasWalked 6 = .ok (.ishl, 1) := by decide +kernel
theorem dX1_hasWalked_7 : decode cX1_hasWalked 7 = .ok (.iand, 1) := by decide +kernel
theorem dX1_hasWalked_8 : decode cX1_hasWalked 8 = .ok (.ifCond .eq 7, 3) := by decide +kernel
theorem dX1_hasWalked_11 : decode cX1_hasWalked 11 = .ok (.iconst 1, 1) := by decide +kernel
theorem dX1_hasWalked_12 : decode cX1_hasWalked 12 = .ok (.goto 4, 3) := by decide +kernel
theorem dX1_hasWalked_15 : decode cX1_hasWalked 15 = .ok (.iconst 0, 1) := by decide +kernel
theorem dX1_hasWalked_16 : decode cX1_hasWalked 16 = .ok (.ireturn, 1) := by decide +kernel
theorem dX1_speedOf_0 : decode cX1_speedOf 0 = .ok (.iconst 3, 1) := by decide +kernel
theorem dX1_speedOf_1 : decode cX1_speedOf 1 = .ok (.aload_n 0, 1) := by decide +kernel
theorem dX1_speedOf_2 : decode cX1_speedOf 2 = .ok (.getfield 21, 3) := by decide +kernel
theorem dX1_speedOf_5 : decode cX1_speedOf 5 = .ok (.iload_n 1, 1) := by decide +kernel
theorem dX1_speedOf_6 : decode cX1_speedOf 6 = .ok (.iaload, 1) := by decide +kernel
theorem dX1_speedOf_7 : decode cX1_speedOf 7 = .ok (.iconst 3, 1) := by decide +kernel
theorem dX1_speedOf_8 : decode cX1_speedOf 8 = .ok (.idiv, 1) := by decide +kernel
theorem dX1_speedOf_9 : decode cX1_speedOf 9 = .ok (.isub, 1) := by decide +kernel
theorem dX1_speedOf_10 : decode cX1_speedOf 10 = .ok (.ireturn, 1) := by decide +kernel
theorem dX1_hummocks_0 : decode cX1_hummocks 0 = .ok (.iconst 0, 1) := by decide +kernel
theorem dX1_hummocks_1 : decode cX1_hummocks 1 = .ok (.istore_n 1, 1) := by decide +kernel
theorem dX1_hummocks_2 : decode cX1_hummocks 2 = .ok (.iconst 0, 1) := by decide +kernel
theorem dX1_hummocks_3 : decode cX1_hummocks 3 = .ok (.istore_n 2, 1) := by decide +kernel
theorem dX1_hummocks_4 : decode cX1_hummocks 4 = .ok (.iload_n 2, 1) := by decide +kernel
theorem dX1_hummocks_5 : decode cX1_hummocks 5 = .ok (.aload_n 0, 1) := by decide +kernel
theorem dX1_hummocks_6 : decode cX1_hummocks 6 = .ok (.getfield 28, 3) := by decide +kernel
theorem dX1_hummocks_9 : decode cX1_hummocks 9 = .ok (.if_icmp .ge 23, 3) := by decide +kernel
theorem dX1_hummocks_12 : decode cX1_hummocks 12 = .ok (.aload_n 0, 1) := by decide +kernel
theorem dX1_hummocks_13 : decode cX1_hummocks 13 = .ok (.iload_n 2, 1) := by decide +kernel
theorem dX1_hummocks_14 : decode cX1_hummocks 14 = .ok (.invokevirtual 34, 3) := by decide +kernel
theorem dX1_hummocks_17 : decode cX1_hummocks 17 = .ok (.ifCond .eq 9, 3) := by decide +kernel
theorem dX1_hummocks_20 : decode cX1_hummocks 20 = .ok (.iload_n 1, 1) := by decide +kernel
theorem dX1_hummocks_21 : decode cX1_hummocks 21 = .ok (.iconst 1, 1) := by decide +kernel
theorem dX1_hummocks_22 : decode cX1_hummocks 22 = .ok (.iload_n 2, 1) := by decide +kernel
theorem dX1_hummocks_23 : decode cX1_hummocks 23 = .ok (.ishl, 1) := by decide +kernel
theorem dX1_hummocks_24 : decode cX1_hummocks 24 = .ok (.ior, 1) := by decide +kernel
theorem dX1_hummocks_25 : decode cX1_hummocks 25 = .ok (.istore_n 1, 1) := by decide +kernel
theorem dX1_hummocks_26 : decode cX1_hummocks 26 = .ok (.iinc 2 1, 3) := by decide +kernel
theorem dX1_hummocks_29 : decode cX1_hummocks 29 = .ok (.goto (-25), 3) := by decide +kernel
theorem dX1_hummocks_32 : decode cX1_hummocks 32 = .ok (.iload_n 1, 1) := by decide +kernel
theorem dX1_hummocks_33 : decode cX1_hummocks 33 = .ok (.ireturn, 1) := by decide +kernel
theorem dX1_trampsAt_0 : decode cX1_trampsAt 0 = .ok (.iconst 0, 1) := by decide +kernel
theorem dX1_trampsAt_1 : decode cX1_trampsAt 1 = .ok (.istore_n 2, 1) := by decide +kernel
theorem dX1_trampsAt_2 : decode cX1_trampsAt 2 = .ok (.iconst 0, 1) := by decide +kernel
theorem dX1_trampsAt_3 : decode cX1_trampsAt 3 = .ok (.istore_n 3, 1) := by decide +kernel
theorem dX1_trampsAt_4 : decode cX1_trampsAt 4 = .ok (.iload_n 3, 1) := by decide +kernel
theorem dX1_trampsAt_5 : decode cX1_trampsAt 5 = .ok (.aload_n 0, 1) := by decide +kernel
theorem dX1_trampsAt_6 : decode cX1_trampsAt 6 = .ok (.getfield 28, 3) := by decide +kernel
theorem dX1_trampsAt_9 : decode cX1_trampsAt 9 = .ok (.if_icmp .ge 25, 3) := by decide +kernel
theorem dX1_trampsAt_12 : decode cX1_trampsAt 12 = .ok (.aload_n 0, 1) := by decide +kernel
theorem dX1_trampsAt_13 : decode cX1_trampsAt 13 = .ok (.getfield 9, 3) := by decide +kernel
theorem dX1_trampsAt_16 : decode cX1_trampsAt 16 = .ok (.iload_n 3, 1) := by decide +kernel
theorem dX1_trampsAt_17 : decode cX1_trampsAt 17 = .ok (.iaload, 1) := by decide +kernel
theorem dX1_trampsAt_18 : decode cX1_trampsAt 18 = .ok (.iload_n 1, 1) := by decide +kernel
theorem dX1_trampsAt_19 : decode cX1_trampsAt 19 = .ok (.if_icmp .ne 9, 3) := by decide +kernel
theorem dX1_trampsAt_22 : decode cX1_trampsAt 22 = .ok (.iload_n 2, 1) := by decide +kernel
theorem dX1_trampsAt_23 : decode cX1_trampsAt 23 = .ok (.iconst 1, 1) := by decide +kernel
theorem dX1_trampsAt_24 : decode cX1_trampsAt 24 = .ok (.iload_n 3, 1) := by decide +kernel
theorem dX1_trampsAt_25 : decode cX1_trampsAt 25 = .ok (.ishl, 1) := by decide +kernel
theorem dX1_trampsAt_26 : decode cX1_trampsAt 26 = .ok (.ior, 1) := by decide +kernel
theorem dX1_trampsAt_27 : decode cX1_trampsAt 27 = .ok (.istore_n 2, 1) := by decide +kernel
theorem dX1_trampsAt_28 : decode cX1_trampsAt 28 = .ok (.iinc 3 1, 3) := by decide +kernel
theorem dX1_trampsAt_31 : decode cX1_trampsAt 31 = .ok (.goto (-27), 3) := by decide +kernel
theorem dX1_trampsAt_34 : decode cX1_trampsAt 34 = .ok (.iload_n 2, 1) := by decide +kernel
theorem dX1_trampsAt_35 : decode cX1_trampsAt 35 = .ok (.ireturn, 1) := by decide +kernel
theorem dX1_knownAt_0 : decode cX1_knownAt 0 = .ok (.iconst 0, 1) := by decide +kernel
theorem dX1_knownAt_1 : decode cX1_knownAt 1 = .ok (.istore_n 2, 1) := by decide +kernel
theorem dX1_knownAt_2 : decode cX1_knownAt 2 = .ok (.iconst 0, 1) := by decide +kernel
theorem dX1_knownAt_3 : decode cX1_knownAt 3 = .ok (.istore_n 3, 1) := by decide +kernel
theorem dX1_knownAt_4 : decode cX1_knownAt 4 = .ok (.iload_n 3, 1) := by decide +kernel
theorem dX1_knownAt_5 : decode cX1_knownAt 5 = .ok (.aload_n 0, 1) := by decide +kernel
theorem dX1_knownAt_6 : decode cX1_knownAt 6 = .ok (.getfield 28, 3) := by decide +kernel
theorem dX1_knownAt_9 : decode cX1_knownAt 9 = .ok (.if_icmp .ge 28, 3) := by decide +kernel
theorem dX1_knownAt_12 : decode cX1_knownAt 12 = .ok (.aload_n 0, 1) := by decide +kernel
theorem dX1_knownAt_13 : decode cX1_knownAt 13 = .ok (.getfield 9, 3) := by decide +kernel
theorem dX1_knownAt_16 : decode cX1_knownAt 16 = .ok (.iload_n 3, 1) := by decide +kernel
theorem dX1_knownAt_17 : decode cX1_knownAt 17 = .ok (.iaload, 1) := by decide +kernel
theorem dX1_knownAt_18 : decode cX1_knownAt 18 = .ok (.iload_n 1, 1) := by decide +kernel
theorem dX1_knownAt_19 : decode cX1_knownAt 19 = .ok (.if_icmp .ne 12, 3) := by decide +kernel
theorem dX1_knownAt_22 : decode cX1_knownAt 22 = .ok (.iload_n 2, 1) := by decide +kernel
theorem dX1_knownAt_23 : decode cX1_knownAt 23 = .ok (.aload_n 0, 1) := by decide +kernel
theorem dX1_knownAt_24 : decode cX1_knownAt 24 = .ok (.getfield 18, 3) := by decide +kernel
theorem dX1_knownAt_27 : decode cX1_knownAt 27 = .ok (.iload_n 3, 1) := by decide +kernel
theorem dX1_knownAt_28 : decode cX1_knownAt 28 = .ok (.iaload, 1) := by decide +kernel
theorem dX1_knownAt_29 : decode cX1_knownAt 29 = .ok (.ior, 1) := by decide +kernel
theorem dX1_knownAt_30 : decode cX1_knownAt 30 = .ok (.istore_n 2, 1) := by decide +kernel
theorem dX1_knownAt_31 : decode cX1_knownAt 31 = .ok (.iinc 3 1, 3) := by decide +kernel
theorem dX1_knownAt_34 : decode cX1_knownAt 34 = .ok (.goto (-30), 3) := by decide +kernel
theorem dX1_knownAt_37 : decode cX1_knownAt 37 = .ok (.iload_n 2, 1) := by decide +kernel
theorem dX1_knownAt_38 : decode cX1_knownAt 38 = .ok (.ireturn, 1) := by decide +kernel
theorem dX1_knownByAny_0 : decode cX1_knownByAny 0 = .ok (.iconst 0, 1) := by decide +kernel
theorem dX1_knownByAny_1 : decode cX1_knownByAny 1 = .ok (.istore_n 1, 1) := by decide +kernel
theorem dX1_knownByAny_2 : decode cX1_knownByAny 2 = .ok (.iconst 0, 1) := by decide +kernel
theorem dX1_knownByAny_3 : decode cX1_knownByAny 3 = .ok (.istore_n 2, 1) := by decide +kernel
theorem dX1_knownByAny_4 : decode cX1_knownByAny 4 = .ok (.iload_n 2, 1) := by decide +kernel
theorem dX1_knownByAny_5 : decode cX1_knownByAny 5 = .ok (.aload_n 0, 1) := by decide +kernel
theorem dX1_knownByAny_6 : decode cX1_knownByAny 6 = .ok (.getfield 28, 3) := by decide +kernel
theorem dX1_knownByAny_9 : decode cX1_knownByAny 9 = .ok (.if_icmp .ge 18, 3) := by decide +kernel
theorem dX1_knownByAny_12 : decode cX1_knownByAny 12 = .ok (.iload_n 1, 1) := by decide +kernel
theorem dX1_knownByAny_13 : decode cX1_knownByAny 13 = .ok (.aload_n 0, 1) := by decide +kernel
theorem dX1_knownByAny_14 : decode cX1_knownByAny 14 = .ok (.getfield 18, 3) := by decide +kernel
theorem dX1_knownByAny_17 : decode cX1_knownByAny 17 = .ok (.iload_n 2, 1) := by decide +kernel
theorem dX1_knownByAny_18 : decode cX1_knownByAny 18 = .ok (.iaload, 1) := by decide +kernel
theorem dX1_knownByAny_19 : decode cX1_knownByAny 19 = .ok (.ior, 1) := by decide +kernel
theorem dX1_knownByAny_20 : decode cX1_knownByAny 20 = .ok (.istore_n 1, 1) := by decide +kernel
theorem dX1_knownByAny_21 : decode cX1_knownByAny 21 = .ok (.iinc 2 1, 3) := by decide +kernel
theorem dX1_knownByAny_24 : decode cX1_knownByAny 24 = .ok (.goto (-20), 3) := by decide +kernel
theorem dX1_knownByAny_27 : decode cX1_knownByAny 27 = .ok (.iload_n 1, 1) := by decide +kernel
theorem dX1_knownByAny_28 : decode cX1_knownByAny 28 = .ok (.ireturn, 1) := by decide +kernel
theorem dX1_howManyKnow_0 : decode cX1_howManyKnow 0 = .ok (.iconst 0, 1) := by decide +kernel
theorem dX1_howManyKnow_1 : decode cX1_howManyKnow 1 = .ok (.istore_n 2, 1) := by decide +kernel
theorem dX1_howManyKnow_2 : decode cX1_howManyKnow 2 = .ok (.iconst 0, 1) := by decide +kernel
theorem dX1_howManyKnow_3 : decode cX1_howManyKnow 3 = .ok (.istore_n 3, 1) := by decide +kernel
theorem dX1_howManyKnow_4 : decode cX1_howManyKnow 4 = .ok (.iload_n 3, 1) := by decide +kernel
theorem dX1_howManyKnow_5 : decode cX1_howManyKnow 5 = .ok (.aload_n 0, 1) := by decide +kernel
theorem dX1_howManyKnow_6 : decode cX1_howManyKnow 6 = .ok (.getfield 28, 3) := by decide +kernel
theorem dX1_howManyKnow_9 : decode cX1_howManyKnow 9 = .ok (.if_icmp .ge 23, 3) := by decide +kernel
theorem dX1_howManyKnow_12 : decode cX1_howManyKnow 12 = .ok (.aload_n 0, 1) := by decide +kernel
theorem dX1_howManyKnow_13 : decode cX1_howManyKnow 13 = .ok (.getfield 18, 3) := by decide +kernel
theorem dX1_howManyKnow_16 : decode cX1_howManyKnow 16 = .ok (.iload_n 3, 1) := by decide +kernel
theorem dX1_howManyKnow_17 : decode cX1_howManyKnow 17 = .ok (.iaload, 1) := by decide +kernel
theorem dX1_howManyKnow_18 : decode cX1_howManyKnow 18 = .ok (.iload_n 1, 1) := by decide +kernel
theorem dX1_howManyKnow_19 : decode cX1_howManyKnow 19 = .ok (.iand, 1) := by decide +kernel
theorem dX1_howManyKnow_20 : decode cX1_howManyKnow 20 = .ok (.ifCond .eq 6, 3) := by decide +kernel
theorem dX1_howManyKnow_23 : decode cX1_howManyKnow 23 = .ok (.iinc 2 1, 3) := by decide +kernel
theorem dX1_howManyKnow_26 : decode cX1_howManyKnow 26 = .ok (.iinc 3 1, 3) := by decide +kernel
theorem dX1_howManyKnow_29 : decode cX1_howManyKnow 29 = .ok (.goto (-25), 3) := by decide +kernel
theorem dX1_howManyKnow_32 : decode cX1_howManyKnow 32 = .ok (.iload_n 2, 1) := by decide +kernel
theorem dX1_howManyKnow_33 : decode cX1_howManyKnow 33 = .ok (.ireturn, 1) := by decide +kernel
theorem dX1_allThatIsKnown_0 : decode cX1_allThatIsKnown 0 = .ok (.iconst 0, 1) := by decide +kernel
theorem dX1_allThatIsKnown_1 : decode cX1_allThatIsKnown 1 = .ok (.istore_n 1, 1) := by decide +kernel
theorem dX1_allThatIsKnown_2 : decode cX1_allThatIsKnown 2 = .ok (.iconst 0, 1) := by decide +kernel
theorem dX1_allThatIsKnown_3 : decode cX1_allThatIsKnown 3 = .ok (.istore_n 2, 1) := by decide +kernel
theorem dX1_allThatIsKnown_4 : decode cX1_allThatIsKnown 4 = .ok (.iload_n 2, 1) := by decide +kernel
theorem dX1_allThatIsKnown_5 : decode cX1_allThatIsKnown 5 = .ok (.aload_n 0, 1) := by decide +kernel
theorem dX1_allThatIsKnown_6 : decode cX1_allThatIsKnown 6 = .ok (.getfield 28, 3) := by decide +kernel
theorem dX1_allThatIsKnown_9 : decode cX1_allThatIsKnown 9 = .ok (.if_icmp .ge 21, 3) := by decide +kernel
theorem dX1_allThatIsKnown_12 : decode cX1_allThatIsKnown 12 = .ok (.iload_n 1, 1) := by decide +kernel
theorem dX1_allThatIsKnown_13 : decode cX1_allThatIsKnown 13 = .ok (.aload_n 0, 1) := by decide +kernel
theorem dX1_allThatIsKnown_14 : decode cX1_allThatIsKnown 14 = .ok (.getfield 18, 3) := by decide +kernel
theorem dX1_allThatIsKnown_17 : decode cX1_allThatIsKnown 17 = .ok (.iload_n 2, 1) := by decide +kernel
theorem dX1_allThatIsKnown_18 : decode cX1_allThatIsKnown 18 = .ok (.iaload, 1) := by decide +kernel
theorem dX1_allThatIsKnown_19 : decode cX1_allThatIsKnown 19 = .ok (.invokestatic 38, 3) := by decide +kernel
theorem dX1_allThatIsKnown_22 : decode cX1_allThatIsKnown 22 = .ok (.iadd, 1) := by decide +kernel
theorem dX1_allThatIsKnown_23 : decode cX1_allThatIsKnown 23 = .ok (.istore_n 1, 1) := by decide +kernel
theorem dX1_allThatIsKnown_24 : decode cX1_allThatIsKnown 24 = .ok (.iinc 2 1, 3) := by decide +kernel
theorem dX1_allThatIsKnown_27 : decode cX1_allThatIsKnown 27 = .ok (.goto (-23), 3) := by decide +kernel
theorem dX1_allThatIsKnown_30 : decode cX1_allThatIsKnown 30 = .ok (.iload_n 1, 1) := by decide +kernel
theorem dX1_allThatIsKnown_31 : decode cX1_allThatIsKnown 31 = .ok (.ireturn, 1) := by decide +kernel
theorem dX1_passNight_0 : decode cX1_passNight 0 = .ok (.iconst 0, 1) := by decide +kernel
theorem dX1_passNight_1 : decode cX1_passNight 1 = .ok (.istore_n 3, 1) := by decide +kernel
theorem dX1_passNight_2 : decode cX1_passNight 2 = .ok (.iload_n 3, 1) := by decide +kernel
theorem dX1_passNight_3 : decode cX1_passNight 3 = .ok (.aload_n 0, 1) := by decide +kernel
theorem dX1_passNight_4 : decode cX1_passNight 4 = .ok (.getfield 28, 3) := by decide +kernel
theorem dX1_passNight_7 : decode cX1_passNight 7 = .ok (.if_icmp .ge 55, 3) := by decide +kernel
theorem dX1_passNight_10 : decode cX1_passNight 10 = .ok (.aload_n 1, 1) := by decide +kernel
theorem dX1_passNight_11 : decode cX1_passNight 11 = .ok (.aload_n 0, 1) := by decide +kernel
theorem dX1_passNight_12 : decode cX1_passNight 12 = .ok (.getfield 9, 3) := by decide +kernel
theorem dX1_passNight_15 : decode cX1_passNight 15 = .ok (.iload_n 3, 1) := by decide +kernel
theorem dX1_passNight_16 : decode cX1_passNight 16 = .ok (.iaload, 1) := by decide +kernel
theorem dX1_passNight_17 : decode cX1_passNight 17 = .ok (.invokevirtual 44, 3) := by decide +kernel
theorem dX1_passNight_20 : decode cX1_passNight 20 = .ok (.istore 4, 2) := by decide +kernel
theorem dX1_passNight_22 : decode cX1_passNight 22 = .ok (.aload_n 1, 1) := by decide +kernel
theorem dX1_passNight_23 : decode cX1_passNight 23 = .ok (.iload 4, 2) := by decide +kernel
theorem dX1_passNight_25 : decode cX1_passNight 25 = .ok (.invokevirtual 49, 3) := by decide +kernel
theorem dX1_passNight_28 : decode cX1_passNight 28 = .ok (.ifCond .eq 28, 3) := by decide +kernel
theorem dX1_passNight_31 : decode cX1_passNight 31 = .ok (.iload_n 2, 1) := by decide +kernel
theorem dX1_passNight_32 : decode cX1_passNight 32 = .ok (.iconst 1, 1) := by decide +kernel
theorem dX1_passNight_33 : decode cX1_passNight 33 = .ok (.iload 4, 2) := by decide +kernel
theorem dX1_passNight_35 : decode cX1_passNight 35 = .ok (.ishl, 1) := by decide +kernel
theorem dX1_passNight_36 : decode cX1_passNight 36 = .ok (.iand, 1) := by decide +kernel
theorem dX1_passNight_37 : decode cX1_passNight 37 = .ok (.ifCond .ne 19, 3) := by decide +kernel
theorem dX1_passNight_40 : decode cX1_passNight 40 = .ok (.aload_n 0, 1) := by decide +kernel
theorem dX1_passNight_41 : decode cX1_passNight 41 = .ok (.iload_n 3, 1) := by decide +kernel
theorem dX1_passNight_42 : decode cX1_passNight 42 = .ok (.invokevirtual 34, 3) := by decide +kernel
theorem dX1_passNight_45 : decode cX1_passNight 45 = .ok (.ifCond .ne 11, 3) := by decide +kernel
theorem dX1_passNight_48 : decode cX1_passNight 48 = .ok (.aload_n 0, 1) := by decide +kernel
theorem dX1_passNight_49 : decode cX1_passNight 49 = .ok (.iload_n 3, 1) := by decide +kernel
theorem dX1_passNight_50 : decode cX1_passNight 50 = .ok (.aload_n 1, 1) := by decide +kernel
theorem dX1_passNight_51 : decode cX1_passNight 51 = .ok (.iload 4, 2) := by decide +kernel
theorem dX1_passNight_53 : decode cX1_passNight 53 = .ok (.invokevirtual 52, 3) := by decide +kernel
theorem dX1_passNight_56 : decode cX1_passNight 56 = .ok (.iinc 3 1, 3) := by decide +kernel
theorem dX1_passNight_59 : decode cX1_passNight 59 = .ok (.goto (-57), 3) := by decide +kernel
theorem dX1_passNight_62 : decode cX1_passNight 62 = .ok (.iconst 0, 1) := by decide +kernel
theorem dX1_passNight_63 : decode cX1_passNight 63 = .ok (.istore_n 3, 1) := by decide +kernel
theorem dX1_passNight_64 : decode cX1_passNight 64 = .ok (.iload_n 3, 1) := by decide +kernel
theorem dX1_passNight_65 : decode cX1_passNight 65 = .ok (.aload_n 0, 1) := by decide +kernel
theorem dX1_passNight_66 : decode cX1_passNight 66 = .ok (.getfield 28, 3) := by decide +kernel
theorem dX1_passNight_69 : decode cX1_passNight 69 = .ok (.if_icmp .ge 46, 3) := by decide +kernel
theorem dX1_passNight_72 : decode cX1_passNight 72 = .ok (.aload_n 0, 1) := by decide +kernel
theorem dX1_passNight_73 : decode cX1_passNight 73 = .ok (.getfield 15, 3) := by decide +kernel
theorem dX1_passNight_76 : decode cX1_passNight 76 = .ok (.iload_n 3, 1) := by decide +kernel
theorem dX1_passNight_77 : decode cX1_passNight 77 = .ok (.iaload, 1) := by decide +kernel
theorem dX1_passNight_78 : decode cX1_passNight 78 = .ok (.iconst 3, 1) := by decide +kernel
theorem dX1_passNight_79 : decode cX1_passNight 79 = .ok (.if_icmp .ne 30, 3) := by decide +kernel
theorem dX1_passNight_82 : decode cX1_passNight 82 = .ok (.aload_n 0, 1) := by decide +kernel
theorem dX1_passNight_83 : decode cX1_passNight 83 = .ok (.iload_n 3, 1) := by decide +kernel
theorem dX1_passNight_84 : decode cX1_passNight 84 = .ok (.invokevirtual 34, 3) := by decide +kernel
theorem dX1_passNight_87 : decode cX1_passNight 87 = .ok (.ifCond .ne 22, 3) := by decide +kernel
theorem dX1_passNight_90 : decode cX1_passNight 90 = .ok (.aload_n 0, 1) := by decide +kernel
theorem dX1_passNight_91 : decode cX1_passNight 91 = .ok (.getfield 18, 3) := by decide +kernel
theorem dX1_passNight_94 : decode cX1_passNight 94 = .ok (.iload_n 3, 1) := by decide +kernel
theorem dX1_passNight_95 : decode cX1_passNight 95 = .ok (.dup2, 1) := by decide +kernel
theorem dX1_passNight_96 : decode cX1_passNight 96 = .ok (.iaload, 1) := by decide +kernel
theorem dX1_passNight_97 : decode cX1_passNight 97 = .ok (.aload_n 0, 1) := by decide +kernel
theorem dX1_passNight_98 : decode cX1_passNight 98 = .ok (.aload_n 0, 1) := by decide +kernel
theorem dX1_passNight_99 : decode cX1_passNight 99 = .ok (.getfield 9, 3) := by decide +kernel
theorem dX1_passNight_102 : decode cX1_passNight 102 = .ok (.iload_n 3, 1) := by decide +kernel
theorem dX1_passNight_103 : decode cX1_passNight 103 = .ok (.iaload, 1) := by decide +kernel
theorem dX1_passNight_104 : decode cX1_passNight 104 = .ok (.invokevirtual 56, 3) := by decide +kernel
theorem dX1_passNight_107 : decode cX1_passNight 107 = .ok (.ior, 1) := by decide +kernel
theorem dX1_passNight_108 : decode cX1_passNight 108 = .ok (.iastore, 1) := by decide +kernel
theorem dX1_passNight_109 : decode cX1_passNight 109 = .ok (.iinc 3 1, 3) := by decide +kernel
theorem dX1_passNight_112 : decode cX1_passNight 112 = .ok (.goto (-48), 3) := by decide +kernel
theorem dX1_passNight_115 : decode cX1_passNight 115 = .ok (.aload_n 0, 1) := by decide +kernel
theorem dX1_passNight_116 : decode cX1_passNight 116 = .ok (.iconst 0, 1) := by decide +kernel
theorem dX1_passNight_117 : decode cX1_passNight 117 = .ok (.putfield 24, 3) := by decide +kernel
theorem dX1_passNight_120 : decode cX1_passNight 120 = .ok (.aload_n 0, 1) := by decide +kernel
theorem dX1_passNight_121 : decode cX1_passNight 121 = .ok (.dup, 1) := by decide +kernel
theorem dX1_passNight_122 : decode cX1_passNight 122 = .ok (.getfield 31, 3) := by decide +kernel
theorem dX1_passNight_125 : decode cX1_passNight 125 = .ok (.iconst 1, 1) := by decide +kernel
theorem dX1_passNight_126 : decode cX1_passNight 126 = .ok (.iadd, 1) := by decide +kernel
theorem dX1_passNight_127 : decode cX1_passNight 127 = .ok (.putfield 31, 3) := by decide +kernel
theorem dX1_passNight_130 : decode cX1_passNight 130 = .ok (.return_, 1) := by decide +kernel
theorem dX1_lieUp_0 : decode cX1_lieUp 0 = .ok (.aload_n 0, 1) := by decide +kernel
theorem dX1_lieUp_1 : decode cX1_lieUp 1 = .ok (.getfield 15, 3) := by decide +kernel
theorem dX1_lieUp_4 : decode cX1_lieUp 4 = .ok (.iload_n 1, 1) := by decide +kernel
theorem dX1_lieUp_5 : decode cX1_lieUp 5 = .ok (.iaload, 1) := by decide +kernel
theorem dX1_lieUp_6 : decode cX1_lieUp 6 = .ok (.invokestatic 59, 3) := by decide +kernel
theorem dX1_lieUp_9 : decode cX1_lieUp 9 = .ok (.istore 4, 2) := by decide +kernel
theorem dX1_lieUp_11 : decode cX1_lieUp 11 = .ok (.iconst 0, 1) := by decide +kernel
theorem dX1_lieUp_12 : decode cX1_lieUp 12 = .ok (.istore 5, 2) := by decide +kernel
theorem dX1_lieUp_14 : decode cX1_lieUp 14 = .ok (.iload 5, 2) := by decide +kernel
theorem dX1_lieUp_16 : decode cX1_lieUp 16 = .ok (.aload_n 2, 1) := by decide +kernel
theorem dX1_lieUp_17 : decode cX1_lieUp 17 = .ok (.getfield 62, 3) := by decide +kernel
theorem dX1_lieUp_20 : decode cX1_lieUp 20 = .ok (.iload_n 3, 1) := by decide +kernel
theorem dX1_lieUp_21 : decode cX1_lieUp 21 = .ok (.iaload, 1) := by decide +kernel
theorem dX1_lieUp_22 : decode cX1_lieUp 22 = .ok (.if_icmp .ge 51, 3) := by decide +kernel
theorem dX1_lieUp_25 : decode cX1_lieUp 25 = .ok (.iload 4, 2) := by decide +kernel
theorem dX1_lieUp_27 : decode cX1_lieUp 27 = .ok (.ifCond .le 46, 3) := by decide +kernel
theorem dX1_lieUp_30 : decode cX1_lieUp 30 = .ok (.iconst 1, 1) := by decide +kernel
theorem dX1_lieUp_31 : decode cX1_lieUp 31 = .ok (.aload_n 2, 1) := by decide +kernel
theorem dX1_lieUp_32 : decode cX1_lieUp 32 = .ok (.iload_n 3, 1) := by decide +kernel
theorem dX1_lieUp_33 : decode cX1_lieUp 33 = .ok (.iload 5, 2) := by decide +kernel
theorem dX1_lieUp_35 : decode cX1_lieUp 35 = .ok (.invokevirtual 65, 3) := by decide +kernel
theorem dX1_lieUp_38 : decode cX1_lieUp 38 = .ok (.ishl, 1) := by decide +kernel
theorem dX1_lieUp_39 : decode cX1_lieUp 39 = .ok (.istore 6, 2) := by decide +kernel
theorem dX1_lieUp_41 : decode cX1_lieUp 41 = .ok (.aload_n 0, 1) := by decide +kernel
theorem dX1_lieUp_42 : decode cX1_lieUp 42 = .ok (.getfield 18, 3) := by decide +kernel
theorem dX1_lieUp_45 : decode cX1_lieUp 45 = .ok (.iload_n 1, 1) := by decide +kernel
theorem dX1_lieUp_46 : decode cX1_lieUp 46 = .ok (.iaload, 1) := by decide +kernel
theorem dX1_lieUp_47 : decode cX1_lieUp 47 = .ok (.iload 6, 2) := by decide +kernel
theorem dX1_lieUp_49 : decode cX1_lieUp 49 = .ok (.iand, 1) := by decide +kernel
theorem dX1_lieUp_50 : decode cX1_lieUp 50 = .ok (.ifCond .ne 17, 3) := by decide +kernel
theorem dX1_lieUp_53 : decode cX1_lieUp 53 = .ok (.aload_n 0, 1) := by decide +kernel
theorem dX1_lieUp_54 : decode cX1_lieUp 54 = .ok (.getfield 18, 3) := by decide +kernel
theorem dX1_lieUp_57 : decode cX1_lieUp 57 = .ok (.iload_n 1, 1) := by decide +kernel
theorem dX1_lieUp_58 : decode cX1_lieUp 58 = .ok (.dup2, 1) := by decide +kernel
theorem dX1_lieUp_59 : decode cX1_lieUp 59 = .ok (.iaload, 1) := by decide +kernel
theorem dX1_lieUp_60 : decode cX1_lieUp 60 = .ok (.iload 6, 2) := by decide +kernel
theorem dX1_lieUp_62 : decode cX1_lieUp 62 = .ok (.ior, 1) := by decide +kernel
theorem dX1_lieUp_63 : decode cX1_lieUp 63 = .ok (.iastore, 1) := by decide +kernel
theorem dX1_lieUp_64 : decode cX1_lieUp 64 = .ok (.iinc 4 (-1), 3) := by decide +kernel
theorem dX1_lieUp_67 : decode cX1_lieUp 67 = .ok (.iinc 5 1, 3) := by decide +kernel
theorem dX1_lieUp_70 : decode cX1_lieUp 70 = .ok (.goto (-56), 3) := by decide +kernel
theorem dX1_lieUp_73 : decode cX1_lieUp 73 = .ok (.aload_n 0, 1) := by decide +kernel
theorem dX1_lieUp_74 : decode cX1_lieUp 74 = .ok (.getfield 15, 3) := by decide +kernel
theorem dX1_lieUp_77 : decode cX1_lieUp 77 = .ok (.iload_n 1, 1) := by decide +kernel
theorem dX1_lieUp_78 : decode cX1_lieUp 78 = .ok (.iaload, 1) := by decide +kernel
theorem dX1_lieUp_79 : decode cX1_lieUp 79 = .ok (.iconst 2, 1) := by decide +kernel
theorem dX1_lieUp_80 : decode cX1_lieUp 80 = .ok (.if_icmp .ne 7, 3) := by decide +kernel
theorem dX1_lieUp_83 : decode cX1_lieUp 83 = .ok (.iconst 2, 1) := by decide +kernel
theorem dX1_lieUp_84 : decode cX1_lieUp 84 = .ok (.goto 4, 3) := by decide +kernel
theorem dX1_lieUp_87 : decode cX1_lieUp 87 = .ok (.iconst 1, 1) := by decide +kernel
theorem dX1_lieUp_88 : decode cX1_lieUp 88 = .ok (.istore 5, 2) := by decide +kernel
theorem dX1_lieUp_90 : decode cX1_lieUp 90 = .ok (.aload_n 0, 1) := by decide +kernel
theorem dX1_lieUp_91 : decode cX1_lieUp 91 = .ok (.getfield 21, 3) := by decide +kernel
theorem dX1_lieUp_94 : decode cX1_lieUp 94 = .ok (.iload_n 1, 1) := by decide +kernel
theorem dX1_lieUp_95 : decode cX1_lieUp 95 = .ok (.bipush 9, 2) := by decide +kernel
theorem dX1_lieUp_97 : decode cX1_lieUp 97 = .ok (.aload_n 0, 1) := by decide +kernel
theorem dX1_lieUp_98 : decode cX1_lieUp 98 = .ok (.getfield 21, 3) := by decide +kernel
theorem dX1_lieUp_101 : decode cX1_lieUp 101 = .ok (.iload_n 1, 1) := by decide +kernel
theorem dX1_lieUp_102 : decode cX1_lieUp 102 = .ok (.iaload, 1) := by decide +kernel
theorem dX1_lieUp_103 : decode cX1_lieUp 103 = .ok (.iload 5, 2) := by decide +kernel
theorem dX1_lieUp_105 : decode cX1_lieUp 105 = .ok (.iadd, 1) := by decide +kernel
theorem dX1_lieUp_106 : decode cX1_lieUp 106 = .ok (.invokestatic 69, 3) := by decide +kernel
theorem dX1_lieUp_109 : decode cX1_lieUp 109 = .ok (.iastore, 1) := by decide +kernel
theorem dX1_lieUp_110 : decode cX1_lieUp 110 = .ok (.return_, 1) := by decide +kernel
theorem dX1_mayGo_0 : decode cX1_mayGo 0 = .ok (.aload_n 0, 1) := by decide +kernel
theorem dX1_mayGo_1 : decode cX1_mayGo 1 = .ok (.iload_n 1, 1) := by decide +kernel
theorem dX1_mayGo_2 : decode cX1_mayGo 2 = .ok (.invokevirtual 74, 3) := by decide +kernel
theorem dX1_mayGo_5 : decode cX1_mayGo 5 = .ok (.ifCond .eq 26, 3) := by decide +kernel
theorem dX1_mayGo_8 : decode cX1_mayGo 8 = .ok (.iload_n 2, 1) := by decide +kernel
theorem dX1_mayGo_9 : decode cX1_mayGo 9 = .ok (.invokestatic 75, 3) := by decide +kernel
theorem dX1_mayGo_12 : decode cX1_mayGo 12 = .ok (.ifCond .eq 19, 3) := by decide +kernel
theorem dX1_mayGo_15 : decode cX1_mayGo 15 = .ok (.aload_n 0, 1) := by decide +kernel
theorem dX1_mayGo_16 : decode cX1_mayGo 16 = .ok (.iload_n 1, 1) := by decide +kernel
theorem dX1_mayGo_17 : decode cX1_mayGo 17 = .ok (.invokevirtual 34, 3) := by decide +kernel
theorem dX1_mayGo_20 : decode cX1_mayGo 20 = .ok (.ifCond .ne 11, 3) := by decide +kernel
theorem dX1_mayGo_23 : decode cX1_mayGo 23 = .ok (.aload_n 0, 1) := by decide +kernel
theorem dX1_mayGo_24 : decode cX1_mayGo 24 = .ok (.iload_n 1, 1) := by decide +kernel
theorem dX1_mayGo_25 : decode cX1_mayGo 25 = .ok (.invokevirtual 78, 3) := by decide +kernel
theorem dX1_mayGo_28 : decode cX1_mayGo 28 = .ok (.ifCond .eq 5, 3) := by decide +kernel
theorem dX1_mayGo_31 : decode cX1_mayGo 31 = .ok (.iconst 0, 1) := by decide +kernel
theorem dX1_mayGo_32 : decode cX1_mayGo 32 = .ok (.ireturn, 1) := by decide +kernel
theorem dX1_mayGo_33 : decode cX1_mayGo 33 = .ok (.iload_n 2, 1) := by decide +kernel
theorem dX1_mayGo_34 : decode cX1_mayGo 34 = .ok (.aload_n 0, 1) := by decide +kernel
theorem dX1_mayGo_35 : decode cX1_mayGo 35 = .ok (.getfield 9, 3) := by decide +kernel
theorem dX1_mayGo_38 : decode cX1_mayGo 38 = .ok (.iload_n 1, 1) := by decide +kernel
theorem dX1_mayGo_39 : decode cX1_mayGo 39 = .ok (.iaload, 1) := by decide +kernel
theorem dX1_mayGo_40 : decode cX1_mayGo 40 = .ok (.isub, 1) := by decide +kernel
theorem dX1_mayGo_41 : decode cX1_mayGo 41 = .ok (.invokestatic 81, 3) := by decide +kernel
theorem dX1_mayGo_44 : decode cX1_mayGo 44 = .ok (.istore_n 3, 1) := by decide +kernel
theorem dX1_mayGo_45 : decode cX1_mayGo 45 = .ok (.iload_n 3, 1) := by decide +kernel
theorem dX1_mayGo_46 : decode cX1_mayGo 46 = .ok (.ifCond .le 16, 3) := by decide +kernel
theorem dX1_mayGo_49 : decode cX1_mayGo 49 = .ok (.iload_n 3, 1) := by decide +kernel
theorem dX1_mayGo_50 : decode cX1_mayGo 50 = .ok (.aload_n 0, 1) := by decide +kernel
theorem dX1_mayGo_51 : decode cX1_mayGo 51 = .ok (.iload_n 1, 1) := by decide +kernel
theorem dX1_mayGo_52 : decode cX1_mayGo 52 = .ok (.invokevirtual 84, 3) := by decide +kernel
theorem dX1_mayGo_55 : decode cX1_mayGo 55 = .ok (.if_icmp .gt 7, 3) := by decide +kernel
theorem dX1_mayGo_58 : decode cX1_mayGo 58 = .ok (.iconst 1, 1) := by decide +kernel
theorem dX1_mayGo_59 : decode cX1_mayGo 59 = .ok (.goto 4, 3) := by decide +kernel
theorem dX1_mayGo_62 : decode cX1_mayGo 62 = .ok (.iconst 0, 1) := by decide +kernel
theorem dX1_mayGo_63 : decode cX1_mayGo 63 = .ok (.ireturn, 1) := by decide +kernel
theorem dX1_goTo_0 : decode cX1_goTo 0 = .ok (.aload_n 0, 1) := by decide +kernel
theorem dX1_goTo_1 : decode cX1_goTo 1 = .ok (.getfield 9, 3) := by decide +kernel
theorem dX1_goTo_4 : decode cX1_goTo 4 = .ok (.iload_n 1, 1) := by decide +kernel
theorem dX1_goTo_5 : decode cX1_goTo 5 = .ok (.iload_n 2, 1) := by decide +kernel
theorem dX1_goTo_6 : decode cX1_goTo 6 = .ok (.iastore, 1) := by decide +kernel
theorem dX1_goTo_7 : decode cX1_goTo 7 = .ok (.aload_n 0, 1) := by decide +kernel
theorem dX1_goTo_8 : decode cX1_goTo 8 = .ok (.dup, 1) := by decide +kernel
theorem dX1_goTo_9 : decode cX1_goTo 9 = .ok (.getfield 24, 3) := by decide +kernel
theorem dX1_goTo_12 : decode cX1_goTo 12 = .ok (.iconst 1, 1) := by decide +kernel
theorem dX1_goTo_13 : decode cX1_goTo 13 = .ok (.iload_n 1, 1) := by decide +kernel
theorem dX1_goTo_14 : decode cX1_goTo 14 = .ok (.ishl, 1) := by decide +kernel
theorem dX1_goTo_15 : decode cX1_goTo 15 = .ok (.ior, 1) := by decide +kernel
theorem dX1_goTo_16 : decode cX1_goTo 16 = .ok (.putfield 24, 3) := by decide +kernel
theorem dX1_goTo_19 : decode cX1_goTo 19 = .ok (.return_, 1) := by decide +kernel
theorem dX1_goesIfItMay_0 : decode cX1_goesIfItMay 0 = .ok (.aload_n 0, 1) := by decide +kernel
theorem dX1_goesIfItMay_1 : decode cX1_goesIfItMay 1 = .ok (.iload_n 1, 1) := by decide +kernel
theorem dX1_goesIfItMay_2 : decode cX1_goesIfItMay 2 = .ok (.iload_n 2, 1) := by decide +kernel
theorem dX1_goesIfItMay_3 : decode cX1_goesIfItMay 3 = .ok (.invokevirtual 87, 3) := by decide +kernel
theorem dX1_goesIfItMay_6 : decode cX1_goesIfItMay 6 = .ok (.ifCond .ne 5, 3) := by decide +kernel
theorem dX1_goesIfItMay_9 : decode cX1_goesIfItMay 9 = .ok (.iconst 0, 1) := by decide +kernel
theorem dX1_goesIfItMay_10 : decode cX1_goesIfItMay 10 = .ok (.ireturn, 1) := by decide +kernel
theorem dX1_goesIfItMay_11 : decode cX1_goesIfItMay 11 = .ok (.aload_n 0, 1) := by decide +kernel
theorem dX1_goesIfItMay_12 : decode cX1_goesIfItMay 12 = .ok (.iload_n 1, 1) := by decide +kernel
theorem dX1_goesIfItMay_13 : decode cX1_goesIfItMay 13 = .ok (.iload_n 2, 1) := by decide +kernel
theorem dX1_goesIfItMay_14 : decode cX1_goesIfItMay 14 = .ok (.invokevirtual 91, 3) := by decide +kernel
theorem dX1_goesIfItMay_17 : decode cX1_goesIfItMay 17 = .ok (.iconst 1, 1) := by decide +kernel
theorem dX1_goesIfItMay_18 : decode cX1_goesIfItMay 18 = .ok (.ireturn, 1) := by decide +kernel
theorem dX1_mayHear_0 : decode cX1_mayHear 0 = .ok (.aload_n 0, 1) := by decide +kernel
theorem dX1_mayHear_1 : decode cX1_mayHear 1 = .ok (.iload_n 1, 1) := by decide +kernel
theorem dX1_mayHear_2 : decode cX1_mayHear 2 = .ok (.invokevirtual 74, 3) := by decide +kernel
theorem dX1_mayHear_5 : decode cX1_mayHear 5 = .ok (.ifCond .eq 43, 3) := by decide +kernel
theorem dX1_mayHear_8 : decode cX1_mayHear 8 = .ok (.aload_n 0, 1) := by decide +kernel
theorem dX1_mayHear_9 : decode cX1_mayHear 9 = .ok (.iload_n 2, 1) := by decide +kernel
theorem dX1_mayHear_10 : decode cX1_mayHear 10 = .ok (.invokevirtual 74, 3) := by decide +kernel
theorem dX1_mayHear_13 : decode cX1_mayHear 13 = .ok (.ifCond .eq 35, 3) := by decide +kernel
theorem dX1_mayHear_16 : decode cX1_mayHear 16 = .ok (.iload_n 1, 1) := by decide +kernel
theorem dX1_mayHear_17 : decode cX1_mayHear 17 = .ok (.iload_n 2, 1) := by decide +kernel
theorem dX1_mayHear_18 : decode cX1_mayHear 18 = .ok (.if_icmp .eq 30, 3) := by decide +kernel
theorem dX1_mayHear_21 : decode cX1_mayHear 21 = .ok (.aload_n 0, 1) := by decide +kernel
theorem dX1_mayHear_22 : decode cX1_mayHear 22 = .ok (.getfield 9, 3) := by decide +kernel
theorem dX1_mayHear_25 : decode cX1_mayHear 25 = .ok (.iload_n 1, 1) := by decide +kernel
theorem dX1_mayHear_26 : decode cX1_mayHear 26 = .ok (.iaload, 1) := by decide +kernel
theorem dX1_mayHear_27 : decode cX1_mayHear 27 = .ok (.aload_n 0, 1) := by decide +kernel
theorem dX1_mayHear_28 : decode cX1_mayHear 28 = .ok (.getfield 9, 3) := by decide +kernel
theorem dX1_mayHear_31 : decode cX1_mayHear 31 = .ok (.iload_n 2, 1) := by decide +kernel
theorem dX1_mayHear_32 : decode cX1_mayHear 32 = .ok (.iaload, 1) := by decide +kernel
theorem dX1_mayHear_33 : decode cX1_mayHear 33 = .ok (.if_icmp .ne 15, 3) := by decide +kernel
theorem dX1_mayHear_36 : decode cX1_mayHear 36 = .ok (.aload_n 0, 1) := by decide +kernel
theorem dX1_mayHear_37 : decode cX1_mayHear 37 = .ok (.iload_n 2, 1) := by decide +kernel
theorem dX1_mayHear_38 : decode cX1_mayHear 38 = .ok (.invokevirtual 34, 3) := by decide +kernel
theorem dX1_mayHear_41 : decode cX1_mayHear 41 = .ok (.ifCond .ne 7, 3) := by decide +kernel
theorem dX1_mayHear_44 : decode cX1_mayHear 44 = .ok (.iconst 1, 1) := by decide +kernel
theorem dX1_mayHear_45 : decode cX1_mayHear 45 = .ok (.goto 4, 3) := by decide +kernel
theorem dX1_mayHear_48 : decode cX1_mayHear 48 = .ok (.iconst 0, 1) := by decide +kernel
theorem dX1_mayHear_49 : decode cX1_mayHear 49 = .ok (.ireturn, 1) := by decide +kernel
theorem dX1_hear_0 : decode cX1_hear 0 = .ok (.aload_n 0, 1) := by decide +kernel
theorem dX1_hear_1 : decode cX1_hear 1 = .ok (.getfield 18, 3) := by decide +kernel
theorem dX1_hear_4 : decode cX1_hear 4 = .ok (.iload_n 2, 1) := by decide +kernel
theorem dX1_hear_5 : decode cX1_hear 5 = .ok (.dup2, 1) := by decide +kernel
theorem dX1_hear_6 : decode cX1_hear 6 = .ok (.iaload, 1) := by decide +kernel
theorem dX1_hear_7 : decode cX1_hear 7 = .ok (.aload_n 0, 1) := by decide +kernel
theorem dX1_hear_8 : decode cX1_hear 8 = .ok (.getfield 18, 3) := by decide +kernel
theorem dX1_hear_11 : decode cX1_hear 11 = .ok (.iload_n 1, 1) := by decide +kernel
theorem dX1_hear_12 : decode cX1_hear 12 = .ok (.iaload, 1) := by decide +kernel
theorem dX1_hear_13 : decode cX1_hear 13 = .ok (.ior, 1) := by decide +kernel
theorem dX1_hear_14 : decode cX1_hear 14 = .ok (.iastore, 1) := by decide +kernel
theorem dX1_hear_15 : decode cX1_hear 15 = .ok (.return_, 1) := by decide +kernel
theorem dX1_hearsIfItMay_0 : decode cX1_hearsIfItMay 0 = .ok (.aload_n 0, 1) := by decide +kernel
theorem dX1_hearsIfItMay_1 : decode cX1_hearsIfItMay 1 = .ok (.iload_n 1, 1) := by decide +kernel
theorem dX1_hearsIfItMay_2 : decode cX1_hearsIfItMay 2 = .ok (.iload_n 2, 1) := by decide +kernel
theorem dX1_hearsIfItMay_3 : decode cX1_hearsIfItMay 3 = .ok (.invokevirtual 95, 3) := by decide +kernel
theorem dX1_hearsIfItMay_6 : decode cX1_hearsIfItMay 6 = .ok (.ifCond .ne 5, 3) := by decide +kernel
theorem dX1_hearsIfItMay_9 : decode cX1_hearsIfItMay 9 = .ok (.iconst 0, 1) := by decide +kernel
theorem dX1_hearsIfItMay_10 : decode cX1_hearsIfItMay 10 = .ok (.ireturn, 1) := by decide +kernel
theorem dX1_hearsIfItMay_11 : decode cX1_hearsIfItMay 11 = .ok (.aload_n 0, 1) := by decide +kernel
theorem dX1_hearsIfItMay_12 : decode cX1_hearsIfItMay 12 = .ok (.iload_n 1, 1) := by decide +kernel
theorem dX1_hearsIfItMay_13 : decode cX1_hearsIfItMay 13 = .ok (.iload_n 2, 1) := by decide +kernel
theorem dX1_hearsIfItMay_14 : decode cX1_hearsIfItMay 14 = .ok (.invokevirtual 98, 3) := by decide +kernel
theorem dX1_hearsIfItMay_17 : decode cX1_hearsIfItMay 17 = .ok (.iconst 1, 1) := by decide +kernel
theorem dX1_hearsIfItMay_18 : decode cX1_hearsIfItMay 18 = .ok (.ireturn, 1) := by decide +kernel
theorem dX1_mayBathe_0 : decode cX1_mayBathe 0 = .ok (.aload_n 0, 1) := by decide +kernel
theorem dX1_mayBathe_1 : decode cX1_mayBathe 1 = .ok (.iload_n 1, 1) := by decide +kernel
theorem dX1_mayBathe_2 : decode cX1_mayBathe 2 = .ok (.invokevirtual 74, 3) := by decide +kernel
theorem dX1_mayBathe_5 : decode cX1_mayBathe 5 = .ok (.ifCond .eq 15, 3) := by decide +kernel
theorem dX1_mayBathe_8 : decode cX1_mayBathe 8 = .ok (.aload_n 0, 1) := by decide +kernel
theorem dX1_mayBathe_9 : decode cX1_mayBathe 9 = .ok (.iload_n 1, 1) := by decide +kernel
theorem dX1_mayBathe_10 : decode cX1_mayBathe 10 = .ok (.invokevirtual 34, 3) := by decide +kernel
theorem dX1_mayBathe_13 : decode cX1_mayBathe 13 = .ok (.ifCond .ne 7, 3) := by decide +kernel
theorem dX1_mayBathe_16 : decode cX1_mayBathe 16 = .ok (.iconst 1, 1) := by decide +kernel
theorem dX1_mayBathe_17 : decode cX1_mayBathe 17 = .ok (.goto 4, 3) := by decide +kernel
theorem dX1_mayBathe_20 : decode cX1_mayBathe 20 = .ok (.iconst 0, 1) := by decide +kernel
theorem dX1_mayBathe_21 : decode cX1_mayBathe 21 = .ok (.ireturn, 1) := by decide +kernel
theorem dX1_bathe_0 : decode cX1_bathe 0 = .ok (.aload_n 0, 1) := by decide +kernel
theorem dX1_bathe_1 : decode cX1_bathe 1 = .ok (.getfield 18, 3) := by decide +kernel
theorem dX1_bathe_4 : decode cX1_bathe 4 = .ok (.iload_n 1, 1) := by decide +kernel
theorem dX1_bathe_5 : decode cX1_bathe 5 = .ok (.iconst 0, 1) := by decide +kernel
theorem dX1_bathe_6 : decode cX1_bathe 6 = .ok (.iastore, 1) := by decide +kernel
theorem dX1_bathe_7 : decode cX1_bathe 7 = .ok (.aload_n 0, 1) := by decide +kernel
theorem dX1_bathe_8 : decode cX1_bathe 8 = .ok (.getfield 21, 3) := by decide +kernel
theorem dX1_bathe_11 : decode cX1_bathe 11 = .ok (.iload_n 1, 1) := by decide +kernel
theorem dX1_bathe_12 : decode cX1_bathe 12 = .ok (.iconst 0, 1) := by decide +kernel
theorem dX1_bathe_13 : decode cX1_bathe 13 = .ok (.iastore, 1) := by decide +kernel
theorem dX1_bathe_14 : decode cX1_bathe 14 = .ok (.return_, 1) := by decide +kernel
theorem dX1_bathesIfItMay_0 : decode cX1_bathesIfItMay 0 = .ok (.aload_n 0, 1) := by decide +kernel
theorem dX1_bathesIfItMay_1 : decode cX1_bathesIfItMay 1 = .ok (.iload_n 1, 1) := by decide +kernel
theorem dX1_bathesIfItMay_2 : decode cX1_bathesIfItMay 2 = .ok (.invokevirtual 101, 3) := by decide +kernel
theorem dX1_bathesIfItMay_5 : decode cX1_bathesIfItMay 5 = .ok (.ifCond .ne 5, 3) := by decide +kernel
theorem dX1_bathesIfItMay_8 : decode cX1_bathesIfItMay 8 = .ok (.iconst 0, 1) := by decide +kernel
theorem dX1_bathesIfItMay_9 : decode cX1_bathesIfItMay 9 = .ok (.ireturn, 1) := by decide +kernel
theorem dX1_bathesIfItMay_10 : decode cX1_bathesIfItMay 10 = .ok (.aload_n 0, 1) := by decide +kernel
theorem dX1_bathesIfItMay_11 : decode cX1_bathesIfItMay 11 = .ok (.iload_n 1, 1) := by decide +kernel
theorem dX1_bathesIfItMay_12 : decode cX1_bathesIfItMay 12 = .ok (.invokevirtual 104, 3) := by decide +kernel
theorem dX1_bathesIfItMay_15 : decode cX1_bathesIfItMay 15 = .ok (.iconst 1, 1) := by decide +kernel
theorem dX1_bathesIfItMay_16 : decode cX1_bathesIfItMay 16 = .ok (.ireturn, 1) := by decide +kernel
theorem dX2_init_0 : decode cX2_init 0 = .ok (.aload_n 0, 1) := by decide +kernel
theorem dX2_init_1 : decode cX2_init 1 = .ok (.invokespecial 3, 3) := by decide +kernel
theorem dX2_init_4 : decode cX2_init 4 = .ok (.aload_n 0, 1) := by decide +kernel
theorem dX2_init_5 : decode cX2_init 5 = .ok (.bipush 16, 2) := by decide +kernel
theorem dX2_init_7 : decode cX2_init 7 = .ok (.newarray .int, 2) := by decide +kernel
theorem dX2_init_9 : decode cX2_init 9 = .ok (.putfield 11, 3) := by decide +kernel
theorem dX2_init_12 : decode cX2_init 12 = .ok (.aload_n 0, 1) := by decide +kernel
theorem dX2_init_13 : decode cX2_init 13 = .ok (.bipush 16, 2) := by decide +kernel
theorem dX2_init_15 : decode cX2_init 15 = .ok (.newarray .int, 2) := by decide +kernel
theorem dX2_init_17 : decode cX2_init 17 = .ok (.putfield 15, 3) := by decide +kernel
theorem dX2_init_20 : decode cX2_init 20 = .ok (.aload_n 0, 1) := by decide +kernel
theorem dX2_init_21 : decode cX2_init 21 = .ok (.iconst 0, 1) := by decide +kernel
theorem dX2_init_22 : decode cX2_init 22 = .ok (.putfield 18, 3) := by decide +kernel
theorem dX2_init_25 : decode cX2_init 25 = .ok (.aload_n 0, 1) := by decide +kernel
theorem dX2_init_26 : decode cX2_init 26 = .ok (.bipush (-9), 2) := by decide +kernel
theorem dX2_init_28 : decode cX2_init 28 = .ok (.putfield 22, 3) := by decide +kernel
theorem dX2_init_31 : decode cX2_init 31 = .ok (.return_, 1) := by decide +kernel
theorem dX2_play_0 : decode cX2_play 0 = .ok (.iconst 0, 1) := by decide +kernel
theorem dX2_play_1 : decode cX2_play 1 = .ok (.istore 6, 2) := by decide +kernel
theorem dX2_play_3 : decode cX2_play 3 = .ok (.iload 6, 2) := by decide +kernel
theorem dX2_play_5 : decode cX2_play 5 = .ok (.iconst 4, 1) := by decide +kernel
theorem dX2_play_6 : decode cX2_play 6 = .ok (.if_icmp .ge 93, 3) := by decide +kernel
theorem dX2_play_9 : decode cX2_play 9 = .ok (.iconst 0, 1) := by decide +kernel
theorem dX2_play_10 : decode cX2_play 10 = .ok (.istore 7, 2) := by decide +kernel
theorem dX2_play_12 : decode cX2_play 12 = .ok (.iload 7, 2) := by decide +kernel
theorem dX2_play_14 : decode cX2_play 14 = .ok (.iconst 4, 1) := by decide +kernel
theorem dX2_play_15 : decode cX2_play 15 = .ok (.if_icmp .ge 78, 3) := by decide +kernel
theorem dX2_play_18 : decode cX2_play 18 = .ok (.aload_n 2, 1) := by decide +kernel
theorem dX2_play_19 : decode cX2_play 19 = .ok (.aload_n 1, 1) := by decide +kernel
theorem dX2_play_20 : decode cX2_play 20 = .ok (.invokevirtual 25, 3) := by decide +kernel
theorem dX2_play_23 : decode cX2_play 23 = .ok (.aload_n 2, 1) := by decide +kernel
theorem dX2_play_24 : decode cX2_play 24 = .ok (.aload_n 3, 1) := by decide +kernel
theorem dX2_play_25 : decode cX2_play 25 = .ok (.iload 4, 2) := by decide +kernel
theorem dX2_play_27 : decode cX2_play 27 = .ok (.iload 6, 2) := by decide +kernel
theorem dX2_play_29 : decode cX2_play 29 = .ok (.invokestatic 31, 3) := by decide +kernel
theorem dX2_play_32 : decode cX2_play 32 = .ok (.aload_n 2, 1) := by decide +kernel
theorem dX2_play_33 : decode cX2_play 33 = .ok (.aload_n 3, 1) := by decide +kernel
theorem dX2_play_34 : decode cX2_play 34 = .ok (.iload 5, 2) := by decide +kernel
theorem dX2_play_36 : decode cX2_play 36 = .ok (.iload 7, 2) := by decide +kernel
theorem dX2_play_38 : decode cX2_play 38 = .ok (.invokestatic 31, 3) := by decide +kernel
theorem dX2_play_41 : decode cX2_play 41 = .ok (.aload_n 2, 1) := by decide +kernel
theorem dX2_play_42 : decode cX2_play 42 = .ok (.aload_n 3, 1) := by decide +kernel
theorem dX2_play_43 : decode cX2_play 43 = .ok (.iconst 0, 1) := by decide +kernel
theorem dX2_play_44 : decode cX2_play 44 = .ok (.invokevirtual 35, 3) := by decide +kernel
theorem dX2_play_47 : decode cX2_play 47 = .ok (.aload_n 0, 1) := by decide +kernel
theorem dX2_play_48 : decode cX2_play 48 = .ok (.getfield 11, 3) := by decide +kernel
theorem dX2_play_51 : decode cX2_play 51 = .ok (.iconst 4, 1) := by decide +kernel
theorem dX2_play_52 : decode cX2_play 52 = .ok (.iload 6, 2) := by decide +kernel
theorem dX2_play_54 : decode cX2_play 54 = .ok (.imul, 1) := by decide +kernel
theorem dX2_play_55 : decode cX2_play 55 = .ok (.iload 7, 2) := by decide +kernel
theorem dX2_play_57 : decode cX2_play 57 = .ok (.iadd, 1) := by decide +kernel
theorem dX2_play_58 : decode cX2_play 58 = .ok (.aload_n 2, 1) := by decide +kernel
theorem dX2_play_59 : decode cX2_play 59 = .ok (.iload 4, 2) := by decide +kernel
theorem dX2_play_61 : decode cX2_play 61 = .ok (.iload 5, 2) := by decide +kernel
theorem dX2_play_63 : decode cX2_play 63 = .ok (.invokestatic 39, 3) := by decide +kernel
theorem dX2_play_66 : decode cX2_play 66 = .ok (.iastore, 1) := by decide +kernel
theorem dX2_play_67 : decode cX2_play 67 = .ok (.aload_n 0, 1) := by decide +kernel
theorem dX2_play_68 : decode cX2_play 68 = .ok (.getfield 15, 3) := by decide +kernel
theorem dX2_play_71 : decode cX2_play 71 = .ok (.iconst 4, 1) := by decide +kernel
theorem dX2_play_72 : decode cX2_play 72 = .ok (.iload 6, 2) := by decide +kernel
theorem dX2_play_74 : decode cX2_play 74 = .ok (.imul, 1) := by decide +kernel
theorem dX2_play_75 : decode cX2_play 75 = .ok (.iload 7, 2) := by decide +kernel
theorem dX2_play_77 : decode cX2_play 77 = .ok (.iadd, 1) := by decide +kernel
theorem dX2_play_78 : decode cX2_play 78 = .ok (.aload_n 2, 1) := by decide +kernel
theorem dX2_play_79 : decode cX2_play 79 = .ok (.iload 5, 2) := by decide +kernel
theorem dX2_play_81 : decode cX2_play 81 = .ok (.iload 4, 2) := by decide +kernel
theorem dX2_play_83 : decode cX2_play 83 = .ok (.invokestatic 39, 3) := by decide +kernel
theorem dX2_play_86 : decode cX2_play 86 = .ok (.iastore, 1) := by decide +kernel
theorem dX2_play_87 : decode cX2_play 87 = .ok (.iinc 7 1, 3) := by decide +kernel
theorem dX2_play_90 : decode cX2_play 90 = .ok (.goto (-78), 3) := by decide +kernel
theorem dX2_play_93 : decode cX2_play 93 = .ok (.iinc 6 1, 3) := by decide +kernel
theorem dX2_play_96 : decode cX2_play 96 = .ok (.goto (-93), 3) := by decide +kernel
theorem dX2_play_99 : decode cX2_play 99 = .ok (.aload_n 0, 1) := by decide +kernel
theorem dX2_play_100 : decode cX2_play 100 = .ok (.iconst 0, 1) := by decide +kernel
theorem dX2_play_101 : decode cX2_play 101 = .ok (.putfield 18, 3) := by decide +kernel
theorem dX2_play_104 : decode cX2_play 104 = .ok (.aload_n 0, 1) := by decide +kernel
theorem dX2_play_105 : decode cX2_play 105 = .ok (.bipush (-9), 2) := by decide +kernel
theorem dX2_play_107 : decode cX2_play 107 = .ok (.putfield 22, 3) := by decide +kernel
theorem dX2_play_110 : decode cX2_play 110 = .ok (.iconst 0, 1) := by decide +kernel
theorem dX2_play_111 : decode cX2_play 111 = .ok (.istore 6, 2) := by decide +kernel
theorem dX2_play_113 : decode cX2_play 113 = .ok (.iload 6, 2) := by decide +kernel
theorem dX2_play_115 : decode cX2_play 115 = .ok (.iconst 4, 1) := by decide +kernel
theorem dX2_play_116 : decode cX2_play 116 = .ok (.if_icmp .ge 71, 3) := by decide +kernel
theorem dX2_play_119 : decode cX2_play 119 = .ok (.iconst 0, 1) := by decide +kernel
theorem dX2_play_120 : decode cX2_play 120 = .ok (.istore 7, 2) := by decide +kernel
theorem dX2_play_122 : decode cX2_play 122 = .ok (.iload 7, 2) := by decide +kernel
theorem dX2_play_124 : decode cX2_play 124 = .ok (.iconst 4, 1) := by decide +kernel
theorem dX2_play_125 : decode cX2_play 125 = .ok (.if_icmp .ge 56, 3) := by decide +kernel
theorem dX2_play_128 : decode cX2_play 128 = .ok (.aload_n 0, 1) := by decide +kernel
theorem dX2_play_129 : decode cX2_play 129 = .ok (.iload 6, 2) := by decide +kernel
theorem dX2_play_131 : decode cX2_play 131 = .ok (.iload 7, 2) := by decide +kernel
theorem dX2_play_133 : decode cX2_play 133 = .ok (.invokevirtual 43, 3) := by decide +kernel
theorem dX2_play_136 : decode cX2_play 136 = .ok (.ifCond .eq 39, 3) := by decide +kernel
theorem dX2_play_139 : decode cX2_play 139 = .ok (.aload_n 0, 1) := by decide +kernel
theorem dX2_play_140 : decode cX2_play 140 = .ok (.aload_n 0, 1) := by decide +kernel
theorem dX2_play_141 : decode cX2_play 141 = .ok (.getfield 18, 3) := by decide +kernel
theorem dX2_play_144 : decode cX2_play 144 = .ok (.ifCond .ne 14, 3) := by decide +kernel
theorem dX2_play_147 : decode cX2_play 147 = .ok (.bipush 10, 2) := by decide +kernel
theorem dX2_play_149 : decode cX2_play 149 = .ok (.iload 6, 2) := by decide +kernel
theorem dX2_play_151 : decode cX2_play 151 = .ok (.imul, 1) := by decide +kernel
theorem dX2_play_152 : decode cX2_play 152 = .ok (.iload 7, 2) := by decide +kernel
theorem dX2_play_154 : decode cX2_play 154 = .ok (.iadd, 1) := by decide +kernel
theorem dX2_play_155 : decode cX2_play 155 = .ok (.goto 7, 3) := by decide +kernel
theorem dX2_play_158 : decode cX2_play 158 = .ok (.aload_n 0, 1) := by decide +kernel
theorem dX2_play_159 : decode cX2_play 159 = .ok (.getfield 22, 3) := by decide +kernel
theorem dX2_play_162 : decode cX2_play 162 = .ok (.putfield 22, 3) := by decide +kernel
theorem dX2_play_165 : decode cX2_play 165 = .ok (.aload_n 0, 1) := by decide +kernel
theorem dX2_play_166 : decode cX2_play 166 = .ok (.dup, 1) := by decide +kernel
theorem dX2_play_167 : decode cX2_play 167 = .ok (.getfield 18, 3) := by decide +kernel
theorem dX2_play_170 : decode cX2_play 170 = .ok (.iconst 1, 1) := by decide +kernel
theorem dX2_play_171 : decode cX2_play 171 = .ok (.iadd, 1) := by decide +kernel
theorem dX2_play_172 : decode cX2_play 172 = .ok (.putfield 18, 3) := by decide +kernel
theorem dX2_play_175 : decode cX2_play 175 = .ok (.iinc 7 1, 3) := by decide +kernel
theorem dX2_play_178 : decode cX2_play 178 = .ok (.goto (-56), 3) := by decide +kernel
theorem dX2_play_181 : decode cX2_play 181 = .ok (.iinc 6 1, 3) := by decide +kernel
theorem dX2_play_184 : decode cX2_play 184 = .ok (.goto (-71), 3) := by decide +kernel
theorem dX2_play_187 : decode cX2_play 187 = .ok (.return_, 1) := by decide +kernel
theorem dX2_goToKiln_0 : decode cX2_goToKiln 0 = .ok (.aload_n 1, 1) := by decide +kernel
theorem dX2_goToKiln_1 : decode cX2_goToKiln 1 = .ok (.iload_n 3, 1) := by decide +kernel
theorem dX2_goToKiln_2 : decode cX2_goToKiln 2 = .ok (.invokevirtual 47, 3) := by decide +kernel
theorem dX2_goToKiln_5 : decode cX2_goToKiln 5 = .ok (.ifCond .eq 15, 3) := by decide +kernel
theorem dX2_goToKiln_8 : decode cX2_goToKiln 8 = .ok (.aload_n 0, 1) := by decide +kernel
theorem dX2_goToKiln_9 : decode cX2_goToKiln 9 = .ok (.iload_n 2, 1) := by decide +kernel
theorem dX2_goToKiln_10 : decode cX2_goToKiln 10 = .ok (.aload_n 1, 1) := by decide +kernel
theorem dX2_goToKiln_11 : decode cX2_goToKiln 11 = .ok (.getfield 53, 3) := by decide +kernel
theorem dX2_goToKiln_14 : decode cX2_goToKiln 14 = .ok (.iload_n 3, 1) := by decide +kernel
theorem dX2_goToKiln_15 : decode cX2_goToKiln 15 = .ok (.iaload, 1) := by decide +kernel
theorem dX2_goToKiln_16 : decode cX2_goToKiln 16 = .ok (.invokevirtual 56, 3) := by decide +kernel
theorem dX2_goToKiln_19 : decode cX2_goToKiln 19 = .ok (.pop, 1) := by decide +kernel
theorem dX2_goToKiln_20 : decode cX2_goToKiln 20 = .ok (.return_, 1) := by decide +kernel
theorem dX2_gainOf_0 : decode cX2_gainOf 0 = .ok (.iconst 2, 1) := by decide +kernel
theorem dX2_gainOf_1 : decode cX2_gainOf 1 = .ok (.aload_n 0, 1) := by decide +kernel
theorem dX2_gainOf_2 : decode cX2_gainOf 2 = .ok (.getfield 59, 3) := by decide +kernel
theorem dX2_gainOf_5 : decode cX2_gainOf 5 = .ok (.iload_n 1, 1) := by decide +kernel
theorem dX2_gainOf_6 : decode cX2_gainOf 6 = .ok (.iaload, 1) := by decide +kernel
theorem dX2_gainOf_7 : decode cX2_gainOf 7 = .ok (.invokestatic 62, 3) := by decide +kernel
theorem dX2_gainOf_10 : decode cX2_gainOf 10 = .ok (.imul, 1) := by decide +kernel
theorem dX2_gainOf_11 : decode cX2_gainOf 11 = .ok (.istore_n 3, 1) := by decide +kernel
theorem dX2_gainOf_12 : decode cX2_gainOf 12 = .ok (.aload_n 0, 1) := by decide +kernel
theorem dX2_gainOf_13 : decode cX2_gainOf 13 = .ok (.getfield 68, 3) := by decide +kernel
theorem dX2_gainOf_16 : decode cX2_gainOf 16 = .ok (.iload_n 1, 1) := by decide +kernel
theorem dX2_gainOf_17 : decode cX2_gainOf 17 = .ok (.iaload, 1) := by decide +kernel
theorem dX2_gainOf_18 : decode cX2_gainOf 18 = .ok (.aload_n 0, 1) := by decide +kernel
theorem dX2_gainOf_19 : decode cX2_gainOf 19 = .ok (.getfield 68, 3) := by decide +kernel
theorem dX2_gainOf_22 : decode cX2_gainOf 22 = .ok (.iload_n 2, 1) := by decide +kernel
theorem dX2_gainOf_23 : decode cX2_gainOf 23 = .ok (.iaload, 1) := by decide +kernel
theorem dX2_gainOf_24 : decode cX2_gainOf 24 = .ok (.if_icmp .ne 9, 3) := by decide +kernel
theorem dX2_gainOf_27 : decode cX2_gainOf 27 = .ok (.iload_n 3, 1) := by decide +kernel
theorem dX2_gainOf_28 : decode cX2_gainOf 28 = .ok (.iconst 3, 1) := by decide +kernel
theorem dX2_gainOf_29 : decode cX2_gainOf 29 = .ok (.isub, 1) := by decide +kernel
theorem dX2_gainOf_30 : decode cX2_gainOf 30 = .ok (.goto 4, 3) := by decide +kernel
theorem dX2_gainOf_33 : decode cX2_gainOf 33 = .ok (.iload_n 3, 1) := by decide +kernel
theorem dX2_gainOf_34 : decode cX2_gainOf 34 = .ok (.ireturn, 1) := by decide +kernel
theorem dX2_isAtRest_0 : decode cX2_isAtRest 0 = .ok (.iconst 4, 1) := by decide +kernel
theorem dX2_isAtRest_1 : decode cX2_isAtRest 1 = .ok (.iload_n 1, 1) := by decide +kernel
theorem dX2_isAtRest_2 : decode cX2_isAtRest 2 = .ok (.imul, 1) := by decide +kernel
theorem dX2_isAtRest_3 : decode cX2_isAtRest 3 = .ok (.iload_n 2, 1) := by decide +kernel
theorem dX2_isAtRest_4 : decode cX2_isAtRest 4 = .ok (.iadd, 1) := by decide +kernel
theorem dX2_isAtRest_5 : decode cX2_isAtRest 5 = .ok (.istore_n 3, 1) := by decide +kernel
theorem dX2_isAtRest_6 : decode cX2_isAtRest 6 = .ok (.iconst 0, 1) := by decide +kernel
theorem dX2_isAtRest_7 : decode cX2_isAtRest 7 = .ok (.istore 4, 2) := by decide +kernel
theorem dX2_isAtRest_9 : decode cX2_isAtRest 9 = .ok (.iload 4, 2) := by decide +kernel
theorem dX2_isAtRest_11 : decode cX2_isAtRest 11 = .ok (.iconst 4, 1) := by decide +kernel
theorem dX2_isAtRest_12 : decode cX2_isAtRest 12 = .ok (.if_icmp .ge 51, 3) := by decide +kernel
theorem dX2_isAtRest_15 : decode cX2_isAtRest 15 = .ok (.aload_n 0, 1) := by decide +kernel
theorem dX2_isAtRest_16 : decode cX2_isAtRest 16 = .ok (.getfield 11, 3) := by decide +kernel
theorem dX2_isAtRest_19 : decode cX2_isAtRest 19 = .ok (.iconst 4, 1) := by decide +kernel
theorem dX2_isAtRest_20 : decode cX2_isAtRest 20 = .ok (.iload 4, 2) := by decide +kernel
theorem dX2_isAtRest_22 : decode cX2_isAtRest 22 = .ok (.imul, 1) := by decide +kernel
theorem dX2_isAtRest_23 : decode cX2_isAtRest 23 = .ok (.iload_n 2, 1) := by decide +kernel
theorem dX2_isAtRest_24 : decode cX2_isAtRest 24 = .ok (.iadd, 1) := by decide +kernel
theorem dX2_isAtRest_25 : decode cX2_isAtRest 25 = .ok (.iaload, 1) := by decide +kernel
theorem dX2_isAtRest_26 : decode cX2_isAtRest 26 = .ok (.aload_n 0, 1) := by decide +kernel
theorem dX2_isAtRest_27 : decode cX2_isAtRest 27 = .ok (.getfield 11, 3) := by decide +kernel
theorem dX2_isAtRest_30 : decode cX2_isAtRest 30 = .ok (.iload_n 3, 1) := by decide +kernel
theorem dX2_isAtRest_31 : decode cX2_isAtRest 31 = .ok (.iaload, 1) := by decide +kernel
theorem dX2_isAtRest_32 : decode cX2_isAtRest 32 = .ok (.if_icmp .gt 23, 3) := by decide +kernel
theorem dX2_isAtRest_35 : decode cX2_isAtRest 35 = .ok (.aload_n 0, 1) := by decide +kernel
theorem dX2_isAtRest_36 : decode cX2_isAtRest 36 = .ok (.getfield 15, 3) := by decide +kernel
theorem dX2_isAtRest_39 : decode cX2_isAtRest 39 = .ok (.iconst 4, 1) := by decide +kernel
theorem dX2_isAtRest_40 : decode cX2_isAtRest 40 = .ok (.iload_n 1, 1) := by decide +kernel
theorem dX2_isAtRest_41 : decode cX2_isAtRest 41 = .ok (.imul, 1) := by decide +kernel
theorem dX2_isAtRest_42 : decode cX2_isAtRest 42 = .ok (.iload 4, 2) := by decide +kernel
theorem dX2_isAtRest_44 : decode cX2_isAtRest 44 = .ok (.iadd, 1) := by decide +kernel
theorem dX2_isAtRest_45 : decode cX2_isAtRest 45 = .ok (.iaload, 1) := by decide +kernel
theorem dX2_isAtRest_46 : decode cX2_isAtRest 46 = .ok (.aload_n 0, 1) := by decide +kernel
theorem dX2_isAtRest_47 : decode cX2_isAtRest 47 = .ok (.getfield 15, 3) := by decide +kernel
theorem dX2_isAtRest_50 : decode cX2_isAtRest 50 = .ok (.iload_n 3, 1) := by decide +kernel
theorem dX2_isAtRest_51 : decode cX2_isAtRest 51 = .ok (.iaload, 1) := by decide +kernel
theorem dX2_isAtRest_52 : decode cX2_isAtRest 52 = .ok (.if_icmp .le 5, 3) := by decide +kernel
theorem dX2_isAtRest_55 : decode cX2_isAtRest 55 = .ok (.iconst 0, 1) := by decide +kernel
theorem dX2_isAtRest_56 : decode cX2_isAtRest 56 = .ok (.ireturn, 1) := by decide +kernel
theorem dX2_isAtRest_57 : decode cX2_isAtRest 57 = .ok (.iinc 4 1, 3) := by decide +kernel
theorem dX2_isAtRest_60 : decode cX2_isAtRest 60 = .ok (.goto (-51), 3) := by decide +kernel
theorem dX2_isAtRest_63 : decode cX2_isAtRest 63 = .ok (.iconst 1, 1) := by decide +kernel
theorem dX2_isAtRest_64 : decode cX2_isAtRest 64 = .ok (.ireturn, 1) := by decide +kernel
theorem dX3_init_0 : decode cX3_init 0 = .ok (.aload_n 0, 1) := by decide +kernel
theorem dX3_init_1 : decode cX3_init 1 = .ok (.invokespecial 3, 3) := by decide +kernel
theorem dX3_init_4 : decode cX3_init 4 = .ok (.aload_n 0, 1) := by decide +kernel
theorem dX3_init_5 : decode cX3_init 5 = .ok (.iconst 4, 1) := by decide +kernel
theorem dX3_init_6 : decode cX3_init 6 = .ok (.newarray .int, 2) := by decide +kernel
theorem dX3_init_8 : decode cX3_init 8 = .ok (.putfield 9, 3) := by decide +kernel
theorem dX3_init_11 : decode cX3_init 11 = .ok (.aload_n 0, 1) := by decide +kernel
theorem dX3_init_12 : decode cX3_init 12 = .ok (.iconst 4, 1) := by decide +kernel
theorem dX3_init_13 : decode cX3_init 13 = .ok (.newarray .int, 2) := by decide +kernel
theorem dX3_init_15 : decode cX3_init 15 = .ok (.putfield 15, 3) := by decide +kernel
theorem dX3_init_18 : decode cX3_init 18 = .ok (.aload_n 0, 1) := by decide +kernel
theorem dX3_init_19 : decode cX3_init 19 = .ok (.bipush 16, 2) := by decide +kernel
theorem dX3_init_21 : decode cX3_init 21 = .ok (.newarray .int, 2) := by decide +kernel
theorem dX3_init_23 : decode cX3_init 23 = .ok (.putfield 18, 3) := by decide +kernel
theorem dX3_init_26 : decode cX3_init 26 = .ok (.aload_n 0, 1) := by decide +kernel
theorem dX3_init_27 : decode cX3_init 27 = .ok (.iconst 0, 1) := by decide +kernel
theorem dX3_init_28 : decode cX3_init 28 = .ok (.putfield 21, 3) := by decide +kernel
theorem dX3_init_31 : decode cX3_init 31 = .ok (.return_, 1) := by decide +kernel
theorem dX3_clear_0 : decode cX3_clear 0 = .ok (.aload_n 0, 1) := by decide +kernel
theorem dX3_clear_1 : decode cX3_clear 1 = .ok (.iconst 0, 1) := by decide +kernel
theorem dX3_clear_2 : decode cX3_clear 2 = .ok (.putfield 21, 3) := by decide +kernel
theorem dX3_clear_5 : decode cX3_clear 5 = .ok (.return_, 1) := by decide +kernel
theorem dX3_copyFrom_0 : decode cX3_copyFrom 0 = .ok (.aload_n 1, 1) := by decide +kernel
theorem dX3_copyFrom_1 : decode cX3_copyFrom 1 = .ok (.getfield 9, 3) := by decide +kernel
theorem dX3_copyFrom_4 : decode cX3_copyFrom 4 = .ok (.iconst 0, 1) := by decide +kernel
theorem dX3_copyFrom_5 : decode cX3_copyFrom 5 = .ok (.aload_n 0, 1) := by decide +kernel
theorem dX3_copyFrom_6 : decode cX3_copyFrom 6 = .ok (.getfield 9, 3) := by decide +kernel
theorem dX3_copyFrom_9 : decode cX3_copyFrom 9 = .ok (.iconst 0, 1) := by decide +kernel
theorem dX3_copyFrom_10 : decode cX3_copyFrom 10 = .ok (.iconst 4, 1) := by decide +kernel
theorem dX3_copyFrom_11 : decode cX3_copyFrom 11 = .ok (.invokestatic 25, 3) := by decide +kernel
theorem dX3_copyFrom_14 : decode cX3_copyFrom 14 = .ok (.aload_n 1, 1) := by decide +kernel
theorem dX3_copyFrom_15 : decode cX3_copyFrom 15 = .ok (.getfield 15, 3) := by decide +kernel
theorem dX3_copyFrom_18 : decode cX3_copyFrom 18 = .ok (.iconst 0, 1) := by decide +kernel
theorem dX3_copyFrom_19 : decode cX3_copyFrom 19 = .ok (.aload_n 0, 1) := by decide +kernel
theorem dX3_copyFrom_20 : decode cX3_copyFrom 20 = .ok (.getfield 15, 3) := by decide +kernel
theorem dX3_copyFrom_23 : decode cX3_copyFrom 23 = .ok (.iconst 0, 1) := by decide +kernel
theorem dX3_copyFrom_24 : decode cX3_copyFrom 24 = .ok (.iconst 4, 1) := by decide +kernel
theorem dX3_copyFrom_25 : decode cX3_copyFrom 25 = .ok (.invokestatic 25, 3) := by decide +kernel
theorem dX3_copyFrom_28 : decode cX3_copyFrom 28 = .ok (.aload_n 1, 1) := by decide +kernel
theorem dX3_copyFrom_29 : decode cX3_copyFrom 29 = .ok (.getfield 18, 3) := by decide +kernel
theorem dX3_copyFrom_32 : decode cX3_copyFrom 32 = .ok (.iconst 0, 1) := by decide +kernel
theorem dX3_copyFrom_33 : decode cX3_copyFrom 33 = .ok (.aload_n 0, 1) := by decide +kernel
theorem dX3_copyFrom_34 : decode cX3_copyFrom 34 = .ok (.getfield 18, 3) := by decide +kernel
theorem dX3_copyFrom_37 : decode cX3_copyFrom 37 = .ok (.iconst 0, 1) := by decide +kernel
theorem dX3_copyFrom_38 : decode cX3_copyFrom 38 = .ok (.bipush 16, 2) := by decide +kernel
theorem dX3_copyFrom_40 : decode cX3_copyFrom 40 = .ok (.invokestatic 25, 3) := by decide +kernel
theorem dX3_copyFrom_43 : decode cX3_copyFrom 43 = .ok (.aload_n 0, 1) := by decide +kernel
theorem dX3_copyFrom_44 : decode cX3_copyFrom 44 = .ok (.aload_n 1, 1) := by decide +kernel
theorem dX3_copyFrom_45 : decode cX3_copyFrom 45 = .ok (.getfield 21, 3) := by decide +kernel
theorem dX3_copyFrom_48 : decode cX3_copyFrom 48 = .ok (.putfield 21, 3) := by decide +kernel
theorem dX3_copyFrom_51 : decode cX3_copyFrom 51 = .ok (.return_, 1) := by decide +kernel
theorem dX3_addKiln_0 : decode cX3_addKiln 0 = .ok (.aload_n 0, 1) := by decide +kernel
theorem dX3_addKiln_1 : decode cX3_addKiln 1 = .ok (.getfield 21, 3) := by decide +kernel
theorem dX3_addKiln_4 : decode cX3_addKiln 4 = .ok (.iconst 4, 1) := by decide +kernel
theorem dX3_addKiln_5 : decode cX3_addKiln 5 = .ok (.if_icmp .ge 33, 3) := by decide +kernel
theorem dX3_addKiln_8 : decode cX3_addKiln 8 = .ok (.aload_n 0, 1) := by decide +kernel
theorem dX3_addKiln_9 : decode cX3_addKiln 9 = .ok (.getfield 9, 3) := by decide +kernel
theorem dX3_addKiln_12 : decode cX3_addKiln 12 = .ok (.aload_n 0, 1) := by decide +kernel
theorem dX3_addKiln_13 : decode cX3_addKiln 13 = .ok (.getfield 21, 3) := by decide +kernel
theorem dX3_addKiln_16 : decode cX3_addKiln 16 = .ok (.iload_n 1, 1) := by decide +kernel
theorem dX3_addKiln_17 : decode cX3_addKiln 17 = .ok (.iastore, 1) := by decide +kernel
theorem dX3_addKiln_18 : decode cX3_addKiln 18 = .ok (.aload_n 0, 1) := by decide +kernel
theorem dX3_addKiln_19 : decode cX3_addKiln 19 = .ok (.getfield 15, 3) := by decide +kernel
theorem dX3_addKiln_22 : decode cX3_addKiln 22 = .ok (.aload_n 0, 1) := by decide +kernel
theorem dX3_addKiln_23 : decode cX3_addKiln 23 = .ok (.getfield 21, 3) := by decide +kernel
theorem dX3_addKiln_26 : decode cX3_addKiln 26 = .ok (.iconst 0, 1) := by decide +kernel
theorem dX3_addKiln_27 : decode cX3_addKiln 27 = .ok (.iastore, 1) := by decide +kernel
theorem dX3_addKiln_28 : decode cX3_addKiln 28 = .ok (.aload_n 0, 1) := by decide +kernel
theorem dX3_addKiln_29 : decode cX3_addKiln 29 = .ok (.dup, 1) := by decide +kernel
theorem dX3_addKiln_30 : decode cX3_addKiln 30 = .ok (.getfield 21, 3) := by decide +kernel
theorem dX3_addKiln_33 : decode cX3_addKiln 33 = .ok (.iconst 1, 1) := by decide +kernel
theorem dX3_addKiln_34 : decode cX3_addKiln 34 = .ok (.iadd, 1) := by decide +kernel
theorem dX3_addKiln_35 : decode cX3_addKiln 35 = .ok (.putfield 21, 3) := by decide +kernel
theorem dX3_addKiln_38 : decode cX3_addKiln 38 = .ok (.return_, 1) := by decide +kernel
theorem dX3_addLayer_0 : decode cX3_addLayer 0 = .ok (.aload_n 0, 1) := by decide +kernel
theorem dX3_addLayer_1 : decode cX3_addLayer 1 = .ok (.getfield 21, 3) := by decide +kernel
theorem dX3_addLayer_4 : decode cX3_addLayer 4 = .ok (.iconst 1, 1) := by decide +kernel
theorem dX3_addLayer_5 : decode cX3_addLayer 5 = .ok (.isub, 1) := by decide +kernel
theorem dX3_addLayer_6 : decode cX3_addLayer 6 = .ok (.istore_n 2, 1) := by decide +kernel
theorem dX3_addLayer_7 : decode cX3_addLayer 7 = .ok (.aload_n 0, 1) := by decide +kernel
theorem dX3_addLayer_8 : decode cX3_addLayer 8 = .ok (.iload_n 2, 1) := by decide +kernel
theorem dX3_addLayer_9 : decode cX3_addLayer 9 = .ok (.invokevirtual 31, 3) := by decide +kernel
theorem dX3_addLayer_12 : decode cX3_addLayer 12 = .ok (.ifCond .eq 25, 3) := by decide +kernel
theorem dX3_addLayer_15 : decode cX3_addLayer 15 = .ok (.aload_n 0, 1) := by decide +kernel
theorem dX3_addLayer_16 : decode cX3_addLayer 16 = .ok (.getfield 15, 3) := by decide +kernel
theorem dX3_addLayer_19 : decode cX3_addLayer 19 = .ok (.iload_n 2, 1) := by decide +kernel
theorem dX3_addLayer_20 : decode cX3_addLayer 20 = .ok (.iaload, 1) := by decide +kernel
theorem dX3_addLayer_21 : decode cX3_addLayer 21 = .ok (.iconst 4, 1) := by decide +kernel
theorem dX3_addLayer_22 : decode cX3_addLayer 22 = .ok (.if_icmp .ge 15, 3) := by decide +kernel
theorem dX3_addLayer_25 : decode cX3_addLayer 25 = .ok (.aload_n 0, 1) := by decide +kernel
theorem dX3_addLayer_26 : decode cX3_addLayer 26 = .ok (.iload_n 2, 1) := by decide +kernel
theorem dX3_addLayer_27 : decode cX3_addLayer 27 = .ok (.invokevirtual 35, 3) := by decide +kernel
theorem dX3_addLayer_30 : decode cX3_addLayer 30 = .ok (.iconst 1, 1) := by decide +kernel
theorem dX3_addLayer_31 : decode cX3_addLayer 31 = .ok (.iload_n 1, 1) := by decide +kernel
theorem dX3_addLayer_32 : decode cX3_addLayer 32 = .ok (.ishl, 1) := by decide +kernel
theorem dX3_addLayer_33 : decode cX3_addLayer 33 = .ok (.iand, 1) := by decide +kernel
theorem dX3_addLayer_34 : decode cX3_addLayer 34 = .ok (.ifCond .eq 5, 3) := by decide +kernel
theorem dX3_addLayer_37 : decode cX3_addLayer 37 = .ok (.iconst 0, 1) := by decide +kernel
theorem dX3_addLayer_38 : decode cX3_addLayer 38 = .ok (.ireturn, 1) := by decide +kernel
theorem dX3_addLayer_39 : decode cX3_addLayer 39 = .ok (.aload_n 0, 1) := by decide +kernel
theorem dX3_addLayer_40 : decode cX3_addLayer 40 = .ok (.getfield 18, 3) := by decide +kernel
theorem dX3_addLayer_43 : decode cX3_addLayer 43 = .ok (.iload_n 2, 1) := by decide +kernel
theorem dX3_addLayer_44 : decode cX3_addLayer 44 = .ok (.iconst 4, 1) := by decide +kernel
theorem dX3_addLayer_45 : decode cX3_addLayer 45 = .ok (.imul, 1) := by decide +kernel
theorem dX3_addLayer_46 : decode cX3_addLayer 46 = .ok (.aload_n 0, 1) := by decide +kernel
theorem dX3_addLayer_47 : decode cX3_addLayer 47 = .ok (.getfield 15, 3) := by decide +kernel
theorem dX3_addLayer_50 : decode cX3_addLayer 50 = .ok (.iload_n 2, 1) := by decide +kernel
theorem dX3_addLayer_51 : decode cX3_addLayer 51 = .ok (.iaload, 1) := by decide +kernel
theorem dX3_addLayer_52 : decode cX3_addLayer 52 = .ok (.iadd, 1) := by decide +kernel
theorem dX3_addLayer_53 : decode cX3_addLayer 53 = .ok (.iload_n 1, 1) := by decide +kernel
theorem dX3_addLayer_54 : decode cX3_addLayer 54 = .ok (.iastore, 1) := by decide +kernel
theorem dX3_addLayer_55 : decode cX3_addLayer 55 = .ok (.aload_n 0, 1) := by decide +kernel
theorem dX3_addLayer_56 : decode cX3_addLayer 56 = .ok (.getfield 15, 3) := by decide +kernel
theorem dX3_addLayer_59 : decode cX3_addLayer 59 = .ok (.iload_n 2, 1) := by decide +kernel
theorem dX3_addLayer_60 : decode cX3_addLayer 60 = .ok (.dup2, 1) := by decide +kernel
theorem dX3_addLayer_61 : decode cX3_addLayer 61 = .ok (.iaload, 1) := by decide +kernel
theorem dX3_addLayer_62 : decode cX3_addLayer 62 = .ok (.iconst 1, 1) := by decide +kernel
theorem dX3_addLayer_63 : decode cX3_addLayer 63 = .ok (.iadd, 1) := by decide +kernel
theorem dX3_addLayer_64 : decode cX3_addLayer 64 = .ok (.iastore, 1) := by decide +kernel
theorem dX3_addLayer_65 : decode cX3_addLayer 65 = .ok (.iconst 1, 1) := by decide +kernel
theorem dX3_addLayer_66 : decode cX3_addLayer 66 = .ok (.ireturn, 1) := by decide +kernel
theorem dX3_has_0 : decode cX3_has 0 = .ok (.iload_n 1, 1) := by decide +kernel
theorem dX3_has_1 : decode cX3_has 1 = .ok (.ifCond .lt 15, 3) := by decide +kernel
theorem dX3_has_4 : decode cX3_has 4 = .ok (.iload_n 1, 1) := by decide +kernel
theorem dX3_has_5 : decode cX3_has 5 = .ok (.aload_n 0, 1) := by decide +kernel
theorem dX3_has_6 : decode cX3_has 6 = .ok (.getfield 21, 3) := by decide +kernel
theorem dX3_has_9 : decode cX3_has 9 = .ok (.if_icmp .ge 7, 3) := by decide +kernel
theorem dX3_has_12 : decode cX3_has 12 = .ok (.iconst 1, 1) := by decide +kernel
theorem dX3_has_13 : decode cX3_has 13 = .ok (.goto 4, 3) := by decide +kernel
theorem dX3_has_16 : decode cX3_has 16 = .ok (.iconst 0, 1) := by decide +kernel
theorem dX3_has_17 : decode cX3_has 17 = .ok (.ireturn, 1) := by decide +kernel
theorem dX3_kilnAt_0 : decode cX3_kilnAt 0 = .ok (.iconst 0, 1) := by decide +kernel
theorem dX3_kilnAt_1 : decode cX3_kilnAt 1 = .ok (.istore_n 2, 1) := by decide +kernel
theorem dX3_kilnAt_2 : decode cX3_kilnAt 2 = .ok (.iload_n 2, 1) := by decide +kernel
theorem dX3_kilnAt_3 : decode cX3_kilnAt 3 = .ok (.aload_n 0, 1) := by decide +kernel
theorem dX3_kilnAt_4 : decode cX3_kilnAt 4 = .ok (.getfield 21, 3) := by decide +kernel
theorem dX3_kilnAt_7 : decode cX3_kilnAt 7 = .ok (.if_icmp .ge 21, 3) := by decide +kernel
theorem dX3_kilnAt_10 : decode cX3_kilnAt 10 = .ok (.aload_n 0, 1) := by decide +kernel
theorem dX3_kilnAt_11 : decode cX3_kilnAt 11 = .ok (.getfield 9, 3) := by decide +kernel
theorem dX3_kilnAt_14 : decode cX3_kilnAt 14 = .ok (.iload_n 2, 1) := by decide +kernel
theorem dX3_kilnAt_15 : decode cX3_kilnAt 15 = .ok (.iaload, 1) := by decide +kernel
theorem dX3_kilnAt_16 : decode cX3_kilnAt 16 = .ok (.iload_n 1, 1) := by decide +kernel
theorem dX3_kilnAt_17 : decode cX3_kilnAt 17 = .ok (.if_icmp .ne 5, 3) := by decide +kernel
theorem dX3_kilnAt_20 : decode cX3_kilnAt 20 = .ok (.iload_n 2, 1) := by decide +kernel
theorem dX3_kilnAt_21 : decode cX3_kilnAt 21 = .ok (.ireturn, 1) := by decide +kernel
theorem dX3_kilnAt_22 : decode cX3_kilnAt 22 = .ok (.iinc 2 1, 3) := by decide +kernel
theorem dX3_kilnAt_25 : decode cX3_kilnAt 25 = .ok (.goto (-23), 3) := by decide +kernel
theorem dX3_kilnAt_28 : decode cX3_kilnAt 28 = .ok (.bipush (-9), 2) := by decide +kernel
theorem dX3_kilnAt_30 : decode cX3_kilnAt 30 = .ok (.ireturn, 1) := by decide +kernel
theorem dX3_layerOf_0 : decode cX3_layerOf 0 = .ok (.aload_n 0, 1) := by decide +kernel
theorem dX3_layerOf_1 : decode cX3_layerOf 1 = .ok (.getfield 18, 3) := by decide +kernel
theorem dX3_layerOf_4 : decode cX3_layerOf 4 = .ok (.iload_n 1, 1) := by decide +kernel
theorem dX3_layerOf_5 : decode cX3_layerOf 5 = .ok (.iconst 4, 1) := by decide +kernel
theorem dX3_layerOf_6 : decode cX3_layerOf 6 = .ok (.imul, 1) := by decide +kernel
theorem dX3_layerOf_7 : decode cX3_layerOf 7 = .ok (.iload_n 2, 1) := by decide +kernel
theorem dX3_layerOf_8 : decode cX3_layerOf 8 = .ok (.iadd, 1) := by decide +kernel
theorem dX3_layerOf_9 : decode cX3_layerOf 9 = .ok (.iaload, 1) := by decide +kernel
theorem dX3_layerOf_10 : decode cX3_layerOf 10 = .ok (.ireturn, 1) := by decide +kernel
theorem dX3_bitsOf_0 : decode cX3_bitsOf 0 = .ok (.iconst 0, 1) := by decide +kernel
theorem dX3_bitsOf_1 : decode cX3_bitsOf 1 = .ok (.istore_n 2, 1) := by decide +kernel
theorem dX3_bitsOf_2 : decode cX3_bitsOf 2 = .ok (.iconst 0, 1) := by decide +kernel
theorem dX3_bitsOf_3 : decode cX3_bitsOf 3 = .ok (.istore_n 3, 1) := by decide +kernel
theorem dX3_bitsOf_4 : decode cX3_bitsOf 4 = .ok (.iload_n 3, 1) := by decide +kernel
theorem dX3_bitsOf_5 : decode cX3_bitsOf 5 = .ok (.aload_n 0, 1) := by decide +kernel
theorem dX3_bitsOf_6 : decode cX3_bitsOf 6 = .ok (.getfield 15, 3) := by decide +kernel
theorem dX3_bitsOf_9 : decode cX3_bitsOf 9 = .ok (.iload_n 1, 1) := by decide +kernel
theorem dX3_bitsOf_10 : decode cX3_bitsOf 10 = .ok (.iaload, 1) := by decide +kernel
theorem dX3_bitsOf_11 : decode cX3_bitsOf 11 = .ok (.if_icmp .ge 20, 3) := by decide +kernel
theorem dX3_bitsOf_14 : decode cX3_bitsOf 14 = .ok (.iload_n 2, 1) := by decide +kernel
theorem dX3_bitsOf_15 : decode cX3_bitsOf 15 = .ok (.iconst 1, 1) := by decide +kernel
theorem dX3_bitsOf_16 : decode cX3_bitsOf 16 = .ok (.aload_n 0, 1) := by decide +kernel
theorem dX3_bitsOf_17 : decode cX3_bitsOf 17 = .ok (.iload_n 1, 1) := by decide +kernel
theorem dX3_bitsOf_18 : decode cX3_bitsOf 18 = .ok (.iload_n 3, 1) := by decide +kernel
theorem dX3_bitsOf_19 : decode cX3_bitsOf 19 = .ok (.invokevirtual 39, 3) := by decide +kernel
theorem dX3_bitsOf_22 : decode cX3_bitsOf 22 = .ok (.ishl, 1) := by decide +kernel
theorem dX3_bitsOf_23 : decode cX3_bitsOf 23 = .ok (.ior, 1) := by decide +kernel
theorem dX3_bitsOf_24 : decode cX3_bitsOf 24 = .ok (.istore_n 2, 1) := by decide +kernel
theorem dX3_bitsOf_25 : decode cX3_bitsOf 25 = .ok (.iinc 3 1, 3) := by decide +kernel
theorem dX3_bitsOf_28 : decode cX3_bitsOf 28 = .ok (.goto (-24), 3) := by decide +kernel
theorem dX3_bitsOf_31 : decode cX3_bitsOf 31 = .ok (.iload_n 2, 1) := by decide +kernel
theorem dX3_bitsOf_32 : decode cX3_bitsOf 32 = .ok (.ireturn, 1) := by decide +kernel
theorem dX3_figuresOf_0 : decode cX3_figuresOf 0 = .ok (.iconst 0, 1) := by decide +kernel
theorem dX3_figuresOf_1 : decode cX3_figuresOf 1 = .ok (.istore_n 2, 1) := by decide +kernel
theorem dX3_figuresOf_2 : decode cX3_figuresOf 2 = .ok (.iconst 0, 1) := by decide +kernel
theorem dX3_figuresOf_3 : decode cX3_figuresOf 3 = .ok (.istore_n 3, 1) := by decide +kernel
theorem dX3_figuresOf_4 : decode cX3_figuresOf 4 = .ok (.iload_n 3, 1) := by decide +kernel
theorem dX3_figuresOf_5 : decode cX3_figuresOf 5 = .ok (.aload_n 0, 1) := by decide +kernel
theorem dX3_figuresOf_6 : decode cX3_figuresOf 6 = .ok (.getfield 15, 3) := by decide +kernel
theorem dX3_figuresOf_9 : decode cX3_figuresOf 9 = .ok (.iload_n 1, 1) := by decide +kernel
theorem dX3_figuresOf_10 : decode cX3_figuresOf 10 = .ok (.iaload, 1) := by decide +kernel
theorem dX3_figuresOf_11 : decode cX3_figuresOf 11 = .ok (.if_icmp .ge 23, 3) := by decide +kernel
theorem dX3_figuresOf_14 : decode cX3_figuresOf 14 = .ok (.bipush 10, 2) := by decide +kernel
theorem dX3_figuresOf_16 : decode cX3_figuresOf 16 = .ok (.iload_n 2, 1) := by decide +kernel
theorem dX3_figuresOf_17 : decode cX3_figuresOf 17 = .ok (.imul, 1) := by decide +kernel
theorem dX3_figuresOf_18 : decode cX3_figuresOf 18 = .ok (.aload_n 0, 1) := by decide +kernel
theorem dX3_figuresOf_19 : decode cX3_figuresOf 19 = .ok (.iload_n 1, 1) := by decide +kernel
theorem dX3_figuresOf_20 : decode cX3_figuresOf 20 = .ok (.iload_n 3, 1) := by decide +kernel
theorem dX3_figuresOf_21 : decode cX3_figuresOf 21 = .ok (.invokevirtual 39, 3) := by decide +kernel
theorem dX3_figuresOf_24 : decode cX3_figuresOf 24 = .ok (.iadd, 1) := by decide +kernel
theorem dX3_figuresOf_25 : decode cX3_figuresOf 25 = .ok (.iconst 1, 1) := by decide +kernel
theorem dX3_figuresOf_26 : decode cX3_figuresOf 26 = .ok (.iadd, 1) := by decide +kernel
theorem dX3_figuresOf_27 : decode cX3_figuresOf 27 = .ok (.istore_n 2, 1) := by decide +kernel
theorem dX3_figuresOf_28 : decode cX3_figuresOf 28 = .ok (.iinc 3 1, 3) := by decide +kernel
theorem dX3_figuresOf_31 : decode cX3_figuresOf 31 = .ok (.goto (-27), 3) := by decide +kernel
theorem dX3_figuresOf_34 : decode cX3_figuresOf 34 = .ok (.iload_n 2, 1) := by decide +kernel
theorem dX3_figuresOf_35 : decode cX3_figuresOf 35 = .ok (.ireturn, 1) := by decide +kernel
theorem dX3_bitsOfAll_0 : decode cX3_bitsOfAll 0 = .ok (.iconst 0, 1) := by decide +kernel
theorem dX3_bitsOfAll_1 : decode cX3_bitsOfAll 1 = .ok (.istore_n 1, 1) := by decide +kernel
theorem dX3_bitsOfAll_2 : decode cX3_bitsOfAll 2 = .ok (.iconst 0, 1) := by decide +kernel
theorem dX3_bitsOfAll_3 : decode cX3_bitsOfAll 3 = .ok (.istore_n 2, 1) := by decide +kernel
theorem dX3_bitsOfAll_4 : decode cX3_bitsOfAll 4 = .ok (.iload_n 2, 1) := by decide +kernel
theorem dX3_bitsOfAll_5 : decode cX3_bitsOfAll 5 = .ok (.aload_n 0, 1) := by decide +kernel
theorem dX3_bitsOfAll_6 : decode cX3_bitsOfAll 6 = .ok (.getfield 21, 3) := by decide +kernel
theorem dX3_bitsOfAll_9 : decode cX3_bitsOfAll 9 = .ok (.if_icmp .ge 17, 3) := by decide +kernel
theorem dX3_bitsOfAll_12 : decode cX3_bitsOfAll 12 = .ok (.iload_n 1, 1) := by decide +kernel
theorem dX3_bitsOfAll_13 : decode cX3_bitsOfAll 13 = .ok (.aload_n 0, 1) := by decide +kernel
theorem dX3_bitsOfAll_14 : decode cX3_bitsOfAll 14 = .ok (.iload_n 2, 1) := by decide +kernel
theorem dX3_bitsOfAll_15 : decode cX3_bitsOfAll 15 = .ok (.invokevirtual 35, 3) := by decide +kernel
theorem dX3_bitsOfAll_18 : decode cX3_bitsOfAll 18 = .ok (.ior, 1) := by decide +kernel
theorem dX3_bitsOfAll_19 : decode cX3_bitsOfAll 19 = .ok (.istore_n 1, 1) := by decide +kernel
theorem dX3_bitsOfAll_20 : decode cX3_bitsOfAll 20 = .ok (.iinc 2 1, 3) := by decide +kernel
theorem dX3_bitsOfAll_23 : decode cX3_bitsOfAll 23 = .ok (.goto (-19), 3) := by decide +kernel
theorem dX3_bitsOfAll_26 : decode cX3_bitsOfAll 26 = .ok (.iload_n 1, 1) := by decide +kernel
theorem dX3_bitsOfAll_27 : decode cX3_bitsOfAll 27 = .ok (.ireturn, 1) := by decide +kernel
theorem dX3_weightOf_0 : decode cX3_weightOf 0 = .ok (.iconst 1, 1) := by decide +kernel
theorem dX3_weightOf_1 : decode cX3_weightOf 1 = .ok (.istore_n 3, 1) := by decide +kernel
theorem dX3_weightOf_2 : decode cX3_weightOf 2 = .ok (.iconst 0, 1) := by decide +kernel
theorem dX3_weightOf_3 : decode cX3_weightOf 3 = .ok (.istore 4, 2) := by decide +kernel
theorem dX3_weightOf_5 : decode cX3_weightOf 5 = .ok (.iload 4, 2) := by decide +kernel
theorem dX3_weightOf_7 : decode cX3_weightOf 7 = .ok (.aload_n 0, 1) := by decide +kernel
theorem dX3_weightOf_8 : decode cX3_weightOf 8 = .ok (.getfield 21, 3) := by decide +kernel
theorem dX3_weightOf_11 : decode cX3_weightOf 11 = .ok (.if_icmp .ge 29, 3) := by decide +kernel
theorem dX3_weightOf_14 : decode cX3_weightOf 14 = .ok (.iload_n 3, 1) := by decide +kernel
theorem dX3_weightOf_15 : decode cX3_weightOf 15 = .ok (.iload_n 1, 1) := by decide +kernel
theorem dX3_weightOf_16 : decode cX3_weightOf 16 = .ok (.iconst 1, 1) := by decide +kernel
theorem dX3_weightOf_17 : decode cX3_weightOf 17 = .ok (.iload 4, 2) := by decide +kernel
theorem dX3_weightOf_19 : decode cX3_weightOf 19 = .ok (.ishl, 1) := by decide +kernel
theorem dX3_weightOf_20 : decode cX3_weightOf 20 = .ok (.iand, 1) := by decide +kernel
theorem dX3_weightOf_21 : decode cX3_weightOf 21 = .ok (.ifCond .eq 7, 3) := by decide +kernel
theorem dX3_weightOf_24 : decode cX3_weightOf 24 = .ok (.iload_n 2, 1) := by decide +kernel
theorem dX3_weightOf_25 : decode cX3_weightOf 25 = .ok (.goto 7, 3) := by decide +kernel
theorem dX3_weightOf_28 : decode cX3_weightOf 28 = .ok (.bipush 10, 2) := by decide +kernel
theorem dX3_weightOf_30 : decode cX3_weightOf 30 = .ok (.iload_n 2, 1) := by decide +kernel
theorem dX3_weightOf_31 : decode cX3_weightOf 31 = .ok (.isub, 1) := by decide +kernel
theorem dX3_weightOf_32 : decode cX3_weightOf 32 = .ok (.imul, 1) := by decide +kernel
theorem dX3_weightOf_33 : decode cX3_weightOf 33 = .ok (.istore_n 3, 1) := by decide +kernel
theorem dX3_weightOf_34 : decode cX3_weightOf 34 = .ok (.iinc 4 1, 3) := by decide +kernel
theorem dX3_weightOf_37 : decode cX3_weightOf 37 = .ok (.goto (-32), 3) := by decide +kernel
theorem dX3_weightOf_40 : decode cX3_weightOf 40 = .ok (.iload_n 3, 1) := by decide +kernel
theorem dX3_weightOf_41 : decode cX3_weightOf 41 = .ok (.ireturn, 1) := by decide +kernel
theorem dX4_init_0 : decode cX4_init 0 = .ok (.aload_n 0, 1) := by decide +kernel
theorem dX4_init_1 : decode cX4_init 1 = .ok (.invokespecial 3, 3) := by decide +kernel
theorem dX4_init_4 : decode cX4_init 4 = .ok (.aload_n 0, 1) := by decide +kernel
theorem dX4_init_5 : decode cX4_init 5 = .ok (.bipush 6, 2) := by decide +kernel
theorem dX4_init_7 : decode cX4_init 7 = .ok (.newarray .int, 2) := by decide +kernel
theorem dX4_init_9 : decode cX4_init 9 = .ok (.putfield 9, 3) := by decide +kernel
theorem dX4_init_12 : decode cX4_init 12 = .ok (.aload_n 0, 1) := by decide +kernel
theorem dX4_init_13 : decode cX4_init 13 = .ok (.bipush 64, 2) := by decide +kernel
theorem dX4_init_15 : decode cX4_init 15 = .ok (.newarray .int, 2) := by decide +kernel
theorem dX4_init_17 : decode cX4_init 17 = .ok (.putfield 15, 3) := by decide +kernel
theorem dX4_init_20 : decode cX4_init 20 = .ok (.aload_n 0, 1) := by decide +kernel
theorem dX4_init_21 : decode cX4_init 21 = .ok (.iconst 0, 1) := by decide +kernel
theorem dX4_init_22 : decode cX4_init 22 = .ok (.putfield 18, 3) := by decide +kernel
theorem dX4_init_25 : decode cX4_init 25 = .ok (.return_, 1) := by decide +kernel
theorem dX4_look_0 : decode cX4_look 0 = .ok (.aload_n 0, 1) := by decide +kernel
theorem dX4_look_1 : decode cX4_look 1 = .ok (.aload_n 1, 1) := by decide +kernel
theorem dX4_look_2 : decode cX4_look 2 = .ok (.invokevirtual 22, 3) := by decide +kernel
theorem dX4_look_5 : decode cX4_look 5 = .ok (.putfield 18, 3) := by decide +kernel
theorem dX4_look_8 : decode cX4_look 8 = .ok (.iconst 0, 1) := by decide +kernel
theorem dX4_look_9 : decode cX4_look 9 = .ok (.istore_n 2, 1) := by decide +kernel
theorem dX4_look_10 : decode cX4_look 10 = .ok (.iload_n 2, 1) := by decide +kernel
theorem dX4_look_11 : decode cX4_look 11 = .ok (.bipush 6, 2) := by decide +kernel
theorem dX4_look_13 : decode cX4_look 13 = .ok (.if_icmp .ge 16, 3) := by decide +kernel
theorem dX4_look_16 : decode cX4_look 16 = .ok (.aload_n 0, 1) := by decide +kernel
theorem dX4_look_17 : decode cX4_look 17 = .ok (.getfield 9, 3) := by decide +kernel
theorem dX4_look_20 : decode cX4_look 20 = .ok (.iload_n 2, 1) := by decide +kernel
theorem dX4_look_21 : decode cX4_look 21 = .ok (.iconst 0, 1) := by decide +kernel
theorem dX4_look_22 : decode cX4_look 22 = .ok (.iastore, 1) := by decide +kernel
theorem dX4_look_23 : decode cX4_look 23 = .ok (.iinc 2 1, 3) := by decide +kernel
theorem dX4_look_26 : decode cX4_look 26 = .ok (.goto (-16), 3) := by decide +kernel
theorem dX4_look_29 : decode cX4_look 29 = .ok (.iconst 0, 1) := by decide +kernel
theorem dX4_look_30 : decode cX4_look 30 = .ok (.istore_n 2, 1) := by decide +kernel
theorem dX4_look_31 : decode cX4_look 31 = .ok (.iload_n 2, 1) := by decide +kernel
theorem dX4_look_32 : decode cX4_look 32 = .ok (.aload_n 1, 1) := by decide +kernel
theorem dX4_look_33 : decode cX4_look 33 = .ok (.getfield 28, 3) := by decide +kernel
theorem dX4_look_36 : decode cX4_look 36 = .ok (.if_icmp .ge 51, 3) := by decide +kernel
theorem dX4_look_39 : decode cX4_look 39 = .ok (.iconst 1, 1) := by decide +kernel
theorem dX4_look_40 : decode cX4_look 40 = .ok (.istore_n 3, 1) := by decide +kernel
theorem dX4_look_41 : decode cX4_look 41 = .ok (.iload_n 3, 1) := by decide +kernel
theorem dX4_look_42 : decode cX4_look 42 = .ok (.aload_n 1, 1) := by decide +kernel
theorem dX4_look_43 : decode cX4_look 43 = .ok (.getfield 31, 3) := by decide +kernel
theorem dX4_look_46 : decode cX4_look 46 = .ok (.iload_n 2, 1) := by decide +kernel
theorem dX4_look_47 : decode cX4_look 47 = .ok (.iaload, 1) := by decide +kernel
theorem dX4_look_48 : decode cX4_look 48 = .ok (.if_icmp .ge 33, 3) := by decide +kernel
theorem dX4_look_51 : decode cX4_look 51 = .ok (.aload_n 0, 1) := by decide +kernel
theorem dX4_look_52 : decode cX4_look 52 = .ok (.getfield 9, 3) := by decide +kernel
theorem dX4_look_55 : decode cX4_look 55 = .ok (.aload_n 1, 1) := by decide +kernel
theorem dX4_look_56 : decode cX4_look 56 = .ok (.iload_n 2, 1) := by decide +kernel
theorem dX4_look_57 : decode cX4_look 57 = .ok (.iload_n 3, 1) := by decide +kernel
theorem dX4_look_58 : decode cX4_look 58 = .ok (.invokevirtual 34, 3) := by decide +kernel
theorem dX4_look_61 : decode cX4_look 61 = .ok (.dup2, 1) := by decide +kernel
theorem dX4_look_62 : decode cX4_look 62 = .ok (.iaload, 1) := by decide +kernel
theorem dX4_look_63 : decode cX4_look 63 = .ok (.iconst 1, 1) := by decide +kernel
theorem dX4_look_64 : decode cX4_look 64 = .ok (.aload_n 1, 1) := by decide +kernel
theorem dX4_look_65 : decode cX4_look 65 = .ok (.iload_n 2, 1) := by decide +kernel
theorem dX4_look_66 : decode cX4_look 66 = .ok (.iload_n 3, 1) := by decide +kernel
theorem dX4_look_67 : decode cX4_look 67 = .ok (.iconst 1, 1) := by decide +kernel
theorem dX4_look_68 : decode cX4_look 68 = .ok (.isub, 1) := by decide +kernel
theorem dX4_look_69 : decode cX4_look 69 = .ok (.invokevirtual 34, 3) := by decide +kernel
theorem dX4_look_72 : decode cX4_look 72 = .ok (.ishl, 1) := by decide +kernel
theorem dX4_look_73 : decode cX4_look 73 = .ok (.ior, 1) := by decide +kernel
theorem dX4_look_74 : decode cX4_look 74 = .ok (.iastore, 1) := by decide +kernel
theorem dX4_look_75 : decode cX4_look 75 = .ok (.iinc 3 1, 3) := by decide +kernel
theorem dX4_look_78 : decode cX4_look 78 = .ok (.goto (-37), 3) := by decide +kernel
theorem dX4_look_81 : decode cX4_look 81 = .ok (.iinc 2 1, 3) := by decide +kernel
theorem dX4_look_84 : decode cX4_look 84 = .ok (.goto (-53), 3) := by decide +kernel
theorem dX4_look_87 : decode cX4_look 87 = .ok (.aload_n 0, 1) := by decide +kernel
theorem dX4_look_88 : decode cX4_look 88 = .ok (.getfield 15, 3) := by decide +kernel
theorem dX4_look_91 : decode cX4_look 91 = .ok (.iconst 0, 1) := by decide +kernel
theorem dX4_look_92 : decode cX4_look 92 = .ok (.iconst 1, 1) := by decide +kernel
theorem dX4_look_93 : decode cX4_look 93 = .ok (.iastore, 1) := by decide +kernel
theorem dX4_look_94 : decode cX4_look 94 = .ok (.iconst 1, 1) := by decide +kernel
theorem dX4_look_95 : decode cX4_look 95 = .ok (.istore_n 2, 1) := by decide +kernel
theorem dX4_look_96 : decode cX4_look 96 = .ok (.iload_n 2, 1) := by decide +kernel
theorem dX4_look_97 : decode cX4_look 97 = .ok (.bipush 64, 2) := by decide +kernel
theorem dX4_look_99 : decode cX4_look 99 = .ok (.if_icmp .ge 34, 3) := by decide +kernel
theorem dX4_look_102 : decode cX4_look 102 = .ok (.aload_n 0, 1) := by decide +kernel
theorem dX4_look_103 : decode cX4_look 103 = .ok (.getfield 15, 3) := by decide +kernel
theorem dX4_look_106 : decode cX4_look 106 = .ok (.iload_n 2, 1) := by decide +kernel
theorem dX4_look_107 : decode cX4_look 107 = .ok (.iload_n 2, 1) := by decide +kernel
theorem dX4_look_108 : decode cX4_look 108 = .ok (.aload_n 0, 1) := by decide +kernel
theorem dX4_look_109 : decode cX4_look 109 = .ok (.getfield 18, 3) := by decide +kernel
theorem dX4_look_112 : decode cX4_look 112 = .ok (.iand, 1) := by decide +kernel
theorem dX4_look_113 : decode cX4_look 113 = .ok (.iload_n 2, 1) := by decide +kernel
theorem dX4_look_114 : decode cX4_look 114 = .ok (.if_icmp .ne 11, 3) := by decide +kernel
theorem dX4_look_117 : decode cX4_look 117 = .ok (.aload_n 0, 1) := by decide +kernel
theorem dX4_look_118 : decode cX4_look 118 = .ok (.iload_n 2, 1) := by decide +kernel
theorem dX4_look_119 : decode cX4_look 119 = .ok (.invokevirtual 38, 3) := by decide +kernel
theorem dX4_look_122 : decode cX4_look 122 = .ok (.goto 4, 3) := by decide +kernel
theorem dX4_look_125 : decode cX4_look 125 = .ok (.iconst 0, 1) := by decide +kernel
theorem dX4_look_126 : decode cX4_look 126 = .ok (.iastore, 1) := by decide +kernel
theorem dX4_look_127 : decode cX4_look 127 = .ok (.iinc 2 1, 3) := by decide +kernel
theorem dX4_look_130 : decode cX4_look 130 = .ok (.goto (-34), 3) := by decide +kernel
theorem dX4_look_133 : decode cX4_look 133 = .ok (.return_, 1) := by decide +kernel
theorem dX4_waysTo_0 : decode cX4_waysTo 0 = .ok (.iconst 0, 1) := by decide +kernel
theorem dX4_waysTo_1 : decode cX4_waysTo 1 = .ok (.istore_n 2, 1) := by decide +kernel
theorem dX4_waysTo_2 : decode cX4_waysTo 2 = .ok (.iconst 0, 1) := by decide +kernel
theorem dX4_waysTo_3 : decode cX4_waysTo 3 = .ok (.istore_n 3, 1) := by decide +kernel
theorem dX4_waysTo_4 : decode cX4_waysTo 4 = .ok (.iload_n 3, 1) := by decide +kernel
theorem dX4_waysTo_5 : decode cX4_waysTo 5 = .ok (.bipush 6, 2) := by decide +kernel
theorem dX4_waysTo_7 : decode cX4_waysTo 7 = .ok (.if_icmp .ge 44, 3) := by decide +kernel
theorem dX4_waysTo_10 : decode cX4_waysTo 10 = .ok (.iload_n 1, 1) := by decide +kernel
theorem dX4_waysTo_11 : decode cX4_waysTo 11 = .ok (.iconst 1, 1) := by decide +kernel
theorem dX4_waysTo_12 : decode cX4_waysTo 12 = .ok (.iload_n 3, 1) := by decide +kernel
theorem dX4_waysTo_13 : decode cX4_waysTo 13 = .ok (.ishl, 1) := by decide +kernel
theorem dX4_waysTo_14 : decode cX4_waysTo 14 = .ok (.iconst (-1), 1) := by decide +kernel
theorem dX4_waysTo_15 : decode cX4_waysTo 15 = .ok (.ixor, 1) := by decide +kernel
theorem dX4_waysTo_16 : decode cX4_waysTo 16 = .ok (.iand, 1) := by decide +kernel
theorem dX4_waysTo_17 : decode cX4_waysTo 17 = .ok (.istore 4, 2) := by decide +kernel
theorem dX4_waysTo_19 : decode cX4_waysTo 19 = .ok (.iload 4, 2) := by decide +kernel
theorem dX4_waysTo_21 : decode cX4_waysTo 21 = .ok (.iload_n 1, 1) := by decide +kernel
theorem dX4_waysTo_22 : decode cX4_waysTo 22 = .ok (.if_icmp .eq 23, 3) := by decide +kernel
theorem dX4_waysTo_25 : decode cX4_waysTo 25 = .ok (.aload_n 0, 1) := by decide +kernel
theorem dX4_waysTo_26 : decode cX4_waysTo 26 = .ok (.iload_n 3, 1) := by decide +kernel
theorem dX4_waysTo_27 : decode cX4_waysTo 27 = .ok (.iload 4, 2) := by decide +kernel
theorem dX4_waysTo_29 : decode cX4_waysTo 29 = .ok (.invokevirtual 42, 3) := by decide +kernel
theorem dX4_waysTo_32 : decode cX4_waysTo 32 = .ok (.ifCond .eq 13, 3) := by decide +kernel
theorem dX4_waysTo_35 : decode cX4_waysTo 35 = .ok (.iload_n 2, 1) := by decide +kernel
theorem dX4_waysTo_36 : decode cX4_waysTo 36 = .ok (.aload_n 0, 1) := by decide +kernel
theorem dX4_waysTo_37 : decode cX4_waysTo 37 = .ok (.getfield 15, 3) := by decide +kernel
theorem dX4_waysTo_40 : decode cX4_waysTo 40 = .ok (.iload 4, 2) := by decide +kernel
theorem dX4_waysTo_42 : decode cX4_waysTo 42 = .ok (.iaload, 1) := by decide +kernel
theorem dX4_waysTo_43 : decode cX4_waysTo 43 = .ok (.iadd, 1) := by decide +kernel
theorem dX4_waysTo_44 : decode cX4_waysTo 44 = .ok (.istore_n 2, 1) := by decide +kernel
theorem dX4_waysTo_45 : decode cX4_waysTo 45 = .ok (.iinc 3 1, 3) := by decide +kernel
theorem dX4_waysTo_48 : decode cX4_waysTo 48 = .ok (.goto (-44), 3) := by decide +kernel
theorem dX4_waysTo_51 : decode cX4_waysTo 51 = .ok (.iload_n 2, 1) := by decide +kernel
theorem dX4_waysTo_52 : decode cX4_waysTo 52 = .ok (.ireturn, 1) := by decide +kernel
theorem dX4_canFollow_0 : decode cX4_canFollow 0 = .ok (.aload_n 0, 1) := by decide +kernel
theorem dX4_canFollow_1 : decode cX4_canFollow 1 = .ok (.getfield 9, 3) := by decide +kernel
theorem dX4_canFollow_4 : decode cX4_canFollow 4 = .ok (.iload_n 1, 1) := by decide +kernel
theorem dX4_canFollow_5 : decode cX4_canFollow 5 = .ok (.iaload, 1) := by decide +kernel
theorem dX4_canFollow_6 : decode cX4_canFollow 6 = .ok (.iload_n 2, 1) := by decide +kernel
theorem dX4_canFollow_7 : decode cX4_canFollow 7 = .ok (.iand, 1) := by decide +kernel
theorem dX4_canFollow_8 : decode cX4_canFollow 8 = .ok (.aload_n 0, 1) := by decide +kernel
theorem dX4_canFollow_9 : decode cX4_canFollow 9 = .ok (.getfield 9, 3) := by decide +kernel
theorem dX4_canFollow_12 : decode cX4_canFollow 12 = .ok (.iload_n 1, 1) := by decide +kernel
theorem dX4_canFollow_13 : decode cX4_canFollow 13 = .ok (.iaload, 1) := by decide +kernel
theorem dX4_canFollow_14 : decode cX4_canFollow 14 = .ok (.if_icmp .ne 7, 3) := by decide +kernel
theorem dX4_canFollow_17 : decode cX4_canFollow 17 = .ok (.iconst 1, 1) := by decide +kernel
theorem dX4_canFollow_18 : decode cX4_canFollow 18 = .ok (.goto 4, 3) := by decide +kernel
theorem dX4_canFollow_21 : decode cX4_canFollow 21 = .ok (.iconst 0, 1) := by decide +kernel
theorem dX4_canFollow_22 : decode cX4_canFollow 22 = .ok (.ireturn, 1) := by decide +kernel
theorem dX4_howMany_0 : decode cX4_howMany 0 = .ok (.aload_n 0, 1) := by decide +kernel
theorem dX4_howMany_1 : decode cX4_howMany 1 = .ok (.getfield 15, 3) := by decide +kernel
theorem dX4_howMany_4 : decode cX4_howMany 4 = .ok (.aload_n 0, 1) := by decide +kernel
theorem dX4_howMany_5 : decode cX4_howMany 5 = .ok (.getfield 18, 3) := by decide +kernel
theorem dX4_howMany_8 : decode cX4_howMany 8 = .ok (.iaload, 1) := by decide +kernel
theorem dX4_howMany_9 : decode cX4_howMany 9 = .ok (.ireturn, 1) := by decide +kernel
theorem dX4_least_0 : decode cX4_least 0 = .ok (.iconst 0, 1) := by decide +kernel
theorem dX4_least_1 : decode cX4_least 1 = .ok (.istore_n 1, 1) := by decide +kernel
theorem dX4_least_2 : decode cX4_least 2 = .ok (.iconst 0, 1) := by decide +kernel
theorem dX4_least_3 : decode cX4_least 3 = .ok (.istore_n 2, 1) := by decide +kernel
theorem dX4_least_4 : decode cX4_least 4 = .ok (.iconst 0, 1) := by decide +kernel
theorem dX4_least_5 : decode cX4_least 5 = .ok (.istore_n 3, 1) := by decide +kernel
theorem dX4_least_6 : decode cX4_least 6 = .ok (.iload_n 3, 1) := by decide +kernel
theorem dX4_least_7 : decode cX4_least 7 = .ok (.bipush 6, 2) := by decide +kernel
theorem dX4_least_9 : decode cX4_least 9 = .ok (.if_icmp .ge 41, 3) := by decide +kernel
theorem dX4_least_12 : decode cX4_least 12 = .ok (.iload_n 2, 1) := by decide +kernel
theorem dX4_least_13 : decode cX4_least 13 = .ok (.aload_n 0, 1) := by decide +kernel
theorem dX4_least_14 : decode cX4_least 14 = .ok (.getfield 18, 3) := by decide +kernel
theorem dX4_least_17 : decode cX4_least 17 = .ok (.if_icmp .eq 33, 3) := by decide +kernel
theorem dX4_least_20 : decode cX4_least 20 = .ok (.aload_n 0, 1) := by decide +kernel
theorem dX4_least_21 : decode cX4_least 21 = .ok (.iload_n 2, 1) := by decide +kernel
theorem dX4_least_22 : decode cX4_least 22 = .ok (.invokevirtual 46, 3) := by decide +kernel
theorem dX4_least_25 : decode cX4_least 25 = .ok (.istore 4, 2) := by decide +kernel
theorem dX4_least_27 : decode cX4_least 27 = .ok (.bipush 10, 2) := by decide +kernel
theorem dX4_least_29 : decode cX4_least 29 = .ok (.iload_n 1, 1) := by decide +kernel
theorem dX4_least_30 : decode cX4_least 30 = .ok (.imul, 1) := by decide +kernel
theorem dX4_least_31 : decode cX4_least 31 = .ok (.iload 4, 2) := by decide +kernel
theorem dX4_least_33 : decode cX4_least 33 = .ok (.iadd, 1) := by decide +kernel
theorem dX4_least_34 : decode cX4_least 34 = .ok (.iconst 1, 1) := by decide +kernel
theorem dX4_least_35 : decode cX4_least 35 = .ok (.iadd, 1) := by decide +kernel
theorem dX4_least_36 : decode cX4_least 36 = .ok (.istore_n 1, 1) := by decide +kernel
theorem dX4_least_37 : decode cX4_least 37 = .ok (.iload_n 2, 1) := by decide +kernel
theorem dX4_least_38 : decode cX4_least 38 = .ok (.iconst 1, 1) := by decide +kernel
theorem dX4_least_39 : decode cX4_least 39 = .ok (.iload 4, 2) := by decide +kernel
theorem dX4_least_41 : decode cX4_least 41 = .ok (.ishl, 1) := by decide +kernel
theorem dX4_least_42 : decode cX4_least 42 = .ok (.ior, 1) := by decide +kernel
theorem dX4_least_43 : decode cX4_least 43 = .ok (.istore_n 2, 1) := by decide +kernel
theorem dX4_least_44 : decode cX4_least 44 = .ok (.iinc 3 1, 3) := by decide +kernel
theorem dX4_least_47 : decode cX4_least 47 = .ok (.goto (-41), 3) := by decide +kernel
theorem dX4_least_50 : decode cX4_least 50 = .ok (.iload_n 1, 1) := by decide +kernel
theorem dX4_least_51 : decode cX4_least 51 = .ok (.ireturn, 1) := by decide +kernel
theorem dX4_leastAfter_0 : decode cX4_leastAfter 0 = .ok (.iconst 0, 1) := by decide +kernel
theorem dX4_leastAfter_1 : decode cX4_leastAfter 1 = .ok (.istore_n 2, 1) := by decide +kernel
theorem dX4_leastAfter_2 : decode cX4_leastAfter 2 = .ok (.iload_n 2, 1) := by decide +kernel
theorem dX4_leastAfter_3 : decode cX4_leastAfter 3 = .ok (.bipush 6, 2) := by decide +kernel
theorem dX4_leastAfter_5 : decode cX4_leastAfter 5 = .ok (.if_icmp .ge 35, 3) := by decide +kernel
theorem dX4_leastAfter_8 : decode cX4_leastAfter 8 = .ok (.aload_n 0, 1) := by decide +kernel
theorem dX4_leastAfter_9 : decode cX4_leastAfter 9 = .ok (.getfield 18, 3) := by decide +kernel
theorem dX4_leastAfter_12 : decode cX4_leastAfter 12 = .ok (.iload_n 1, 1) := by decide +kernel
theorem dX4_leastAfter_13 : decode cX4_leastAfter 13 = .ok (.iconst (-1), 1) := by decide +kernel
theorem dX4_leastAfter_14 : decode cX4_leastAfter 14 = .ok (.ixor, 1) := by decide +kernel
theorem dX4_leastAfter_15 : decode cX4_leastAfter 15 = .ok (.iand, 1) := by decide +kernel
theorem dX4_leastAfter_16 : decode cX4_leastAfter 16 = .ok (.iconst 1, 1) := by decide +kernel
theorem dX4_leastAfter_17 : decode cX4_leastAfter 17 = .ok (.iload_n 2, 1) := by decide +kernel
theorem dX4_leastAfter_18 : decode cX4_leastAfter 18 = .ok (.ishl, 1) := by decide +kernel
theorem dX4_leastAfter_19 : decode cX4_leastAfter 19 = .ok (.iand, 1) := by decide +kernel
theorem dX4_leastAfter_20 : decode cX4_leastAfter 20 = .ok (.ifCond .eq 14, 3) := by decide +kernel
theorem dX4_leastAfter_23 : decode cX4_leastAfter 23 = .ok (.aload_n 0, 1) := by decide +kernel
theorem dX4_leastAfter_24 : decode cX4_leastAfter 24 = .ok (.iload_n 2, 1) := by decide +kernel
theorem dX4_leastAfter_25 : decode cX4_leastAfter 25 = .ok (.iload_n 1, 1) := by decide +kernel
theorem dX4_leastAfter_26 : decode cX4_leastAfter 26 = .ok (.invokevirtual 42, 3) := by decide +kernel
theorem dX4_leastAfter_29 : decode cX4_leastAfter 29 = .ok (.ifCond .eq 5, 3) := by decide +kernel
theorem dX4_leastAfter_32 : decode cX4_leastAfter 32 = .ok (.iload_n 2, 1) := by decide +kernel
theorem dX4_leastAfter_33 : decode cX4_leastAfter 33 = .ok (.ireturn, 1) := by decide +kernel
theorem dX4_leastAfter_34 : decode cX4_leastAfter 34 = .ok (.iinc 2 1, 3) := by decide +kernel
theorem dX4_leastAfter_37 : decode cX4_leastAfter 37 = .ok (.goto (-35), 3) := by decide +kernel
theorem dX4_leastAfter_40 : decode cX4_leastAfter 40 = .ok (.iconst 0, 1) := by decide +kernel
theorem dX4_leastAfter_41 : decode cX4_leastAfter 41 = .ok (.ireturn, 1) := by decide +kernel
theorem dX5_init_0 : decode cX5_init 0 = .ok (.aload_n 0, 1) := by decide +kernel
theorem dX5_init_1 : decode cX5_init 1 = .ok (.invokespecial 3, 3) := by decide +kernel
theorem dX5_init_4 : decode cX5_init 4 = .ok (.aload_n 0, 1) := by decide +kernel
theorem dX5_init_5 : decode cX5_init 5 = .ok (.new 9, 3) := by decide +kernel
theorem dX5_init_8 : decode cX5_init 8 = .ok (.dup, 1) := by decide +kernel
theorem dX5_init_9 : decode cX5_init 9 = .ok (.invokespecial 11, 3) := by decide +kernel
theorem dX5_init_12 : decode cX5_init 12 = .ok (.putfield 12, 3) := by decide +kernel
theorem dX5_init_15 : decode cX5_init 15 = .ok (.aload_n 0, 1) := by decide +kernel
theorem dX5_init_16 : decode cX5_init 16 = .ok (.new 18, 3) := by decide +kernel
theorem dX5_init_19 : decode cX5_init 19 = .ok (.dup, 1) := by decide +kernel
theorem dX5_init_20 : decode cX5_init 20 = .ok (.invokespecial 20, 3) := by decide +kernel
theorem dX5_init_23 : decode cX5_init 23 = .ok (.putfield 21, 3) := by decide +kernel
theorem dX5_init_26 : decode cX5_init 26 = .ok (.aload_n 0, 1) := by decide +kernel
theorem dX5_init_27 : decode cX5_init 27 = .ok (.iconst 0, 1) := by decide +kernel
theorem dX5_init_28 : decode cX5_init 28 = .ok (.putfield 25, 3) := by decide +kernel
theorem dX5_init_31 : decode cX5_init 31 = .ok (.aload_n 0, 1) := by decide +kernel
theorem dX5_init_32 : decode cX5_init 32 = .ok (.iconst 0, 1) := by decide +kernel
theorem dX5_init_33 : decode cX5_init 33 = .ok (.putfield 29, 3) := by decide +kernel
theorem dX5_init_36 : decode cX5_init 36 = .ok (.return_, 1) := by decide +kernel
theorem dX5_read_0 : decode cX5_read 0 = .ok (.aload_n 0, 1) := by decide +kernel
theorem dX5_read_1 : decode cX5_read 1 = .ok (.getfield 12, 3) := by decide +kernel
theorem dX5_read_4 : decode cX5_read 4 = .ok (.invokevirtual 32, 3) := by decide +kernel
theorem dX5_read_7 : decode cX5_read 7 = .ok (.aload_n 0, 1) := by decide +kernel
theorem dX5_read_8 : decode cX5_read 8 = .ok (.getfield 21, 3) := by decide +kernel
theorem dX5_read_11 : decode cX5_read 11 = .ok (.invokevirtual 35, 3) := by decide +kernel
theorem dX5_read_14 : decode cX5_read 14 = .ok (.aload_n 0, 1) := by decide +kernel
theorem dX5_read_15 : decode cX5_read 15 = .ok (.iconst 0, 1) := by decide +kernel
theorem dX5_read_16 : decode cX5_read 16 = .ok (.putfield 25, 3) := by decide +kernel
theorem dX5_read_19 : decode cX5_read 19 = .ok (.iconst 0, 1) := by decide +kernel
theorem dX5_read_20 : decode cX5_read 20 = .ok (.istore_n 2, 1) := by decide +kernel
theorem dX5_read_21 : decode cX5_read 21 = .ok (.iload_n 2, 1) := by decide +kernel
theorem dX5_read_22 : decode cX5_read 22 = .ok (.aload_n 1, 1) := by decide +kernel
theorem dX5_read_23 : decode cX5_read 23 = .ok (.getfield 36, 3) := by decide +kernel
theorem dX5_read_26 : decode cX5_read 26 = .ok (.if_icmp .ge 30, 3) := by decide +kernel
theorem dX5_read_29 : decode cX5_read 29 = .ok (.iload_n 2, 1) := by decide +kernel
theorem dX5_read_30 : decode cX5_read 30 = .ok (.bipush 48, 2) := by decide +kernel
theorem dX5_read_32 : decode cX5_read 32 = .ok (.if_icmp .ge 24, 3) := by decide +kernel
theorem dX5_read_35 : decode cX5_read 35 = .ok (.aload_n 0, 1) := by decide +kernel
theorem dX5_read_36 : decode cX5_read 36 = .ok (.aload_n 1, 1) := by decide +kernel
theorem dX5_read_37 : decode cX5_read 37 = .ok (.getfield 41, 3) := by decide +kernel
theorem dX5_read_40 : decode cX5_read 40 = .ok (.iload_n 2, 1) := by decide +kernel
theorem dX5_read_41 : decode cX5_read 41 = .ok (.iaload, 1) := by decide +kernel
theorem dX5_read_42 : decode cX5_read 42 = .ok (.invokevirtual 45, 3) := by decide +kernel
theorem dX5_read_45 : decode cX5_read 45 = .ok (.ifCond .ne 5, 3) := by decide +kernel
theorem dX5_read_48 : decode cX5_read 48 = .ok (.iload_n 2, 1) := by decide +kernel
theorem dX5_read_49 : decode cX5_read 49 = .ok (.ireturn, 1) := by decide +kernel
theorem dX5_read_50 : decode cX5_read 50 = .ok (.iinc 2 1, 3) := by decide +kernel
theorem dX5_read_53 : decode cX5_read 53 = .ok (.goto (-32), 3) := by decide +kernel
theorem dX5_read_56 : decode cX5_read 56 = .ok (.aload_n 0, 1) := by decide +kernel
theorem dX5_read_57 : decode cX5_read 57 = .ok (.getfield 25, 3) := by decide +kernel
theorem dX5_read_60 : decode cX5_read 60 = .ok (.iconst 1, 1) := by decide +kernel
theorem dX5_read_61 : decode cX5_read 61 = .ok (.if_icmp .eq 11, 3) := by decide +kernel
theorem dX5_read_64 : decode cX5_read 64 = .ok (.aload_n 0, 1) := by decide +kernel
theorem dX5_read_65 : decode cX5_read 65 = .ok (.getfield 25, 3) := by decide +kernel
theorem dX5_read_68 : decode cX5_read 68 = .ok (.iconst 4, 1) := by decide +kernel
theorem dX5_read_69 : decode cX5_read 69 = .ok (.if_icmp .ne 8, 3) := by decide +kernel
theorem dX5_read_72 : decode cX5_read 72 = .ok (.bipush (-9), 2) := by decide +kernel
theorem dX5_read_74 : decode cX5_read 74 = .ok (.goto 7, 3) := by decide +kernel
theorem dX5_read_77 : decode cX5_read 77 = .ok (.aload_n 1, 1) := by decide +kernel
theorem dX5_read_78 : decode cX5_read 78 = .ok (.getfield 36, 3) := by decide +kernel
theorem dX5_read_81 : decode cX5_read 81 = .ok (.ireturn, 1) := by decide +kernel
theorem dX5_takes_0 : decode cX5_takes 0 = .ok (.aload_n 0, 1) := by decide +kernel
theorem dX5_takes_1 : decode cX5_takes 1 = .ok (.getfield 25, 3) := by decide +kernel
theorem dX5_takes_4 : decode cX5_takes 4 = .ok (.tableswitch 135 0 6 #[44, 135, 61, 70, 79, 104, 126], 44) := by decide +kernel
theorem dX5_takes_48 : decode cX5_takes 48 = .ok (.aload_n 0, 1) := by decide +kernel
theorem dX5_takes_49 : decode cX5_takes 49 = .ok (.iconst 1, 1) := by decide +kernel
theorem dX5_takes_50 : decode cX5_takes 50 = .ok (.putfield 25, 3) := by decide +kernel
theorem dX5_takes_53 : decode cX5_takes 53 = .ok (.iload_n 1, 1) := by decide +kernel
theorem dX5_takes_54 : decode cX5_takes 54 = .ok (.bipush 75, 2) := by decide +kernel
theorem dX5_takes_56 : decode cX5_takes 56 = .ok (.if_icmp .ne 7, 3) := by decide +kernel
theorem dX5_takes_59 : decode cX5_takes 59 = .ok (.iconst 1, 1) := by decide +kernel
theorem dX5_takes_60 : decode cX5_takes 60 = .ok (.goto 4, 3) := by decide +kernel
theorem dX5_takes_63 : decode cX5_takes 63 = .ok (.iconst 0, 1) := by decide +kernel
theorem dX5_takes_64 : decode cX5_takes 64 = .ok (.ireturn, 1) := by decide +kernel
theorem dX5_takes_65 : decode cX5_takes 65 = .ok (.aload_n 0, 1) := by decide +kernel
theorem dX5_takes_66 : decode cX5_takes 66 = .ok (.iload_n 1, 1) := by decide +kernel
theorem dX5_takes_67 : decode cX5_takes 67 = .ok (.bipush 48, 2) := by decide +kernel
theorem dX5_takes_69 : decode cX5_takes 69 = .ok (.isub, 1) := by decide +kernel
theorem dX5_takes_70 : decode cX5_takes 70 = .ok (.invokevirtual 49, 3) := by decide +kernel
theorem dX5_takes_73 : decode cX5_takes 73 = .ok (.ireturn, 1) := by decide +kernel
theorem dX5_takes_74 : decode cX5_takes 74 = .ok (.aload_n 0, 1) := by decide +kernel
theorem dX5_takes_75 : decode cX5_takes 75 = .ok (.iload_n 1, 1) := by decide +kernel
theorem dX5_takes_76 : decode cX5_takes 76 = .ok (.bipush 97, 2) := by decide +kernel
theorem dX5_takes_78 : decode cX5_takes 78 = .ok (.isub, 1) := by decide +kernel
theorem dX5_takes_79 : decode cX5_takes 79 = .ok (.invokevirtual 52, 3) := by decide +kernel
theorem dX5_takes_82 : decode cX5_takes 82 = .ok (.ireturn, 1) := by decide +kernel
theorem dX5_takes_83 : decode cX5_takes 83 = .ok (.aload_n 0, 1) := by decide +kernel
theorem dX5_takes_84 : decode cX5_takes 84 = .ok (.iload_n 1, 1) := by decide +kernel
theorem dX5_takes_85 : decode cX5_takes 85 = .ok (.bipush 97, 2) := by decide +kernel
theorem dX5_takes_87 : decode cX5_takes 87 = .ok (.isub, 1) := by decide +kernel
theorem dX5_takes_88 : decode cX5_takes 88 = .ok (.invokevirtual 52, 3) := by decide +kernel
theorem dX5_takes_91 : decode cX5_takes 91 = .ok (.ifCond .ne 11, 3) := by decide +kernel
theorem dX5_takes_94 : decode cX5_takes 94 = .ok (.aload_n 0, 1) := by decide +kernel
theorem dX5_takes_95 : decode cX5_takes 95 = .ok (.iload_n 1, 1) := by decide +kernel
theorem dX5_takes_96 : decode cX5_takes 96 = .ok (.invokevirtual 55, 3) := by decide +kernel
theorem dX5_takes_99 : decode cX5_takes 99 = .ok (.ifCond .eq 7, 3) := by decide +kernel
theorem dX5_takes_102 : decode cX5_takes 102 = .ok (.iconst 1, 1) := by decide +kernel
theorem dX5_takes_103 : decode cX5_takes 103 = .ok (.goto 4, 3) := by decide +kernel
theorem dX5_takes_106 : decode cX5_takes 106 = .ok (.iconst 0, 1) := by decide +kernel
theorem dX5_takes_107 : decode cX5_takes 107 = .ok (.ireturn, 1) := by decide +kernel
theorem dX5_takes_108 : decode cX5_takes 108 = .ok (.aload_n 0, 1) := by decide +kernel
theorem dX5_takes_109 : decode cX5_takes 109 = .ok (.iload_n 1, 1) := by decide +kernel
theorem dX5_takes_110 : decode cX5_takes 110 = .ok (.bipush 48, 2) := by decide +kernel
theorem dX5_takes_112 : decode cX5_takes 112 = .ok (.isub, 1) := by decide +kernel
theorem dX5_takes_113 : decode cX5_takes 113 = .ok (.putfield 29, 3) := by decide +kernel
theorem dX5_takes_116 : decode cX5_takes 116 = .ok (.aload_n 0, 1) := by decide +kernel
theorem dX5_takes_117 : decode cX5_takes 117 = .ok (.bipush 6, 2) := by decide +kernel
theorem dX5_takes_119 : decode cX5_takes 119 = .ok (.putfield 25, 3) := by decide +kernel
theorem dX5_takes_122 : decode cX5_takes 122 = .ok (.aload_n 0, 1) := by decide +kernel
theorem dX5_takes_123 : decode cX5_takes 123 = .ok (.getfield 29, 3) := by decide +kernel
theorem dX5_takes_126 : decode cX5_takes 126 = .ok (.invokestatic 58, 3) := by decide +kernel
theorem dX5_takes_129 : decode cX5_takes 129 = .ok (.ireturn, 1) := by decide +kernel
theorem dX5_takes_130 : decode cX5_takes 130 = .ok (.aload_n 0, 1) := by decide +kernel
theorem dX5_takes_131 : decode cX5_takes 131 = .ok (.iload_n 1, 1) := by decide +kernel
theorem dX5_takes_132 : decode cX5_takes 132 = .ok (.bipush 48, 2) := by decide +kernel
theorem dX5_takes_134 : decode cX5_takes 134 = .ok (.isub, 1) := by decide +kernel
theorem dX5_takes_135 : decode cX5_takes 135 = .ok (.invokevirtual 61, 3) := by decide +kernel
theorem dX5_takes_138 : decode cX5_takes 138 = .ok (.ireturn, 1) := by decide +kernel
theorem dX5_takes_139 : decode cX5_takes 139 = .ok (.aload_n 0, 1) := by decide +kernel
theorem dX5_takes_140 : decode cX5_takes 140 = .ok (.iload_n 1, 1) := by decide +kernel
theorem dX5_takes_141 : decode cX5_takes 141 = .ok (.invokevirtual 55, 3) := by decide +kernel
theorem dX5_takes_144 : decode cX5_takes 144 = .ok (.ireturn, 1) := by decide +kernel
theorem dX5_beginsPart_0 : decode cX5_beginsPart 0 = .ok (.iload_n 1, 1) := by decide +kernel
theorem dX5_beginsPart_1 : decode cX5_beginsPart 1 = .ok (.bipush 71, 2) := by decide +kernel
theorem dX5_beginsPart_3 : decode cX5_beginsPart 3 = .ok (.if_icmp .ne 21, 3) := by decide +kernel
theorem dX5_beginsPart_6 : decode cX5_beginsPart 6 = .ok (.aload_n 0, 1) := by decide +kernel
theorem dX5_beginsPart_7 : decode cX5_beginsPart 7 = .ok (.getfield 12, 3) := by decide +kernel
theorem dX5_beginsPart_10 : decode cX5_beginsPart 10 = .ok (.getfield 64, 3) := by decide +kernel
theorem dX5_beginsPart_13 : decode cX5_beginsPart 13 = .ok (.iconst 4, 1) := by decide +kernel
theorem dX5_beginsPart_14 : decode cX5_beginsPart 14 = .ok (.if_icmp .ge 10, 3) := by decide +kernel
theorem dX5_beginsPart_17 : decode cX5_beginsPart 17 = .ok (.aload_n 0, 1) := by decide +kernel
theorem dX5_beginsPart_18 : decode cX5_beginsPart 18 = .ok (.iconst 2, 1) := by decide +kernel
theorem dX5_beginsPart_19 : decode cX5_beginsPart 19 = .ok (.putfield 25, 3) := by decide +kernel
theorem dX5_beginsPart_22 : decode cX5_beginsPart 22 = .ok (.iconst 1, 1) := by decide +kernel
theorem dX5_beginsPart_23 : decode cX5_beginsPart 23 = .ok (.ireturn, 1) := by decide +kernel
theorem dX5_beginsPart_24 : decode cX5_beginsPart 24 = .ok (.iload_n 1, 1) := by decide +kernel
theorem dX5_beginsPart_25 : decode cX5_beginsPart 25 = .ok (.bipush 73, 2) := by decide +kernel
theorem dX5_beginsPart_27 : decode cX5_beginsPart 27 = .ok (.if_icmp .ne 21, 3) := by decide +kernel
theorem dX5_beginsPart_30 : decode cX5_beginsPart 30 = .ok (.aload_n 0, 1) := by decide +kernel
theorem dX5_beginsPart_31 : decode cX5_beginsPart 31 = .ok (.getfield 21, 3) := by decide +kernel
theorem dX5_beginsPart_34 : decode cX5_beginsPart 34 = .ok (.getfield 67, 3) := by decide +kernel
theorem dX5_beginsPart_37 : decode cX5_beginsPart 37 = .ok (.iconst 4, 1) := by decide +kernel
theorem dX5_beginsPart_38 : decode cX5_beginsPart 38 = .ok (.if_icmp .ge 10, 3) := by decide +kernel
theorem dX5_beginsPart_41 : decode cX5_beginsPart 41 = .ok (.aload_n 0, 1) := by decide +kernel
theorem dX5_beginsPart_42 : decode cX5_beginsPart 42 = .ok (.iconst 5, 1) := by decide +kernel
theorem dX5_beginsPart_43 : decode cX5_beginsPart 43 = .ok (.putfield 25, 3) := by decide +kernel
theorem dX5_beginsPart_46 : decode cX5_beginsPart 46 = .ok (.iconst 1, 1) := by decide +kernel
theorem dX5_beginsPart_47 : decode cX5_beginsPart 47 = .ok (.ireturn, 1) := by decide +kernel
theorem dX5_beginsPart_48 : decode cX5_beginsPart 48 = .ok (.iconst 0, 1) := by decide +kernel
theorem dX5_beginsPart_49 : decode cX5_beginsPart 49 = .ok (.ireturn, 1) := by decide +kernel
theorem dX5_takesKilnPlace_0 : decode cX5_takesKilnPlace 0 = .ok (.iload_n 1, 1) := by decide +kernel
theorem dX5_takesKilnPlace_1 : decode cX5_takesKilnPlace 1 = .ok (.invokestatic 58, 3) := by decide +kernel
theorem dX5_takesKilnPlace_4 : decode cX5_takesKilnPlace 4 = .ok (.ifCond .eq 16, 3) := by decide +kernel
theorem dX5_takesKilnPlace_7 : decode cX5_takesKilnPlace 7 = .ok (.aload_n 0, 1) := by decide +kernel
theorem dX5_takesKilnPlace_8 : decode cX5_takesKilnPlace 8 = .ok (.getfield 12, 3) := by decide +kernel
theorem dX5_takesKilnPlace_11 : decode cX5_takesKilnPlace 11 = .ok (.iload_n 1, 1) := by decide +kernel
theorem dX5_takesKilnPlace_12 : decode cX5_takesKilnPlace 12 = .ok (.invokevirtual 70, 3) := by decide +kernel
theorem dX5_takesKilnPlace_15 : decode cX5_takesKilnPlace 15 = .ok (.bipush (-9), 2) := by decide +kernel
theorem dX5_takesKilnPlace_17 : decode cX5_takesKilnPlace 17 = .ok (.if_icmp .eq 5, 3) := by decide +kernel
theorem dX5_takesKilnPlace_20 : decode cX5_takesKilnPlace 20 = .ok (.iconst 0, 1) := by decide +kernel
theorem dX5_takesKilnPlace_21 : decode cX5_takesKilnPlace 21 = .ok (.ireturn, 1) := by decide +kernel
theorem dX5_takesKilnPlace_22 : decode cX5_takesKilnPlace 22 = .ok (.aload_n 0, 1) := by decide +kernel
theorem dX5_takesKilnPlace_23 : decode cX5_takesKilnPlace 23 = .ok (.getfield 12, 3) := by decide +kernel
theorem dX5_takesKilnPlace_26 : decode cX5_takesKilnPlace 26 = .ok (.iload_n 1, 1) := by decide +kernel
theorem dX5_takesKilnPlace_27 : decode cX5_takesKilnPlace 27 = .ok (.invokevirtual 74, 3) := by decide +kernel
theorem dX5_takesKilnPlace_30 : decode cX5_takesKilnPlace 30 = .ok (.aload_n 0, 1) := by decide +kernel
theorem dX5_takesKilnPlace_31 : decode cX5_takesKilnPlace 31 = .ok (.iconst 3, 1) := by decide +kernel
theorem dX5_takesKilnPlace_32 : decode cX5_takesKilnPlace 32 = .ok (.putfield 25, 3) := by decide +kernel
theorem dX5_takesKilnPlace_35 : decode cX5_takesKilnPlace 35 = .ok (.iconst 1, 1) := by decide +kernel
theorem dX5_takesKilnPlace_36 : decode cX5_takesKilnPlace 36 = .ok (.ireturn, 1) := by decide +kernel
theorem dX5_takesLayer_0 : decode cX5_takesLayer 0 = .ok (.iload_n 1, 1) := by decide +kernel
theorem dX5_takesLayer_1 : decode cX5_takesLayer 1 = .ok (.ifCond .lt 9, 3) := by decide +kernel
theorem dX5_takesLayer_4 : decode cX5_takesLayer 4 = .ok (.iload_n 1, 1) := by decide +kernel
theorem dX5_takesLayer_5 : decode cX5_takesLayer 5 = .ok (.bipush 6, 2) := by decide +kernel
theorem dX5_takesLayer_7 : decode cX5_takesLayer 7 = .ok (.if_icmp .lt 5, 3) := by decide +kernel
theorem dX5_takesLayer_10 : decode cX5_takesLayer 10 = .ok (.iconst 0, 1) := by decide +kernel
theorem dX5_takesLayer_11 : decode cX5_takesLayer 11 = .ok (.ireturn, 1) := by decide +kernel
theorem dX5_takesLayer_12 : decode cX5_takesLayer 12 = .ok (.aload_n 0, 1) := by decide +kernel
theorem dX5_takesLayer_13 : decode cX5_takesLayer 13 = .ok (.iconst 4, 1) := by decide +kernel
theorem dX5_takesLayer_14 : decode cX5_takesLayer 14 = .ok (.putfield 25, 3) := by decide +kernel
theorem dX5_takesLayer_17 : decode cX5_takesLayer 17 = .ok (.aload_n 0, 1) := by decide +kernel
theorem dX5_takesLayer_18 : decode cX5_takesLayer 18 = .ok (.getfield 12, 3) := by decide +kernel
theorem dX5_takesLayer_21 : decode cX5_takesLayer 21 = .ok (.iload_n 1, 1) := by decide +kernel
theorem dX5_takesLayer_22 : decode cX5_takesLayer 22 = .ok (.invokevirtual 78, 3) := by decide +kernel
theorem dX5_takesLayer_25 : decode cX5_takesLayer 25 = .ok (.ireturn, 1) := by decide +kernel
theorem dX5_takesTrampKind_0 : decode cX5_takesTrampKind 0 = .ok (.iload_n 1, 1) := by decide +kernel
theorem dX5_takesTrampKind_1 : decode cX5_takesTrampKind 1 = .ok (.ifCond .lt 8, 3) := by decide +kernel
theorem dX5_takesTrampKind_4 : decode cX5_takesTrampKind 4 = .ok (.iload_n 1, 1) := by decide +kernel
theorem dX5_takesTrampKind_5 : decode cX5_takesTrampKind 5 = .ok (.iconst 4, 1) := by decide +kernel
theorem dX5_takesTrampKind_6 : decode cX5_takesTrampKind 6 = .ok (.if_icmp .lt 5, 3) := by decide +kernel
theorem dX5_takesTrampKind_9 : decode cX5_takesTrampKind 9 = .ok (.iconst 0, 1) := by decide +kernel
theorem dX5_takesTrampKind_10 : decode cX5_takesTrampKind 10 = .ok (.ireturn, 1) := by decide +kernel
theorem dX5_takesTrampKind_11 : decode cX5_takesTrampKind 11 = .ok (.aload_n 0, 1) := by decide +kernel
theorem dX5_takesTrampKind_12 : decode cX5_takesTrampKind 12 = .ok (.getfield 21, 3) := by decide +kernel
theorem dX5_takesTrampKind_15 : decode cX5_takesTrampKind 15 = .ok (.aload_n 0, 1) := by decide +kernel
theorem dX5_takesTrampKind_16 : decode cX5_takesTrampKind 16 = .ok (.getfield 29, 3) := by decide +kernel
theorem dX5_takesTrampKind_19 : decode cX5_takesTrampKind 19 = .ok (.iload_n 1, 1) := by decide +kernel
theorem dX5_takesTrampKind_20 : decode cX5_takesTrampKind 20 = .ok (.invokevirtual 81, 3) := by decide +kernel
theorem dX5_takesTrampKind_23 : decode cX5_takesTrampKind 23 = .ok (.aload_n 0, 1) := by decide +kernel
theorem dX5_takesTrampKind_24 : decode cX5_takesTrampKind 24 = .ok (.iconst 1, 1) := by decide +kernel
theorem dX5_takesTrampKind_25 : decode cX5_takesTrampKind 25 = .ok (.putfield 25, 3) := by decide +kernel
theorem dX5_takesTrampKind_28 : decode cX5_takesTrampKind 28 = .ok (.iconst 1, 1) := by decide +kernel
theorem dX5_takesTrampKind_29 : decode cX5_takesTrampKind 29 = .ok (.ireturn, 1) := by decide +kernel
theorem dX6_init_0 : decode cX6_init 0 = .ok (.aload_n 0, 1) := by decide +kernel
theorem dX6_init_1 : decode cX6_init 1 = .ok (.invokespecial 3, 3) := by decide +kernel
theorem dX6_init_4 : decode cX6_init 4 = .ok (.aload_n 0, 1) := by decide +kernel
theorem dX6_init_5 : decode cX6_init 5 = .ok (.bipush 48, 2) := by decide +kernel
theorem dX6_init_7 : decode cX6_init 7 = .ok (.newarray .int, 2) := by decide +kernel
theorem dX6_init_9 : decode cX6_init 9 = .ok (.putfield 9, 3) := by decide +kernel
theorem dX6_init_12 : decode cX6_init 12 = .ok (.aload_n 0, 1) := by decide +kernel
theorem dX6_init_13 : decode cX6_init 13 = .ok (.iconst 0, 1) := by decide +kernel
theorem dX6_init_14 : decode cX6_init 14 = .ok (.putfield 15, 3) := by decide +kernel
theorem dX6_init_17 : decode cX6_init 17 = .ok (.return_, 1) := by decide +kernel
theorem dX6_add_0 : decode cX6_add 0 = .ok (.aload_n 0, 1) := by decide +kernel
theorem dX6_add_1 : decode cX6_add 1 = .ok (.getfield 15, 3) := by decide +kernel
theorem dX6_add_4 : decode cX6_add 4 = .ok (.bipush 48, 2) := by decide +kernel
theorem dX6_add_6 : decode cX6_add 6 = .ok (.if_icmp .ge 23, 3) := by decide +kernel
theorem dX6_add_9 : decode cX6_add 9 = .ok (.aload_n 0, 1) := by decide +kernel
theorem dX6_add_10 : decode cX6_add 10 = .ok (.getfield 9, 3) := by decide +kernel
theorem dX6_add_13 : decode cX6_add 13 = .ok (.aload_n 0, 1) := by decide +kernel
theorem dX6_add_14 : decode cX6_add 14 = .ok (.getfield 15, 3) := by decide +kernel
theorem dX6_add_17 : decode cX6_add 17 = .ok (.iload_n 1, 1) := by decide +kernel
theorem dX6_add_18 : decode cX6_add 18 = .ok (.iastore, 1) := by decide +kernel
theorem dX6_add_19 : decode cX6_add 19 = .ok (.aload_n 0, 1) := by decide +kernel
theorem dX6_add_20 : decode cX6_add 20 = .ok (.dup, 1) := by decide +kernel
theorem dX6_add_21 : decode cX6_add 21 = .ok (.getfield 15, 3) := by decide +kernel
theorem dX6_add_24 : decode cX6_add 24 = .ok (.iconst 1, 1) := by decide +kernel
theorem dX6_add_25 : decode cX6_add 25 = .ok (.iadd, 1) := by decide +kernel
theorem dX6_add_26 : decode cX6_add 26 = .ok (.putfield 15, 3) := by decide +kernel
theorem dX6_add_29 : decode cX6_add 29 = .ok (.return_, 1) := by decide +kernel
theorem dX7_init_0 : decode cX7_init 0 = .ok (.aload_n 0, 1) := by decide +kernel
theorem dX7_init_1 : decode cX7_init 1 = .ok (.invokespecial 3, 3) := by decide +kernel
theorem dX7_init_4 : decode cX7_init 4 = .ok (.aload_n 0, 1) := by decide +kernel
theorem dX7_init_5 : decode cX7_init 5 = .ok (.sipush 343, 3) := by decide +kernel
theorem dX7_init_8 : decode cX7_init 8 = .ok (.newarray .long, 2) := by decide +kernel
theorem dX7_init_10 : decode cX7_init 10 = .ok (.putfield 11, 3) := by decide +kernel
theorem dX7_init_13 : decode cX7_init 13 = .ok (.aload_n 0, 1) := by decide +kernel
theorem dX7_init_14 : decode cX7_init 14 = .ok (.sipush 343, 3) := by decide +kernel
theorem dX7_init_17 : decode cX7_init 17 = .ok (.newarray .int, 2) := by decide +kernel
theorem dX7_init_19 : decode cX7_init 19 = .ok (.putfield 15, 3) := by decide +kernel
theorem dX7_init_22 : decode cX7_init 22 = .ok (.aload_n 0, 1) := by decide +kernel
theorem dX7_init_23 : decode cX7_init 23 = .ok (.sipush 343, 3) := by decide +kernel
theorem dX7_init_26 : decode cX7_init 26 = .ok (.newarray .long, 2) := by decide +kernel
theorem dX7_init_28 : decode cX7_init 28 = .ok (.putfield 19, 3) := by decide +kernel
theorem dX7_init_31 : decode cX7_init 31 = .ok (.aload_n 0, 1) := by decide +kernel
theorem dX7_init_32 : decode cX7_init 32 = .ok (.sipush 343, 3) := by decide +kernel
theorem dX7_init_35 : decode cX7_init 35 = .ok (.newarray .int, 2) := by decide +kernel
theorem dX7_init_37 : decode cX7_init 37 = .ok (.putfield 22, 3) := by decide +kernel
theorem dX7_init_40 : decode cX7_init 40 = .ok (.aload_n 0, 1) := by decide +kernel
theorem dX7_init_41 : decode cX7_init 41 = .ok (.iconst 0, 1) := by decide +kernel
theorem dX7_init_42 : decode cX7_init 42 = .ok (.putfield 25, 3) := by decide +kernel
theorem dX7_init_45 : decode cX7_init 45 = .ok (.aload_n 0, 1) := by decide +kernel
theorem dX7_init_46 : decode cX7_init 46 = .ok (.iconst 0, 1) := by decide +kernel
theorem dX7_init_47 : decode cX7_init 47 = .ok (.putfield 29, 3) := by decide +kernel
theorem dX7_init_50 : decode cX7_init 50 = .ok (.aload_n 0, 1) := by decide +kernel
theorem dX7_init_51 : decode cX7_init 51 = .ok (.iconst 0, 1) := by decide +kernel
theorem dX7_init_52 : decode cX7_init 52 = .ok (.putfield 32, 3) := by decide +kernel
theorem dX7_init_55 : decode cX7_init 55 = .ok (.aload_n 0, 1) := by decide +kernel
theorem dX7_init_56 : decode cX7_init 56 = .ok (.iconst 0, 1) := by decide +kernel
theorem dX7_init_57 : decode cX7_init 57 = .ok (.putfield 35, 3) := by decide +kernel
theorem dX7_init_60 : decode cX7_init 60 = .ok (.return_, 1) := by decide +kernel
theorem dX7_finds_0 : decode cX7_finds 0 = .ok (.aload_n 0, 1) := by decide +kernel
theorem dX7_finds_1 : decode cX7_finds 1 = .ok (.iconst 0, 1) := by decide +kernel
theorem dX7_finds_2 : decode cX7_finds 2 = .ok (.putfield 32, 3) := by decide +kernel
theorem dX7_finds_5 : decode cX7_finds 5 = .ok (.aload_n 0, 1) := by decide +kernel
theorem dX7_finds_6 : decode cX7_finds 6 = .ok (.iconst 0, 1) := by decide +kernel
theorem dX7_finds_7 : decode cX7_finds 7 = .ok (.putfield 35, 3) := by decide +kernel
theorem dX7_finds_10 : decode cX7_finds 10 = .ok (.aload_n 1, 1) := by decide +kernel
theorem dX7_finds_11 : decode cX7_finds 11 = .ok (.getfield 38, 3) := by decide +kernel
theorem dX7_finds_14 : decode cX7_finds 14 = .ok (.iload_n 3, 1) := by decide +kernel
theorem dX7_finds_15 : decode cX7_finds 15 = .ok (.iaload, 1) := by decide +kernel
theorem dX7_finds_16 : decode cX7_finds 16 = .ok (.iload 4, 2) := by decide +kernel
theorem dX7_finds_18 : decode cX7_finds 18 = .ok (.iand, 1) := by decide +kernel
theorem dX7_finds_19 : decode cX7_finds 19 = .ok (.iload 4, 2) := by decide +kernel
theorem dX7_finds_21 : decode cX7_finds 21 = .ok (.if_icmp .ne 5, 3) := by decide +kernel
theorem dX7_finds_24 : decode cX7_finds 24 = .ok (.iconst 1, 1) := by decide +kernel
theorem dX7_finds_25 : decode cX7_finds 25 = .ok (.ireturn, 1) := by decide +kernel
theorem dX7_finds_26 : decode cX7_finds 26 = .ok (.aload_n 0, 1) := by decide +kernel
theorem dX7_finds_27 : decode cX7_finds 27 = .ok (.getfield 11, 3) := by decide +kernel
theorem dX7_finds_30 : decode cX7_finds 30 = .ok (.iconst 0, 1) := by decide +kernel
theorem dX7_finds_31 : decode cX7_finds 31 = .ok (.aload_n 1, 1) := by decide +kernel
theorem dX7_finds_32 : decode cX7_finds 32 = .ok (.invokevirtual 43, 3) := by decide +kernel
theorem dX7_finds_35 : decode cX7_finds 35 = .ok (.lastore, 1) := by decide +kernel
theorem dX7_finds_36 : decode cX7_finds 36 = .ok (.aload_n 0, 1) := by decide +kernel
theorem dX7_finds_37 : decode cX7_finds 37 = .ok (.getfield 15, 3) := by decide +kernel
theorem dX7_finds_40 : decode cX7_finds 40 = .ok (.iconst 0, 1) := by decide +kernel
theorem dX7_finds_41 : decode cX7_finds 41 = .ok (.iconst 0, 1) := by decide +kernel
theorem dX7_finds_42 : decode cX7_finds 42 = .ok (.iastore, 1) := by decide +kernel
theorem dX7_finds_43 : decode cX7_finds 43 = .ok (.aload_n 0, 1) := by decide +kernel
theorem dX7_finds_44 : decode cX7_finds 44 = .ok (.iconst 1, 1) := by decide +kernel
theorem dX7_finds_45 : decode cX7_finds 45 = .ok (.putfield 25, 3) := by decide +kernel
theorem dX7_finds_48 : decode cX7_finds 48 = .ok (.aload_n 0, 1) := by decide +kernel
theorem dX7_finds_49 : decode cX7_finds 49 = .ok (.iconst 1, 1) := by decide +kernel
theorem dX7_finds_50 : decode cX7_finds 50 = .ok (.putfield 32, 3) := by decide +kernel
theorem dX7_finds_53 : decode cX7_finds 53 = .ok (.aload_n 0, 1) := by decide +kernel
theorem dX7_finds_54 : decode cX7_finds 54 = .ok (.getfield 32, 3) := by decide +kernel
theorem dX7_finds_57 : decode cX7_finds 57 = .ok (.iconst 4, 1) := by decide +kernel
theorem dX7_finds_58 : decode cX7_finds 58 = .ok (.if_icmp .gt 59, 3) := by decide +kernel
theorem dX7_finds_61 : decode cX7_finds 61 = .ok (.aload_n 0, 1) := by decide +kernel
theorem dX7_finds_62 : decode cX7_finds 62 = .ok (.iconst 0, 1) := by decide +kernel
theorem dX7_finds_63 : decode cX7_finds 63 = .ok (.putfield 29, 3) := by decide +kernel
theorem dX7_finds_66 : decode cX7_finds 66 = .ok (.iconst 0, 1) := by decide +kernel
theorem dX7_finds_67 : decode cX7_finds 67 = .ok (.istore 5, 2) := by decide +kernel
theorem dX7_finds_69 : decode cX7_finds 69 = .ok (.iload 5, 2) := by decide +kernel
theorem dX7_finds_71 : decode cX7_finds 71 = .ok (.aload_n 0, 1) := by decide +kernel
theorem dX7_finds_72 : decode cX7_finds 72 = .ok (.getfield 25, 3) := by decide +kernel
theorem dX7_finds_75 : decode cX7_finds 75 = .ok (.if_icmp .ge 25, 3) := by decide +kernel
theorem dX7_finds_78 : decode cX7_finds 78 = .ok (.aload_n 0, 1) := by decide +kernel
theorem dX7_finds_79 : decode cX7_finds 79 = .ok (.iload 5, 2) := by decide +kernel
theorem dX7_finds_81 : decode cX7_finds 81 = .ok (.aload_n 1, 1) := by decide +kernel
theorem dX7_finds_82 : decode cX7_finds 82 = .ok (.aload_n 2, 1) := by decide +kernel
theorem dX7_finds_83 : decode cX7_finds 83 = .ok (.iload_n 3, 1) := by decide +kernel
theorem dX7_finds_84 : decode cX7_finds 84 = .ok (.iload 4, 2) := by decide +kernel
theorem dX7_finds_86 : decode cX7_finds 86 = .ok (.invokevirtual 47, 3) := by decide +kernel
theorem dX7_finds_89 : decode cX7_finds 89 = .ok (.ifCond .eq 5, 3) := by decide +kernel
theorem dX7_finds_92 : decode cX7_finds 92 = .ok (.iconst 1, 1) := by decide +kernel
theorem dX7_finds_93 : decode cX7_finds 93 = .ok (.ireturn, 1) := by decide +kernel
theorem dX7_finds_94 : decode cX7_finds 94 = .ok (.iinc 5 1, 3) := by decide +kernel
theorem dX7_finds_97 : decode cX7_finds 97 = .ok (.goto (-28), 3) := by decide +kernel
theorem dX7_finds_100 : decode cX7_finds 100 = .ok (.aload_n 0, 1) := by decide +kernel
theorem dX7_finds_101 : decode cX7_finds 101 = .ok (.invokevirtual 51, 3) := by decide +kernel
theorem dX7_finds_104 : decode cX7_finds 104 = .ok (.aload_n 0, 1) := by decide +kernel
theorem dX7_finds_105 : decode cX7_finds 105 = .ok (.dup, 1) := by decide +kernel
theorem dX7_finds_106 : decode cX7_finds 106 = .ok (.getfield 32, 3) := by decide +kernel
theorem dX7_finds_109 : decode cX7_finds 109 = .ok (.iconst 1, 1) := by decide +kernel
theorem dX7_finds_110 : decode cX7_finds 110 = .ok (.iadd, 1) := by decide +kernel
theorem dX7_finds_111 : decode cX7_finds 111 = .ok (.putfield 32, 3) := by decide +kernel
theorem dX7_finds_114 : decode cX7_finds 114 = .ok (.goto (-61), 3) := by decide +kernel
theorem dX7_finds_117 : decode cX7_finds 117 = .ok (.iconst 0, 1) := by decide +kernel
theorem dX7_finds_118 : decode cX7_finds 118 = .ok (.ireturn, 1) := by decide +kernel
theorem dX7_findsFrom_0 : decode cX7_findsFrom 0 = .ok (.iconst 0, 1) := by decide +kernel
theorem dX7_findsFrom_1 : decode cX7_findsFrom 1 = .ok (.istore 6, 2) := by decide +kernel
theorem dX7_findsFrom_3 : decode cX7_findsFrom 3 = .ok (.iload 6, 2) := by decide +kernel
theorem dX7_findsFrom_5 : decode cX7_findsFrom 5 = .ok (.bipush 10, 2) := by decide +kernel
theorem dX7_findsFrom_7 : decode cX7_findsFrom 7 = .ok (.if_icmp .ge 101, 3) := by decide +kernel
theorem dX7_findsFrom_10 : decode cX7_findsFrom 10 = .ok (.aload_n 2, 1) := by decide +kernel
theorem dX7_findsFrom_11 : decode cX7_findsFrom 11 = .ok (.aload_n 0, 1) := by decide +kernel
theorem dX7_findsFrom_12 : decode cX7_findsFrom 12 = .ok (.getfield 11, 3) := by decide +kernel
theorem dX7_findsFrom_15 : decode cX7_findsFrom 15 = .ok (.iload_n 1, 1) := by decide +kernel
theorem dX7_findsFrom_16 : decode cX7_findsFrom 16 = .ok (.laload, 1) := by decide +kernel
theorem dX7_findsFrom_17 : decode cX7_findsFrom 17 = .ok (.invokevirtual 54, 3) := by decide +kernel
theorem dX7_findsFrom_20 : decode cX7_findsFrom 20 = .ok (.aload_n 2, 1) := by decide +kernel
theorem dX7_findsFrom_21 : decode cX7_findsFrom 21 = .ok (.getfield 58, 3) := by decide +kernel
theorem dX7_findsFrom_24 : decode cX7_findsFrom 24 = .ok (.iload 4, 2) := by decide +kernel
theorem dX7_findsFrom_26 : decode cX7_findsFrom 26 = .ok (.iaload, 1) := by decide +kernel
theorem dX7_findsFrom_27 : decode cX7_findsFrom 27 = .ok (.iload 6, 2) := by decide +kernel
theorem dX7_findsFrom_29 : decode cX7_findsFrom 29 = .ok (.if_icmp .eq 14, 3) := by decide +kernel
theorem dX7_findsFrom_32 : decode cX7_findsFrom 32 = .ok (.aload_n 2, 1) := by decide +kernel
theorem dX7_findsFrom_33 : decode cX7_findsFrom 33 = .ok (.iload 4, 2) := by decide +kernel
theorem dX7_findsFrom_35 : decode cX7_findsFrom 35 = .ok (.iload 6, 2) := by decide +kernel
theorem dX7_findsFrom_37 : decode cX7_findsFrom 37 = .ok (.invokevirtual 61, 3) := by decide +kernel
theorem dX7_findsFrom_40 : decode cX7_findsFrom 40 = .ok (.ifCond .eq 62, 3) := by decide +kernel
theorem dX7_findsFrom_43 : decode cX7_findsFrom 43 = .ok (.aload_n 2, 1) := by decide +kernel
theorem dX7_findsFrom_44 : decode cX7_findsFrom 44 = .ok (.aload_n 3, 1) := by decide +kernel
theorem dX7_findsFrom_45 : decode cX7_findsFrom 45 = .ok (.iconst 0, 1) := by decide +kernel
theorem dX7_findsFrom_46 : decode cX7_findsFrom 46 = .ok (.invokevirtual 65, 3) := by decide +kernel
theorem dX7_findsFrom_49 : decode cX7_findsFrom 49 = .ok (.aload_n 0, 1) := by decide +kernel
theorem dX7_findsFrom_50 : decode cX7_findsFrom 50 = .ok (.bipush 10, 2) := by decide +kernel
theorem dX7_findsFrom_52 : decode cX7_findsFrom 52 = .ok (.aload_n 0, 1) := by decide +kernel
theorem dX7_findsFrom_53 : decode cX7_findsFrom 53 = .ok (.getfield 15, 3) := by decide +kernel
theorem dX7_findsFrom_56 : decode cX7_findsFrom 56 = .ok (.iload_n 1, 1) := by decide +kernel
theorem dX7_findsFrom_57 : decode cX7_findsFrom 57 = .ok (.iaload, 1) := by decide +kernel
theorem dX7_findsFrom_58 : decode cX7_findsFrom 58 = .ok (.imul, 1) := by decide +kernel
theorem dX7_findsFrom_59 : decode cX7_findsFrom 59 = .ok (.iload 6, 2) := by decide +kernel
theorem dX7_findsFrom_61 : decode cX7_findsFrom 61 = .ok (.iadd, 1) := by decide +kernel
theorem dX7_findsFrom_62 : decode cX7_findsFrom 62 = .ok (.putfield 35, 3) := by decide +kernel
theorem dX7_findsFrom_65 : decode cX7_findsFrom 65 = .ok (.aload_n 2, 1) := by decide +kernel
theorem dX7_findsFrom_66 : decode cX7_findsFrom 66 = .ok (.getfield 38, 3) := by decide +kernel
theorem dX7_findsFrom_69 : decode cX7_findsFrom 69 = .ok (.iload 4, 2) := by decide +kernel
theorem dX7_findsFrom_71 : decode cX7_findsFrom 71 = .ok (.iaload, 1) := by decide +kernel
theorem dX7_findsFrom_72 : decode cX7_findsFrom 72 = .ok (.iload 5, 2) := by decide +kernel
theorem dX7_findsFrom_74 : decode cX7_findsFrom 74 = .ok (.iand, 1) := by decide +kernel
theorem dX7_findsFrom_75 : decode cX7_findsFrom 75 = .ok (.iload 5, 2) := by decide +kernel
theorem dX7_findsFrom_77 : decode cX7_findsFrom 77 = .ok (.if_icmp .ne 5, 3) := by decide +kernel
theorem dX7_findsFrom_80 : decode cX7_findsFrom 80 = .ok (.iconst 1, 1) := by decide +kernel
theorem dX7_findsFrom_81 : decode cX7_findsFrom 81 = .ok (.ireturn, 1) := by decide +kernel
theorem dX7_findsFrom_82 : decode cX7_findsFrom 82 = .ok (.aload_n 0, 1) := by decide +kernel
theorem dX7_findsFrom_83 : decode cX7_findsFrom 83 = .ok (.getfield 32, 3) := by decide +kernel
theorem dX7_findsFrom_86 : decode cX7_findsFrom 86 = .ok (.iconst 4, 1) := by decide +kernel
theorem dX7_findsFrom_87 : decode cX7_findsFrom 87 = .ok (.if_icmp .ge 15, 3) := by decide +kernel
theorem dX7_findsFrom_90 : decode cX7_findsFrom 90 = .ok (.aload_n 0, 1) := by decide +kernel
theorem dX7_findsFrom_91 : decode cX7_findsFrom 91 = .ok (.aload_n 2, 1) := by decide +kernel
theorem dX7_findsFrom_92 : decode cX7_findsFrom 92 = .ok (.invokevirtual 43, 3) := by decide +kernel
theorem dX7_findsFrom_95 : decode cX7_findsFrom 95 = .ok (.aload_n 0, 1) := by decide +kernel
theorem dX7_findsFrom_96 : decode cX7_findsFrom 96 = .ok (.getfield 35, 3) := by decide +kernel
theorem dX7_findsFrom_99 : decode cX7_findsFrom 99 = .ok (.invokevirtual 69, 3) := by decide +kernel
theorem dX7_findsFrom_102 : decode cX7_findsFrom 102 = .ok (.iinc 6 1, 3) := by decide +kernel
theorem dX7_findsFrom_105 : decode cX7_findsFrom 105 = .ok (.goto (-102), 3) := by decide +kernel
theorem dX7_findsFrom_108 : decode cX7_findsFrom 108 = .ok (.iconst 0, 1) := by decide +kernel
theorem dX7_findsFrom_109 : decode cX7_findsFrom 109 = .ok (.ireturn, 1) := by decide +kernel
theorem dX7_addNext_0 : decode cX7_addNext 0 = .ok (.iconst 0, 1) := by decide +kernel
theorem dX7_addNext_1 : decode cX7_addNext 1 = .ok (.istore 4, 2) := by decide +kernel
theorem dX7_addNext_3 : decode cX7_addNext 3 = .ok (.iload 4, 2) := by decide +kernel
theorem dX7_addNext_5 : decode cX7_addNext 5 = .ok (.aload_n 0, 1) := by decide +kernel
theorem dX7_addNext_6 : decode cX7_addNext 6 = .ok (.getfield 29, 3) := by decide +kernel
theorem dX7_addNext_9 : decode cX7_addNext 9 = .ok (.if_icmp .ge 22, 3) := by decide +kernel
theorem dX7_addNext_12 : decode cX7_addNext 12 = .ok (.aload_n 0, 1) := by decide +kernel
theorem dX7_addNext_13 : decode cX7_addNext 13 = .ok (.getfield 19, 3) := by decide +kernel
theorem dX7_addNext_16 : decode cX7_addNext 16 = .ok (.iload 4, 2) := by decide +kernel
theorem dX7_addNext_18 : decode cX7_addNext 18 = .ok (.laload, 1) := by decide +kernel
theorem dX7_addNext_19 : decode cX7_addNext 19 = .ok (.lload_n 1, 1) := by decide +kernel
theorem dX7_addNext_20 : decode cX7_addNext 20 = .ok (.lcmp, 1) := by decide +kernel
theorem dX7_addNext_21 : decode cX7_addNext 21 = .ok (.ifCond .ne 4, 3) := by decide +kernel
theorem dX7_addNext_24 : decode cX7_addNext 24 = .ok (.return_, 1) := by decide +kernel
theorem dX7_addNext_25 : decode cX7_addNext 25 = .ok (.iinc 4 1, 3) := by decide +kernel
theorem dX7_addNext_28 : decode cX7_addNext 28 = .ok (.goto (-25), 3) := by decide +kernel
theorem dX7_addNext_31 : decode cX7_addNext 31 = .ok (.aload_n 0, 1) := by decide +kernel
theorem dX7_addNext_32 : decode cX7_addNext 32 = .ok (.getfield 29, 3) := by decide +kernel
theorem dX7_addNext_35 : decode cX7_addNext 35 = .ok (.sipush 343, 3) := by decide +kernel
theorem dX7_addNext_38 : decode cX7_addNext 38 = .ok (.if_icmp .ge 33, 3) := by decide +kernel
theorem dX7_addNext_41 : decode cX7_addNext 41 = .ok (.aload_n 0, 1) := by decide +kernel
theorem dX7_addNext_42 : decode cX7_addNext 42 = .ok (.getfield 19, 3) := by decide +kernel
theorem dX7_addNext_45 : decode cX7_addNext 45 = .ok (.aload_n 0, 1) := by decide +kernel
theorem dX7_addNext_46 : decode cX7_addNext 46 = .ok (.getfield 29, 3) := by decide +kernel
theorem dX7_addNext_49 : decode cX7_addNext 49 = .ok (.lload_n 1, 1) := by decide +kernel
theorem dX7_addNext_50 : decode cX7_addNext 50 = .ok (.lastore, 1) := by decide +kernel
theorem dX7_addNext_51 : decode cX7_addNext 51 = .ok (.aload_n 0, 1) := by decide +kernel
theorem dX7_addNext_52 : decode cX7_addNext 52 = .ok (.getfield 22, 3) := by decide +kernel
theorem dX7_addNext_55 : decode cX7_addNext 55 = .ok (.aload_n 0, 1) := by decide +kernel
theorem dX7_addNext_56 : decode cX7_addNext 56 = .ok (.getfield 29, 3) := by decide +kernel
theorem dX7_addNext_59 : decode cX7_addNext 59 = .ok (.iload_n 3, 1) := by decide +kernel
theorem dX7_addNext_60 : decode cX7_addNext 60 = .ok (.iastore, 1) := by decide +kernel
theorem dX7_addNext_61 : decode cX7_addNext 61 = .ok (.aload_n 0, 1) := by decide +kernel
theorem dX7_addNext_62 : decode cX7_addNext 62 = .ok (.dup, 1) := by decide +kernel
theorem dX7_addNext_63 : decode cX7_addNext 63 = .ok (.getfield 29, 3) := by decide +kernel
theorem dX7_addNext_66 : decode cX7_addNext 66 = .ok (.iconst 1, 1) := by decide +kernel
theorem dX7_addNext_67 : decode cX7_addNext 67 = .ok (.iadd, 1) := by decide +kernel
theorem dX7_addNext_68 : decode cX7_addNext 68 = .ok (.putfield 29, 3) := by decide +kernel
theorem dX7_addNext_71 : decode cX7_addNext 71 = .ok (.return_, 1) := by decide +kernel
theorem dX7_turnToNext_0 : decode cX7_turnToNext 0 = .ok (.aload_n 0, 1) := by decide +kernel
theorem dX7_turnToNext_1 : decode cX7_turnToNext 1 = .ok (.getfield 19, 3) := by decide +kernel
theorem dX7_turnToNext_4 : decode cX7_turnToNext 4 = .ok (.iconst 0, 1) := by decide +kernel
theorem dX7_turnToNext_5 : decode cX7_turnToNext 5 = .ok (.aload_n 0, 1) := by decide +kernel
theorem dX7_turnToNext_6 : decode cX7_turnToNext 6 = .ok (.getfield 11, 3) := by decide +kernel
theorem dX7_turnToNext_9 : decode cX7_turnToNext 9 = .ok (.iconst 0, 1) := by decide +kernel
theorem dX7_turnToNext_10 : decode cX7_turnToNext 10 = .ok (.aload_n 0, 1) := by decide +kernel
theorem dX7_turnToNext_11 : decode cX7_turnToNext 11 = .ok (.getfield 29, 3) := by decide +kernel
theorem dX7_turnToNext_14 : decode cX7_turnToNext 14 = .ok (.invokestatic 73, 3) := by decide +kernel
theorem dX7_turnToNext_17 : decode cX7_turnToNext 17 = .ok (.aload_n 0, 1) := by decide +kernel
theorem dX7_turnToNext_18 : decode cX7_turnToNext 18 = .ok (.getfield 22, 3) := by decide +kernel
theorem dX7_turnToNext_21 : decode cX7_turnToNext 21 = .ok (.iconst 0, 1) := by decide +kernel
theorem dX7_turnToNext_22 : decode cX7_turnToNext 22 = .ok (.aload_n 0, 1) := by decide +kernel
theorem dX7_turnToNext_23 : decode cX7_turnToNext 23 = .ok (.getfield 15, 3) := by decide +kernel
theorem dX7_turnToNext_26 : decode cX7_turnToNext 26 = .ok (.iconst 0, 1) := by decide +kernel
theorem dX7_turnToNext_27 : decode cX7_turnToNext 27 = .ok (.aload_n 0, 1) := by decide +kernel
theorem dX7_turnToNext_28 : decode cX7_turnToNext 28 = .ok (.getfield 29, 3) := by decide +kernel
theorem dX7_turnToNext_31 : decode cX7_turnToNext 31 = .ok (.invokestatic 73, 3) := by decide +kernel
theorem dX7_turnToNext_34 : decode cX7_turnToNext 34 = .ok (.aload_n 0, 1) := by decide +kernel
theorem dX7_turnToNext_35 : decode cX7_turnToNext 35 = .ok (.aload_n 0, 1) := by decide +kernel
theorem dX7_turnToNext_36 : decode cX7_turnToNext 36 = .ok (.getfield 29, 3) := by decide +kernel
theorem dX7_turnToNext_39 : decode cX7_turnToNext 39 = .ok (.putfield 25, 3) := by decide +kernel
theorem dX7_turnToNext_42 : decode cX7_turnToNext 42 = .ok (.return_, 1) := by decide +kernel
theorem dX8_init_0 : decode cX8_init 0 = .ok (.aload_n 0, 1) := by decide +kernel
theorem dX8_init_1 : decode cX8_init 1 = .ok (.invokespecial 3, 3) := by decide +kernel
theorem dX8_init_4 : decode cX8_init 4 = .ok (.aload_n 0, 1) := by decide +kernel
theorem dX8_init_5 : decode cX8_init 5 = .ok (.iconst 2, 1) := by decide +kernel
theorem dX8_init_6 : decode cX8_init 6 = .ok (.newarray .long, 2) := by decide +kernel
theorem dX8_init_8 : decode cX8_init 8 = .ok (.putfield 9, 3) := by decide +kernel
theorem dX8_init_11 : decode cX8_init 11 = .ok (.aload_n 0, 1) := by decide +kernel
theorem dX8_init_12 : decode cX8_init 12 = .ok (.iconst 2, 1) := by decide +kernel
theorem dX8_init_13 : decode cX8_init 13 = .ok (.newarray .int, 2) := by decide +kernel
theorem dX8_init_15 : decode cX8_init 15 = .ok (.putfield 15, 3) := by decide +kernel
theorem dX8_init_18 : decode cX8_init 18 = .ok (.aload_n 0, 1) := by decide +kernel
theorem dX8_init_19 : decode cX8_init 19 = .ok (.iconst 2, 1) := by decide +kernel
theorem dX8_init_20 : decode cX8_init 20 = .ok (.newarray .boolean, 2) := by decide +kernel
theorem dX8_init_22 : decode cX8_init 22 = .ok (.putfield 19, 3) := by decide +kernel
theorem dX8_init_25 : decode cX8_init 25 = .ok (.return_, 1) := by decide +kernel
theorem dX8_clear_0 : decode cX8_clear 0 = .ok (.iconst 0, 1) := by decide +kernel
theorem dX8_clear_1 : decode cX8_clear 1 = .ok (.istore_n 1, 1) := by decide +kernel
theorem dX8_clear_2 : decode cX8_clear 2 = .ok (.iload_n 1, 1) := by decide +kernel
theorem dX8_clear_3 : decode cX8_clear 3 = .ok (.iconst 2, 1) := by decide +kernel
theorem dX8_clear_4 : decode cX8_clear 4 = .ok (.if_icmp .ge 16, 3) := by decide +kernel
theorem dX8_clear_7 : decode cX8_clear 7 = .ok (.aload_n 0, 1) := by decide +kernel
theorem dX8_clear_8 : decode cX8_clear 8 = .ok (.getfield 19, 3) := by decide +kernel
theorem dX8_clear_11 : decode cX8_clear 11 = .ok (.iload_n 1, 1) := by decide +kernel
theorem dX8_clear_12 : decode cX8_clear 12 = .ok (.iconst 0, 1) := by decide +kernel
theorem dX8_clear_13 : decode cX8_clear 13 = .ok (.bastore, 1) := by decide +kernel
theorem dX8_clear_14 : decode cX8_clear 14 = .ok (.iinc 1 1, 3) := by decide +kernel
theorem dX8_clear_17 : decode cX8_clear 17 = .ok (.goto (-15), 3) := by decide +kernel
theorem dX8_clear_20 : decode cX8_clear 20 = .ok (.return_, 1) := by decide +kernel
theorem dX8_holds_0 : decode cX8_holds 0 = .ok (.iload_n 1, 1) := by decide +kernel
theorem dX8_holds_1 : decode cX8_holds 1 = .ok (.invokestatic 23, 3) := by decide +kernel
theorem dX8_holds_4 : decode cX8_holds 4 = .ok (.ifCond .eq 16, 3) := by decide +kernel
theorem dX8_holds_7 : decode cX8_holds 7 = .ok (.aload_n 0, 1) := by decide +kernel
theorem dX8_holds_8 : decode cX8_holds 8 = .ok (.getfield 19, 3) := by decide +kernel
theorem dX8_holds_11 : decode cX8_holds 11 = .ok (.iload_n 1, 1) := by decide +kernel
theorem dX8_holds_12 : decode cX8_holds 12 = .ok (.baload, 1) := by decide +kernel
theorem dX8_holds_13 : decode cX8_holds 13 = .ok (.ifCond .eq 7, 3) := by decide +kernel
theorem dX8_holds_16 : decode cX8_holds 16 = .ok (.iconst 1, 1) := by decide +kernel
theorem dX8_holds_17 : decode cX8_holds 17 = .ok (.goto 4, 3) := by decide +kernel
theorem dX8_holds_20 : decode cX8_holds 20 = .ok (.iconst 0, 1) := by decide +kernel
theorem dX8_holds_21 : decode cX8_holds 21 = .ok (.ireturn, 1) := by decide +kernel
theorem dX8_put_0 : decode cX8_put 0 = .ok (.iload_n 1, 1) := by decide +kernel
theorem dX8_put_1 : decode cX8_put 1 = .ok (.invokestatic 23, 3) := by decide +kernel
theorem dX8_put_4 : decode cX8_put 4 = .ok (.ifCond .eq 30, 3) := by decide +kernel
theorem dX8_put_7 : decode cX8_put 7 = .ok (.aload_n 0, 1) := by decide +kernel
theorem dX8_put_8 : decode cX8_put 8 = .ok (.getfield 9, 3) := by decide +kernel
theorem dX8_put_11 : decode cX8_put 11 = .ok (.iload_n 1, 1) := by decide +kernel
theorem dX8_put_12 : decode cX8_put 12 = .ok (.aload_n 2, 1) := by decide +kernel
theorem dX8_put_13 : decode cX8_put 13 = .ok (.invokevirtual 27, 3) := by decide +kernel
theorem dX8_put_16 : decode cX8_put 16 = .ok (.lastore, 1) := by decide +kernel
theorem dX8_put_17 : decode cX8_put 17 = .ok (.aload_n 0, 1) := by decide +kernel
theorem dX8_put_18 : decode cX8_put 18 = .ok (.getfield 15, 3) := by decide +kernel
theorem dX8_put_21 : decode cX8_put 21 = .ok (.iload_n 1, 1) := by decide +kernel
theorem dX8_put_22 : decode cX8_put 22 = .ok (.aload_n 2, 1) := by decide +kernel
theorem dX8_put_23 : decode cX8_put 23 = .ok (.getfield 33, 3) := by decide +kernel
theorem dX8_put_26 : decode cX8_put 26 = .ok (.iastore, 1) := by decide +kernel
theorem dX8_put_27 : decode cX8_put 27 = .ok (.aload_n 0, 1) := by decide +kernel
theorem dX8_put_28 : decode cX8_put 28 = .ok (.getfield 19, 3) := by decide +kernel
theorem dX8_put_31 : decode cX8_put 31 = .ok (.iload_n 1, 1) := by decide +kernel
theorem dX8_put_32 : decode cX8_put 32 = .ok (.iconst 1, 1) := by decide +kernel
theorem dX8_put_33 : decode cX8_put 33 = .ok (.bastore, 1) := by decide +kernel
theorem dX8_put_34 : decode cX8_put 34 = .ok (.return_, 1) := by decide +kernel
theorem dX8_bringBack_0 : decode cX8_bringBack 0 = .ok (.aload_n 0, 1) := by decide +kernel
theorem dX8_bringBack_1 : decode cX8_bringBack 1 = .ok (.iload_n 1, 1) := by decide +kernel
theorem dX8_bringBack_2 : decode cX8_bringBack 2 = .ok (.invokevirtual 36, 3) := by decide +kernel
theorem dX8_bringBack_5 : decode cX8_bringBack 5 = .ok (.ifCond .eq 23, 3) := by decide +kernel
theorem dX8_bringBack_8 : decode cX8_bringBack 8 = .ok (.aload_n 2, 1) := by decide +kernel
theorem dX8_bringBack_9 : decode cX8_bringBack 9 = .ok (.aload_n 0, 1) := by decide +kernel
theorem dX8_bringBack_10 : decode cX8_bringBack 10 = .ok (.getfield 9, 3) := by decide +kernel
theorem dX8_bringBack_13 : decode cX8_bringBack 13 = .ok (.iload_n 1, 1) := by decide +kernel
theorem dX8_bringBack_14 : decode cX8_bringBack 14 = .ok (.laload, 1) := by decide +kernel
theorem dX8_bringBack_15 : decode cX8_bringBack 15 = .ok (.invokevirtual 39, 3) := by decide +kernel
theorem dX8_bringBack_18 : decode cX8_bringBack 18 = .ok (.aload_n 2, 1) := by decide +kernel
theorem dX8_bringBack_19 : decode cX8_bringBack 19 = .ok (.aload_n 0, 1) := by decide +kernel
theorem dX8_bringBack_20 : decode cX8_bringBack 20 = .ok (.getfield 15, 3) := by decide +kernel
theorem dX8_bringBack_23 : decode cX8_bringBack 23 = .ok (.iload_n 1, 1) := by decide +kernel
theorem dX8_bringBack_24 : decode cX8_bringBack 24 = .ok (.iaload, 1) := by decide +kernel
theorem dX8_bringBack_25 : decode cX8_bringBack 25 = .ok (.putfield 33, 3) := by decide +kernel
theorem dX8_bringBack_28 : decode cX8_bringBack 28 = .ok (.return_, 1) := by decide +kernel
theorem dX9_init_0 : decode cX9_init 0 = .ok (.aload_n 0, 1) := by decide +kernel
theorem dX9_init_1 : decode cX9_init 1 = .ok (.invokespecial 3, 3) := by decide +kernel
theorem dX9_init_4 : decode cX9_init 4 = .ok (.aload_n 0, 1) := by decide +kernel
theorem dX9_init_5 : decode cX9_init 5 = .ok (.iconst 0, 1) := by decide +kernel
theorem dX9_init_6 : decode cX9_init 6 = .ok (.putfield 9, 3) := by decide +kernel
theorem dX9_init_9 : decode cX9_init 9 = .ok (.aload_n 0, 1) := by decide +kernel
theorem dX9_init_10 : decode cX9_init 10 = .ok (.iconst 0, 1) := by decide +kernel
theorem dX9_init_11 : decode cX9_init 11 = .ok (.putfield 15, 3) := by decide +kernel
theorem dX9_init_14 : decode cX9_init 14 = .ok (.aload_n 0, 1) := by decide +kernel
theorem dX9_init_15 : decode cX9_init 15 = .ok (.iconst 0, 1) := by decide +kernel
theorem dX9_init_16 : decode cX9_init 16 = .ok (.putfield 18, 3) := by decide +kernel
theorem dX9_init_19 : decode cX9_init 19 = .ok (.aload_n 0, 1) := by decide +kernel
theorem dX9_init_20 : decode cX9_init 20 = .ok (.iconst 0, 1) := by decide +kernel
theorem dX9_init_21 : decode cX9_init 21 = .ok (.putfield 21, 3) := by decide +kernel
theorem dX9_init_24 : decode cX9_init 24 = .ok (.aload_n 0, 1) := by decide +kernel
theorem dX9_init_25 : decode cX9_init 25 = .ok (.bipush (-9), 2) := by decide +kernel
theorem dX9_init_27 : decode cX9_init 27 = .ok (.putfield 24, 3) := by decide +kernel
theorem dX9_init_30 : decode cX9_init 30 = .ok (.return_, 1) := by decide +kernel
theorem dX9_clear_0 : decode cX9_clear 0 = .ok (.aload_n 0, 1) := by decide +kernel
theorem dX9_clear_1 : decode cX9_clear 1 = .ok (.iconst 0, 1) := by decide +kernel
theorem dX9_clear_2 : decode cX9_clear 2 = .ok (.putfield 9, 3) := by decide +kernel
theorem dX9_clear_5 : decode cX9_clear 5 = .ok (.aload_n 0, 1) := by decide +kernel
theorem dX9_clear_6 : decode cX9_clear 6 = .ok (.iconst 0, 1) := by decide +kernel
theorem dX9_clear_7 : decode cX9_clear 7 = .ok (.putfield 15, 3) := by decide +kernel
theorem dX9_clear_10 : decode cX9_clear 10 = .ok (.aload_n 0, 1) := by decide +kernel
theorem dX9_clear_11 : decode cX9_clear 11 = .ok (.iconst 0, 1) := by decide +kernel
theorem dX9_clear_12 : decode cX9_clear 12 = .ok (.putfield 18, 3) := by decide +kernel
theorem dX9_clear_15 : decode cX9_clear 15 = .ok (.return_, 1) := by decide +kernel
theorem dX9_add_0 : decode cX9_add 0 = .ok (.iload_n 2, 1) := by decide +kernel
theorem dX9_add_1 : decode cX9_add 1 = .ok (.ifCond .eq 16, 3) := by decide +kernel
theorem dX9_add_4 : decode cX9_add 4 = .ok (.aload_n 0, 1) := by decide +kernel
theorem dX9_add_5 : decode cX9_add 5 = .ok (.dup, 1) := by decide +kernel
theorem dX9_add_6 : decode cX9_add 6 = .ok (.getfield 9, 3) := by decide +kernel
theorem dX9_add_9 : decode cX9_add 9 = .ok (.iload_n 1, 1) := by decide +kernel
theorem dX9_add_10 : decode cX9_add 10 = .ok (.ior, 1) := by decide +kernel
theorem dX9_add_11 : decode cX9_add 11 = .ok (.putfield 9, 3) := by decide +kernel
theorem dX9_add_14 : decode cX9_add 14 = .ok (.goto 13, 3) := by decide +kernel
theorem dX9_add_17 : decode cX9_add 17 = .ok (.aload_n 0, 1) := by decide +kernel
theorem dX9_add_18 : decode cX9_add 18 = .ok (.dup, 1) := by decide +kernel
theorem dX9_add_19 : decode cX9_add 19 = .ok (.getfield 15, 3) := by decide +kernel
theorem dX9_add_22 : decode cX9_add 22 = .ok (.iload_n 1, 1) := by decide +kernel
theorem dX9_add_23 : decode cX9_add 23 = .ok (.ior, 1) := by decide +kernel
theorem dX9_add_24 : decode cX9_add 24 = .ok (.putfield 15, 3) := by decide +kernel
theorem dX9_add_27 : decode cX9_add 27 = .ok (.aload_n 0, 1) := by decide +kernel
theorem dX9_add_28 : decode cX9_add 28 = .ok (.dup, 1) := by decide +kernel
theorem dX9_add_29 : decode cX9_add 29 = .ok (.getfield 18, 3) := by decide +kernel
theorem dX9_add_32 : decode cX9_add 32 = .ok (.iconst 1, 1) := by decide +kernel
theorem dX9_add_33 : decode cX9_add 33 = .ok (.iadd, 1) := by decide +kernel
theorem dX9_add_34 : decode cX9_add 34 = .ok (.putfield 18, 3) := by decide +kernel
theorem dX9_add_37 : decode cX9_add 37 = .ok (.return_, 1) := by decide +kernel
theorem dX9_look_0 : decode cX9_look 0 = .ok (.aload_n 0, 1) := by decide +kernel
theorem dX9_look_1 : decode cX9_look 1 = .ok (.iconst 0, 1) := by decide +kernel
theorem dX9_look_2 : decode cX9_look 2 = .ok (.putfield 21, 3) := by decide +kernel
theorem dX9_look_5 : decode cX9_look 5 = .ok (.aload_n 0, 1) := by decide +kernel
theorem dX9_look_6 : decode cX9_look 6 = .ok (.bipush (-9), 2) := by decide +kernel
theorem dX9_look_8 : decode cX9_look 8 = .ok (.putfield 24, 3) := by decide +kernel
theorem dX9_look_11 : decode cX9_look 11 = .ok (.iconst 0, 1) := by decide +kernel
theorem dX9_look_12 : decode cX9_look 12 = .ok (.istore_n 2, 1) := by decide +kernel
theorem dX9_look_13 : decode cX9_look 13 = .ok (.iload_n 2, 1) := by decide +kernel
theorem dX9_look_14 : decode cX9_look 14 = .ok (.iconst 1, 1) := by decide +kernel
theorem dX9_look_15 : decode cX9_look 15 = .ok (.if_icmp .gt 75, 3) := by decide +kernel
theorem dX9_look_18 : decode cX9_look 18 = .ok (.iconst 0, 1) := by decide +kernel
theorem dX9_look_19 : decode cX9_look 19 = .ok (.istore_n 3, 1) := by decide +kernel
theorem dX9_look_20 : decode cX9_look 20 = .ok (.iload_n 3, 1) := by decide +kernel
theorem dX9_look_21 : decode cX9_look 21 = .ok (.aload_n 1, 1) := by decide +kernel
theorem dX9_look_22 : decode cX9_look 22 = .ok (.getfield 27, 3) := by decide +kernel
theorem dX9_look_25 : decode cX9_look 25 = .ok (.if_icmp .ge 59, 3) := by decide +kernel
theorem dX9_look_28 : decode cX9_look 28 = .ok (.iconst 0, 1) := by decide +kernel
theorem dX9_look_29 : decode cX9_look 29 = .ok (.istore 4, 2) := by decide +kernel
theorem dX9_look_31 : decode cX9_look 31 = .ok (.iload 4, 2) := by decide +kernel
theorem dX9_look_33 : decode cX9_look 33 = .ok (.iconst 3, 1) := by decide +kernel
theorem dX9_look_34 : decode cX9_look 34 = .ok (.if_icmp .gt 44, 3) := by decide +kernel
theorem dX9_look_37 : decode cX9_look 37 = .ok (.aload_n 0, 1) := by decide +kernel
theorem dX9_look_38 : decode cX9_look 38 = .ok (.aload_n 1, 1) := by decide +kernel
theorem dX9_look_39 : decode cX9_look 39 = .ok (.iload_n 3, 1) := by decide +kernel
theorem dX9_look_40 : decode cX9_look 40 = .ok (.iload 4, 2) := by decide +kernel
theorem dX9_look_42 : decode cX9_look 42 = .ok (.iload_n 2, 1) := by decide +kernel
theorem dX9_look_43 : decode cX9_look 43 = .ok (.invokestatic 32, 3) := by decide +kernel
theorem dX9_look_46 : decode cX9_look 46 = .ok (.imul, 1) := by decide +kernel
theorem dX9_look_47 : decode cX9_look 47 = .ok (.invokestatic 36, 3) := by decide +kernel
theorem dX9_look_50 : decode cX9_look 50 = .ok (.invokevirtual 40, 3) := by decide +kernel
theorem dX9_look_53 : decode cX9_look 53 = .ok (.ifCond .eq 19, 3) := by decide +kernel
theorem dX9_look_56 : decode cX9_look 56 = .ok (.aload_n 0, 1) := by decide +kernel
theorem dX9_look_57 : decode cX9_look 57 = .ok (.bipush 100, 2) := by decide +kernel
theorem dX9_look_59 : decode cX9_look 59 = .ok (.iload_n 2, 1) := by decide +kernel
theorem dX9_look_60 : decode cX9_look 60 = .ok (.imul, 1) := by decide +kernel
theorem dX9_look_61 : decode cX9_look 61 = .ok (.bipush 10, 2) := by decide +kernel
theorem dX9_look_63 : decode cX9_look 63 = .ok (.iload_n 3, 1) := by decide +kernel
theorem dX9_look_64 : decode cX9_look 64 = .ok (.imul, 1) := by decide +kernel
theorem dX9_look_65 : decode cX9_look 65 = .ok (.iadd, 1) := by decide +kernel
theorem dX9_look_66 : decode cX9_look 66 = .ok (.iload 4, 2) := by decide +kernel
theorem dX9_look_68 : decode cX9_look 68 = .ok (.iadd, 1) := by decide +kernel
theorem dX9_look_69 : decode cX9_look 69 = .ok (.invokevirtual 44, 3) := by decide +kernel
theorem dX9_look_72 : decode cX9_look 72 = .ok (.iinc 4 1, 3) := by decide +kernel
theorem dX9_look_75 : decode cX9_look 75 = .ok (.goto (-44), 3) := by decide +kernel
theorem dX9_look_78 : decode cX9_look 78 = .ok (.iinc 3 1, 3) := by decide +kernel
theorem dX9_look_81 : decode cX9_look 81 = .ok (.goto (-61), 3) := by decide +kernel
theorem dX9_look_84 : decode cX9_look 84 = .ok (.iinc 2 1, 3) := by decide +kernel
theorem dX9_look_87 : decode cX9_look 87 = .ok (.goto (-74), 3) := by decide +kernel
theorem dX9_look_90 : decode cX9_look 90 = .ok (.return_, 1) := by decide +kernel
theorem dX9_fits_0 : decode cX9_fits 0 = .ok (.iload_n 1, 1) := by decide +kernel
theorem dX9_fits_1 : decode cX9_fits 1 = .ok (.aload_n 0, 1) := by decide +kernel
theorem dX9_fits_2 : decode cX9_fits 2 = .ok (.getfield 9, 3) := by decide +kernel
theorem dX9_fits_5 : decode cX9_fits 5 = .ok (.iand, 1) := by decide +kernel
theorem dX9_fits_6 : decode cX9_fits 6 = .ok (.aload_n 0, 1) := by decide +kernel
theorem dX9_fits_7 : decode cX9_fits 7 = .ok (.getfield 9, 3) := by decide +kernel
theorem dX9_fits_10 : decode cX9_fits 10 = .ok (.if_icmp .ne 16, 3) := by decide +kernel
theorem dX9_fits_13 : decode cX9_fits 13 = .ok (.iload_n 1, 1) := by decide +kernel
theorem dX9_fits_14 : decode cX9_fits 14 = .ok (.aload_n 0, 1) := by decide +kernel
theorem dX9_fits_15 : decode cX9_fits 15 = .ok (.getfield 15, 3) := by decide +kernel
theorem dX9_fits_18 : decode cX9_fits 18 = .ok (.iand, 1) := by decide +kernel
theorem dX9_fits_19 : decode cX9_fits 19 = .ok (.ifCond .ne 7, 3) := by decide +kernel
theorem dX9_fits_22 : decode cX9_fits 22 = .ok (.iconst 1, 1) := by decide +kernel
theorem dX9_fits_23 : decode cX9_fits 23 = .ok (.goto 4, 3) := by decide +kernel
theorem dX9_fits_26 : decode cX9_fits 26 = .ok (.iconst 0, 1) := by decide +kernel
theorem dX9_fits_27 : decode cX9_fits 27 = .ok (.ireturn, 1) := by decide +kernel
theorem dX9_takenIn_0 : decode cX9_takenIn 0 = .ok (.iconst 0, 1) := by decide +kernel
theorem dX9_takenIn_1 : decode cX9_takenIn 1 = .ok (.istore_n 3, 1) := by decide +kernel
theorem dX9_takenIn_2 : decode cX9_takenIn 2 = .ok (.iconst 0, 1) := by decide +kernel
theorem dX9_takenIn_3 : decode cX9_takenIn 3 = .ok (.istore 4, 2) := by decide +kernel
theorem dX9_takenIn_5 : decode cX9_takenIn 5 = .ok (.iload 4, 2) := by decide +kernel
theorem dX9_takenIn_7 : decode cX9_takenIn 7 = .ok (.aload_n 0, 1) := by decide +kernel
theorem dX9_takenIn_8 : decode cX9_takenIn 8 = .ok (.getfield 48, 3) := by decide +kernel
theorem dX9_takenIn_11 : decode cX9_takenIn 11 = .ok (.iload_n 1, 1) := by decide +kernel
theorem dX9_takenIn_12 : decode cX9_takenIn 12 = .ok (.iaload, 1) := by decide +kernel
theorem dX9_takenIn_13 : decode cX9_takenIn 13 = .ok (.if_icmp .ge 27, 3) := by decide +kernel
theorem dX9_takenIn_16 : decode cX9_takenIn 16 = .ok (.iload 4, 2) := by decide +kernel
theorem dX9_takenIn_18 : decode cX9_takenIn 18 = .ok (.iload_n 2, 1) := by decide +kernel
theorem dX9_takenIn_19 : decode cX9_takenIn 19 = .ok (.if_icmp .ge 21, 3) := by decide +kernel
theorem dX9_takenIn_22 : decode cX9_takenIn 22 = .ok (.iload_n 3, 1) := by decide +kernel
theorem dX9_takenIn_23 : decode cX9_takenIn 23 = .ok (.iconst 1, 1) := by decide +kernel
theorem dX9_takenIn_24 : decode cX9_takenIn 24 = .ok (.aload_n 0, 1) := by decide +kernel
theorem dX9_takenIn_25 : decode cX9_takenIn 25 = .ok (.iload_n 1, 1) := by decide +kernel
theorem dX9_takenIn_26 : decode cX9_takenIn 26 = .ok (.iload 4, 2) := by decide +kernel
theorem dX9_takenIn_28 : decode cX9_takenIn 28 = .ok (.invokevirtual 52, 3) := by decide +kernel
theorem dX9_takenIn_31 : decode cX9_takenIn 31 = .ok (.ishl, 1) := by decide +kernel
theorem dX9_takenIn_32 : decode cX9_takenIn 32 = .ok (.ior, 1) := by decide +kernel
theorem dX9_takenIn_33 : decode cX9_takenIn 33 = .ok (.istore_n 3, 1) := by decide +kernel
theorem dX9_takenIn_34 : decode cX9_takenIn 34 = .ok (.iinc 4 1, 3) := by decide +kernel
theorem dX9_takenIn_37 : decode cX9_takenIn 37 = .ok (.goto (-32), 3) := by decide +kernel
theorem dX9_takenIn_40 : decode cX9_takenIn 40 = .ok (.iload_n 3, 1) := by decide +kernel
theorem dX9_takenIn_41 : decode cX9_takenIn 41 = .ok (.ireturn, 1) := by decide +kernel
theorem dX9_noteFound_0 : decode cX9_noteFound 0 = .ok (.aload_n 0, 1) := by decide +kernel
theorem dX9_noteFound_1 : decode cX9_noteFound 1 = .ok (.getfield 21, 3) := by decide +kernel
theorem dX9_noteFound_4 : decode cX9_noteFound 4 = .ok (.ifCond .ne 8, 3) := by decide +kernel
theorem dX9_noteFound_7 : decode cX9_noteFound 7 = .ok (.aload_n 0, 1) := by decide +kernel
theorem dX9_noteFound_8 : decode cX9_noteFound 8 = .ok (.iload_n 1, 1) := by decide +kernel
theorem dX9_noteFound_9 : decode cX9_noteFound 9 = .ok (.putfield 24, 3) := by decide +kernel
theorem dX9_noteFound_12 : decode cX9_noteFound 12 = .ok (.aload_n 0, 1) := by decide +kernel
theorem dX9_noteFound_13 : decode cX9_noteFound 13 = .ok (.dup, 1) := by decide +kernel
theorem dX9_noteFound_14 : decode cX9_noteFound 14 = .ok (.getfield 21, 3) := by decide +kernel
theorem dX9_noteFound_17 : decode cX9_noteFound 17 = .ok (.iconst 1, 1) := by decide +kernel
theorem dX9_noteFound_18 : decode cX9_noteFound 18 = .ok (.iadd, 1) := by decide +kernel
theorem dX9_noteFound_19 : decode cX9_noteFound 19 = .ok (.putfield 21, 3) := by decide +kernel
theorem dX9_noteFound_22 : decode cX9_noteFound 22 = .ok (.return_, 1) := by decide +kernel
theorem dJ6_bitCount_0f7a4_0 : decode cJ6_bitCount_0f7a4 0 = .ok (.iload_n 0, 1) := by decide +kernel
theorem dJ6_bitCount_0f7a4_1 : decode cJ6_bitCount_0f7a4 1 = .ok (.iload_n 0, 1) := by decide +kernel
theorem dJ6_bitCount_0f7a4_2 : decode cJ6_bitCount_0f7a4 2 = .ok (.iconst 1, 1) := by decide +kernel
theorem dJ6_bitCount_0f7a4_3 : decode cJ6_bitCount_0f7a4 3 = .ok (.iushr, 1) := by decide +kernel
theorem dJ6_bitCount_0f7a4_4 : decode cJ6_bitCount_0f7a4 4 = .ok (.ldc_w 265, 3) := by decide +kernel
theorem dJ6_bitCount_0f7a4_7 : decode cJ6_bitCount_0f7a4 7 = .ok (.iand, 1) := by decide +kernel
theorem dJ6_bitCount_0f7a4_8 : decode cJ6_bitCount_0f7a4 8 = .ok (.isub, 1) := by decide +kernel
theorem dJ6_bitCount_0f7a4_9 : decode cJ6_bitCount_0f7a4 9 = .ok (.istore_n 0, 1) := by decide +kernel
theorem dJ6_bitCount_0f7a4_10 : decode cJ6_bitCount_0f7a4 10 = .ok (.iload_n 0, 1) := by decide +kernel
theorem dJ6_bitCount_0f7a4_11 : decode cJ6_bitCount_0f7a4 11 = .ok (.ldc_w 266, 3) := by decide +kernel
theorem dJ6_bitCount_0f7a4_14 : decode cJ6_bitCount_0f7a4 14 = .ok (.iand, 1) := by decide +kernel
theorem dJ6_bitCount_0f7a4_15 : decode cJ6_bitCount_0f7a4 15 = .ok (.iload_n 0, 1) := by decide +kernel
theorem dJ6_bitCount_0f7a4_16 : decode cJ6_bitCount_0f7a4 16 = .ok (.iconst 2, 1) := by decide +kernel
theorem dJ6_bitCount_0f7a4_17 : decode cJ6_bitCount_0f7a4 17 = .ok (.iushr, 1) := by decide +kernel
theorem dJ6_bitCount_0f7a4_18 : decode cJ6_bitCount_0f7a4 18 = .ok (.ldc_w 266, 3) := by decide +kernel
theorem dJ6_bitCount_0f7a4_21 : decode cJ6_bitCount_0f7a4 21 = .ok (.iand, 1) := by decide +kernel
theorem dJ6_bitCount_0f7a4_22 : decode cJ6_bitCount_0f7a4 22 = .ok (.iadd, 1) := by decide +kernel
theorem dJ6_bitCount_0f7a4_23 : decode cJ6_bitCount_0f7a4 23 = .ok (.istore_n 0, 1) := by decide +kernel
theorem dJ6_bitCount_0f7a4_24 : decode cJ6_bitCount_0f7a4 24 = .ok (.iload_n 0, 1) := by decide +kernel
theorem dJ6_bitCount_0f7a4_25 : decode cJ6_bitCount_0f7a4 25 = .ok (.iload_n 0, 1) := by decide +kernel
theorem dJ6_bitCount_0f7a4_26 : decode cJ6_bitCount_0f7a4 26 = .ok (.iconst 4, 1) := by decide +kernel
theorem dJ6_bitCount_0f7a4_27 : decode cJ6_bitCount_0f7a4 27 = .ok (.iushr, 1) := by decide +kernel
theorem dJ6_bitCount_0f7a4_28 : decode cJ6_bitCount_0f7a4 28 = .ok (.iadd, 1) := by decide +kernel
theorem dJ6_bitCount_0f7a4_29 : decode cJ6_bitCount_0f7a4 29 = .ok (.ldc_w 267, 3) := by decide +kernel
theorem dJ6_bitCount_0f7a4_32 : decode cJ6_bitCount_0f7a4 32 = .ok (.iand, 1) := by decide +kernel
theorem dJ6_bitCount_0f7a4_33 : decode cJ6_bitCount_0f7a4 33 = .ok (.istore_n 0, 1) := by decide +kernel
theorem dJ6_bitCount_0f7a4_34 : decode cJ6_bitCount_0f7a4 34 = .ok (.iload_n 0, 1) := by decide +kernel
theorem dJ6_bitCount_0f7a4_35 : decode cJ6_bitCount_0f7a4 35 = .ok (.iload_n 0, 1) := by decide +kernel
theorem dJ6_bitCount_0f7a4_36 : decode cJ6_bitCount_0f7a4 36 = .ok (.bipush 8, 2) := by decide +kernel
theorem dJ6_bitCount_0f7a4_38 : decode cJ6_bitCount_0f7a4 38 = .ok (.iushr, 1) := by decide +kernel
theorem dJ6_bitCount_0f7a4_39 : decode cJ6_bitCount_0f7a4 39 = .ok (.iadd, 1) := by decide +kernel
theorem dJ6_bitCount_0f7a4_40 : decode cJ6_bitCount_0f7a4 40 = .ok (.istore_n 0, 1) := by decide +kernel
theorem dJ6_bitCount_0f7a4_41 : decode cJ6_bitCount_0f7a4 41 = .ok (.iload_n 0, 1) := by decide +kernel
theorem dJ6_bitCount_0f7a4_42 : decode cJ6_bitCount_0f7a4 42 = .ok (.iload_n 0, 1) := by decide +kernel
theorem dJ6_bitCount_0f7a4_43 : decode cJ6_bitCount_0f7a4 43 = .ok (.bipush 16, 2) := by decide +kernel
theorem dJ6_bitCount_0f7a4_45 : decode cJ6_bitCount_0f7a4 45 = .ok (.iushr, 1) := by decide +kernel
theorem dJ6_bitCount_0f7a4_46 : decode cJ6_bitCount_0f7a4 46 = .ok (.iadd, 1) := by decide +kernel
theorem dJ6_bitCount_0f7a4_47 : decode cJ6_bitCount_0f7a4 47 = .ok (.istore_n 0, 1) := by decide +kernel
theorem dJ6_bitCount_0f7a4_48 : decode cJ6_bitCount_0f7a4 48 = .ok (.iload_n 0, 1) := by decide +kernel
theorem dJ6_bitCount_0f7a4_49 : decode cJ6_bitCount_0f7a4 49 = .ok (.bipush 63, 2) := by decide +kernel
theorem dJ6_bitCount_0f7a4_51 : decode cJ6_bitCount_0f7a4 51 = .ok (.iand, 1) := by decide +kernel
theorem dJ6_bitCount_0f7a4_52 : decode cJ6_bitCount_0f7a4 52 = .ok (.ireturn, 1) := by decide +kernel
end
section
theorem dX10_init_0 : decode cX10_init 0 = .ok (.aload_n 0, 1) := by decide +kernel
theorem dX10_init_1 : decode cX10_init 1 = .ok (.invokespecial 1, 3) := by decide +kernel
theorem dX10_init_4 : decode cX10_init 4 = .ok (.aload_n 0, 1) := by decide +kernel
theorem dX10_init_5 : decode cX10_init 5 = .ok (.new 7, 3) := by decide +kernel
theorem dX10_init_8 : decode cX10_init 8 = .ok (.dup, 1) := by decide +kernel
theorem dX10_init_9 : decode cX10_init 9 = .ok (.invokespecial 9, 3) := by decide +kernel
theorem dX10_init_12 : decode cX10_init 12 = .ok (.putfield 10, 3) := by decide +kernel
theorem dX10_init_15 : decode cX10_init 15 = .ok (.aload_n 0, 1) := by decide +kernel
theorem dX10_init_16 : decode cX10_init 16 = .ok (.new 16, 3) := by decide +kernel
theorem dX10_init_19 : decode cX10_init 19 = .ok (.dup, 1) := by decide +kernel
theorem dX10_init_20 : decode cX10_init 20 = .ok (.invokespecial 18, 3) := by decide +kernel
theorem dX10_init_23 : decode cX10_init 23 = .ok (.putfield 19, 3) := by decide +kernel
theorem dX10_init_26 : decode cX10_init 26 = .ok (.aload_n 0, 1) := by decide +kernel
theorem dX10_init_27 : decode cX10_init 27 = .ok (.new 23, 3) := by decide +kernel
theorem dX10_init_30 : decode cX10_init 30 = .ok (.dup, 1) := by decide +kernel
theorem dX10_init_31 : decode cX10_init 31 = .ok (.invokespecial 25, 3) := by decide +kernel
theorem dX10_init_34 : decode cX10_init 34 = .ok (.putfield 26, 3) := by decide +kernel
theorem dX10_init_37 : decode cX10_init 37 = .ok (.aload_n 0, 1) := by decide +kernel
theorem dX10_init_38 : decode cX10_init 38 = .ok (.new 30, 3) := by decide +kernel
theorem dX10_init_41 : decode cX10_init 41 = .ok (.dup, 1) := by decide +kernel
theorem dX10_init_42 : decode cX10_init 42 = .ok (.invokespecial 32, 3) := by decide +kernel
theorem dX10_init_45 : decode cX10_init 45 = .ok (.putfield 33, 3) := by decide +kernel
theorem dX10_init_48 : decode cX10_init 48 = .ok (.aload_n 0, 1) := by decide +kernel
theorem dX10_init_49 : decode cX10_init 49 = .ok (.new 30, 3) := by decide +kernel
theorem dX10_init_52 : decode cX10_init 52 = .ok (.dup, 1) := by decide +kernel
theorem dX10_init_53 : decode cX10_init 53 = .ok (.invokespecial 32, 3) := by decide +kernel
theorem dX10_init_56 : decode cX10_init 56 = .ok (.putfield 37, 3) := by decide +kernel
theorem dX10_init_59 : decode cX10_init 59 = .ok (.aload_n 0, 1) := by decide +kernel
theorem dX10_init_60 : decode cX10_init 60 = .ok (.new 40, 3) := by decide +kernel
theorem dX10_init_63 : decode cX10_init 63 = .ok (.dup, 1) := by decide +kernel
theorem dX10_init_64 : decode cX10_init 64 = .ok (.invokespecial 42, 3) := by decide +kernel
theorem dX10_init_67 : decode cX10_init 67 = .ok (.putfield 43, 3) := by decide +kernel
theorem dX10_init_70 : decode cX10_init 70 = .ok (.aload_n 0, 1) := by decide +kernel
theorem dX10_init_71 : decode cX10_init 71 = .ok (.new 47, 3) := by decide +kernel
theorem dX10_init_74 : decode cX10_init 74 = .ok (.dup, 1) := by decide +kernel
theorem dX10_init_75 : decode cX10_init 75 = .ok (.invokespecial 49, 3) := by decide +kernel
theorem dX10_init_78 : decode cX10_init 78 = .ok (.putfield 50, 3) := by decide +kernel
theorem dX10_init_81 : decode cX10_init 81 = .ok (.aload_n 0, 1) := by decide +kernel
theorem dX10_init_82 : decode cX10_init 82 = .ok (.new 54, 3) := by decide +kernel
theorem dX10_init_85 : decode cX10_init 85 = .ok (.dup, 1) := by decide +kernel
theorem dX10_init_86 : decode cX10_init 86 = .ok (.invokespecial 56, 3) := by decide +kernel
theorem dX10_init_89 : decode cX10_init 89 = .ok (.putfield 57, 3) := by decide +kernel
theorem dX10_init_92 : decode cX10_init 92 = .ok (.aload_n 0, 1) := by decide +kernel
theorem dX10_init_93 : decode cX10_init 93 = .ok (.new 61, 3) := by decide +kernel
theorem dX10_init_96 : decode cX10_init 96 = .ok (.dup, 1) := by decide +kernel
theorem dX10_init_97 : decode cX10_init 97 = .ok (.invokespecial 63, 3) := by decide +kernel
theorem dX10_init_100 : decode cX10_init 100 = .ok (.putfield 64, 3) := by decide +kernel
theorem dX10_init_103 : decode cX10_init 103 = .ok (.aload_n 0, 1) := by decide +kernel
theorem dX10_init_104 : decode cX10_init 104 = .ok (.new 68, 3) := by decide +kernel
theorem dX10_init_107 : decode cX10_init 107 = .ok (.dup, 1) := by decide +kernel
theorem dX10_init_108 : decode cX10_init 108 = .ok (.invokespecial 70, 3) := by decide +kernel
theorem dX10_init_111 : decode cX10_init 111 = .ok (.putfield 71, 3) := by decide +kernel
theorem dX10_init_114 : decode cX10_init 114 = .ok (.aload_n 0, 1) := by decide +kernel
theorem dX10_init_115 : decode cX10_init 115 = .ok (.new 75, 3) := by decide +kernel
theorem dX10_init_118 : decode cX10_init 118 = .ok (.dup, 1) := by decide +kernel
theorem dX10_init_119 : decode cX10_init 119 = .ok (.invokespecial 77, 3) := by decide +kernel
theorem dX10_init_122 : decode cX10_init 122 = .ok (.putfield 78, 3) := by decide +kernel
theorem dX10_init_125 : decode cX10_init 125 = .ok (.aload_n 0, 1) := by decide +kernel
theorem dX10_init_126 : decode cX10_init 126 = .ok (.lconst 0, 1) := by decide +kernel
theorem dX10_init_127 : decode cX10_init 127 = .ok (.putfield 82, 3) := by decide +kernel
theorem dX10_init_130 : decode cX10_init 130 = .ok (.return_, 1) := by decide +kernel
theorem dX10_write_0 : decode cX10_write 0 = .ok (.iload_n 1, 1) := by decide +kernel
theorem dX10_write_1 : decode cX10_write 1 = .ok (.ifCond .lt 10, 3) := by decide +kernel
theorem dX10_write_4 : decode cX10_write 4 = .ok (.iload_n 1, 1) := by decide +kernel
theorem dX10_write_5 : decode cX10_write 5 = .ok (.sipush 255, 3) := by decide +kernel
theorem dX10_write_8 : decode cX10_write 8 = .ok (.if_icmp .le 6, 3) := by decide +kernel
theorem dX10_write_11 : decode cX10_write 11 = .ok (.bipush (-2), 2) := by decide +kernel
theorem dX10_write_13 : decode cX10_write 13 = .ok (.ireturn, 1) := by decide +kernel
theorem dX10_write_14 : decode cX10_write 14 = .ok (.aload_n 0, 1) := by decide +kernel
theorem dX10_write_15 : decode cX10_write 15 = .ok (.getfield 10, 3) := by decide +kernel
theorem dX10_write_18 : decode cX10_write 18 = .ok (.getfield 86, 3) := by decide +kernel
theorem dX10_write_21 : decode cX10_write 21 = .ok (.bipush 48, 2) := by decide +kernel
theorem dX10_write_23 : decode cX10_write 23 = .ok (.if_icmp .lt 6, 3) := by decide +kernel
theorem dX10_write_26 : decode cX10_write 26 = .ok (.bipush (-4), 2) := by decide +kernel
theorem dX10_write_28 : decode cX10_write 28 = .ok (.ireturn, 1) := by decide +kernel
theorem dX10_write_29 : decode cX10_write 29 = .ok (.aload_n 0, 1) := by decide +kernel
theorem dX10_write_30 : decode cX10_write 30 = .ok (.getfield 10, 3) := by decide +kernel
theorem dX10_write_33 : decode cX10_write 33 = .ok (.iload_n 1, 1) := by decide +kernel
theorem dX10_write_34 : decode cX10_write 34 = .ok (.invokevirtual 90, 3) := by decide +kernel
theorem dX10_write_37 : decode cX10_write 37 = .ok (.aload_n 0, 1) := by decide +kernel
theorem dX10_write_38 : decode cX10_write 38 = .ok (.getfield 10, 3) := by decide +kernel
theorem dX10_write_41 : decode cX10_write 41 = .ok (.getfield 86, 3) := by decide +kernel
theorem dX10_write_44 : decode cX10_write 44 = .ok (.ireturn, 1) := by decide +kernel
theorem dX10_wipe_0 : decode cX10_wipe 0 = .ok (.aload_n 0, 1) := by decide +kernel
theorem dX10_wipe_1 : decode cX10_wipe 1 = .ok (.getfield 10, 3) := by decide +kernel
theorem dX10_wipe_4 : decode cX10_wipe 4 = .ok (.getfield 86, 3) := by decide +kernel
theorem dX10_wipe_7 : decode cX10_wipe 7 = .ok (.istore_n 1, 1) := by decide +kernel
theorem dX10_wipe_8 : decode cX10_wipe 8 = .ok (.aload_n 0, 1) := by decide +kernel
theorem dX10_wipe_9 : decode cX10_wipe 9 = .ok (.getfield 10, 3) := by decide +kernel
theorem dX10_wipe_12 : decode cX10_wipe 12 = .ok (.iconst 0, 1) := by decide +kernel
theorem dX10_wipe_13 : decode cX10_wipe 13 = .ok (.putfield 86, 3) := by decide +kernel
theorem dX10_wipe_16 : decode cX10_wipe 16 = .ok (.iload_n 1, 1) := by decide +kernel
theorem dX10_wipe_17 : decode cX10_wipe 17 = .ok (.ireturn, 1) := by decide +kernel
theorem dX10_fault_0 : decode cX10_fault 0 = .ok (.aload_n 0, 1) := by decide +kernel
theorem dX10_fault_1 : decode cX10_fault 1 = .ok (.getfield 19, 3) := by decide +kernel
theorem dX10_fault_4 : decode cX10_fault 4 = .ok (.aload_n 0, 1) := by decide +kernel
theorem dX10_fault_5 : decode cX10_fault 5 = .ok (.getfield 10, 3) := by decide +kernel
theorem dX10_fault_8 : decode cX10_fault 8 = .ok (.invokevirtual 94, 3) := by decide +kernel
theorem dX10_fault_11 : decode cX10_fault 11 = .ok (.ireturn, 1) := by decide +kernel
theorem dX10_hill_0 : decode cX10_hill 0 = .ok (.aload_n 0, 1) := by decide +kernel
theorem dX10_hill_1 : decode cX10_hill 1 = .ok (.getfield 19, 3) := by decide +kernel
theorem dX10_hill_4 : decode cX10_hill 4 = .ok (.aload_n 0, 1) := by decide +kernel
theorem dX10_hill_5 : decode cX10_hill 5 = .ok (.getfield 10, 3) := by decide +kernel
theorem dX10_hill_8 : decode cX10_hill 8 = .ok (.invokevirtual 94, 3) := by decide +kernel
theorem dX10_hill_11 : decode cX10_hill 11 = .ok (.bipush (-9), 2) := by decide +kernel
theorem dX10_hill_13 : decode cX10_hill 13 = .ok (.if_icmp .eq 6, 3) := by decide +kernel
theorem dX10_hill_16 : decode cX10_hill 16 = .ok (.bipush (-3), 2) := by decide +kernel
theorem dX10_hill_18 : decode cX10_hill 18 = .ok (.ireturn, 1) := by decide +kernel
theorem dX10_hill_19 : decode cX10_hill 19 = .ok (.aload_n 0, 1) := by decide +kernel
theorem dX10_hill_20 : decode cX10_hill 20 = .ok (.getfield 26, 3) := by decide +kernel
theorem dX10_hill_23 : decode cX10_hill 23 = .ok (.aload_n 0, 1) := by decide +kernel
theorem dX10_hill_24 : decode cX10_hill 24 = .ok (.getfield 19, 3) := by decide +kernel
theorem dX10_hill_27 : decode cX10_hill 27 = .ok (.getfield 98, 3) := by decide +kernel
theorem dX10_hill_30 : decode cX10_hill 30 = .ok (.invokevirtual 99, 3) := by decide +kernel
theorem dX10_hill_33 : decode cX10_hill 33 = .ok (.aload_n 0, 1) := by decide +kernel
theorem dX10_hill_34 : decode cX10_hill 34 = .ok (.getfield 33, 3) := by decide +kernel
theorem dX10_hill_37 : decode cX10_hill 37 = .ok (.aload_n 0, 1) := by decide +kernel
theorem dX10_hill_38 : decode cX10_hill 38 = .ok (.getfield 19, 3) := by decide +kernel
theorem dX10_hill_41 : decode cX10_hill 41 = .ok (.getfield 103, 3) := by decide +kernel
theorem dX10_hill_44 : decode cX10_hill 44 = .ok (.invokevirtual 104, 3) := by decide +kernel
theorem dX10_hill_47 : decode cX10_hill 47 = .ok (.aload_n 0, 1) := by decide +kernel
theorem dX10_hill_48 : decode cX10_hill 48 = .ok (.getfield 43, 3) := by decide +kernel
theorem dX10_hill_51 : decode cX10_hill 51 = .ok (.invokevirtual 107, 3) := by decide +kernel
theorem dX10_hill_54 : decode cX10_hill 54 = .ok (.aload_n 0, 1) := by decide +kernel
theorem dX10_hill_55 : decode cX10_hill 55 = .ok (.getfield 50, 3) := by decide +kernel
theorem dX10_hill_58 : decode cX10_hill 58 = .ok (.invokevirtual 110, 3) := by decide +kernel
theorem dX10_hill_61 : decode cX10_hill 61 = .ok (.bipush 10, 2) := by decide +kernel
theorem dX10_hill_63 : decode cX10_hill 63 = .ok (.aload_n 0, 1) := by decide +kernel
theorem dX10_hill_64 : decode cX10_hill 64 = .ok (.getfield 26, 3) := by decide +kernel
theorem dX10_hill_67 : decode cX10_hill 67 = .ok (.getfield 111, 3) := by decide +kernel
theorem dX10_hill_70 : decode cX10_hill 70 = .ok (.imul, 1) := by decide +kernel
theorem dX10_hill_71 : decode cX10_hill 71 = .ok (.aload_n 0, 1) := by decide +kernel
theorem dX10_hill_72 : decode cX10_hill 72 = .ok (.getfield 33, 3) := by decide +kernel
theorem dX10_hill_75 : decode cX10_hill 75 = .ok (.getfield 114, 3) := by decide +kernel
theorem dX10_hill_78 : decode cX10_hill 78 = .ok (.iadd, 1) := by decide +kernel
theorem dX10_hill_79 : decode cX10_hill 79 = .ok (.ireturn, 1) := by decide +kernel
theorem dX10_kiln_0 : decode cX10_kiln 0 = .ok (.aload_n 0, 1) := by decide +kernel
theorem dX10_kiln_1 : decode cX10_kiln 1 = .ok (.getfield 26, 3) := by decide +kernel
theorem dX10_kiln_4 : decode cX10_kiln 4 = .ok (.iload_n 1, 1) := by decide +kernel
theorem dX10_kiln_5 : decode cX10_kiln 5 = .ok (.invokevirtual 117, 3) := by decide +kernel
theorem dX10_kiln_8 : decode cX10_kiln 8 = .ok (.ifCond .ne 5, 3) := by decide +kernel
theorem dX10_kiln_11 : decode cX10_kiln 11 = .ok (.iconst (-1), 1) := by decide +kernel
theorem dX10_kiln_12 : decode cX10_kiln 12 = .ok (.ireturn, 1) := by decide +kernel
theorem dX10_kiln_13 : decode cX10_kiln 13 = .ok (.iload_n 2, 1) := by decide +kernel
theorem dX10_kiln_14 : decode cX10_kiln 14 = .ok (.tableswitch 89 0 4 #[34, 44, 54, 63, 72], 34) := by decide +kernel
theorem dX10_kiln_48 : decode cX10_kiln 48 = .ok (.aload_n 0, 1) := by decide +kernel
theorem dX10_kiln_49 : decode cX10_kiln 49 = .ok (.getfield 26, 3) := by decide +kernel
theorem dX10_kiln_52 : decode cX10_kiln 52 = .ok (.getfield 121, 3) := by decide +kernel
theorem dX10_kiln_55 : decode cX10_kiln 55 = .ok (.iload_n 1, 1) := by decide +kernel
theorem dX10_kiln_56 : decode cX10_kiln 56 = .ok (.iaload, 1) := by decide +kernel
theorem dX10_kiln_57 : decode cX10_kiln 57 = .ok (.ireturn, 1) := by decide +kernel
theorem dX10_kiln_58 : decode cX10_kiln 58 = .ok (.aload_n 0, 1) := by decide +kernel
theorem dX10_kiln_59 : decode cX10_kiln 59 = .ok (.getfield 26, 3) := by decide +kernel
theorem dX10_kiln_62 : decode cX10_kiln 62 = .ok (.getfield 125, 3) := by decide +kernel
theorem dX10_kiln_65 : decode cX10_kiln 65 = .ok (.iload_n 1, 1) := by decide +kernel
theorem dX10_kiln_66 : decode cX10_kiln 66 = .ok (.iaload, 1) := by decide +kernel
theorem dX10_kiln_67 : decode cX10_kiln 67 = .ok (.ireturn, 1) := by decide +kernel
theorem dX10_kiln_68 : decode cX10_kiln 68 = .ok (.aload_n 0, 1) := by decide +kernel
theorem dX10_kiln_69 : decode cX10_kiln 69 = .ok (.getfield 26, 3) := by decide +kernel
theorem dX10_kiln_72 : decode cX10_kiln 72 = .ok (.iload_n 1, 1) := by decide +kernel
theorem dX10_kiln_73 : decode cX10_kiln 73 = .ok (.invokevirtual 128, 3) := by decide +kernel
theorem dX10_kiln_76 : decode cX10_kiln 76 = .ok (.ireturn, 1) := by decide +kernel
theorem dX10_kiln_77 : decode cX10_kiln 77 = .ok (.aload_n 0, 1) := by decide +kernel
theorem dX10_kiln_78 : decode cX10_kiln 78 = .ok (.getfield 26, 3) := by decide +kernel
theorem dX10_kiln_81 : decode cX10_kiln 81 = .ok (.iload_n 1, 1) := by decide +kernel
theorem dX10_kiln_82 : decode cX10_kiln 82 = .ok (.invokevirtual 132, 3) := by decide +kernel
theorem dX10_kiln_85 : decode cX10_kiln 85 = .ok (.ireturn, 1) := by decide +kernel
theorem dX10_kiln_86 : decode cX10_kiln 86 = .ok (.aload_n 0, 1) := by decide +kernel
theorem dX10_kiln_87 : decode cX10_kiln 87 = .ok (.getfield 33, 3) := by decide +kernel
theorem dX10_kiln_90 : decode cX10_kiln 90 = .ok (.aload_n 0, 1) := by decide +kernel
theorem dX10_kiln_91 : decode cX10_kiln 91 = .ok (.getfield 26, 3) := by decide +kernel
theorem dX10_kiln_94 : decode cX10_kiln 94 = .ok (.getfield 121, 3) := by decide +kernel
theorem dX10_kiln_97 : decode cX10_kiln 97 = .ok (.iload_n 1, 1) := by decide +kernel
theorem dX10_kiln_98 : decode cX10_kiln 98 = .ok (.iaload, 1) := by decide +kernel
theorem dX10_kiln_99 : decode cX10_kiln 99 = .ok (.invokevirtual 135, 3) := by decide +kernel
theorem dX10_kiln_102 : decode cX10_kiln 102 = .ok (.ireturn, 1) := by decide +kernel
theorem dX10_kiln_103 : decode cX10_kiln 103 = .ok (.bipush (-2), 2) := by decide +kernel
theorem dX10_kiln_105 : decode cX10_kiln 105 = .ok (.ireturn, 1) := by decide +kernel
theorem dX10_tramp_0 : decode cX10_tramp 0 = .ok (.aload_n 0, 1) := by decide +kernel
theorem dX10_tramp_1 : decode cX10_tramp 1 = .ok (.getfield 33, 3) := by decide +kernel
theorem dX10_tramp_4 : decode cX10_tramp 4 = .ok (.iload_n 1, 1) := by decide +kernel
theorem dX10_tramp_5 : decode cX10_tramp 5 = .ok (.invokevirtual 138, 3) := by decide +kernel
theorem dX10_tramp_8 : decode cX10_tramp 8 = .ok (.ifCond .ne 5, 3) := by decide +kernel
theorem dX10_tramp_11 : decode cX10_tramp 11 = .ok (.iconst (-1), 1) := by decide +kernel
theorem dX10_tramp_12 : decode cX10_tramp 12 = .ok (.ireturn, 1) := by decide +kernel
theorem dX10_tramp_13 : decode cX10_tramp 13 = .ok (.iload_n 2, 1) := by decide +kernel
theorem dX10_tramp_14 : decode cX10_tramp 14 = .ok (.tableswitch 125 0 6 #[42, 52, 62, 72, 82, 91, 108], 42) := by decide +kernel
theorem dX10_tramp_56 : decode cX10_tramp 56 = .ok (.aload_n 0, 1) := by decide +kernel
theorem dX10_tramp_57 : decode cX10_tramp 57 = .ok (.getfield 33, 3) := by decide +kernel
theorem dX10_tramp_60 : decode cX10_tramp 60 = .ok (.getfield 139, 3) := by decide +kernel
theorem dX10_tramp_63 : decode cX10_tramp 63 = .ok (.iload_n 1, 1) := by decide +kernel
theorem dX10_tramp_64 : decode cX10_tramp 64 = .ok (.iaload, 1) := by decide +kernel
theorem dX10_tramp_65 : decode cX10_tramp 65 = .ok (.ireturn, 1) := by decide +kernel
theorem dX10_tramp_66 : decode cX10_tramp 66 = .ok (.aload_n 0, 1) := by decide +kernel
theorem dX10_tramp_67 : decode cX10_tramp 67 = .ok (.getfield 33, 3) := by decide +kernel
theorem dX10_tramp_70 : decode cX10_tramp 70 = .ok (.getfield 140, 3) := by decide +kernel
theorem dX10_tramp_73 : decode cX10_tramp 73 = .ok (.iload_n 1, 1) := by decide +kernel
theorem dX10_tramp_74 : decode cX10_tramp 74 = .ok (.iaload, 1) := by decide +kernel
theorem dX10_tramp_75 : decode cX10_tramp 75 = .ok (.ireturn, 1) := by decide +kernel
theorem dX10_tramp_76 : decode cX10_tramp 76 = .ok (.aload_n 0, 1) := by decide +kernel
theorem dX10_tramp_77 : decode cX10_tramp 77 = .ok (.getfield 33, 3) := by decide +kernel
theorem dX10_tramp_80 : decode cX10_tramp 80 = .ok (.getfield 143, 3) := by decide +kernel
theorem dX10_tramp_83 : decode cX10_tramp 83 = .ok (.iload_n 1, 1) := by decide +kernel
theorem dX10_tramp_84 : decode cX10_tramp 84 = .ok (.iaload, 1) := by decide +kernel
theorem dX10_tramp_85 : decode cX10_tramp 85 = .ok (.ireturn, 1) := by decide +kernel
theorem dX10_tramp_86 : decode cX10_tramp 86 = .ok (.aload_n 0, 1) := by decide +kernel
theorem dX10_tramp_87 : decode cX10_tramp 87 = .ok (.getfield 33, 3) := by decide +kernel
theorem dX10_tramp_90 : decode cX10_tramp 90 = .ok (.getfield 146, 3) := by decide +kernel
theorem dX10_tramp_93 : decode cX10_tramp 93 = .ok (.iload_n 1, 1) := by decide +kernel
theorem dX10_tramp_94 : decode cX10_tramp 94 = .ok (.iaload, 1) := by decide +kernel
theorem dX10_tramp_95 : decode cX10_tramp 95 = .ok (.ireturn, 1) := by decide +kernel
theorem dX10_tramp_96 : decode cX10_tramp 96 = .ok (.aload_n 0, 1) := by decide +kernel
theorem dX10_tramp_97 : decode cX10_tramp 97 = .ok (.getfield 33, 3) := by decide +kernel
theorem dX10_tramp_100 : decode cX10_tramp 100 = .ok (.iload_n 1, 1) := by decide +kernel
theorem dX10_tramp_101 : decode cX10_tramp 101 = .ok (.invokevirtual 149, 3) := by decide +kernel
theorem dX10_tramp_104 : decode cX10_tramp 104 = .ok (.ireturn, 1) := by decide +kernel
theorem dX10_tramp_105 : decode cX10_tramp 105 = .ok (.aload_n 0, 1) := by decide +kernel
theorem dX10_tramp_106 : decode cX10_tramp 106 = .ok (.getfield 33, 3) := by decide +kernel
theorem dX10_tramp_109 : decode cX10_tramp 109 = .ok (.iload_n 1, 1) := by decide +kernel
theorem dX10_tramp_110 : decode cX10_tramp 110 = .ok (.invokevirtual 152, 3) := by decide +kernel
theorem dX10_tramp_113 : decode cX10_tramp 113 = .ok (.ifCond .eq 7, 3) := by decide +kernel
theorem dX10_tramp_116 : decode cX10_tramp 116 = .ok (.iconst 1, 1) := by decide +kernel
theorem dX10_tramp_117 : decode cX10_tramp 117 = .ok (.goto 4, 3) := by decide +kernel
theorem dX10_tramp_120 : decode cX10_tramp 120 = .ok (.iconst 0, 1) := by decide +kernel
theorem dX10_tramp_121 : decode cX10_tramp 121 = .ok (.ireturn, 1) := by decide +kernel
theorem dX10_tramp_122 : decode cX10_tramp 122 = .ok (.aload_n 0, 1) := by decide +kernel
theorem dX10_tramp_123 : decode cX10_tramp 123 = .ok (.getfield 33, 3) := by decide +kernel
theorem dX10_tramp_126 : decode cX10_tramp 126 = .ok (.iload_n 1, 1) := by decide +kernel
theorem dX10_tramp_127 : decode cX10_tramp 127 = .ok (.invokevirtual 155, 3) := by decide +kernel
theorem dX10_tramp_130 : decode cX10_tramp 130 = .ok (.ifCond .eq 7, 3) := by decide +kernel
theorem dX10_tramp_133 : decode cX10_tramp 133 = .ok (.iconst 1, 1) := by decide +kernel
theorem dX10_tramp_134 : decode cX10_tramp 134 = .ok (.goto 4, 3) := by decide +kernel
theorem dX10_tramp_137 : decode cX10_tramp 137 = .ok (.iconst 0, 1) := by decide +kernel
theorem dX10_tramp_138 : decode cX10_tramp 138 = .ok (.ireturn, 1) := by decide +kernel
theorem dX10_tramp_139 : decode cX10_tramp 139 = .ok (.bipush (-2), 2) := by decide +kernel
theorem dX10_tramp_141 : decode cX10_tramp 141 = .ok (.ireturn, 1) := by decide +kernel
theorem dX10_at_0 : decode cX10_at 0 = .ok (.iload_n 1, 1) := by decide +kernel
theorem dX10_at_1 : decode cX10_at 1 = .ok (.invokestatic 158, 3) := by decide +kernel
theorem dX10_at_4 : decode cX10_at 4 = .ok (.ifCond .ne 5, 3) := by decide +kernel
theorem dX10_at_7 : decode cX10_at 7 = .ok (.iconst (-1), 1) := by decide +kernel
theorem dX10_at_8 : decode cX10_at 8 = .ok (.ireturn, 1) := by decide +kernel
theorem dX10_at_9 : decode cX10_at 9 = .ok (.aload_n 0, 1) := by decide +kernel
theorem dX10_at_10 : decode cX10_at 10 = .ok (.getfield 26, 3) := by decide +kernel
theorem dX10_at_13 : decode cX10_at 13 = .ok (.iload_n 1, 1) := by decide +kernel
theorem dX10_at_14 : decode cX10_at 14 = .ok (.invokevirtual 161, 3) := by decide +kernel
theorem dX10_at_17 : decode cX10_at 17 = .ok (.ireturn, 1) := by decide +kernel
theorem dX10_night_0 : decode cX10_night 0 = .ok (.aload_n 0, 1) := by decide +kernel
theorem dX10_night_1 : decode cX10_night 1 = .ok (.getfield 43, 3) := by decide +kernel
theorem dX10_night_4 : decode cX10_night 4 = .ok (.aload_n 0, 1) := by decide +kernel
theorem dX10_night_5 : decode cX10_night 5 = .ok (.getfield 33, 3) := by decide +kernel
theorem dX10_night_8 : decode cX10_night 8 = .ok (.invokevirtual 164, 3) := by decide +kernel
theorem dX10_night_11 : decode cX10_night 11 = .ok (.aload_n 0, 1) := by decide +kernel
theorem dX10_night_12 : decode cX10_night 12 = .ok (.getfield 33, 3) := by decide +kernel
theorem dX10_night_15 : decode cX10_night 15 = .ok (.aload_n 0, 1) := by decide +kernel
theorem dX10_night_16 : decode cX10_night 16 = .ok (.getfield 26, 3) := by decide +kernel
theorem dX10_night_19 : decode cX10_night 19 = .ok (.iconst 0, 1) := by decide +kernel
theorem dX10_night_20 : decode cX10_night 20 = .ok (.invokevirtual 167, 3) := by decide +kernel
theorem dX10_night_23 : decode cX10_night 23 = .ok (.aload_n 0, 1) := by decide +kernel
theorem dX10_night_24 : decode cX10_night 24 = .ok (.getfield 33, 3) := by decide +kernel
theorem dX10_night_27 : decode cX10_night 27 = .ok (.invokevirtual 171, 3) := by decide +kernel
theorem dX10_night_30 : decode cX10_night 30 = .ok (.invokestatic 175, 3) := by decide +kernel
theorem dX10_night_33 : decode cX10_night 33 = .ok (.ireturn, 1) := by decide +kernel
theorem dX10_walk_0 : decode cX10_walk 0 = .ok (.aload_n 0, 1) := by decide +kernel
theorem dX10_walk_1 : decode cX10_walk 1 = .ok (.getfield 33, 3) := by decide +kernel
theorem dX10_walk_4 : decode cX10_walk 4 = .ok (.iload_n 1, 1) := by decide +kernel
theorem dX10_walk_5 : decode cX10_walk 5 = .ok (.invokevirtual 138, 3) := by decide +kernel
theorem dX10_walk_8 : decode cX10_walk 8 = .ok (.ifCond .eq 10, 3) := by decide +kernel
theorem dX10_walk_11 : decode cX10_walk 11 = .ok (.iload_n 2, 1) := by decide +kernel
theorem dX10_walk_12 : decode cX10_walk 12 = .ok (.invokestatic 158, 3) := by decide +kernel
theorem dX10_walk_15 : decode cX10_walk 15 = .ok (.ifCond .ne 5, 3) := by decide +kernel
theorem dX10_walk_18 : decode cX10_walk 18 = .ok (.iconst (-1), 1) := by decide +kernel
theorem dX10_walk_19 : decode cX10_walk 19 = .ok (.ireturn, 1) := by decide +kernel
theorem dX10_walk_20 : decode cX10_walk 20 = .ok (.aload_n 0, 1) := by decide +kernel
theorem dX10_walk_21 : decode cX10_walk 21 = .ok (.getfield 33, 3) := by decide +kernel
theorem dX10_walk_24 : decode cX10_walk 24 = .ok (.iload_n 1, 1) := by decide +kernel
theorem dX10_walk_25 : decode cX10_walk 25 = .ok (.iload_n 2, 1) := by decide +kernel
theorem dX10_walk_26 : decode cX10_walk 26 = .ok (.invokevirtual 180, 3) := by decide +kernel
theorem dX10_walk_29 : decode cX10_walk 29 = .ok (.ifCond .ne 6, 3) := by decide +kernel
theorem dX10_walk_32 : decode cX10_walk 32 = .ok (.bipush (-3), 2) := by decide +kernel
theorem dX10_walk_34 : decode cX10_walk 34 = .ok (.ireturn, 1) := by decide +kernel
theorem dX10_walk_35 : decode cX10_walk 35 = .ok (.iload_n 2, 1) := by decide +kernel
theorem dX10_walk_36 : decode cX10_walk 36 = .ok (.aload_n 0, 1) := by decide +kernel
theorem dX10_walk_37 : decode cX10_walk 37 = .ok (.getfield 33, 3) := by decide +kernel
theorem dX10_walk_40 : decode cX10_walk 40 = .ok (.getfield 139, 3) := by decide +kernel
theorem dX10_walk_43 : decode cX10_walk 43 = .ok (.iload_n 1, 1) := by decide +kernel
theorem dX10_walk_44 : decode cX10_walk 44 = .ok (.iaload, 1) := by decide +kernel
theorem dX10_walk_45 : decode cX10_walk 45 = .ok (.isub, 1) := by decide +kernel
theorem dX10_walk_46 : decode cX10_walk 46 = .ok (.invokestatic 184, 3) := by decide +kernel
theorem dX10_walk_49 : decode cX10_walk 49 = .ok (.istore_n 3, 1) := by decide +kernel
theorem dX10_walk_50 : decode cX10_walk 50 = .ok (.aload_n 0, 1) := by decide +kernel
theorem dX10_walk_51 : decode cX10_walk 51 = .ok (.getfield 43, 3) := by decide +kernel
theorem dX10_walk_54 : decode cX10_walk 54 = .ok (.aload_n 0, 1) := by decide +kernel
theorem dX10_walk_55 : decode cX10_walk 55 = .ok (.getfield 33, 3) := by decide +kernel
theorem dX10_walk_58 : decode cX10_walk 58 = .ok (.invokevirtual 164, 3) := by decide +kernel
theorem dX10_walk_61 : decode cX10_walk 61 = .ok (.aload_n 0, 1) := by decide +kernel
theorem dX10_walk_62 : decode cX10_walk 62 = .ok (.getfield 33, 3) := by decide +kernel
theorem dX10_walk_65 : decode cX10_walk 65 = .ok (.iload_n 1, 1) := by decide +kernel
theorem dX10_walk_66 : decode cX10_walk 66 = .ok (.iload_n 2, 1) := by decide +kernel
theorem dX10_walk_67 : decode cX10_walk 67 = .ok (.invokevirtual 189, 3) := by decide +kernel
theorem dX10_walk_70 : decode cX10_walk 70 = .ok (.iload_n 3, 1) := by decide +kernel
theorem dX10_walk_71 : decode cX10_walk 71 = .ok (.ireturn, 1) := by decide +kernel
theorem dX10_tell_0 : decode cX10_tell 0 = .ok (.aload_n 0, 1) := by decide +kernel
theorem dX10_tell_1 : decode cX10_tell 1 = .ok (.getfield 33, 3) := by decide +kernel
theorem dX10_tell_4 : decode cX10_tell 4 = .ok (.iload_n 1, 1) := by decide +kernel
theorem dX10_tell_5 : decode cX10_tell 5 = .ok (.invokevirtual 138, 3) := by decide +kernel
theorem dX10_tell_8 : decode cX10_tell 8 = .ok (.ifCond .eq 14, 3) := by decide +kernel
theorem dX10_tell_11 : decode cX10_tell 11 = .ok (.aload_n 0, 1) := by decide +kernel
theorem dX10_tell_12 : decode cX10_tell 12 = .ok (.getfield 33, 3) := by decide +kernel
theorem dX10_tell_15 : decode cX10_tell 15 = .ok (.iload_n 2, 1) := by decide +kernel
theorem dX10_tell_16 : decode cX10_tell 16 = .ok (.invokevirtual 138, 3) := by decide +kernel
theorem dX10_tell_19 : decode cX10_tell 19 = .ok (.ifCond .ne 5, 3) := by decide +kernel
theorem dX10_tell_22 : decode cX10_tell 22 = .ok (.iconst (-1), 1) := by decide +kernel
theorem dX10_tell_23 : decode cX10_tell 23 = .ok (.ireturn, 1) := by decide +kernel
theorem dX10_tell_24 : decode cX10_tell 24 = .ok (.iload_n 1, 1) := by decide +kernel
theorem dX10_tell_25 : decode cX10_tell 25 = .ok (.iload_n 2, 1) := by decide +kernel
theorem dX10_tell_26 : decode cX10_tell 26 = .ok (.if_icmp .ne 6, 3) := by decide +kernel
theorem dX10_tell_29 : decode cX10_tell 29 = .ok (.bipush (-2), 2) := by decide +kernel
theorem dX10_tell_31 : decode cX10_tell 31 = .ok (.ireturn, 1) := by decide +kernel
theorem dX10_tell_32 : decode cX10_tell 32 = .ok (.aload_n 0, 1) := by decide +kernel
theorem dX10_tell_33 : decode cX10_tell 33 = .ok (.getfield 33, 3) := by decide +kernel
theorem dX10_tell_36 : decode cX10_tell 36 = .ok (.iload_n 1, 1) := by decide +kernel
theorem dX10_tell_37 : decode cX10_tell 37 = .ok (.iload_n 2, 1) := by decide +kernel
theorem dX10_tell_38 : decode cX10_tell 38 = .ok (.invokevirtual 193, 3) := by decide +kernel
theorem dX10_tell_41 : decode cX10_tell 41 = .ok (.ifCond .ne 6, 3) := by decide +kernel
theorem dX10_tell_44 : decode cX10_tell 44 = .ok (.bipush (-3), 2) := by decide +kernel
theorem dX10_tell_46 : decode cX10_tell 46 = .ok (.ireturn, 1) := by decide +kernel
theorem dX10_tell_47 : decode cX10_tell 47 = .ok (.aload_n 0, 1) := by decide +kernel
theorem dX10_tell_48 : decode cX10_tell 48 = .ok (.getfield 43, 3) := by decide +kernel
theorem dX10_tell_51 : decode cX10_tell 51 = .ok (.aload_n 0, 1) := by decide +kernel
theorem dX10_tell_52 : decode cX10_tell 52 = .ok (.getfield 33, 3) := by decide +kernel
theorem dX10_tell_55 : decode cX10_tell 55 = .ok (.invokevirtual 164, 3) := by decide +kernel
theorem dX10_tell_58 : decode cX10_tell 58 = .ok (.aload_n 0, 1) := by decide +kernel
theorem dX10_tell_59 : decode cX10_tell 59 = .ok (.getfield 33, 3) := by decide +kernel
theorem dX10_tell_62 : decode cX10_tell 62 = .ok (.iload_n 1, 1) := by decide +kernel
theorem dX10_tell_63 : decode cX10_tell 63 = .ok (.iload_n 2, 1) := by decide +kernel
theorem dX10_tell_64 : decode cX10_tell 64 = .ok (.invokevirtual 196, 3) := by decide +kernel
theorem dX10_tell_67 : decode cX10_tell 67 = .ok (.aload_n 0, 1) := by decide +kernel
theorem dX10_tell_68 : decode cX10_tell 68 = .ok (.getfield 33, 3) := by decide +kernel
theorem dX10_tell_71 : decode cX10_tell 71 = .ok (.getfield 143, 3) := by decide +kernel
theorem dX10_tell_74 : decode cX10_tell 74 = .ok (.iload_n 2, 1) := by decide +kernel
theorem dX10_tell_75 : decode cX10_tell 75 = .ok (.iaload, 1) := by decide +kernel
theorem dX10_tell_76 : decode cX10_tell 76 = .ok (.invokestatic 175, 3) := by decide +kernel
theorem dX10_tell_79 : decode cX10_tell 79 = .ok (.ireturn, 1) := by decide +kernel
theorem dX10_wash_0 : decode cX10_wash 0 = .ok (.aload_n 0, 1) := by decide +kernel
theorem dX10_wash_1 : decode cX10_wash 1 = .ok (.getfield 33, 3) := by decide +kernel
theorem dX10_wash_4 : decode cX10_wash 4 = .ok (.iload_n 1, 1) := by decide +kernel
theorem dX10_wash_5 : decode cX10_wash 5 = .ok (.invokevirtual 138, 3) := by decide +kernel
theorem dX10_wash_8 : decode cX10_wash 8 = .ok (.ifCond .ne 5, 3) := by decide +kernel
theorem dX10_wash_11 : decode cX10_wash 11 = .ok (.iconst (-1), 1) := by decide +kernel
theorem dX10_wash_12 : decode cX10_wash 12 = .ok (.ireturn, 1) := by decide +kernel
theorem dX10_wash_13 : decode cX10_wash 13 = .ok (.aload_n 0, 1) := by decide +kernel
theorem dX10_wash_14 : decode cX10_wash 14 = .ok (.getfield 33, 3) := by decide +kernel
theorem dX10_wash_17 : decode cX10_wash 17 = .ok (.iload_n 1, 1) := by decide +kernel
theorem dX10_wash_18 : decode cX10_wash 18 = .ok (.invokevirtual 199, 3) := by decide +kernel
theorem dX10_wash_21 : decode cX10_wash 21 = .ok (.ifCond .ne 6, 3) := by decide +kernel
theorem dX10_wash_24 : decode cX10_wash 24 = .ok (.bipush (-3), 2) := by decide +kernel
theorem dX10_wash_26 : decode cX10_wash 26 = .ok (.ireturn, 1) := by decide +kernel
theorem dX10_wash_27 : decode cX10_wash 27 = .ok (.aload_n 0, 1) := by decide +kernel
theorem dX10_wash_28 : decode cX10_wash 28 = .ok (.getfield 33, 3) := by decide +kernel
theorem dX10_wash_31 : decode cX10_wash 31 = .ok (.getfield 143, 3) := by decide +kernel
theorem dX10_wash_34 : decode cX10_wash 34 = .ok (.iload_n 1, 1) := by decide +kernel
theorem dX10_wash_35 : decode cX10_wash 35 = .ok (.iaload, 1) := by decide +kernel
theorem dX10_wash_36 : decode cX10_wash 36 = .ok (.invokestatic 175, 3) := by decide +kernel
theorem dX10_wash_39 : decode cX10_wash 39 = .ok (.istore_n 2, 1) := by decide +kernel
theorem dX10_wash_40 : decode cX10_wash 40 = .ok (.aload_n 0, 1) := by decide +kernel
theorem dX10_wash_41 : decode cX10_wash 41 = .ok (.getfield 43, 3) := by decide +kernel
theorem dX10_wash_44 : decode cX10_wash 44 = .ok (.aload_n 0, 1) := by decide +kernel
theorem dX10_wash_45 : decode cX10_wash 45 = .ok (.getfield 33, 3) := by decide +kernel
theorem dX10_wash_48 : decode cX10_wash 48 = .ok (.invokevirtual 164, 3) := by decide +kernel
theorem dX10_wash_51 : decode cX10_wash 51 = .ok (.aload_n 0, 1) := by decide +kernel
theorem dX10_wash_52 : decode cX10_wash 52 = .ok (.getfield 33, 3) := by decide +kernel
theorem dX10_wash_55 : decode cX10_wash 55 = .ok (.iload_n 1, 1) := by decide +kernel
theorem dX10_wash_56 : decode cX10_wash 56 = .ok (.invokevirtual 202, 3) := by decide +kernel
theorem dX10_wash_59 : decode cX10_wash 59 = .ok (.iload_n 2, 1) := by decide +kernel
theorem dX10_wash_60 : decode cX10_wash 60 = .ok (.ireturn, 1) := by decide +kernel
theorem dX10_undo_0 : decode cX10_undo 0 = .ok (.aload_n 0, 1) := by decide +kernel
theorem dX10_undo_1 : decode cX10_undo 1 = .ok (.getfield 43, 3) := by decide +kernel
theorem dX10_undo_4 : decode cX10_undo 4 = .ok (.getfield 205, 3) := by decide +kernel
theorem dX10_undo_7 : decode cX10_undo 7 = .ok (.ifCond .gt 6, 3) := by decide +kernel
theorem dX10_undo_10 : decode cX10_undo 10 = .ok (.bipush (-3), 2) := by decide +kernel
theorem dX10_undo_12 : decode cX10_undo 12 = .ok (.ireturn, 1) := by decide +kernel
theorem dX10_undo_13 : decode cX10_undo 13 = .ok (.aload_n 0, 1) := by decide +kernel
theorem dX10_undo_14 : decode cX10_undo 14 = .ok (.getfield 43, 3) := by decide +kernel
theorem dX10_undo_17 : decode cX10_undo 17 = .ok (.aload_n 0, 1) := by decide +kernel
theorem dX10_undo_18 : decode cX10_undo 18 = .ok (.getfield 33, 3) := by decide +kernel
theorem dX10_undo_21 : decode cX10_undo 21 = .ok (.invokevirtual 208, 3) := by decide +kernel
theorem dX10_undo_24 : decode cX10_undo 24 = .ok (.aload_n 0, 1) := by decide +kernel
theorem dX10_undo_25 : decode cX10_undo 25 = .ok (.getfield 43, 3) := by decide +kernel
theorem dX10_undo_28 : decode cX10_undo 28 = .ok (.getfield 205, 3) := by decide +kernel
theorem dX10_undo_31 : decode cX10_undo 31 = .ok (.ireturn, 1) := by decide +kernel
theorem dX10_later_0 : decode cX10_later 0 = .ok (.aload_n 0, 1) := by decide +kernel
theorem dX10_later_1 : decode cX10_later 1 = .ok (.getfield 33, 3) := by decide +kernel
theorem dX10_later_4 : decode cX10_later 4 = .ok (.iload_n 1, 1) := by decide +kernel
theorem dX10_later_5 : decode cX10_later 5 = .ok (.invokevirtual 138, 3) := by decide +kernel
theorem dX10_later_8 : decode cX10_later 8 = .ok (.ifCond .ne 5, 3) := by decide +kernel
theorem dX10_later_11 : decode cX10_later 11 = .ok (.iconst (-1), 1) := by decide +kernel
theorem dX10_later_12 : decode cX10_later 12 = .ok (.ireturn, 1) := by decide +kernel
theorem dX10_later_13 : decode cX10_later 13 = .ok (.iload_n 2, 1) := by decide +kernel
theorem dX10_later_14 : decode cX10_later 14 = .ok (.ifCond .lt 16, 3) := by decide +kernel
theorem dX10_later_17 : decode cX10_later 17 = .ok (.iload_n 2, 1) := by decide +kernel
theorem dX10_later_18 : decode cX10_later 18 = .ok (.bipush 20, 2) := by decide +kernel
theorem dX10_later_20 : decode cX10_later 20 = .ok (.if_icmp .gt 10, 3) := by decide +kernel
theorem dX10_later_23 : decode cX10_later 23 = .ok (.iload_n 3, 1) := by decide +kernel
theorem dX10_later_24 : decode cX10_later 24 = .ok (.invokestatic 211, 3) := by decide +kernel
theorem dX10_later_27 : decode cX10_later 27 = .ok (.ifCond .ne 6, 3) := by decide +kernel
theorem dX10_later_30 : decode cX10_later 30 = .ok (.bipush (-2), 2) := by decide +kernel
theorem dX10_later_32 : decode cX10_later 32 = .ok (.ireturn, 1) := by decide +kernel
theorem dX10_later_33 : decode cX10_later 33 = .ok (.aload_n 0, 1) := by decide +kernel
theorem dX10_later_34 : decode cX10_later 34 = .ok (.getfield 37, 3) := by decide +kernel
theorem dX10_later_37 : decode cX10_later 37 = .ok (.aload_n 0, 1) := by decide +kernel
theorem dX10_later_38 : decode cX10_later 38 = .ok (.getfield 33, 3) := by decide +kernel
theorem dX10_later_41 : decode cX10_later 41 = .ok (.invokevirtual 104, 3) := by decide +kernel
theorem dX10_later_44 : decode cX10_later 44 = .ok (.iconst 0, 1) := by decide +kernel
theorem dX10_later_45 : decode cX10_later 45 = .ok (.istore 4, 2) := by decide +kernel
theorem dX10_later_47 : decode cX10_later 47 = .ok (.iload 4, 2) := by decide +kernel
theorem dX10_later_49 : decode cX10_later 49 = .ok (.iload_n 2, 1) := by decide +kernel
theorem dX10_later_50 : decode cX10_later 50 = .ok (.if_icmp .ge 21, 3) := by decide +kernel
theorem dX10_later_53 : decode cX10_later 53 = .ok (.aload_n 0, 1) := by decide +kernel
theorem dX10_later_54 : decode cX10_later 54 = .ok (.getfield 37, 3) := by decide +kernel
theorem dX10_later_57 : decode cX10_later 57 = .ok (.aload_n 0, 1) := by decide +kernel
theorem dX10_later_58 : decode cX10_later 58 = .ok (.getfield 26, 3) := by decide +kernel
theorem dX10_later_61 : decode cX10_later 61 = .ok (.iconst 0, 1) := by decide +kernel
theorem dX10_later_62 : decode cX10_later 62 = .ok (.invokevirtual 167, 3) := by decide +kernel
theorem dX10_later_65 : decode cX10_later 65 = .ok (.iinc 4 1, 3) := by decide +kernel
theorem dX10_later_68 : decode cX10_later 68 = .ok (.goto (-21), 3) := by decide +kernel
theorem dX10_later_71 : decode cX10_later 71 = .ok (.iload_n 3, 1) := by decide +kernel
theorem dX10_later_72 : decode cX10_later 72 = .ok (.ifCond .ne 15, 3) := by decide +kernel
theorem dX10_later_75 : decode cX10_later 75 = .ok (.aload_n 0, 1) := by decide +kernel
theorem dX10_later_76 : decode cX10_later 76 = .ok (.getfield 37, 3) := by decide +kernel
theorem dX10_later_79 : decode cX10_later 79 = .ok (.getfield 143, 3) := by decide +kernel
theorem dX10_later_82 : decode cX10_later 82 = .ok (.iload_n 1, 1) := by decide +kernel
theorem dX10_later_83 : decode cX10_later 83 = .ok (.iaload, 1) := by decide +kernel
theorem dX10_later_84 : decode cX10_later 84 = .ok (.goto 12, 3) := by decide +kernel
theorem dX10_later_87 : decode cX10_later 87 = .ok (.aload_n 0, 1) := by decide +kernel
theorem dX10_later_88 : decode cX10_later 88 = .ok (.getfield 37, 3) := by decide +kernel
theorem dX10_later_91 : decode cX10_later 91 = .ok (.getfield 146, 3) := by decide +kernel
theorem dX10_later_94 : decode cX10_later 94 = .ok (.iload_n 1, 1) := by decide +kernel
theorem dX10_later_95 : decode cX10_later 95 = .ok (.iaload, 1) := by decide +kernel
theorem dX10_later_96 : decode cX10_later 96 = .ok (.ireturn, 1) := by decide +kernel
theorem dX10_hummock_0 : decode cX10_hummock 0 = .ok (.aload_n 0, 1) := by decide +kernel
theorem dX10_hummock_1 : decode cX10_hummock 1 = .ok (.getfield 33, 3) := by decide +kernel
theorem dX10_hummock_4 : decode cX10_hummock 4 = .ok (.iload_n 1, 1) := by decide +kernel
theorem dX10_hummock_5 : decode cX10_hummock 5 = .ok (.invokevirtual 138, 3) := by decide +kernel
theorem dX10_hummock_8 : decode cX10_hummock 8 = .ok (.ifCond .ne 5, 3) := by decide +kernel
theorem dX10_hummock_11 : decode cX10_hummock 11 = .ok (.iconst (-1), 1) := by decide +kernel
theorem dX10_hummock_12 : decode cX10_hummock 12 = .ok (.ireturn, 1) := by decide +kernel
theorem dX10_hummock_13 : decode cX10_hummock 13 = .ok (.aload_n 0, 1) := by decide +kernel
theorem dX10_hummock_14 : decode cX10_hummock 14 = .ok (.getfield 37, 3) := by decide +kernel
theorem dX10_hummock_17 : decode cX10_hummock 17 = .ok (.aload_n 0, 1) := by decide +kernel
theorem dX10_hummock_18 : decode cX10_hummock 18 = .ok (.getfield 33, 3) := by decide +kernel
theorem dX10_hummock_21 : decode cX10_hummock 21 = .ok (.invokevirtual 104, 3) := by decide +kernel
theorem dX10_hummock_24 : decode cX10_hummock 24 = .ok (.iconst 0, 1) := by decide +kernel
theorem dX10_hummock_25 : decode cX10_hummock 25 = .ok (.istore_n 2, 1) := by decide +kernel
theorem dX10_hummock_26 : decode cX10_hummock 26 = .ok (.iload_n 2, 1) := by decide +kernel
theorem dX10_hummock_27 : decode cX10_hummock 27 = .ok (.bipush 20, 2) := by decide +kernel
theorem dX10_hummock_29 : decode cX10_hummock 29 = .ok (.if_icmp .gt 34, 3) := by decide +kernel
theorem dX10_hummock_32 : decode cX10_hummock 32 = .ok (.aload_n 0, 1) := by decide +kernel
theorem dX10_hummock_33 : decode cX10_hummock 33 = .ok (.getfield 37, 3) := by decide +kernel
theorem dX10_hummock_36 : decode cX10_hummock 36 = .ok (.iload_n 1, 1) := by decide +kernel
theorem dX10_hummock_37 : decode cX10_hummock 37 = .ok (.invokevirtual 155, 3) := by decide +kernel
theorem dX10_hummock_40 : decode cX10_hummock 40 = .ok (.ifCond .eq 5, 3) := by decide +kernel
theorem dX10_hummock_43 : decode cX10_hummock 43 = .ok (.iload_n 2, 1) := by decide +kernel
theorem dX10_hummock_44 : decode cX10_hummock 44 = .ok (.ireturn, 1) := by decide +kernel
theorem dX10_hummock_45 : decode cX10_hummock 45 = .ok (.aload_n 0, 1) := by decide +kernel
theorem dX10_hummock_46 : decode cX10_hummock 46 = .ok (.getfield 37, 3) := by decide +kernel
theorem dX10_hummock_49 : decode cX10_hummock 49 = .ok (.aload_n 0, 1) := by decide +kernel
theorem dX10_hummock_50 : decode cX10_hummock 50 = .ok (.getfield 26, 3) := by decide +kernel
theorem dX10_hummock_53 : decode cX10_hummock 53 = .ok (.iconst 0, 1) := by decide +kernel
theorem dX10_hummock_54 : decode cX10_hummock 54 = .ok (.invokevirtual 167, 3) := by decide +kernel
theorem dX10_hummock_57 : decode cX10_hummock 57 = .ok (.iinc 2 1, 3) := by decide +kernel
theorem dX10_hummock_60 : decode cX10_hummock 60 = .ok (.goto (-34), 3) := by decide +kernel
theorem dX10_hummock_63 : decode cX10_hummock 63 = .ok (.bipush (-9), 2) := by decide +kernel
theorem dX10_hummock_65 : decode cX10_hummock 65 = .ok (.ireturn, 1) := by decide +kernel
theorem dX10_soon_0 : decode cX10_soon 0 = .ok (.aload_n 0, 1) := by decide +kernel
theorem dX10_soon_1 : decode cX10_soon 1 = .ok (.getfield 33, 3) := by decide +kernel
theorem dX10_soon_4 : decode cX10_soon 4 = .ok (.iload_n 1, 1) := by decide +kernel
theorem dX10_soon_5 : decode cX10_soon 5 = .ok (.invokevirtual 138, 3) := by decide +kernel
theorem dX10_soon_8 : decode cX10_soon 8 = .ok (.ifCond .ne 5, 3) := by decide +kernel
theorem dX10_soon_11 : decode cX10_soon 11 = .ok (.iconst (-1), 1) := by decide +kernel
theorem dX10_soon_12 : decode cX10_soon 12 = .ok (.ireturn, 1) := by decide +kernel
theorem dX10_soon_13 : decode cX10_soon 13 = .ok (.iload_n 2, 1) := by decide +kernel
theorem dX10_soon_14 : decode cX10_soon 14 = .ok (.ifCond .lt 16, 3) := by decide +kernel
theorem dX10_soon_17 : decode cX10_soon 17 = .ok (.iload_n 2, 1) := by decide +kernel
theorem dX10_soon_18 : decode cX10_soon 18 = .ok (.bipush 64, 2) := by decide +kernel
theorem dX10_soon_20 : decode cX10_soon 20 = .ok (.if_icmp .ge 10, 3) := by decide +kernel
theorem dX10_soon_23 : decode cX10_soon 23 = .ok (.iload_n 3, 1) := by decide +kernel
theorem dX10_soon_24 : decode cX10_soon 24 = .ok (.invokestatic 211, 3) := by decide +kernel
theorem dX10_soon_27 : decode cX10_soon 27 = .ok (.ifCond .ne 6, 3) := by decide +kernel
theorem dX10_soon_30 : decode cX10_soon 30 = .ok (.bipush (-2), 2) := by decide +kernel
theorem dX10_soon_32 : decode cX10_soon 32 = .ok (.ireturn, 1) := by decide +kernel
theorem dX10_soon_33 : decode cX10_soon 33 = .ok (.aload_n 0, 1) := by decide +kernel
theorem dX10_soon_34 : decode cX10_soon 34 = .ok (.getfield 37, 3) := by decide +kernel
theorem dX10_soon_37 : decode cX10_soon 37 = .ok (.aload_n 0, 1) := by decide +kernel
theorem dX10_soon_38 : decode cX10_soon 38 = .ok (.getfield 33, 3) := by decide +kernel
theorem dX10_soon_41 : decode cX10_soon 41 = .ok (.invokevirtual 104, 3) := by decide +kernel
theorem dX10_soon_44 : decode cX10_soon 44 = .ok (.aload_n 0, 1) := by decide +kernel
theorem dX10_soon_45 : decode cX10_soon 45 = .ok (.getfield 57, 3) := by decide +kernel
theorem dX10_soon_48 : decode cX10_soon 48 = .ok (.aload_n 0, 1) := by decide +kernel
theorem dX10_soon_49 : decode cX10_soon 49 = .ok (.getfield 37, 3) := by decide +kernel
theorem dX10_soon_52 : decode cX10_soon 52 = .ok (.aload_n 0, 1) := by decide +kernel
theorem dX10_soon_53 : decode cX10_soon 53 = .ok (.getfield 26, 3) := by decide +kernel
theorem dX10_soon_56 : decode cX10_soon 56 = .ok (.iload_n 1, 1) := by decide +kernel
theorem dX10_soon_57 : decode cX10_soon 57 = .ok (.iload_n 2, 1) := by decide +kernel
theorem dX10_soon_58 : decode cX10_soon 58 = .ok (.invokevirtual 214, 3) := by decide +kernel
theorem dX10_soon_61 : decode cX10_soon 61 = .ok (.ifCond .ne 6, 3) := by decide +kernel
theorem dX10_soon_64 : decode cX10_soon 64 = .ok (.bipush (-9), 2) := by decide +kernel
theorem dX10_soon_66 : decode cX10_soon 66 = .ok (.ireturn, 1) := by decide +kernel
theorem dX10_soon_67 : decode cX10_soon 67 = .ok (.iload_n 3, 1) := by decide +kernel
theorem dX10_soon_68 : decode cX10_soon 68 = .ok (.ifCond .ne 13, 3) := by decide +kernel
theorem dX10_soon_71 : decode cX10_soon 71 = .ok (.aload_n 0, 1) := by decide +kernel
theorem dX10_soon_72 : decode cX10_soon 72 = .ok (.getfield 57, 3) := by decide +kernel
theorem dX10_soon_75 : decode cX10_soon 75 = .ok (.getfield 218, 3) := by decide +kernel
theorem dX10_soon_78 : decode cX10_soon 78 = .ok (.goto 10, 3) := by decide +kernel
theorem dX10_soon_81 : decode cX10_soon 81 = .ok (.aload_n 0, 1) := by decide +kernel
theorem dX10_soon_82 : decode cX10_soon 82 = .ok (.getfield 57, 3) := by decide +kernel
theorem dX10_soon_85 : decode cX10_soon 85 = .ok (.getfield 221, 3) := by decide +kernel
theorem dX10_soon_88 : decode cX10_soon 88 = .ok (.ireturn, 1) := by decide +kernel
theorem dX10_beneath_0 : decode cX10_beneath 0 = .ok (.iload_n 1, 1) := by decide +kernel
theorem dX10_beneath_1 : decode cX10_beneath 1 = .ok (.invokestatic 211, 3) := by decide +kernel
theorem dX10_beneath_4 : decode cX10_beneath 4 = .ok (.ifCond .ne 6, 3) := by decide +kernel
theorem dX10_beneath_7 : decode cX10_beneath 7 = .ok (.bipush (-2), 2) := by decide +kernel
theorem dX10_beneath_9 : decode cX10_beneath 9 = .ok (.ireturn, 1) := by decide +kernel
theorem dX10_beneath_10 : decode cX10_beneath 10 = .ok (.aload_n 0, 1) := by decide +kernel
theorem dX10_beneath_11 : decode cX10_beneath 11 = .ok (.getfield 64, 3) := by decide +kernel
theorem dX10_beneath_14 : decode cX10_beneath 14 = .ok (.aload_n 0, 1) := by decide +kernel
theorem dX10_beneath_15 : decode cX10_beneath 15 = .ok (.getfield 26, 3) := by decide +kernel
theorem dX10_beneath_18 : decode cX10_beneath 18 = .ok (.invokevirtual 224, 3) := by decide +kernel
theorem dX10_beneath_21 : decode cX10_beneath 21 = .ok (.iload_n 1, 1) := by decide +kernel
theorem dX10_beneath_22 : decode cX10_beneath 22 = .ok (.ifCond .ne 11, 3) := by decide +kernel
theorem dX10_beneath_25 : decode cX10_beneath 25 = .ok (.aload_n 0, 1) := by decide +kernel
theorem dX10_beneath_26 : decode cX10_beneath 26 = .ok (.getfield 64, 3) := by decide +kernel
theorem dX10_beneath_29 : decode cX10_beneath 29 = .ok (.invokevirtual 227, 3) := by decide +kernel
theorem dX10_beneath_32 : decode cX10_beneath 32 = .ok (.ireturn, 1) := by decide +kernel
theorem dX10_beneath_33 : decode cX10_beneath 33 = .ok (.aload_n 0, 1) := by decide +kernel
theorem dX10_beneath_34 : decode cX10_beneath 34 = .ok (.getfield 64, 3) := by decide +kernel
theorem dX10_beneath_37 : decode cX10_beneath 37 = .ok (.invokevirtual 227, 3) := by decide +kernel
theorem dX10_beneath_40 : decode cX10_beneath 40 = .ok (.ifCond .ne 8, 3) := by decide +kernel
theorem dX10_beneath_43 : decode cX10_beneath 43 = .ok (.bipush (-9), 2) := by decide +kernel
theorem dX10_beneath_45 : decode cX10_beneath 45 = .ok (.goto 10, 3) := by decide +kernel
theorem dX10_beneath_48 : decode cX10_beneath 48 = .ok (.aload_n 0, 1) := by decide +kernel
theorem dX10_beneath_49 : decode cX10_beneath 49 = .ok (.getfield 64, 3) := by decide +kernel
theorem dX10_beneath_52 : decode cX10_beneath 52 = .ok (.invokevirtual 230, 3) := by decide +kernel
theorem dX10_beneath_55 : decode cX10_beneath 55 = .ok (.ireturn, 1) := by decide +kernel
theorem dX10_judge_0 : decode cX10_judge 0 = .ok (.iload_n 1, 1) := by decide +kernel
theorem dX10_judge_1 : decode cX10_judge 1 = .ok (.iconst 1, 1) := by decide +kernel
theorem dX10_judge_2 : decode cX10_judge 2 = .ok (.if_icmp .lt 24, 3) := by decide +kernel
theorem dX10_judge_5 : decode cX10_judge 5 = .ok (.iload_n 1, 1) := by decide +kernel
theorem dX10_judge_6 : decode cX10_judge 6 = .ok (.iconst 4, 1) := by decide +kernel
theorem dX10_judge_7 : decode cX10_judge 7 = .ok (.if_icmp .gt 19, 3) := by decide +kernel
theorem dX10_judge_10 : decode cX10_judge 10 = .ok (.lload_n 2, 1) := by decide +kernel
theorem dX10_judge_11 : decode cX10_judge 11 = .ok (.lconst 0, 1) := by decide +kernel
theorem dX10_judge_12 : decode cX10_judge 12 = .ok (.lcmp, 1) := by decide +kernel
theorem dX10_judge_13 : decode cX10_judge 13 = .ok (.ifCond .lt 13, 3) := by decide +kernel
theorem dX10_judge_16 : decode cX10_judge 16 = .ok (.lload_n 2, 1) := by decide +kernel
theorem dX10_judge_17 : decode cX10_judge 17 = .ok (.getstatic 233, 3) := by decide +kernel
theorem dX10_judge_20 : decode cX10_judge 20 = .ok (.iload_n 1, 1) := by decide +kernel
theorem dX10_judge_21 : decode cX10_judge 21 = .ok (.laload, 1) := by decide +kernel
theorem dX10_judge_22 : decode cX10_judge 22 = .ok (.lcmp, 1) := by decide +kernel
theorem dX10_judge_23 : decode cX10_judge 23 = .ok (.ifCond .lt 6, 3) := by decide +kernel
theorem dX10_judge_26 : decode cX10_judge 26 = .ok (.bipush (-2), 2) := by decide +kernel
theorem dX10_judge_28 : decode cX10_judge 28 = .ok (.ireturn, 1) := by decide +kernel
theorem dX10_judge_29 : decode cX10_judge 29 = .ok (.aload_n 0, 1) := by decide +kernel
theorem dX10_judge_30 : decode cX10_judge 30 = .ok (.getfield 37, 3) := by decide +kernel
theorem dX10_judge_33 : decode cX10_judge 33 = .ok (.aload_n 0, 1) := by decide +kernel
theorem dX10_judge_34 : decode cX10_judge 34 = .ok (.getfield 33, 3) := by decide +kernel
theorem dX10_judge_37 : decode cX10_judge 37 = .ok (.invokevirtual 104, 3) := by decide +kernel
theorem dX10_judge_40 : decode cX10_judge 40 = .ok (.iconst 0, 1) := by decide +kernel
theorem dX10_judge_41 : decode cX10_judge 41 = .ok (.istore 4, 2) := by decide +kernel
theorem dX10_judge_43 : decode cX10_judge 43 = .ok (.iload 4, 2) := by decide +kernel
theorem dX10_judge_45 : decode cX10_judge 45 = .ok (.iload_n 1, 1) := by decide +kernel
theorem dX10_judge_46 : decode cX10_judge 46 = .ok (.if_icmp .ge 56, 3) := by decide +kernel
theorem dX10_judge_49 : decode cX10_judge 49 = .ok (.lload_n 2, 1) := by decide +kernel
theorem dX10_judge_50 : decode cX10_judge 50 = .ok (.getstatic 233, 3) := by decide +kernel
theorem dX10_judge_53 : decode cX10_judge 53 = .ok (.iload_n 1, 1) := by decide +kernel
theorem dX10_judge_54 : decode cX10_judge 54 = .ok (.iconst 1, 1) := by decide +kernel
theorem dX10_judge_55 : decode cX10_judge 55 = .ok (.isub, 1) := by decide +kernel
theorem dX10_judge_56 : decode cX10_judge 56 = .ok (.iload 4, 2) := by decide +kernel
theorem dX10_judge_58 : decode cX10_judge 58 = .ok (.isub, 1) := by decide +kernel
theorem dX10_judge_59 : decode cX10_judge 59 = .ok (.laload, 1) := by decide +kernel
theorem dX10_judge_60 : decode cX10_judge 60 = .ok (.ldiv, 1) := by decide +kernel
theorem dX10_judge_61 : decode cX10_judge 61 = .ok (.ldc2_w 237, 3) := by decide +kernel
theorem dX10_judge_64 : decode cX10_judge 64 = .ok (.lrem, 1) := by decide +kernel
theorem dX10_judge_65 : decode cX10_judge 65 = .ok (.l2i, 1) := by decide +kernel
theorem dX10_judge_66 : decode cX10_judge 66 = .ok (.istore 5, 2) := by decide +kernel
theorem dX10_judge_68 : decode cX10_judge 68 = .ok (.aload_n 0, 1) := by decide +kernel
theorem dX10_judge_69 : decode cX10_judge 69 = .ok (.iload 5, 2) := by decide +kernel
theorem dX10_judge_71 : decode cX10_judge 71 = .ok (.bipush 100, 2) := by decide +kernel
theorem dX10_judge_73 : decode cX10_judge 73 = .ok (.idiv, 1) := by decide +kernel
theorem dX10_judge_74 : decode cX10_judge 74 = .ok (.iload 5, 2) := by decide +kernel
theorem dX10_judge_76 : decode cX10_judge 76 = .ok (.bipush 10, 2) := by decide +kernel
theorem dX10_judge_78 : decode cX10_judge 78 = .ok (.idiv, 1) := by decide +kernel
theorem dX10_judge_79 : decode cX10_judge 79 = .ok (.bipush 10, 2) := by decide +kernel
theorem dX10_judge_81 : decode cX10_judge 81 = .ok (.irem, 1) := by decide +kernel
theorem dX10_judge_82 : decode cX10_judge 82 = .ok (.iload 5, 2) := by decide +kernel
theorem dX10_judge_84 : decode cX10_judge 84 = .ok (.bipush 10, 2) := by decide +kernel
theorem dX10_judge_86 : decode cX10_judge 86 = .ok (.irem, 1) := by decide +kernel
theorem dX10_judge_87 : decode cX10_judge 87 = .ok (.invokevirtual 239, 3) := by decide +kernel
theorem dX10_judge_90 : decode cX10_judge 90 = .ok (.ifCond .ne 6, 3) := by decide +kernel
theorem dX10_judge_93 : decode cX10_judge 93 = .ok (.iload 4, 2) := by decide +kernel
theorem dX10_judge_95 : decode cX10_judge 95 = .ok (.ireturn, 1) := by decide +kernel
theorem dX10_judge_96 : decode cX10_judge 96 = .ok (.iinc 4 1, 3) := by decide +kernel
theorem dX10_judge_99 : decode cX10_judge 99 = .ok (.goto (-56), 3) := by decide +kernel
theorem dX10_judge_102 : decode cX10_judge 102 = .ok (.bipush (-9), 2) := by decide +kernel
theorem dX10_judge_104 : decode cX10_judge 104 = .ok (.ireturn, 1) := by decide +kernel
theorem dX10_canBe_0 : decode cX10_canBe 0 = .ok (.iload_n 1, 1) := by decide +kernel
theorem dX10_canBe_1 : decode cX10_canBe 1 = .ok (.tableswitch 176 0 5 #[39, 63, 73, 83, 104, 146], 39) := by decide +kernel
theorem dX10_canBe_40 : decode cX10_canBe 40 = .ok (.iload_n 2, 1) := by decide +kernel
theorem dX10_canBe_41 : decode cX10_canBe 41 = .ok (.ifCond .ne 7, 3) := by decide +kernel
theorem dX10_canBe_44 : decode cX10_canBe 44 = .ok (.iload_n 3, 1) := by decide +kernel
theorem dX10_canBe_45 : decode cX10_canBe 45 = .ok (.ifCond .eq 5, 3) := by decide +kernel
theorem dX10_canBe_48 : decode cX10_canBe 48 = .ok (.iconst 0, 1) := by decide +kernel
theorem dX10_canBe_49 : decode cX10_canBe 49 = .ok (.ireturn, 1) := by decide +kernel
theorem dX10_canBe_50 : decode cX10_canBe 50 = .ok (.aload_n 0, 1) := by decide +kernel
theorem dX10_canBe_51 : decode cX10_canBe 51 = .ok (.getfield 37, 3) := by decide +kernel
theorem dX10_canBe_54 : decode cX10_canBe 54 = .ok (.aload_n 0, 1) := by decide +kernel
theorem dX10_canBe_55 : decode cX10_canBe 55 = .ok (.getfield 26, 3) := by decide +kernel
theorem dX10_canBe_58 : decode cX10_canBe 58 = .ok (.iconst 0, 1) := by decide +kernel
theorem dX10_canBe_59 : decode cX10_canBe 59 = .ok (.invokevirtual 167, 3) := by decide +kernel
theorem dX10_canBe_62 : decode cX10_canBe 62 = .ok (.iconst 1, 1) := by decide +kernel
theorem dX10_canBe_63 : decode cX10_canBe 63 = .ok (.ireturn, 1) := by decide +kernel
theorem dX10_canBe_64 : decode cX10_canBe 64 = .ok (.aload_n 0, 1) := by decide +kernel
theorem dX10_canBe_65 : decode cX10_canBe 65 = .ok (.getfield 37, 3) := by decide +kernel
theorem dX10_canBe_68 : decode cX10_canBe 68 = .ok (.iload_n 2, 1) := by decide +kernel
theorem dX10_canBe_69 : decode cX10_canBe 69 = .ok (.iload_n 3, 1) := by decide +kernel
theorem dX10_canBe_70 : decode cX10_canBe 70 = .ok (.invokevirtual 243, 3) := by decide +kernel
theorem dX10_canBe_73 : decode cX10_canBe 73 = .ok (.ireturn, 1) := by decide +kernel
theorem dX10_canBe_74 : decode cX10_canBe 74 = .ok (.aload_n 0, 1) := by decide +kernel
theorem dX10_canBe_75 : decode cX10_canBe 75 = .ok (.getfield 37, 3) := by decide +kernel
theorem dX10_canBe_78 : decode cX10_canBe 78 = .ok (.iload_n 2, 1) := by decide +kernel
theorem dX10_canBe_79 : decode cX10_canBe 79 = .ok (.iload_n 3, 1) := by decide +kernel
theorem dX10_canBe_80 : decode cX10_canBe 80 = .ok (.invokevirtual 246, 3) := by decide +kernel
theorem dX10_canBe_83 : decode cX10_canBe 83 = .ok (.ireturn, 1) := by decide +kernel
theorem dX10_canBe_84 : decode cX10_canBe 84 = .ok (.iload_n 2, 1) := by decide +kernel
theorem dX10_canBe_85 : decode cX10_canBe 85 = .ok (.ifCond .ne 18, 3) := by decide +kernel
theorem dX10_canBe_88 : decode cX10_canBe 88 = .ok (.aload_n 0, 1) := by decide +kernel
theorem dX10_canBe_89 : decode cX10_canBe 89 = .ok (.getfield 37, 3) := by decide +kernel
theorem dX10_canBe_92 : decode cX10_canBe 92 = .ok (.iload_n 3, 1) := by decide +kernel
theorem dX10_canBe_93 : decode cX10_canBe 93 = .ok (.invokevirtual 249, 3) := by decide +kernel
theorem dX10_canBe_96 : decode cX10_canBe 96 = .ok (.ifCond .eq 7, 3) := by decide +kernel
theorem dX10_canBe_99 : decode cX10_canBe 99 = .ok (.iconst 1, 1) := by decide +kernel
theorem dX10_canBe_100 : decode cX10_canBe 100 = .ok (.goto 4, 3) := by decide +kernel
theorem dX10_canBe_103 : decode cX10_canBe 103 = .ok (.iconst 0, 1) := by decide +kernel
theorem dX10_canBe_104 : decode cX10_canBe 104 = .ok (.ireturn, 1) := by decide +kernel
theorem dX10_canBe_105 : decode cX10_canBe 105 = .ok (.aload_n 0, 1) := by decide +kernel
theorem dX10_canBe_106 : decode cX10_canBe 106 = .ok (.getfield 37, 3) := by decide +kernel
theorem dX10_canBe_109 : decode cX10_canBe 109 = .ok (.iload_n 2, 1) := by decide +kernel
theorem dX10_canBe_110 : decode cX10_canBe 110 = .ok (.invokevirtual 138, 3) := by decide +kernel
theorem dX10_canBe_113 : decode cX10_canBe 113 = .ok (.ifCond .eq 32, 3) := by decide +kernel
theorem dX10_canBe_116 : decode cX10_canBe 116 = .ok (.iload_n 3, 1) := by decide +kernel
theorem dX10_canBe_117 : decode cX10_canBe 117 = .ok (.invokestatic 252, 3) := by decide +kernel
theorem dX10_canBe_120 : decode cX10_canBe 120 = .ok (.ifCond .eq 25, 3) := by decide +kernel
theorem dX10_canBe_123 : decode cX10_canBe 123 = .ok (.aload_n 0, 1) := by decide +kernel
theorem dX10_canBe_124 : decode cX10_canBe 124 = .ok (.getfield 37, 3) := by decide +kernel
theorem dX10_canBe_127 : decode cX10_canBe 127 = .ok (.getfield 143, 3) := by decide +kernel
theorem dX10_canBe_130 : decode cX10_canBe 130 = .ok (.iload_n 2, 1) := by decide +kernel
theorem dX10_canBe_131 : decode cX10_canBe 131 = .ok (.iaload, 1) := by decide +kernel
theorem dX10_canBe_132 : decode cX10_canBe 132 = .ok (.iconst 1, 1) := by decide +kernel
theorem dX10_canBe_133 : decode cX10_canBe 133 = .ok (.iload_n 3, 1) := by decide +kernel
theorem dX10_canBe_134 : decode cX10_canBe 134 = .ok (.iconst 1, 1) := by decide +kernel
theorem dX10_canBe_135 : decode cX10_canBe 135 = .ok (.isub, 1) := by decide +kernel
theorem dX10_canBe_136 : decode cX10_canBe 136 = .ok (.ishl, 1) := by decide +kernel
theorem dX10_canBe_137 : decode cX10_canBe 137 = .ok (.iand, 1) := by decide +kernel
theorem dX10_canBe_138 : decode cX10_canBe 138 = .ok (.ifCond .eq 7, 3) := by decide +kernel
theorem dX10_canBe_141 : decode cX10_canBe 141 = .ok (.iconst 1, 1) := by decide +kernel
theorem dX10_canBe_142 : decode cX10_canBe 142 = .ok (.goto 4, 3) := by decide +kernel
theorem dX10_canBe_145 : decode cX10_canBe 145 = .ok (.iconst 0, 1) := by decide +kernel
theorem dX10_canBe_146 : decode cX10_canBe 146 = .ok (.ireturn, 1) := by decide +kernel
theorem dX10_canBe_147 : decode cX10_canBe 147 = .ok (.aload_n 0, 1) := by decide +kernel
theorem dX10_canBe_148 : decode cX10_canBe 148 = .ok (.getfield 37, 3) := by decide +kernel
theorem dX10_canBe_151 : decode cX10_canBe 151 = .ok (.iload_n 2, 1) := by decide +kernel
theorem dX10_canBe_152 : decode cX10_canBe 152 = .ok (.invokevirtual 138, 3) := by decide +kernel
theorem dX10_canBe_155 : decode cX10_canBe 155 = .ok (.ifCond .eq 20, 3) := by decide +kernel
theorem dX10_canBe_158 : decode cX10_canBe 158 = .ok (.aload_n 0, 1) := by decide +kernel
theorem dX10_canBe_159 : decode cX10_canBe 159 = .ok (.getfield 37, 3) := by decide +kernel
theorem dX10_canBe_162 : decode cX10_canBe 162 = .ok (.getfield 146, 3) := by decide +kernel
theorem dX10_canBe_165 : decode cX10_canBe 165 = .ok (.iload_n 2, 1) := by decide +kernel
theorem dX10_canBe_166 : decode cX10_canBe 166 = .ok (.iaload, 1) := by decide +kernel
theorem dX10_canBe_167 : decode cX10_canBe 167 = .ok (.iload_n 3, 1) := by decide +kernel
theorem dX10_canBe_168 : decode cX10_canBe 168 = .ok (.if_icmp .lt 7, 3) := by decide +kernel
theorem dX10_canBe_171 : decode cX10_canBe 171 = .ok (.iconst 1, 1) := by decide +kernel
theorem dX10_canBe_172 : decode cX10_canBe 172 = .ok (.goto 4, 3) := by decide +kernel
theorem dX10_canBe_175 : decode cX10_canBe 175 = .ok (.iconst 0, 1) := by decide +kernel
theorem dX10_canBe_176 : decode cX10_canBe 176 = .ok (.ireturn, 1) := by decide +kernel
theorem dX10_canBe_177 : decode cX10_canBe 177 = .ok (.iconst 0, 1) := by decide +kernel
theorem dX10_canBe_178 : decode cX10_canBe 178 = .ok (.ireturn, 1) := by decide +kernel
theorem dX10_knew_0 : decode cX10_knew 0 = .ok (.iload_n 1, 1) := by decide +kernel
theorem dX10_knew_1 : decode cX10_knew 1 = .ok (.invokestatic 252, 3) := by decide +kernel
theorem dX10_knew_4 : decode cX10_knew 4 = .ok (.ifCond .eq 12, 3) := by decide +kernel
theorem dX10_knew_7 : decode cX10_knew 7 = .ok (.iload_n 2, 1) := by decide +kernel
theorem dX10_knew_8 : decode cX10_knew 8 = .ok (.ifCond .lt 8, 3) := by decide +kernel
theorem dX10_knew_11 : decode cX10_knew 11 = .ok (.iload_n 2, 1) := by decide +kernel
theorem dX10_knew_12 : decode cX10_knew 12 = .ok (.iconst 1, 1) := by decide +kernel
theorem dX10_knew_13 : decode cX10_knew 13 = .ok (.if_icmp .le 6, 3) := by decide +kernel
theorem dX10_knew_16 : decode cX10_knew 16 = .ok (.bipush (-2), 2) := by decide +kernel
theorem dX10_knew_18 : decode cX10_knew 18 = .ok (.ireturn, 1) := by decide +kernel
theorem dX10_knew_19 : decode cX10_knew 19 = .ok (.aload_n 0, 1) := by decide +kernel
theorem dX10_knew_20 : decode cX10_knew 20 = .ok (.getfield 71, 3) := by decide +kernel
theorem dX10_knew_23 : decode cX10_knew 23 = .ok (.getfield 255, 3) := by decide +kernel
theorem dX10_knew_26 : decode cX10_knew 26 = .ok (.bipush 6, 2) := by decide +kernel
theorem dX10_knew_28 : decode cX10_knew 28 = .ok (.if_icmp .lt 6, 3) := by decide +kernel
theorem dX10_knew_31 : decode cX10_knew 31 = .ok (.bipush (-4), 2) := by decide +kernel
theorem dX10_knew_33 : decode cX10_knew 33 = .ok (.ireturn, 1) := by decide +kernel
theorem dX10_knew_34 : decode cX10_knew 34 = .ok (.aload_n 0, 1) := by decide +kernel
theorem dX10_knew_35 : decode cX10_knew 35 = .ok (.getfield 71, 3) := by decide +kernel
theorem dX10_knew_38 : decode cX10_knew 38 = .ok (.iconst 1, 1) := by decide +kernel
theorem dX10_knew_39 : decode cX10_knew 39 = .ok (.iload_n 1, 1) := by decide +kernel
theorem dX10_knew_40 : decode cX10_knew 40 = .ok (.iconst 1, 1) := by decide +kernel
theorem dX10_knew_41 : decode cX10_knew 41 = .ok (.isub, 1) := by decide +kernel
theorem dX10_knew_42 : decode cX10_knew 42 = .ok (.ishl, 1) := by decide +kernel
theorem dX10_knew_43 : decode cX10_knew 43 = .ok (.iload_n 2, 1) := by decide +kernel
theorem dX10_knew_44 : decode cX10_knew 44 = .ok (.iconst 1, 1) := by decide +kernel
theorem dX10_knew_45 : decode cX10_knew 45 = .ok (.if_icmp .ne 7, 3) := by decide +kernel
theorem dX10_knew_48 : decode cX10_knew 48 = .ok (.iconst 1, 1) := by decide +kernel
theorem dX10_knew_49 : decode cX10_knew 49 = .ok (.goto 4, 3) := by decide +kernel
theorem dX10_knew_52 : decode cX10_knew 52 = .ok (.iconst 0, 1) := by decide +kernel
theorem dX10_knew_53 : decode cX10_knew 53 = .ok (.invokevirtual 256, 3) := by decide +kernel
theorem dX10_knew_56 : decode cX10_knew 56 = .ok (.aload_n 0, 1) := by decide +kernel
theorem dX10_knew_57 : decode cX10_knew 57 = .ok (.getfield 71, 3) := by decide +kernel
theorem dX10_knew_60 : decode cX10_knew 60 = .ok (.getfield 255, 3) := by decide +kernel
theorem dX10_knew_63 : decode cX10_knew 63 = .ok (.ireturn, 1) := by decide +kernel
theorem dX10_unknew_0 : decode cX10_unknew 0 = .ok (.aload_n 0, 1) := by decide +kernel
theorem dX10_unknew_1 : decode cX10_unknew 1 = .ok (.getfield 71, 3) := by decide +kernel
theorem dX10_unknew_4 : decode cX10_unknew 4 = .ok (.getfield 255, 3) := by decide +kernel
theorem dX10_unknew_7 : decode cX10_unknew 7 = .ok (.istore_n 1, 1) := by decide +kernel
theorem dX10_unknew_8 : decode cX10_unknew 8 = .ok (.aload_n 0, 1) := by decide +kernel
theorem dX10_unknew_9 : decode cX10_unknew 9 = .ok (.getfield 71, 3) := by decide +kernel
theorem dX10_unknew_12 : decode cX10_unknew 12 = .ok (.invokevirtual 259, 3) := by decide +kernel
theorem dX10_unknew_15 : decode cX10_unknew 15 = .ok (.iload_n 1, 1) := by decide +kernel
theorem dX10_unknew_16 : decode cX10_unknew 16 = .ok (.ireturn, 1) := by decide +kernel
theorem dX10_lay_0 : decode cX10_lay 0 = .ok (.iload_n 1, 1) := by decide +kernel
theorem dX10_lay_1 : decode cX10_lay 1 = .ok (.invokestatic 211, 3) := by decide +kernel
theorem dX10_lay_4 : decode cX10_lay 4 = .ok (.ifCond .ne 6, 3) := by decide +kernel
theorem dX10_lay_7 : decode cX10_lay 7 = .ok (.bipush (-2), 2) := by decide +kernel
theorem dX10_lay_9 : decode cX10_lay 9 = .ok (.ireturn, 1) := by decide +kernel
theorem dX10_lay_10 : decode cX10_lay 10 = .ok (.aload_n 0, 1) := by decide +kernel
theorem dX10_lay_11 : decode cX10_lay 11 = .ok (.getfield 71, 3) := by decide +kernel
theorem dX10_lay_14 : decode cX10_lay 14 = .ok (.aload_n 0, 1) := by decide +kernel
theorem dX10_lay_15 : decode cX10_lay 15 = .ok (.getfield 26, 3) := by decide +kernel
theorem dX10_lay_18 : decode cX10_lay 18 = .ok (.invokevirtual 260, 3) := by decide +kernel
theorem dX10_lay_21 : decode cX10_lay 21 = .ok (.iload_n 1, 1) := by decide +kernel
theorem dX10_lay_22 : decode cX10_lay 22 = .ok (.ifCond .ne 13, 3) := by decide +kernel
theorem dX10_lay_25 : decode cX10_lay 25 = .ok (.aload_n 0, 1) := by decide +kernel
theorem dX10_lay_26 : decode cX10_lay 26 = .ok (.getfield 71, 3) := by decide +kernel
theorem dX10_lay_29 : decode cX10_lay 29 = .ok (.getfield 261, 3) := by decide +kernel
theorem dX10_lay_32 : decode cX10_lay 32 = .ok (.goto 10, 3) := by decide +kernel
theorem dX10_lay_35 : decode cX10_lay 35 = .ok (.aload_n 0, 1) := by decide +kernel
theorem dX10_lay_36 : decode cX10_lay 36 = .ok (.getfield 71, 3) := by decide +kernel
theorem dX10_lay_39 : decode cX10_lay 39 = .ok (.getfield 264, 3) := by decide +kernel
theorem dX10_lay_42 : decode cX10_lay 42 = .ok (.ireturn, 1) := by decide +kernel
theorem dX10_share_0 : decode cX10_share 0 = .ok (.aload_n 0, 1) := by decide +kernel
theorem dX10_share_1 : decode cX10_share 1 = .ok (.getfield 33, 3) := by decide +kernel
theorem dX10_share_4 : decode cX10_share 4 = .ok (.iload_n 1, 1) := by decide +kernel
theorem dX10_share_5 : decode cX10_share 5 = .ok (.invokevirtual 138, 3) := by decide +kernel
theorem dX10_share_8 : decode cX10_share 8 = .ok (.ifCond .ne 5, 3) := by decide +kernel
theorem dX10_share_11 : decode cX10_share 11 = .ok (.iconst (-1), 1) := by decide +kernel
theorem dX10_share_12 : decode cX10_share 12 = .ok (.ireturn, 1) := by decide +kernel
theorem dX10_share_13 : decode cX10_share 13 = .ok (.iconst 0, 1) := by decide +kernel
theorem dX10_share_14 : decode cX10_share 14 = .ok (.istore_n 3, 1) := by decide +kernel
theorem dX10_share_15 : decode cX10_share 15 = .ok (.iconst 0, 1) := by decide +kernel
theorem dX10_share_16 : decode cX10_share 16 = .ok (.istore 4, 2) := by decide +kernel
theorem dX10_share_18 : decode cX10_share 18 = .ok (.iload 4, 2) := by decide +kernel
theorem dX10_share_20 : decode cX10_share 20 = .ok (.bipush 6, 2) := by decide +kernel
theorem dX10_share_22 : decode cX10_share 22 = .ok (.if_icmp .ge 52, 3) := by decide +kernel
theorem dX10_share_25 : decode cX10_share 25 = .ok (.aload_n 0, 1) := by decide +kernel
theorem dX10_share_26 : decode cX10_share 26 = .ok (.getfield 33, 3) := by decide +kernel
theorem dX10_share_29 : decode cX10_share 29 = .ok (.iconst 1, 1) := by decide +kernel
theorem dX10_share_30 : decode cX10_share 30 = .ok (.iload 4, 2) := by decide +kernel
theorem dX10_share_32 : decode cX10_share 32 = .ok (.ishl, 1) := by decide +kernel
theorem dX10_share_33 : decode cX10_share 33 = .ok (.invokevirtual 267, 3) := by decide +kernel
theorem dX10_share_36 : decode cX10_share 36 = .ok (.istore 5, 2) := by decide +kernel
theorem dX10_share_38 : decode cX10_share 38 = .ok (.aload_n 0, 1) := by decide +kernel
theorem dX10_share_39 : decode cX10_share 39 = .ok (.getfield 33, 3) := by decide +kernel
theorem dX10_share_42 : decode cX10_share 42 = .ok (.getfield 143, 3) := by decide +kernel
theorem dX10_share_45 : decode cX10_share 45 = .ok (.iload_n 1, 1) := by decide +kernel
theorem dX10_share_46 : decode cX10_share 46 = .ok (.iaload, 1) := by decide +kernel
theorem dX10_share_47 : decode cX10_share 47 = .ok (.iconst 1, 1) := by decide +kernel
theorem dX10_share_48 : decode cX10_share 48 = .ok (.iload 4, 2) := by decide +kernel
theorem dX10_share_50 : decode cX10_share 50 = .ok (.ishl, 1) := by decide +kernel
theorem dX10_share_51 : decode cX10_share 51 = .ok (.iand, 1) := by decide +kernel
theorem dX10_share_52 : decode cX10_share 52 = .ok (.ifCond .eq 16, 3) := by decide +kernel
theorem dX10_share_55 : decode cX10_share 55 = .ok (.iload 5, 2) := by decide +kernel
theorem dX10_share_57 : decode cX10_share 57 = .ok (.ifCond .le 11, 3) := by decide +kernel
theorem dX10_share_60 : decode cX10_share 60 = .ok (.iload_n 3, 1) := by decide +kernel
theorem dX10_share_61 : decode cX10_share 61 = .ok (.bipush 12, 2) := by decide +kernel
theorem dX10_share_63 : decode cX10_share 63 = .ok (.iload 5, 2) := by decide +kernel
theorem dX10_share_65 : decode cX10_share 65 = .ok (.idiv, 1) := by decide +kernel
theorem dX10_share_66 : decode cX10_share 66 = .ok (.iadd, 1) := by decide +kernel
theorem dX10_share_67 : decode cX10_share 67 = .ok (.istore_n 3, 1) := by decide +kernel
theorem dX10_share_68 : decode cX10_share 68 = .ok (.iinc 4 1, 3) := by decide +kernel
theorem dX10_share_71 : decode cX10_share 71 = .ok (.goto (-53), 3) := by decide +kernel
theorem dX10_share_74 : decode cX10_share 74 = .ok (.iload_n 3, 1) := by decide +kernel
theorem dX10_share_75 : decode cX10_share 75 = .ok (.bipush 12, 2) := by decide +kernel
theorem dX10_share_77 : decode cX10_share 77 = .ok (.iload_n 2, 1) := by decide +kernel
theorem dX10_share_78 : decode cX10_share 78 = .ok (.invokestatic 270, 3) := by decide +kernel
theorem dX10_share_81 : decode cX10_share 81 = .ok (.ireturn, 1) := by decide +kernel
theorem dX10_rests_0 : decode cX10_rests 0 = .ok (.aload_n 0, 1) := by decide +kernel
theorem dX10_rests_1 : decode cX10_rests 1 = .ok (.getfield 33, 3) := by decide +kernel
theorem dX10_rests_4 : decode cX10_rests 4 = .ok (.iload_n 1, 1) := by decide +kernel
theorem dX10_rests_5 : decode cX10_rests 5 = .ok (.invokevirtual 138, 3) := by decide +kernel
theorem dX10_rests_8 : decode cX10_rests 8 = .ok (.ifCond .eq 14, 3) := by decide +kernel
theorem dX10_rests_11 : decode cX10_rests 11 = .ok (.aload_n 0, 1) := by decide +kernel
theorem dX10_rests_12 : decode cX10_rests 12 = .ok (.getfield 33, 3) := by decide +kernel
theorem dX10_rests_15 : decode cX10_rests 15 = .ok (.iload_n 2, 1) := by decide +kernel
theorem dX10_rests_16 : decode cX10_rests 16 = .ok (.invokevirtual 138, 3) := by decide +kernel
theorem dX10_rests_19 : decode cX10_rests 19 = .ok (.ifCond .ne 5, 3) := by decide +kernel
theorem dX10_rests_22 : decode cX10_rests 22 = .ok (.iconst (-1), 1) := by decide +kernel
theorem dX10_rests_23 : decode cX10_rests 23 = .ok (.ireturn, 1) := by decide +kernel
theorem dX10_rests_24 : decode cX10_rests 24 = .ok (.iload_n 1, 1) := by decide +kernel
theorem dX10_rests_25 : decode cX10_rests 25 = .ok (.iload_n 2, 1) := by decide +kernel
theorem dX10_rests_26 : decode cX10_rests 26 = .ok (.if_icmp .eq 10, 3) := by decide +kernel
theorem dX10_rests_29 : decode cX10_rests 29 = .ok (.iload_n 3, 1) := by decide +kernel
theorem dX10_rests_30 : decode cX10_rests 30 = .ok (.invokestatic 211, 3) := by decide +kernel
theorem dX10_rests_33 : decode cX10_rests 33 = .ok (.ifCond .ne 6, 3) := by decide +kernel
theorem dX10_rests_36 : decode cX10_rests 36 = .ok (.bipush (-2), 2) := by decide +kernel
theorem dX10_rests_38 : decode cX10_rests 38 = .ok (.ireturn, 1) := by decide +kernel
theorem dX10_rests_39 : decode cX10_rests 39 = .ok (.aload_n 0, 1) := by decide +kernel
theorem dX10_rests_40 : decode cX10_rests 40 = .ok (.getfield 78, 3) := by decide +kernel
theorem dX10_rests_43 : decode cX10_rests 43 = .ok (.aload_n 0, 1) := by decide +kernel
theorem dX10_rests_44 : decode cX10_rests 44 = .ok (.getfield 33, 3) := by decide +kernel
theorem dX10_rests_47 : decode cX10_rests 47 = .ok (.aload_n 0, 1) := by decide +kernel
theorem dX10_rests_48 : decode cX10_rests 48 = .ok (.getfield 37, 3) := by decide +kernel
theorem dX10_rests_51 : decode cX10_rests 51 = .ok (.aload_n 0, 1) := by decide +kernel
theorem dX10_rests_52 : decode cX10_rests 52 = .ok (.getfield 26, 3) := by decide +kernel
theorem dX10_rests_55 : decode cX10_rests 55 = .ok (.iload_n 1, 1) := by decide +kernel
theorem dX10_rests_56 : decode cX10_rests 56 = .ok (.iload_n 2, 1) := by decide +kernel
theorem dX10_rests_57 : decode cX10_rests 57 = .ok (.invokevirtual 274, 3) := by decide +kernel
theorem dX10_rests_60 : decode cX10_rests 60 = .ok (.iload_n 3, 1) := by decide +kernel
theorem dX10_rests_61 : decode cX10_rests 61 = .ok (.ifCond .ne 13, 3) := by decide +kernel
theorem dX10_rests_64 : decode cX10_rests 64 = .ok (.aload_n 0, 1) := by decide +kernel
theorem dX10_rests_65 : decode cX10_rests 65 = .ok (.getfield 78, 3) := by decide +kernel
theorem dX10_rests_68 : decode cX10_rests 68 = .ok (.getfield 278, 3) := by decide +kernel
theorem dX10_rests_71 : decode cX10_rests 71 = .ok (.goto 10, 3) := by decide +kernel
theorem dX10_rests_74 : decode cX10_rests 74 = .ok (.aload_n 0, 1) := by decide +kernel
theorem dX10_rests_75 : decode cX10_rests 75 = .ok (.getfield 78, 3) := by decide +kernel
theorem dX10_rests_78 : decode cX10_rests 78 = .ok (.getfield 279, 3) := by decide +kernel
theorem dX10_rests_81 : decode cX10_rests 81 = .ok (.ireturn, 1) := by decide +kernel
theorem dX10_cold_0 : decode cX10_cold 0 = .ok (.aload_n 0, 1) := by decide +kernel
theorem dX10_cold_1 : decode cX10_cold 1 = .ok (.getfield 33, 3) := by decide +kernel
theorem dX10_cold_4 : decode cX10_cold 4 = .ok (.iload_n 1, 1) := by decide +kernel
theorem dX10_cold_5 : decode cX10_cold 5 = .ok (.invokevirtual 138, 3) := by decide +kernel
theorem dX10_cold_8 : decode cX10_cold 8 = .ok (.ifCond .ne 5, 3) := by decide +kernel
theorem dX10_cold_11 : decode cX10_cold 11 = .ok (.iconst (-1), 1) := by decide +kernel
theorem dX10_cold_12 : decode cX10_cold 12 = .ok (.ireturn, 1) := by decide +kernel
theorem dX10_cold_13 : decode cX10_cold 13 = .ok (.iload_n 2, 1) := by decide +kernel
theorem dX10_cold_14 : decode cX10_cold 14 = .ok (.ifCond .lt 19, 3) := by decide +kernel
theorem dX10_cold_17 : decode cX10_cold 17 = .ok (.iload_n 2, 1) := by decide +kernel
theorem dX10_cold_18 : decode cX10_cold 18 = .ok (.bipush 6, 2) := by decide +kernel
theorem dX10_cold_20 : decode cX10_cold 20 = .ok (.if_icmp .gt 13, 3) := by decide +kernel
theorem dX10_cold_23 : decode cX10_cold 23 = .ok (.iload_n 3, 1) := by decide +kernel
theorem dX10_cold_24 : decode cX10_cold 24 = .ok (.ifCond .lt 9, 3) := by decide +kernel
theorem dX10_cold_27 : decode cX10_cold 27 = .ok (.iload_n 3, 1) := by decide +kernel
theorem dX10_cold_28 : decode cX10_cold 28 = .ok (.bipush 10, 2) := by decide +kernel
theorem dX10_cold_30 : decode cX10_cold 30 = .ok (.if_icmp .le 6, 3) := by decide +kernel
theorem dX10_cold_33 : decode cX10_cold 33 = .ok (.bipush (-2), 2) := by decide +kernel
theorem dX10_cold_35 : decode cX10_cold 35 = .ok (.ireturn, 1) := by decide +kernel
theorem dX10_cold_36 : decode cX10_cold 36 = .ok (.iconst 0, 1) := by decide +kernel
theorem dX10_cold_37 : decode cX10_cold 37 = .ok (.istore 5, 2) := by decide +kernel
theorem dX10_cold_39 : decode cX10_cold 39 = .ok (.iconst 0, 1) := by decide +kernel
theorem dX10_cold_40 : decode cX10_cold 40 = .ok (.istore 6, 2) := by decide +kernel
theorem dX10_cold_42 : decode cX10_cold 42 = .ok (.iconst 0, 1) := by decide +kernel
theorem dX10_cold_43 : decode cX10_cold 43 = .ok (.istore 7, 2) := by decide +kernel
theorem dX10_cold_45 : decode cX10_cold 45 = .ok (.iload 7, 2) := by decide +kernel
theorem dX10_cold_47 : decode cX10_cold 47 = .ok (.iconst 1, 1) := by decide +kernel
theorem dX10_cold_48 : decode cX10_cold 48 = .ok (.aload_n 0, 1) := by decide +kernel
theorem dX10_cold_49 : decode cX10_cold 49 = .ok (.getfield 26, 3) := by decide +kernel
theorem dX10_cold_52 : decode cX10_cold 52 = .ok (.getfield 111, 3) := by decide +kernel
theorem dX10_cold_55 : decode cX10_cold 55 = .ok (.ishl, 1) := by decide +kernel
theorem dX10_cold_56 : decode cX10_cold 56 = .ok (.if_icmp .ge 75, 3) := by decide +kernel
theorem dX10_cold_59 : decode cX10_cold 59 = .ok (.aload_n 0, 1) := by decide +kernel
theorem dX10_cold_60 : decode cX10_cold 60 = .ok (.getfield 26, 3) := by decide +kernel
theorem dX10_cold_63 : decode cX10_cold 63 = .ok (.iload 7, 2) := by decide +kernel
theorem dX10_cold_65 : decode cX10_cold 65 = .ok (.iload_n 3, 1) := by decide +kernel
theorem dX10_cold_66 : decode cX10_cold 66 = .ok (.invokevirtual 280, 3) := by decide +kernel
theorem dX10_cold_69 : decode cX10_cold 69 = .ok (.istore 8, 2) := by decide +kernel
theorem dX10_cold_71 : decode cX10_cold 71 = .ok (.aload_n 0, 1) := by decide +kernel
theorem dX10_cold_72 : decode cX10_cold 72 = .ok (.getfield 37, 3) := by decide +kernel
theorem dX10_cold_75 : decode cX10_cold 75 = .ok (.aload_n 0, 1) := by decide +kernel
theorem dX10_cold_76 : decode cX10_cold 76 = .ok (.getfield 33, 3) := by decide +kernel
theorem dX10_cold_79 : decode cX10_cold 79 = .ok (.invokevirtual 104, 3) := by decide +kernel
theorem dX10_cold_82 : decode cX10_cold 82 = .ok (.aload_n 0, 1) := by decide +kernel
theorem dX10_cold_83 : decode cX10_cold 83 = .ok (.getfield 37, 3) := by decide +kernel
theorem dX10_cold_86 : decode cX10_cold 86 = .ok (.aload_n 0, 1) := by decide +kernel
theorem dX10_cold_87 : decode cX10_cold 87 = .ok (.getfield 26, 3) := by decide +kernel
theorem dX10_cold_90 : decode cX10_cold 90 = .ok (.iload 7, 2) := by decide +kernel
theorem dX10_cold_92 : decode cX10_cold 92 = .ok (.invokevirtual 167, 3) := by decide +kernel
theorem dX10_cold_95 : decode cX10_cold 95 = .ok (.aload_n 0, 1) := by decide +kernel
theorem dX10_cold_96 : decode cX10_cold 96 = .ok (.getfield 37, 3) := by decide +kernel
theorem dX10_cold_99 : decode cX10_cold 99 = .ok (.getfield 143, 3) := by decide +kernel
theorem dX10_cold_102 : decode cX10_cold 102 = .ok (.iload_n 1, 1) := by decide +kernel
theorem dX10_cold_103 : decode cX10_cold 103 = .ok (.iaload, 1) := by decide +kernel
theorem dX10_cold_104 : decode cX10_cold 104 = .ok (.invokestatic 175, 3) := by decide +kernel
theorem dX10_cold_107 : decode cX10_cold 107 = .ok (.iload_n 2, 1) := by decide +kernel
theorem dX10_cold_108 : decode cX10_cold 108 = .ok (.if_icmp .lt 10, 3) := by decide +kernel
theorem dX10_cold_111 : decode cX10_cold 111 = .ok (.iload 5, 2) := by decide +kernel
theorem dX10_cold_113 : decode cX10_cold 113 = .ok (.iload 8, 2) := by decide +kernel
theorem dX10_cold_115 : decode cX10_cold 115 = .ok (.iadd, 1) := by decide +kernel
theorem dX10_cold_116 : decode cX10_cold 116 = .ok (.istore 5, 2) := by decide +kernel
theorem dX10_cold_118 : decode cX10_cold 118 = .ok (.iload 6, 2) := by decide +kernel
theorem dX10_cold_120 : decode cX10_cold 120 = .ok (.iload 8, 2) := by decide +kernel
theorem dX10_cold_122 : decode cX10_cold 122 = .ok (.iadd, 1) := by decide +kernel
theorem dX10_cold_123 : decode cX10_cold 123 = .ok (.istore 6, 2) := by decide +kernel
theorem dX10_cold_125 : decode cX10_cold 125 = .ok (.iinc 7 1, 3) := by decide +kernel
theorem dX10_cold_128 : decode cX10_cold 128 = .ok (.goto (-83), 3) := by decide +kernel
theorem dX10_cold_131 : decode cX10_cold 131 = .ok (.iload 5, 2) := by decide +kernel
theorem dX10_cold_133 : decode cX10_cold 133 = .ok (.iload 6, 2) := by decide +kernel
theorem dX10_cold_135 : decode cX10_cold 135 = .ok (.iload 4, 2) := by decide +kernel
theorem dX10_cold_137 : decode cX10_cold 137 = .ok (.invokestatic 270, 3) := by decide +kernel
theorem dX10_cold_140 : decode cX10_cold 140 = .ok (.ireturn, 1) := by decide +kernel
theorem dX10_seed_0 : decode cX10_seed 0 = .ok (.aload_n 0, 1) := by decide +kernel
theorem dX10_seed_1 : decode cX10_seed 1 = .ok (.getfield 82, 3) := by decide +kernel
theorem dX10_seed_4 : decode cX10_seed 4 = .ok (.lstore_n 3, 1) := by decide +kernel
theorem dX10_seed_5 : decode cX10_seed 5 = .ok (.aload_n 0, 1) := by decide +kernel
theorem dX10_seed_6 : decode cX10_seed 6 = .ok (.lload_n 1, 1) := by decide +kernel
theorem dX10_seed_7 : decode cX10_seed 7 = .ok (.putfield 82, 3) := by decide +kernel
theorem dX10_seed_10 : decode cX10_seed 10 = .ok (.lload_n 3, 1) := by decide +kernel
theorem dX10_seed_11 : decode cX10_seed 11 = .ok (.lreturn, 1) := by decide +kernel
theorem dX10_years_0 : decode cX10_years 0 = .ok (.iload_n 1, 1) := by decide +kernel
theorem dX10_years_1 : decode cX10_years 1 = .ok (.iconst 1, 1) := by decide +kernel
theorem dX10_years_2 : decode cX10_years 2 = .ok (.if_icmp .lt 9, 3) := by decide +kernel
theorem dX10_years_5 : decode cX10_years 5 = .ok (.iload_n 1, 1) := by decide +kernel
theorem dX10_years_6 : decode cX10_years 6 = .ok (.bipush 30, 2) := by decide +kernel
theorem dX10_years_8 : decode cX10_years 8 = .ok (.if_icmp .le 6, 3) := by decide +kernel
theorem dX10_years_11 : decode cX10_years 11 = .ok (.bipush (-2), 2) := by decide +kernel
theorem dX10_years_13 : decode cX10_years 13 = .ok (.ireturn, 1) := by decide +kernel
theorem dX10_years_14 : decode cX10_years 14 = .ok (.aload_n 0, 1) := by decide +kernel
theorem dX10_years_15 : decode cX10_years 15 = .ok (.getfield 37, 3) := by decide +kernel
theorem dX10_years_18 : decode cX10_years 18 = .ok (.aload_n 0, 1) := by decide +kernel
theorem dX10_years_19 : decode cX10_years 19 = .ok (.getfield 33, 3) := by decide +kernel
theorem dX10_years_22 : decode cX10_years 22 = .ok (.invokevirtual 104, 3) := by decide +kernel
theorem dX10_years_25 : decode cX10_years 25 = .ok (.iconst 0, 1) := by decide +kernel
theorem dX10_years_26 : decode cX10_years 26 = .ok (.istore_n 2, 1) := by decide +kernel
theorem dX10_years_27 : decode cX10_years 27 = .ok (.iconst 0, 1) := by decide +kernel
theorem dX10_years_28 : decode cX10_years 28 = .ok (.istore_n 3, 1) := by decide +kernel
theorem dX10_years_29 : decode cX10_years 29 = .ok (.iload_n 3, 1) := by decide +kernel
theorem dX10_years_30 : decode cX10_years 30 = .ok (.iload_n 1, 1) := by decide +kernel
theorem dX10_years_31 : decode cX10_years 31 = .ok (.if_icmp .ge 51, 3) := by decide +kernel
theorem dX10_years_34 : decode cX10_years 34 = .ok (.aload_n 0, 1) := by decide +kernel
theorem dX10_years_35 : decode cX10_years 35 = .ok (.aload_n 0, 1) := by decide +kernel
theorem dX10_years_36 : decode cX10_years 36 = .ok (.getfield 82, 3) := by decide +kernel
theorem dX10_years_39 : decode cX10_years 39 = .ok (.ldc2_w 284, 3) := by decide +kernel
theorem dX10_years_42 : decode cX10_years 42 = .ok (.lmul, 1) := by decide +kernel
theorem dX10_years_43 : decode cX10_years 43 = .ok (.ldc2_w 286, 3) := by decide +kernel
theorem dX10_years_46 : decode cX10_years 46 = .ok (.ladd, 1) := by decide +kernel
theorem dX10_years_47 : decode cX10_years 47 = .ok (.putfield 82, 3) := by decide +kernel
theorem dX10_years_50 : decode cX10_years 50 = .ok (.aload_n 0, 1) := by decide +kernel
theorem dX10_years_51 : decode cX10_years 51 = .ok (.aload_n 0, 1) := by decide +kernel
theorem dX10_years_52 : decode cX10_years 52 = .ok (.getfield 82, 3) := by decide +kernel
theorem dX10_years_55 : decode cX10_years 55 = .ok (.bipush 33, 2) := by decide +kernel
theorem dX10_years_57 : decode cX10_years 57 = .ok (.lushr, 1) := by decide +kernel
theorem dX10_years_58 : decode cX10_years 58 = .ok (.ldc2_w 288, 3) := by decide +kernel
theorem dX10_years_61 : decode cX10_years 61 = .ok (.lrem, 1) := by decide +kernel
theorem dX10_years_62 : decode cX10_years 62 = .ok (.l2i, 1) := by decide +kernel
theorem dX10_years_63 : decode cX10_years 63 = .ok (.invokevirtual 290, 3) := by decide +kernel
theorem dX10_years_66 : decode cX10_years 66 = .ok (.iload_n 2, 1) := by decide +kernel
theorem dX10_years_67 : decode cX10_years 67 = .ok (.aload_n 0, 1) := by decide +kernel
theorem dX10_years_68 : decode cX10_years 68 = .ok (.getfield 37, 3) := by decide +kernel
theorem dX10_years_71 : decode cX10_years 71 = .ok (.invokevirtual 293, 3) := by decide +kernel
theorem dX10_years_74 : decode cX10_years 74 = .ok (.iadd, 1) := by decide +kernel
theorem dX10_years_75 : decode cX10_years 75 = .ok (.istore_n 2, 1) := by decide +kernel
theorem dX10_years_76 : decode cX10_years 76 = .ok (.iinc 3 1, 3) := by decide +kernel
theorem dX10_years_79 : decode cX10_years 79 = .ok (.goto (-50), 3) := by decide +kernel
theorem dX10_years_82 : decode cX10_years 82 = .ok (.iload_n 2, 1) := by decide +kernel
theorem dX10_years_83 : decode cX10_years 83 = .ok (.ireturn, 1) := by decide +kernel
theorem dX10_passYear_0 : decode cX10_passYear 0 = .ok (.iload_n 1, 1) := by decide +kernel
theorem dX10_passYear_1 : decode cX10_passYear 1 = .ok (.bipush 40, 2) := by decide +kernel
theorem dX10_passYear_3 : decode cX10_passYear 3 = .ok (.if_icmp .ge 22, 3) := by decide +kernel
theorem dX10_passYear_6 : decode cX10_passYear 6 = .ok (.aload_n 0, 1) := by decide +kernel
theorem dX10_passYear_7 : decode cX10_passYear 7 = .ok (.getfield 37, 3) := by decide +kernel
theorem dX10_passYear_10 : decode cX10_passYear 10 = .ok (.iload_n 1, 1) := by decide +kernel
theorem dX10_passYear_11 : decode cX10_passYear 11 = .ok (.bipush 10, 2) := by decide +kernel
theorem dX10_passYear_13 : decode cX10_passYear 13 = .ok (.idiv, 1) := by decide +kernel
theorem dX10_passYear_14 : decode cX10_passYear 14 = .ok (.iload_n 1, 1) := by decide +kernel
theorem dX10_passYear_15 : decode cX10_passYear 15 = .ok (.bipush 10, 2) := by decide +kernel
theorem dX10_passYear_17 : decode cX10_passYear 17 = .ok (.irem, 1) := by decide +kernel
theorem dX10_passYear_18 : decode cX10_passYear 18 = .ok (.invokevirtual 243, 3) := by decide +kernel
theorem dX10_passYear_21 : decode cX10_passYear 21 = .ok (.pop, 1) := by decide +kernel
theorem dX10_passYear_22 : decode cX10_passYear 22 = .ok (.goto 65, 3) := by decide +kernel
theorem dX10_passYear_25 : decode cX10_passYear 25 = .ok (.iload_n 1, 1) := by decide +kernel
theorem dX10_passYear_26 : decode cX10_passYear 26 = .ok (.bipush 44, 2) := by decide +kernel
theorem dX10_passYear_28 : decode cX10_passYear 28 = .ok (.if_icmp .ge 18, 3) := by decide +kernel
theorem dX10_passYear_31 : decode cX10_passYear 31 = .ok (.aload_n 0, 1) := by decide +kernel
theorem dX10_passYear_32 : decode cX10_passYear 32 = .ok (.getfield 37, 3) := by decide +kernel
theorem dX10_passYear_35 : decode cX10_passYear 35 = .ok (.iload_n 1, 1) := by decide +kernel
theorem dX10_passYear_36 : decode cX10_passYear 36 = .ok (.bipush 40, 2) := by decide +kernel
theorem dX10_passYear_38 : decode cX10_passYear 38 = .ok (.isub, 1) := by decide +kernel
theorem dX10_passYear_39 : decode cX10_passYear 39 = .ok (.invokevirtual 249, 3) := by decide +kernel
theorem dX10_passYear_42 : decode cX10_passYear 42 = .ok (.pop, 1) := by decide +kernel
theorem dX10_passYear_43 : decode cX10_passYear 43 = .ok (.goto 44, 3) := by decide +kernel
theorem dX10_passYear_46 : decode cX10_passYear 46 = .ok (.iload_n 1, 1) := by decide +kernel
theorem dX10_passYear_47 : decode cX10_passYear 47 = .ok (.bipush 48, 2) := by decide +kernel
theorem dX10_passYear_49 : decode cX10_passYear 49 = .ok (.if_icmp .ge 26, 3) := by decide +kernel
theorem dX10_passYear_52 : decode cX10_passYear 52 = .ok (.aload_n 0, 1) := by decide +kernel
theorem dX10_passYear_53 : decode cX10_passYear 53 = .ok (.getfield 37, 3) := by decide +kernel
theorem dX10_passYear_56 : decode cX10_passYear 56 = .ok (.iload_n 1, 1) := by decide +kernel
theorem dX10_passYear_57 : decode cX10_passYear 57 = .ok (.bipush 44, 2) := by decide +kernel
theorem dX10_passYear_59 : decode cX10_passYear 59 = .ok (.isub, 1) := by decide +kernel
theorem dX10_passYear_60 : decode cX10_passYear 60 = .ok (.iload_n 1, 1) := by decide +kernel
theorem dX10_passYear_61 : decode cX10_passYear 61 = .ok (.bipush 44, 2) := by decide +kernel
theorem dX10_passYear_63 : decode cX10_passYear 63 = .ok (.isub, 1) := by decide +kernel
theorem dX10_passYear_64 : decode cX10_passYear 64 = .ok (.iconst 1, 1) := by decide +kernel
theorem dX10_passYear_65 : decode cX10_passYear 65 = .ok (.iadd, 1) := by decide +kernel
theorem dX10_passYear_66 : decode cX10_passYear 66 = .ok (.iconst 4, 1) := by decide +kernel
theorem dX10_passYear_67 : decode cX10_passYear 67 = .ok (.irem, 1) := by decide +kernel
theorem dX10_passYear_68 : decode cX10_passYear 68 = .ok (.invokevirtual 246, 3) := by decide +kernel
theorem dX10_passYear_71 : decode cX10_passYear 71 = .ok (.pop, 1) := by decide +kernel
theorem dX10_passYear_72 : decode cX10_passYear 72 = .ok (.goto 15, 3) := by decide +kernel
theorem dX10_passYear_75 : decode cX10_passYear 75 = .ok (.aload_n 0, 1) := by decide +kernel
theorem dX10_passYear_76 : decode cX10_passYear 76 = .ok (.getfield 37, 3) := by decide +kernel
theorem dX10_passYear_79 : decode cX10_passYear 79 = .ok (.aload_n 0, 1) := by decide +kernel
theorem dX10_passYear_80 : decode cX10_passYear 80 = .ok (.getfield 26, 3) := by decide +kernel
theorem dX10_passYear_83 : decode cX10_passYear 83 = .ok (.iconst 0, 1) := by decide +kernel
theorem dX10_passYear_84 : decode cX10_passYear 84 = .ok (.invokevirtual 167, 3) := by decide +kernel
theorem dX10_passYear_87 : decode cX10_passYear 87 = .ok (.return_, 1) := by decide +kernel
theorem dX10_keep_0 : decode cX10_keep 0 = .ok (.iload_n 1, 1) := by decide +kernel
theorem dX10_keep_1 : decode cX10_keep 1 = .ok (.invokestatic 296, 3) := by decide +kernel
theorem dX10_keep_4 : decode cX10_keep 4 = .ok (.ifCond .ne 5, 3) := by decide +kernel
theorem dX10_keep_7 : decode cX10_keep 7 = .ok (.iconst (-1), 1) := by decide +kernel
theorem dX10_keep_8 : decode cX10_keep 8 = .ok (.ireturn, 1) := by decide +kernel
theorem dX10_keep_9 : decode cX10_keep 9 = .ok (.aload_n 0, 1) := by decide +kernel
theorem dX10_keep_10 : decode cX10_keep 10 = .ok (.getfield 50, 3) := by decide +kernel
theorem dX10_keep_13 : decode cX10_keep 13 = .ok (.iload_n 1, 1) := by decide +kernel
theorem dX10_keep_14 : decode cX10_keep 14 = .ok (.aload_n 0, 1) := by decide +kernel
theorem dX10_keep_15 : decode cX10_keep 15 = .ok (.getfield 33, 3) := by decide +kernel
theorem dX10_keep_18 : decode cX10_keep 18 = .ok (.invokevirtual 299, 3) := by decide +kernel
theorem dX10_keep_21 : decode cX10_keep 21 = .ok (.aload_n 0, 1) := by decide +kernel
theorem dX10_keep_22 : decode cX10_keep 22 = .ok (.getfield 33, 3) := by decide +kernel
theorem dX10_keep_25 : decode cX10_keep 25 = .ok (.getfield 303, 3) := by decide +kernel
theorem dX10_keep_28 : decode cX10_keep 28 = .ok (.ireturn, 1) := by decide +kernel
theorem dX10_again_0 : decode cX10_again 0 = .ok (.iload_n 1, 1) := by decide +kernel
theorem dX10_again_1 : decode cX10_again 1 = .ok (.invokestatic 296, 3) := by decide +kernel
theorem dX10_again_4 : decode cX10_again 4 = .ok (.ifCond .ne 5, 3) := by decide +kernel
theorem dX10_again_7 : decode cX10_again 7 = .ok (.iconst (-1), 1) := by decide +kernel
theorem dX10_again_8 : decode cX10_again 8 = .ok (.ireturn, 1) := by decide +kernel
theorem dX10_again_9 : decode cX10_again 9 = .ok (.aload_n 0, 1) := by decide +kernel
theorem dX10_again_10 : decode cX10_again 10 = .ok (.getfield 50, 3) := by decide +kernel
theorem dX10_again_13 : decode cX10_again 13 = .ok (.iload_n 1, 1) := by decide +kernel
theorem dX10_again_14 : decode cX10_again 14 = .ok (.invokevirtual 304, 3) := by decide +kernel
theorem dX10_again_17 : decode cX10_again 17 = .ok (.ifCond .ne 6, 3) := by decide +kernel
theorem dX10_again_20 : decode cX10_again 20 = .ok (.bipush (-3), 2) := by decide +kernel
theorem dX10_again_22 : decode cX10_again 22 = .ok (.ireturn, 1) := by decide +kernel
theorem dX10_again_23 : decode cX10_again 23 = .ok (.aload_n 0, 1) := by decide +kernel
theorem dX10_again_24 : decode cX10_again 24 = .ok (.getfield 50, 3) := by decide +kernel
theorem dX10_again_27 : decode cX10_again 27 = .ok (.iload_n 1, 1) := by decide +kernel
theorem dX10_again_28 : decode cX10_again 28 = .ok (.aload_n 0, 1) := by decide +kernel
theorem dX10_again_29 : decode cX10_again 29 = .ok (.getfield 33, 3) := by decide +kernel
theorem dX10_again_32 : decode cX10_again 32 = .ok (.invokevirtual 307, 3) := by decide +kernel
theorem dX10_again_35 : decode cX10_again 35 = .ok (.aload_n 0, 1) := by decide +kernel
theorem dX10_again_36 : decode cX10_again 36 = .ok (.getfield 43, 3) := by decide +kernel
theorem dX10_again_39 : decode cX10_again 39 = .ok (.invokevirtual 107, 3) := by decide +kernel
theorem dX10_again_42 : decode cX10_again 42 = .ok (.aload_n 0, 1) := by decide +kernel
theorem dX10_again_43 : decode cX10_again 43 = .ok (.getfield 33, 3) := by decide +kernel
theorem dX10_again_46 : decode cX10_again 46 = .ok (.getfield 303, 3) := by decide +kernel
theorem dX10_again_49 : decode cX10_again 49 = .ok (.ireturn, 1) := by decide +kernel
theorem dX10_count_0 : decode cX10_count 0 = .ok (.iload_n 1, 1) := by decide +kernel
theorem dX10_count_1 : decode cX10_count 1 = .ok (.tableswitch 135 0 9 #[55, 63, 71, 79, 87, 95, 103, 111, 119, 127], 55) := by decide +kernel
theorem dX10_count_56 : decode cX10_count 56 = .ok (.aload_n 0, 1) := by decide +kernel
theorem dX10_count_57 : decode cX10_count 57 = .ok (.getfield 10, 3) := by decide +kernel
theorem dX10_count_60 : decode cX10_count 60 = .ok (.getfield 86, 3) := by decide +kernel
theorem dX10_count_63 : decode cX10_count 63 = .ok (.ireturn, 1) := by decide +kernel
theorem dX10_count_64 : decode cX10_count 64 = .ok (.aload_n 0, 1) := by decide +kernel
theorem dX10_count_65 : decode cX10_count 65 = .ok (.getfield 26, 3) := by decide +kernel
theorem dX10_count_68 : decode cX10_count 68 = .ok (.getfield 111, 3) := by decide +kernel
theorem dX10_count_71 : decode cX10_count 71 = .ok (.ireturn, 1) := by decide +kernel
theorem dX10_count_72 : decode cX10_count 72 = .ok (.aload_n 0, 1) := by decide +kernel
theorem dX10_count_73 : decode cX10_count 73 = .ok (.getfield 33, 3) := by decide +kernel
theorem dX10_count_76 : decode cX10_count 76 = .ok (.getfield 114, 3) := by decide +kernel
theorem dX10_count_79 : decode cX10_count 79 = .ok (.ireturn, 1) := by decide +kernel
theorem dX10_count_80 : decode cX10_count 80 = .ok (.aload_n 0, 1) := by decide +kernel
theorem dX10_count_81 : decode cX10_count 81 = .ok (.getfield 33, 3) := by decide +kernel
theorem dX10_count_84 : decode cX10_count 84 = .ok (.getfield 303, 3) := by decide +kernel
theorem dX10_count_87 : decode cX10_count 87 = .ok (.ireturn, 1) := by decide +kernel
theorem dX10_count_88 : decode cX10_count 88 = .ok (.aload_n 0, 1) := by decide +kernel
theorem dX10_count_89 : decode cX10_count 89 = .ok (.getfield 33, 3) := by decide +kernel
theorem dX10_count_92 : decode cX10_count 92 = .ok (.invokevirtual 171, 3) := by decide +kernel
theorem dX10_count_95 : decode cX10_count 95 = .ok (.ireturn, 1) := by decide +kernel
theorem dX10_count_96 : decode cX10_count 96 = .ok (.aload_n 0, 1) := by decide +kernel
theorem dX10_count_97 : decode cX10_count 97 = .ok (.getfield 33, 3) := by decide +kernel
theorem dX10_count_100 : decode cX10_count 100 = .ok (.getfield 310, 3) := by decide +kernel
theorem dX10_count_103 : decode cX10_count 103 = .ok (.ireturn, 1) := by decide +kernel
theorem dX10_count_104 : decode cX10_count 104 = .ok (.aload_n 0, 1) := by decide +kernel
theorem dX10_count_105 : decode cX10_count 105 = .ok (.getfield 33, 3) := by decide +kernel
theorem dX10_count_108 : decode cX10_count 108 = .ok (.invokevirtual 313, 3) := by decide +kernel
theorem dX10_count_111 : decode cX10_count 111 = .ok (.ireturn, 1) := by decide +kernel
theorem dX10_count_112 : decode cX10_count 112 = .ok (.aload_n 0, 1) := by decide +kernel
theorem dX10_count_113 : decode cX10_count 113 = .ok (.getfield 26, 3) := by decide +kernel
theorem dX10_count_116 : decode cX10_count 116 = .ok (.invokevirtual 316, 3) := by decide +kernel
theorem dX10_count_119 : decode cX10_count 119 = .ok (.ireturn, 1) := by decide +kernel
theorem dX10_count_120 : decode cX10_count 120 = .ok (.aload_n 0, 1) := by decide +kernel
theorem dX10_count_121 : decode cX10_count 121 = .ok (.getfield 43, 3) := by decide +kernel
theorem dX10_count_124 : decode cX10_count 124 = .ok (.getfield 205, 3) := by decide +kernel
theorem dX10_count_127 : decode cX10_count 127 = .ok (.ireturn, 1) := by decide +kernel
theorem dX10_count_128 : decode cX10_count 128 = .ok (.aload_n 0, 1) := by decide +kernel
theorem dX10_count_129 : decode cX10_count 129 = .ok (.getfield 71, 3) := by decide +kernel
theorem dX10_count_132 : decode cX10_count 132 = .ok (.getfield 255, 3) := by decide +kernel
theorem dX10_count_135 : decode cX10_count 135 = .ok (.ireturn, 1) := by decide +kernel
theorem dX10_count_136 : decode cX10_count 136 = .ok (.bipush (-2), 2) := by decide +kernel
theorem dX10_count_138 : decode cX10_count 138 = .ok (.ireturn, 1) := by decide +kernel
theorem dX10_isPlace_0 : decode cX10_isPlace 0 = .ok (.iload_n 0, 1) := by decide +kernel
theorem dX10_isPlace_1 : decode cX10_isPlace 1 = .ok (.ifCond .lt 13, 3) := by decide +kernel
theorem dX10_isPlace_4 : decode cX10_isPlace 4 = .ok (.iload_n 0, 1) := by decide +kernel
theorem dX10_isPlace_5 : decode cX10_isPlace 5 = .ok (.bipush 10, 2) := by decide +kernel
theorem dX10_isPlace_7 : decode cX10_isPlace 7 = .ok (.if_icmp .ge 7, 3) := by decide +kernel
theorem dX10_isPlace_10 : decode cX10_isPlace 10 = .ok (.iconst 1, 1) := by decide +kernel
theorem dX10_isPlace_11 : decode cX10_isPlace 11 = .ok (.goto 4, 3) := by decide +kernel
theorem dX10_isPlace_14 : decode cX10_isPlace 14 = .ok (.iconst 0, 1) := by decide +kernel
theorem dX10_isPlace_15 : decode cX10_isPlace 15 = .ok (.ireturn, 1) := by decide +kernel
theorem dX10_isSlot_0 : decode cX10_isSlot 0 = .ok (.iload_n 0, 1) := by decide +kernel
theorem dX10_isSlot_1 : decode cX10_isSlot 1 = .ok (.ifCond .lt 12, 3) := by decide +kernel
theorem dX10_isSlot_4 : decode cX10_isSlot 4 = .ok (.iload_n 0, 1) := by decide +kernel
theorem dX10_isSlot_5 : decode cX10_isSlot 5 = .ok (.iconst 2, 1) := by decide +kernel
theorem dX10_isSlot_6 : decode cX10_isSlot 6 = .ok (.if_icmp .ge 7, 3) := by decide +kernel
theorem dX10_isSlot_9 : decode cX10_isSlot 9 = .ok (.iconst 1, 1) := by decide +kernel
theorem dX10_isSlot_10 : decode cX10_isSlot 10 = .ok (.goto 4, 3) := by decide +kernel
theorem dX10_isSlot_13 : decode cX10_isSlot 13 = .ok (.iconst 0, 1) := by decide +kernel
theorem dX10_isSlot_14 : decode cX10_isSlot 14 = .ok (.ireturn, 1) := by decide +kernel
theorem dX10_isLayerFigure_0 : decode cX10_isLayerFigure 0 = .ok (.iload_n 0, 1) := by decide +kernel
theorem dX10_isLayerFigure_1 : decode cX10_isLayerFigure 1 = .ok (.iconst 1, 1) := by decide +kernel
theorem dX10_isLayerFigure_2 : decode cX10_isLayerFigure 2 = .ok (.if_icmp .lt 13, 3) := by decide +kernel
theorem dX10_isLayerFigure_5 : decode cX10_isLayerFigure 5 = .ok (.iload_n 0, 1) := by decide +kernel
theorem dX10_isLayerFigure_6 : decode cX10_isLayerFigure 6 = .ok (.bipush 6, 2) := by decide +kernel
theorem dX10_isLayerFigure_8 : decode cX10_isLayerFigure 8 = .ok (.if_icmp .gt 7, 3) := by decide +kernel
theorem dX10_isLayerFigure_11 : decode cX10_isLayerFigure 11 = .ok (.iconst 1, 1) := by decide +kernel
theorem dX10_isLayerFigure_12 : decode cX10_isLayerFigure 12 = .ok (.goto 4, 3) := by decide +kernel
theorem dX10_isLayerFigure_15 : decode cX10_isLayerFigure 15 = .ok (.iconst 0, 1) := by decide +kernel
theorem dX10_isLayerFigure_16 : decode cX10_isLayerFigure 16 = .ok (.ireturn, 1) := by decide +kernel
theorem dX10_isFirstOrSecond_0 : decode cX10_isFirstOrSecond 0 = .ok (.iload_n 0, 1) := by decide +kernel
theorem dX10_isFirstOrSecond_1 : decode cX10_isFirstOrSecond 1 = .ok (.ifCond .eq 8, 3) := by decide +kernel
theorem dX10_isFirstOrSecond_4 : decode cX10_isFirstOrSecond 4 = .ok (.iload_n 0, 1) := by decide +kernel
theorem dX10_isFirstOrSecond_5 : decode cX10_isFirstOrSecond 5 = .ok (.iconst 1, 1) := by decide +kernel
theorem dX10_isFirstOrSecond_6 : decode cX10_isFirstOrSecond 6 = .ok (.if_icmp .ne 7, 3) := by decide +kernel
theorem dX10_isFirstOrSecond_9 : decode cX10_isFirstOrSecond 9 = .ok (.iconst 1, 1) := by decide +kernel
theorem dX10_isFirstOrSecond_10 : decode cX10_isFirstOrSecond 10 = .ok (.goto 4, 3) := by decide +kernel
theorem dX10_isFirstOrSecond_13 : decode cX10_isFirstOrSecond 13 = .ok (.iconst 0, 1) := by decide +kernel
theorem dX10_isFirstOrSecond_14 : decode cX10_isFirstOrSecond 14 = .ok (.ireturn, 1) := by decide +kernel
theorem dX10_appetiteOf_0 : decode cX10_appetiteOf 0 = .ok (.iload_n 0, 1) := by decide +kernel
theorem dX10_appetiteOf_1 : decode cX10_appetiteOf 1 = .ok (.lookupswitch 32 #[(1, 27), (2, 29)], 27) := by decide +kernel
theorem dX10_appetiteOf_28 : decode cX10_appetiteOf 28 = .ok (.iconst 2, 1) := by decide +kernel
theorem dX10_appetiteOf_29 : decode cX10_appetiteOf 29 = .ok (.ireturn, 1) := by decide +kernel
theorem dX10_appetiteOf_30 : decode cX10_appetiteOf 30 = .ok (.bipush 6, 2) := by decide +kernel
theorem dX10_appetiteOf_32 : decode cX10_appetiteOf 32 = .ok (.ireturn, 1) := by decide +kernel
theorem dX10_appetiteOf_33 : decode cX10_appetiteOf 33 = .ok (.iconst 1, 1) := by decide +kernel
theorem dX10_appetiteOf_34 : decode cX10_appetiteOf 34 = .ok (.ireturn, 1) := by decide +kernel
theorem dX10_fractionPart_0 : decode cX10_fractionPart 0 = .ok (.iconst 1, 1) := by decide +kernel
theorem dX10_fractionPart_1 : decode cX10_fractionPart 1 = .ok (.iload_n 0, 1) := by decide +kernel
theorem dX10_fractionPart_2 : decode cX10_fractionPart 2 = .ok (.iload_n 1, 1) := by decide +kernel
theorem dX10_fractionPart_3 : decode cX10_fractionPart 3 = .ok (.invokestatic 319, 3) := by decide +kernel
theorem dX10_fractionPart_6 : decode cX10_fractionPart 6 = .ok (.invokestatic 322, 3) := by decide +kernel
theorem dX10_fractionPart_9 : decode cX10_fractionPart 9 = .ok (.istore_n 3, 1) := by decide +kernel
theorem dX10_fractionPart_10 : decode cX10_fractionPart 10 = .ok (.iload_n 2, 1) := by decide +kernel
theorem dX10_fractionPart_11 : decode cX10_fractionPart 11 = .ok (.ifCond .eq 9, 3) := by decide +kernel
theorem dX10_fractionPart_14 : decode cX10_fractionPart 14 = .ok (.iload_n 0, 1) := by decide +kernel
theorem dX10_fractionPart_15 : decode cX10_fractionPart 15 = .ok (.iload_n 3, 1) := by decide +kernel
theorem dX10_fractionPart_16 : decode cX10_fractionPart 16 = .ok (.idiv, 1) := by decide +kernel
theorem dX10_fractionPart_17 : decode cX10_fractionPart 17 = .ok (.goto 6, 3) := by decide +kernel
theorem dX10_fractionPart_20 : decode cX10_fractionPart 20 = .ok (.iload_n 1, 1) := by decide +kernel
theorem dX10_fractionPart_21 : decode cX10_fractionPart 21 = .ok (.iload_n 3, 1) := by decide +kernel
theorem dX10_fractionPart_22 : decode cX10_fractionPart 22 = .ok (.idiv, 1) := by decide +kernel
theorem dX10_fractionPart_23 : decode cX10_fractionPart 23 = .ok (.ireturn, 1) := by decide +kernel
theorem dX10_commonDivisor_0 : decode cX10_commonDivisor 0 = .ok (.iload_n 0, 1) := by decide +kernel
theorem dX10_commonDivisor_1 : decode cX10_commonDivisor 1 = .ok (.istore_n 2, 1) := by decide +kernel
theorem dX10_commonDivisor_2 : decode cX10_commonDivisor 2 = .ok (.iload_n 1, 1) := by decide +kernel
theorem dX10_commonDivisor_3 : decode cX10_commonDivisor 3 = .ok (.istore_n 3, 1) := by decide +kernel
theorem dX10_commonDivisor_4 : decode cX10_commonDivisor 4 = .ok (.iconst 0, 1) := by decide +kernel
theorem dX10_commonDivisor_5 : decode cX10_commonDivisor 5 = .ok (.istore 4, 2) := by decide +kernel
theorem dX10_commonDivisor_7 : decode cX10_commonDivisor 7 = .ok (.iload 4, 2) := by decide +kernel
theorem dX10_commonDivisor_9 : decode cX10_commonDivisor 9 = .ok (.bipush 64, 2) := by decide +kernel
theorem dX10_commonDivisor_11 : decode cX10_commonDivisor 11 = .ok (.if_icmp .ge 23, 3) := by decide +kernel
theorem dX10_commonDivisor_14 : decode cX10_commonDivisor 14 = .ok (.iload_n 3, 1) := by decide +kernel
theorem dX10_commonDivisor_15 : decode cX10_commonDivisor 15 = .ok (.ifCond .eq 19, 3) := by decide +kernel
theorem dX10_commonDivisor_18 : decode cX10_commonDivisor 18 = .ok (.iload_n 2, 1) := by decide +kernel
theorem dX10_commonDivisor_19 : decode cX10_commonDivisor 19 = .ok (.iload_n 3, 1) := by decide +kernel
theorem dX10_commonDivisor_20 : decode cX10_commonDivisor 20 = .ok (.irem, 1) := by decide +kernel
theorem dX10_commonDivisor_21 : decode cX10_commonDivisor 21 = .ok (.istore 5, 2) := by decide +kernel
theorem dX10_commonDivisor_23 : decode cX10_commonDivisor 23 = .ok (.iload_n 3, 1) := by decide +kernel
theorem dX10_commonDivisor_24 : decode cX10_commonDivisor 24 = .ok (.istore_n 2, 1) := by decide +kernel
theorem dX10_commonDivisor_25 : decode cX10_commonDivisor 25 = .ok (.iload 5, 2) := by decide +kernel
theorem dX10_commonDivisor_27 : decode cX10_commonDivisor 27 = .ok (.istore_n 3, 1) := by decide +kernel
theorem dX10_commonDivisor_28 : decode cX10_commonDivisor 28 = .ok (.iinc 4 1, 3) := by decide +kernel
theorem dX10_commonDivisor_31 : decode cX10_commonDivisor 31 = .ok (.goto (-24), 3) := by decide +kernel
theorem dX10_commonDivisor_34 : decode cX10_commonDivisor 34 = .ok (.iload_n 2, 1) := by decide +kernel
theorem dX10_commonDivisor_35 : decode cX10_commonDivisor 35 = .ok (.ireturn, 1) := by decide +kernel
end
section
theorem dX11_init_0 : decode cX11_init 0 = .ok (.aload_n 0, 1) := by decide +kernel
theorem dX11_init_1 : decode cX11_init 1 = .ok (.invokespecial 1, 3) := by decide +kernel
theorem dX11_init_4 : decode cX11_init 4 = .ok (.aload_n 0, 1) := by decide +kernel
theorem dX11_init_5 : decode cX11_init 5 = .ok (.iconst 4, 1) := by decide +kernel
theorem dX11_init_6 : decode cX11_init 6 = .ok (.newarray .int, 2) := by decide +kernel
theorem dX11_init_8 : decode cX11_init 8 = .ok (.putfield 7, 3) := by decide +kernel
theorem dX11_init_11 : decode cX11_init 11 = .ok (.aload_n 0, 1) := by decide +kernel
theorem dX11_init_12 : decode cX11_init 12 = .ok (.iconst 4, 1) := by decide +kernel
theorem dX11_init_13 : decode cX11_init 13 = .ok (.newarray .int, 2) := by decide +kernel
theorem dX11_init_15 : decode cX11_init 15 = .ok (.putfield 13, 3) := by decide +kernel
theorem dX11_init_18 : decode cX11_init 18 = .ok (.aload_n 0, 1) := by decide +kernel
theorem dX11_init_19 : decode cX11_init 19 = .ok (.bipush 16, 2) := by decide +kernel
theorem dX11_init_21 : decode cX11_init 21 = .ok (.newarray .int, 2) := by decide +kernel
theorem dX11_init_23 : decode cX11_init 23 = .ok (.putfield 16, 3) := by decide +kernel
theorem dX11_init_26 : decode cX11_init 26 = .ok (.aload_n 0, 1) := by decide +kernel
theorem dX11_init_27 : decode cX11_init 27 = .ok (.iconst 4, 1) := by decide +kernel
theorem dX11_init_28 : decode cX11_init 28 = .ok (.newarray .int, 2) := by decide +kernel
theorem dX11_init_30 : decode cX11_init 30 = .ok (.putfield 19, 3) := by decide +kernel
theorem dX11_init_33 : decode cX11_init 33 = .ok (.aload_n 0, 1) := by decide +kernel
theorem dX11_init_34 : decode cX11_init 34 = .ok (.bipush 28, 2) := by decide +kernel
theorem dX11_init_36 : decode cX11_init 36 = .ok (.newarray .int, 2) := by decide +kernel
theorem dX11_init_38 : decode cX11_init 38 = .ok (.putfield 22, 3) := by decide +kernel
theorem dX11_init_41 : decode cX11_init 41 = .ok (.aload_n 0, 1) := by decide +kernel
theorem dX11_init_42 : decode cX11_init 42 = .ok (.iconst 4, 1) := by decide +kernel
theorem dX11_init_43 : decode cX11_init 43 = .ok (.newarray .int, 2) := by decide +kernel
theorem dX11_init_45 : decode cX11_init 45 = .ok (.putfield 25, 3) := by decide +kernel
theorem dX11_init_48 : decode cX11_init 48 = .ok (.aload_n 0, 1) := by decide +kernel
theorem dX11_init_49 : decode cX11_init 49 = .ok (.iconst 4, 1) := by decide +kernel
theorem dX11_init_50 : decode cX11_init 50 = .ok (.newarray .int, 2) := by decide +kernel
theorem dX11_init_52 : decode cX11_init 52 = .ok (.putfield 28, 3) := by decide +kernel
theorem dX11_init_55 : decode cX11_init 55 = .ok (.aload_n 0, 1) := by decide +kernel
theorem dX11_init_56 : decode cX11_init 56 = .ok (.bipush 16, 2) := by decide +kernel
theorem dX11_init_58 : decode cX11_init 58 = .ok (.newarray .int, 2) := by decide +kernel
theorem dX11_init_60 : decode cX11_init 60 = .ok (.putfield 31, 3) := by decide +kernel
theorem dX11_init_63 : decode cX11_init 63 = .ok (.aload_n 0, 1) := by decide +kernel
theorem dX11_init_64 : decode cX11_init 64 = .ok (.bipush 8, 2) := by decide +kernel
theorem dX11_init_66 : decode cX11_init 66 = .ok (.newarray .int, 2) := by decide +kernel
theorem dX11_init_68 : decode cX11_init 68 = .ok (.putfield 34, 3) := by decide +kernel
theorem dX11_init_71 : decode cX11_init 71 = .ok (.aload_n 0, 1) := by decide +kernel
theorem dX11_init_72 : decode cX11_init 72 = .ok (.bipush 48, 2) := by decide +kernel
theorem dX11_init_74 : decode cX11_init 74 = .ok (.newarray .int, 2) := by decide +kernel
theorem dX11_init_76 : decode cX11_init 76 = .ok (.putfield 37, 3) := by decide +kernel
theorem dX11_init_79 : decode cX11_init 79 = .ok (.aload_n 0, 1) := by decide +kernel
theorem dX11_init_80 : decode cX11_init 80 = .ok (.sipush 196, 3) := by decide +kernel
theorem dX11_init_83 : decode cX11_init 83 = .ok (.newarray .int, 2) := by decide +kernel
theorem dX11_init_85 : decode cX11_init 85 = .ok (.putfield 40, 3) := by decide +kernel
theorem dX11_init_88 : decode cX11_init 88 = .ok (.aload_n 0, 1) := by decide +kernel
theorem dX11_init_89 : decode cX11_init 89 = .ok (.bipush 6, 2) := by decide +kernel
theorem dX11_init_91 : decode cX11_init 91 = .ok (.newarray .int, 2) := by decide +kernel
theorem dX11_init_93 : decode cX11_init 93 = .ok (.putfield 43, 3) := by decide +kernel
theorem dX11_init_96 : decode cX11_init 96 = .ok (.aload_n 0, 1) := by decide +kernel
theorem dX11_init_97 : decode cX11_init 97 = .ok (.bipush 6, 2) := by decide +kernel
theorem dX11_init_99 : decode cX11_init 99 = .ok (.newarray .int, 2) := by decide +kernel
theorem dX11_init_101 : decode cX11_init 101 = .ok (.putfield 46, 3) := by decide +kernel
theorem dX11_init_104 : decode cX11_init 104 = .ok (.aload_n 0, 1) := by decide +kernel
theorem dX11_init_105 : decode cX11_init 105 = .ok (.bipush 6, 2) := by decide +kernel
theorem dX11_init_107 : decode cX11_init 107 = .ok (.newarray .int, 2) := by decide +kernel
theorem dX11_init_109 : decode cX11_init 109 = .ok (.putfield 49, 3) := by decide +kernel
theorem dX11_init_112 : decode cX11_init 112 = .ok (.aload_n 0, 1) := by decide +kernel
theorem dX11_init_113 : decode cX11_init 113 = .ok (.iconst 2, 1) := by decide +kernel
theorem dX11_init_114 : decode cX11_init 114 = .ok (.newarray .boolean, 2) := by decide +kernel
theorem dX11_init_116 : decode cX11_init 116 = .ok (.putfield 52, 3) := by decide +kernel
theorem dX11_init_119 : decode cX11_init 119 = .ok (.aload_n 0, 1) := by decide +kernel
theorem dX11_init_120 : decode cX11_init 120 = .ok (.bipush 28, 2) := by decide +kernel
theorem dX11_init_122 : decode cX11_init 122 = .ok (.newarray .int, 2) := by decide +kernel
theorem dX11_init_124 : decode cX11_init 124 = .ok (.putfield 56, 3) := by decide +kernel
theorem dX11_init_127 : decode cX11_init 127 = .ok (.return_, 1) := by decide +kernel
theorem dX11_in_0 : decode cX11_in 0 = .ok (.lload_n 0, 1) := by decide +kernel
theorem dX11_in_1 : decode cX11_in 1 = .ok (.lload_n 2, 1) := by decide +kernel
theorem dX11_in_2 : decode cX11_in 2 = .ok (.lcmp, 1) := by decide +kernel
theorem dX11_in_3 : decode cX11_in 3 = .ok (.ifCond .lt 14, 3) := by decide +kernel
theorem dX11_in_6 : decode cX11_in 6 = .ok (.lload_n 0, 1) := by decide +kernel
theorem dX11_in_7 : decode cX11_in 7 = .ok (.lload 4, 2) := by decide +kernel
theorem dX11_in_9 : decode cX11_in 9 = .ok (.lcmp, 1) := by decide +kernel
theorem dX11_in_10 : decode cX11_in 10 = .ok (.ifCond .gt 7, 3) := by decide +kernel
theorem dX11_in_13 : decode cX11_in 13 = .ok (.iconst 1, 1) := by decide +kernel
theorem dX11_in_14 : decode cX11_in 14 = .ok (.goto 4, 3) := by decide +kernel
theorem dX11_in_17 : decode cX11_in 17 = .ok (.iconst 0, 1) := by decide +kernel
theorem dX11_in_18 : decode cX11_in 18 = .ok (.ireturn, 1) := by decide +kernel
theorem dX11_has_0 : decode cX11_has 0 = .ok (.iload_n 0, 1) := by decide +kernel
theorem dX11_has_1 : decode cX11_has 1 = .ok (.iload_n 1, 1) := by decide +kernel
theorem dX11_has_2 : decode cX11_has 2 = .ok (.ishr, 1) := by decide +kernel
theorem dX11_has_3 : decode cX11_has 3 = .ok (.iconst 1, 1) := by decide +kernel
theorem dX11_has_4 : decode cX11_has 4 = .ok (.iand, 1) := by decide +kernel
theorem dX11_has_5 : decode cX11_has 5 = .ok (.iconst 1, 1) := by decide +kernel
theorem dX11_has_6 : decode cX11_has 6 = .ok (.if_icmp .ne 7, 3) := by decide +kernel
theorem dX11_has_9 : decode cX11_has 9 = .ok (.iconst 1, 1) := by decide +kernel
theorem dX11_has_10 : decode cX11_has 10 = .ok (.goto 4, 3) := by decide +kernel
theorem dX11_has_13 : decode cX11_has 13 = .ok (.iconst 0, 1) := by decide +kernel
theorem dX11_has_14 : decode cX11_has 14 = .ok (.ireturn, 1) := by decide +kernel
theorem dX11_ones_0 : decode cX11_ones 0 = .ok (.iconst 0, 1) := by decide +kernel
theorem dX11_ones_1 : decode cX11_ones 1 = .ok (.istore_n 1, 1) := by decide +kernel
theorem dX11_ones_2 : decode cX11_ones 2 = .ok (.iconst 0, 1) := by decide +kernel
theorem dX11_ones_3 : decode cX11_ones 3 = .ok (.istore_n 2, 1) := by decide +kernel
theorem dX11_ones_4 : decode cX11_ones 4 = .ok (.iload_n 2, 1) := by decide +kernel
theorem dX11_ones_5 : decode cX11_ones 5 = .ok (.bipush 6, 2) := by decide +kernel
theorem dX11_ones_7 : decode cX11_ones 7 = .ok (.if_icmp .ge 17, 3) := by decide +kernel
theorem dX11_ones_10 : decode cX11_ones 10 = .ok (.iload_n 1, 1) := by decide +kernel
theorem dX11_ones_11 : decode cX11_ones 11 = .ok (.iload_n 0, 1) := by decide +kernel
theorem dX11_ones_12 : decode cX11_ones 12 = .ok (.iload_n 2, 1) := by decide +kernel
theorem dX11_ones_13 : decode cX11_ones 13 = .ok (.ishr, 1) := by decide +kernel
theorem dX11_ones_14 : decode cX11_ones 14 = .ok (.iconst 1, 1) := by decide +kernel
theorem dX11_ones_15 : decode cX11_ones 15 = .ok (.iand, 1) := by decide +kernel
theorem dX11_ones_16 : decode cX11_ones 16 = .ok (.iadd, 1) := by decide +kernel
theorem dX11_ones_17 : decode cX11_ones 17 = .ok (.istore_n 1, 1) := by decide +kernel
theorem dX11_ones_18 : decode cX11_ones 18 = .ok (.iinc 2 1, 3) := by decide +kernel
theorem dX11_ones_21 : decode cX11_ones 21 = .ok (.goto (-17), 3) := by decide +kernel
theorem dX11_ones_24 : decode cX11_ones 24 = .ok (.iload_n 1, 1) := by decide +kernel
theorem dX11_ones_25 : decode cX11_ones 25 = .ok (.ireturn, 1) := by decide +kernel
theorem dX11_write_0 : decode cX11_write 0 = .ok (.iload_n 1, 1) := by decide +kernel
theorem dX11_write_1 : decode cX11_write 1 = .ok (.i2l, 1) := by decide +kernel
theorem dX11_write_2 : decode cX11_write 2 = .ok (.lconst 0, 1) := by decide +kernel
theorem dX11_write_3 : decode cX11_write 3 = .ok (.ldc2_w 59, 3) := by decide +kernel
theorem dX11_write_6 : decode cX11_write 6 = .ok (.invokestatic 61, 3) := by decide +kernel
theorem dX11_write_9 : decode cX11_write 9 = .ok (.ifCond .ne 6, 3) := by decide +kernel
theorem dX11_write_12 : decode cX11_write 12 = .ok (.bipush (-2), 2) := by decide +kernel
theorem dX11_write_14 : decode cX11_write 14 = .ok (.ireturn, 1) := by decide +kernel
theorem dX11_write_15 : decode cX11_write 15 = .ok (.aload_n 0, 1) := by decide +kernel
theorem dX11_write_16 : decode cX11_write 16 = .ok (.getfield 65, 3) := by decide +kernel
theorem dX11_write_19 : decode cX11_write 19 = .ok (.bipush 48, 2) := by decide +kernel
theorem dX11_write_21 : decode cX11_write 21 = .ok (.if_icmp .ne 6, 3) := by decide +kernel
theorem dX11_write_24 : decode cX11_write 24 = .ok (.bipush (-4), 2) := by decide +kernel
theorem dX11_write_26 : decode cX11_write 26 = .ok (.ireturn, 1) := by decide +kernel
theorem dX11_write_27 : decode cX11_write 27 = .ok (.aload_n 0, 1) := by decide +kernel
theorem dX11_write_28 : decode cX11_write 28 = .ok (.getfield 37, 3) := by decide +kernel
theorem dX11_write_31 : decode cX11_write 31 = .ok (.aload_n 0, 1) := by decide +kernel
theorem dX11_write_32 : decode cX11_write 32 = .ok (.getfield 65, 3) := by decide +kernel
theorem dX11_write_35 : decode cX11_write 35 = .ok (.iload_n 1, 1) := by decide +kernel
theorem dX11_write_36 : decode cX11_write 36 = .ok (.iastore, 1) := by decide +kernel
theorem dX11_write_37 : decode cX11_write 37 = .ok (.aload_n 0, 1) := by decide +kernel
theorem dX11_write_38 : decode cX11_write 38 = .ok (.dup, 1) := by decide +kernel
theorem dX11_write_39 : decode cX11_write 39 = .ok (.getfield 65, 3) := by decide +kernel
theorem dX11_write_42 : decode cX11_write 42 = .ok (.iconst 1, 1) := by decide +kernel
theorem dX11_write_43 : decode cX11_write 43 = .ok (.iadd, 1) := by decide +kernel
theorem dX11_write_44 : decode cX11_write 44 = .ok (.putfield 65, 3) := by decide +kernel
theorem dX11_write_47 : decode cX11_write 47 = .ok (.aload_n 0, 1) := by decide +kernel
theorem dX11_write_48 : decode cX11_write 48 = .ok (.getfield 65, 3) := by decide +kernel
theorem dX11_write_51 : decode cX11_write 51 = .ok (.ireturn, 1) := by decide +kernel
theorem dX11_wipe_0 : decode cX11_wipe 0 = .ok (.aload_n 0, 1) := by decide +kernel
theorem dX11_wipe_1 : decode cX11_wipe 1 = .ok (.getfield 65, 3) := by decide +kernel
theorem dX11_wipe_4 : decode cX11_wipe 4 = .ok (.istore_n 1, 1) := by decide +kernel
theorem dX11_wipe_5 : decode cX11_wipe 5 = .ok (.aload_n 0, 1) := by decide +kernel
theorem dX11_wipe_6 : decode cX11_wipe 6 = .ok (.iconst 0, 1) := by decide +kernel
theorem dX11_wipe_7 : decode cX11_wipe 7 = .ok (.putfield 65, 3) := by decide +kernel
theorem dX11_wipe_10 : decode cX11_wipe 10 = .ok (.iload_n 1, 1) := by decide +kernel
theorem dX11_wipe_11 : decode cX11_wipe 11 = .ok (.ireturn, 1) := by decide +kernel
theorem dX11_nextOf_0 : decode cX11_nextOf 0 = .ok (.aload_n 0, 1) := by decide +kernel
theorem dX11_nextOf_1 : decode cX11_nextOf 1 = .ok (.getfield 69, 3) := by decide +kernel
theorem dX11_nextOf_4 : decode cX11_nextOf 4 = .ok (.bipush (-9), 2) := by decide +kernel
theorem dX11_nextOf_6 : decode cX11_nextOf 6 = .ok (.if_icmp .ne 18, 3) := by decide +kernel
theorem dX11_nextOf_9 : decode cX11_nextOf 9 = .ok (.aload_n 0, 1) := by decide +kernel
theorem dX11_nextOf_10 : decode cX11_nextOf 10 = .ok (.getfield 72, 3) := by decide +kernel
theorem dX11_nextOf_13 : decode cX11_nextOf 13 = .ok (.aload_n 0, 1) := by decide +kernel
theorem dX11_nextOf_14 : decode cX11_nextOf 14 = .ok (.getfield 65, 3) := by decide +kernel
theorem dX11_nextOf_17 : decode cX11_nextOf 17 = .ok (.if_icmp .ge 7, 3) := by decide +kernel
theorem dX11_nextOf_20 : decode cX11_nextOf 20 = .ok (.iconst 1, 1) := by decide +kernel
theorem dX11_nextOf_21 : decode cX11_nextOf 21 = .ok (.goto 4, 3) := by decide +kernel
theorem dX11_nextOf_24 : decode cX11_nextOf 24 = .ok (.iconst 0, 1) := by decide +kernel
theorem dX11_nextOf_25 : decode cX11_nextOf 25 = .ok (.istore 4, 2) := by decide +kernel
theorem dX11_nextOf_27 : decode cX11_nextOf 27 = .ok (.iload 4, 2) := by decide +kernel
theorem dX11_nextOf_29 : decode cX11_nextOf 29 = .ok (.ifCond .eq 17, 3) := by decide +kernel
theorem dX11_nextOf_32 : decode cX11_nextOf 32 = .ok (.aload_n 0, 1) := by decide +kernel
theorem dX11_nextOf_33 : decode cX11_nextOf 33 = .ok (.getfield 37, 3) := by decide +kernel
theorem dX11_nextOf_36 : decode cX11_nextOf 36 = .ok (.aload_n 0, 1) := by decide +kernel
theorem dX11_nextOf_37 : decode cX11_nextOf 37 = .ok (.getfield 72, 3) := by decide +kernel
theorem dX11_nextOf_40 : decode cX11_nextOf 40 = .ok (.iaload, 1) := by decide +kernel
theorem dX11_nextOf_41 : decode cX11_nextOf 41 = .ok (.iload_n 1, 1) := by decide +kernel
theorem dX11_nextOf_42 : decode cX11_nextOf 42 = .ok (.isub, 1) := by decide +kernel
theorem dX11_nextOf_43 : decode cX11_nextOf 43 = .ok (.goto 4, 3) := by decide +kernel
theorem dX11_nextOf_46 : decode cX11_nextOf 46 = .ok (.iconst 0, 1) := by decide +kernel
theorem dX11_nextOf_47 : decode cX11_nextOf 47 = .ok (.istore 5, 2) := by decide +kernel
theorem dX11_nextOf_49 : decode cX11_nextOf 49 = .ok (.iload 4, 2) := by decide +kernel
theorem dX11_nextOf_51 : decode cX11_nextOf 51 = .ok (.ifCond .eq 24, 3) := by decide +kernel
theorem dX11_nextOf_54 : decode cX11_nextOf 54 = .ok (.iload 5, 2) := by decide +kernel
theorem dX11_nextOf_56 : decode cX11_nextOf 56 = .ok (.i2l, 1) := by decide +kernel
theorem dX11_nextOf_57 : decode cX11_nextOf 57 = .ok (.lconst 0, 1) := by decide +kernel
theorem dX11_nextOf_58 : decode cX11_nextOf 58 = .ok (.iload_n 2, 1) := by decide +kernel
theorem dX11_nextOf_59 : decode cX11_nextOf 59 = .ok (.i2l, 1) := by decide +kernel
theorem dX11_nextOf_60 : decode cX11_nextOf 60 = .ok (.invokestatic 61, 3) := by decide +kernel
theorem dX11_nextOf_63 : decode cX11_nextOf 63 = .ok (.ifCond .eq 12, 3) := by decide +kernel
theorem dX11_nextOf_66 : decode cX11_nextOf 66 = .ok (.iload_n 3, 1) := by decide +kernel
theorem dX11_nextOf_67 : decode cX11_nextOf 67 = .ok (.iload 5, 2) := by decide +kernel
theorem dX11_nextOf_69 : decode cX11_nextOf 69 = .ok (.invokestatic 75, 3) := by decide +kernel
theorem dX11_nextOf_72 : decode cX11_nextOf 72 = .ok (.ifCond .eq 29, 3) := by decide +kernel
theorem dX11_nextOf_75 : decode cX11_nextOf 75 = .ok (.aload_n 0, 1) := by decide +kernel
theorem dX11_nextOf_76 : decode cX11_nextOf 76 = .ok (.aload_n 0, 1) := by decide +kernel
theorem dX11_nextOf_77 : decode cX11_nextOf 77 = .ok (.getfield 69, 3) := by decide +kernel
theorem dX11_nextOf_80 : decode cX11_nextOf 80 = .ok (.bipush (-9), 2) := by decide +kernel
theorem dX11_nextOf_82 : decode cX11_nextOf 82 = .ok (.if_icmp .ne 10, 3) := by decide +kernel
theorem dX11_nextOf_85 : decode cX11_nextOf 85 = .ok (.aload_n 0, 1) := by decide +kernel
theorem dX11_nextOf_86 : decode cX11_nextOf 86 = .ok (.getfield 72, 3) := by decide +kernel
theorem dX11_nextOf_89 : decode cX11_nextOf 89 = .ok (.goto 7, 3) := by decide +kernel
theorem dX11_nextOf_92 : decode cX11_nextOf 92 = .ok (.aload_n 0, 1) := by decide +kernel
theorem dX11_nextOf_93 : decode cX11_nextOf 93 = .ok (.getfield 69, 3) := by decide +kernel
theorem dX11_nextOf_96 : decode cX11_nextOf 96 = .ok (.putfield 69, 3) := by decide +kernel
theorem dX11_nextOf_99 : decode cX11_nextOf 99 = .ok (.iconst 0, 1) := by decide +kernel
theorem dX11_nextOf_100 : decode cX11_nextOf 100 = .ok (.ireturn, 1) := by decide +kernel
theorem dX11_nextOf_101 : decode cX11_nextOf 101 = .ok (.aload_n 0, 1) := by decide +kernel
theorem dX11_nextOf_102 : decode cX11_nextOf 102 = .ok (.dup, 1) := by decide +kernel
theorem dX11_nextOf_103 : decode cX11_nextOf 103 = .ok (.getfield 72, 3) := by decide +kernel
theorem dX11_nextOf_106 : decode cX11_nextOf 106 = .ok (.iconst 1, 1) := by decide +kernel
theorem dX11_nextOf_107 : decode cX11_nextOf 107 = .ok (.iadd, 1) := by decide +kernel
theorem dX11_nextOf_108 : decode cX11_nextOf 108 = .ok (.putfield 72, 3) := by decide +kernel
theorem dX11_nextOf_111 : decode cX11_nextOf 111 = .ok (.iload 5, 2) := by decide +kernel
theorem dX11_nextOf_113 : decode cX11_nextOf 113 = .ok (.ireturn, 1) := by decide +kernel
theorem dX11_readText_0 : decode cX11_readText 0 = .ok (.aload_n 0, 1) := by decide +kernel
theorem dX11_readText_1 : decode cX11_readText 1 = .ok (.iconst 0, 1) := by decide +kernel
theorem dX11_readText_2 : decode cX11_readText 2 = .ok (.putfield 72, 3) := by decide +kernel
theorem dX11_readText_5 : decode cX11_readText 5 = .ok (.aload_n 0, 1) := by decide +kernel
theorem dX11_readText_6 : decode cX11_readText 6 = .ok (.bipush (-9), 2) := by decide +kernel
theorem dX11_readText_8 : decode cX11_readText 8 = .ok (.putfield 69, 3) := by decide +kernel
theorem dX11_readText_11 : decode cX11_readText 11 = .ok (.aload_n 0, 1) := by decide +kernel
theorem dX11_readText_12 : decode cX11_readText 12 = .ok (.iconst 0, 1) := by decide +kernel
theorem dX11_readText_13 : decode cX11_readText 13 = .ok (.putfield 79, 3) := by decide +kernel
theorem dX11_readText_16 : decode cX11_readText 16 = .ok (.aload_n 0, 1) := by decide +kernel
theorem dX11_readText_17 : decode cX11_readText 17 = .ok (.iconst 0, 1) := by decide +kernel
theorem dX11_readText_18 : decode cX11_readText 18 = .ok (.putfield 82, 3) := by decide +kernel
theorem dX11_readText_21 : decode cX11_readText 21 = .ok (.aload_n 0, 1) := by decide +kernel
theorem dX11_readText_22 : decode cX11_readText 22 = .ok (.iconst 0, 1) := by decide +kernel
theorem dX11_readText_23 : decode cX11_readText 23 = .ok (.putfield 85, 3) := by decide +kernel
theorem dX11_readText_26 : decode cX11_readText 26 = .ok (.aload_n 0, 1) := by decide +kernel
theorem dX11_readText_27 : decode cX11_readText 27 = .ok (.getfield 65, 3) := by decide +kernel
theorem dX11_readText_30 : decode cX11_readText 30 = .ok (.ifCond .eq 14, 3) := by decide +kernel
theorem dX11_readText_33 : decode cX11_readText 33 = .ok (.aload_n 0, 1) := by decide +kernel
theorem dX11_readText_34 : decode cX11_readText 34 = .ok (.getfield 37, 3) := by decide +kernel
theorem dX11_readText_37 : decode cX11_readText 37 = .ok (.iconst 0, 1) := by decide +kernel
theorem dX11_readText_38 : decode cX11_readText 38 = .ok (.iaload, 1) := by decide +kernel
theorem dX11_readText_39 : decode cX11_readText 39 = .ok (.bipush 75, 2) := by decide +kernel
theorem dX11_readText_41 : decode cX11_readText 41 = .ok (.if_icmp .eq 5, 3) := by decide +kernel
theorem dX11_readText_44 : decode cX11_readText 44 = .ok (.iconst 0, 1) := by decide +kernel
theorem dX11_readText_45 : decode cX11_readText 45 = .ok (.ireturn, 1) := by decide +kernel
theorem dX11_readText_46 : decode cX11_readText 46 = .ok (.aload_n 0, 1) := by decide +kernel
theorem dX11_readText_47 : decode cX11_readText 47 = .ok (.iconst 1, 1) := by decide +kernel
theorem dX11_readText_48 : decode cX11_readText 48 = .ok (.putfield 72, 3) := by decide +kernel
theorem dX11_readText_51 : decode cX11_readText 51 = .ok (.aload_n 0, 1) := by decide +kernel
theorem dX11_readText_52 : decode cX11_readText 52 = .ok (.getfield 69, 3) := by decide +kernel
theorem dX11_readText_55 : decode cX11_readText 55 = .ok (.bipush (-9), 2) := by decide +kernel
theorem dX11_readText_57 : decode cX11_readText 57 = .ok (.if_icmp .ne 30, 3) := by decide +kernel
theorem dX11_readText_60 : decode cX11_readText 60 = .ok (.aload_n 0, 1) := by decide +kernel
theorem dX11_readText_61 : decode cX11_readText 61 = .ok (.getfield 72, 3) := by decide +kernel
theorem dX11_readText_64 : decode cX11_readText 64 = .ok (.aload_n 0, 1) := by decide +kernel
theorem dX11_readText_65 : decode cX11_readText 65 = .ok (.getfield 65, 3) := by decide +kernel
theorem dX11_readText_68 : decode cX11_readText 68 = .ok (.if_icmp .ge 19, 3) := by decide +kernel
theorem dX11_readText_71 : decode cX11_readText 71 = .ok (.aload_n 0, 1) := by decide +kernel
theorem dX11_readText_72 : decode cX11_readText 72 = .ok (.aload_n 0, 1) := by decide +kernel
theorem dX11_readText_73 : decode cX11_readText 73 = .ok (.getfield 37, 3) := by decide +kernel
theorem dX11_readText_76 : decode cX11_readText 76 = .ok (.aload_n 0, 1) := by decide +kernel
theorem dX11_readText_77 : decode cX11_readText 77 = .ok (.getfield 72, 3) := by decide +kernel
theorem dX11_readText_80 : decode cX11_readText 80 = .ok (.iaload, 1) := by decide +kernel
theorem dX11_readText_81 : decode cX11_readText 81 = .ok (.invokevirtual 88, 3) := by decide +kernel
theorem dX11_readText_84 : decode cX11_readText 84 = .ok (.goto (-33), 3) := by decide +kernel
theorem dX11_readText_87 : decode cX11_readText 87 = .ok (.aload_n 0, 1) := by decide +kernel
theorem dX11_readText_88 : decode cX11_readText 88 = .ok (.getfield 69, 3) := by decide +kernel
theorem dX11_readText_91 : decode cX11_readText 91 = .ok (.ireturn, 1) := by decide +kernel
theorem dX11_readPart_0 : decode cX11_readPart 0 = .ok (.iload_n 1, 1) := by decide +kernel
theorem dX11_readPart_1 : decode cX11_readPart 1 = .ok (.bipush 71, 2) := by decide +kernel
theorem dX11_readPart_3 : decode cX11_readPart 3 = .ok (.if_icmp .ne 28, 3) := by decide +kernel
theorem dX11_readPart_6 : decode cX11_readPart 6 = .ok (.aload_n 0, 1) := by decide +kernel
theorem dX11_readPart_7 : decode cX11_readPart 7 = .ok (.getfield 79, 3) := by decide +kernel
theorem dX11_readPart_10 : decode cX11_readPart 10 = .ok (.iconst 4, 1) := by decide +kernel
theorem dX11_readPart_11 : decode cX11_readPart 11 = .ok (.if_icmp .ge 20, 3) := by decide +kernel
theorem dX11_readPart_14 : decode cX11_readPart 14 = .ok (.aload_n 0, 1) := by decide +kernel
theorem dX11_readPart_15 : decode cX11_readPart 15 = .ok (.dup, 1) := by decide +kernel
theorem dX11_readPart_16 : decode cX11_readPart 16 = .ok (.getfield 72, 3) := by decide +kernel
theorem dX11_readPart_19 : decode cX11_readPart 19 = .ok (.iconst 1, 1) := by decide +kernel
theorem dX11_readPart_20 : decode cX11_readPart 20 = .ok (.iadd, 1) := by decide +kernel
theorem dX11_readPart_21 : decode cX11_readPart 21 = .ok (.putfield 72, 3) := by decide +kernel
theorem dX11_readPart_24 : decode cX11_readPart 24 = .ok (.aload_n 0, 1) := by decide +kernel
theorem dX11_readPart_25 : decode cX11_readPart 25 = .ok (.invokevirtual 92, 3) := by decide +kernel
theorem dX11_readPart_28 : decode cX11_readPart 28 = .ok (.goto 89, 3) := by decide +kernel
theorem dX11_readPart_31 : decode cX11_readPart 31 = .ok (.iload_n 1, 1) := by decide +kernel
theorem dX11_readPart_32 : decode cX11_readPart 32 = .ok (.bipush 73, 2) := by decide +kernel
theorem dX11_readPart_34 : decode cX11_readPart 34 = .ok (.if_icmp .ne 75, 3) := by decide +kernel
theorem dX11_readPart_37 : decode cX11_readPart 37 = .ok (.aload_n 0, 1) := by decide +kernel
theorem dX11_readPart_38 : decode cX11_readPart 38 = .ok (.getfield 82, 3) := by decide +kernel
theorem dX11_readPart_41 : decode cX11_readPart 41 = .ok (.iconst 4, 1) := by decide +kernel
theorem dX11_readPart_42 : decode cX11_readPart 42 = .ok (.if_icmp .ge 67, 3) := by decide +kernel
theorem dX11_readPart_45 : decode cX11_readPart 45 = .ok (.aload_n 0, 1) := by decide +kernel
theorem dX11_readPart_46 : decode cX11_readPart 46 = .ok (.dup, 1) := by decide +kernel
theorem dX11_readPart_47 : decode cX11_readPart 47 = .ok (.getfield 72, 3) := by decide +kernel
theorem dX11_readPart_50 : decode cX11_readPart 50 = .ok (.iconst 1, 1) := by decide +kernel
theorem dX11_readPart_51 : decode cX11_readPart 51 = .ok (.iadd, 1) := by decide +kernel
theorem dX11_readPart_52 : decode cX11_readPart 52 = .ok (.putfield 72, 3) := by decide +kernel
theorem dX11_readPart_55 : decode cX11_readPart 55 = .ok (.aload_n 0, 1) := by decide +kernel
theorem dX11_readPart_56 : decode cX11_readPart 56 = .ok (.getfield 34, 3) := by decide +kernel
theorem dX11_readPart_59 : decode cX11_readPart 59 = .ok (.iconst 2, 1) := by decide +kernel
theorem dX11_readPart_60 : decode cX11_readPart 60 = .ok (.aload_n 0, 1) := by decide +kernel
theorem dX11_readPart_61 : decode cX11_readPart 61 = .ok (.getfield 82, 3) := by decide +kernel
theorem dX11_readPart_64 : decode cX11_readPart 64 = .ok (.imul, 1) := by decide +kernel
theorem dX11_readPart_65 : decode cX11_readPart 65 = .ok (.aload_n 0, 1) := by decide +kernel
theorem dX11_readPart_66 : decode cX11_readPart 66 = .ok (.bipush 48, 2) := by decide +kernel
theorem dX11_readPart_68 : decode cX11_readPart 68 = .ok (.bipush 9, 2) := by decide +kernel
theorem dX11_readPart_70 : decode cX11_readPart 70 = .ok (.iconst 0, 1) := by decide +kernel
theorem dX11_readPart_71 : decode cX11_readPart 71 = .ok (.invokevirtual 95, 3) := by decide +kernel
theorem dX11_readPart_74 : decode cX11_readPart 74 = .ok (.iastore, 1) := by decide +kernel
theorem dX11_readPart_75 : decode cX11_readPart 75 = .ok (.aload_n 0, 1) := by decide +kernel
theorem dX11_readPart_76 : decode cX11_readPart 76 = .ok (.getfield 34, 3) := by decide +kernel
theorem dX11_readPart_79 : decode cX11_readPart 79 = .ok (.iconst 2, 1) := by decide +kernel
theorem dX11_readPart_80 : decode cX11_readPart 80 = .ok (.aload_n 0, 1) := by decide +kernel
theorem dX11_readPart_81 : decode cX11_readPart 81 = .ok (.getfield 82, 3) := by decide +kernel
theorem dX11_readPart_84 : decode cX11_readPart 84 = .ok (.imul, 1) := by decide +kernel
theorem dX11_readPart_85 : decode cX11_readPart 85 = .ok (.iconst 1, 1) := by decide +kernel
theorem dX11_readPart_86 : decode cX11_readPart 86 = .ok (.iadd, 1) := by decide +kernel
theorem dX11_readPart_87 : decode cX11_readPart 87 = .ok (.aload_n 0, 1) := by decide +kernel
theorem dX11_readPart_88 : decode cX11_readPart 88 = .ok (.bipush 48, 2) := by decide +kernel
theorem dX11_readPart_90 : decode cX11_readPart 90 = .ok (.iconst 3, 1) := by decide +kernel
theorem dX11_readPart_91 : decode cX11_readPart 91 = .ok (.iconst 0, 1) := by decide +kernel
theorem dX11_readPart_92 : decode cX11_readPart 92 = .ok (.invokevirtual 95, 3) := by decide +kernel
theorem dX11_readPart_95 : decode cX11_readPart 95 = .ok (.iastore, 1) := by decide +kernel
theorem dX11_readPart_96 : decode cX11_readPart 96 = .ok (.aload_n 0, 1) := by decide +kernel
theorem dX11_readPart_97 : decode cX11_readPart 97 = .ok (.dup, 1) := by decide +kernel
theorem dX11_readPart_98 : decode cX11_readPart 98 = .ok (.getfield 82, 3) := by decide +kernel
theorem dX11_readPart_101 : decode cX11_readPart 101 = .ok (.iconst 1, 1) := by decide +kernel
theorem dX11_readPart_102 : decode cX11_readPart 102 = .ok (.iadd, 1) := by decide +kernel
theorem dX11_readPart_103 : decode cX11_readPart 103 = .ok (.putfield 82, 3) := by decide +kernel
theorem dX11_readPart_106 : decode cX11_readPart 106 = .ok (.goto 11, 3) := by decide +kernel
theorem dX11_readPart_109 : decode cX11_readPart 109 = .ok (.aload_n 0, 1) := by decide +kernel
theorem dX11_readPart_110 : decode cX11_readPart 110 = .ok (.aload_n 0, 1) := by decide +kernel
theorem dX11_readPart_111 : decode cX11_readPart 111 = .ok (.getfield 72, 3) := by decide +kernel
theorem dX11_readPart_114 : decode cX11_readPart 114 = .ok (.putfield 69, 3) := by decide +kernel
theorem dX11_readPart_117 : decode cX11_readPart 117 = .ok (.return_, 1) := by decide +kernel
theorem dX11_readOne_0 : decode cX11_readOne 0 = .ok (.aload_n 0, 1) := by decide +kernel
theorem dX11_readOne_1 : decode cX11_readOne 1 = .ok (.getfield 25, 3) := by decide +kernel
theorem dX11_readOne_4 : decode cX11_readOne 4 = .ok (.aload_n 0, 1) := by decide +kernel
theorem dX11_readOne_5 : decode cX11_readOne 5 = .ok (.getfield 79, 3) := by decide +kernel
theorem dX11_readOne_8 : decode cX11_readOne 8 = .ok (.aload_n 0, 1) := by decide +kernel
theorem dX11_readOne_9 : decode cX11_readOne 9 = .ok (.bipush 48, 2) := by decide +kernel
theorem dX11_readOne_11 : decode cX11_readOne 11 = .ok (.bipush 9, 2) := by decide +kernel
theorem dX11_readOne_13 : decode cX11_readOne 13 = .ok (.aload_n 0, 1) := by decide +kernel
theorem dX11_readOne_14 : decode cX11_readOne 14 = .ok (.getfield 85, 3) := by decide +kernel
theorem dX11_readOne_17 : decode cX11_readOne 17 = .ok (.invokevirtual 95, 3) := by decide +kernel
theorem dX11_readOne_20 : decode cX11_readOne 20 = .ok (.iastore, 1) := by decide +kernel
theorem dX11_readOne_21 : decode cX11_readOne 21 = .ok (.aload_n 0, 1) := by decide +kernel
theorem dX11_readOne_22 : decode cX11_readOne 22 = .ok (.dup, 1) := by decide +kernel
theorem dX11_readOne_23 : decode cX11_readOne 23 = .ok (.getfield 85, 3) := by decide +kernel
theorem dX11_readOne_26 : decode cX11_readOne 26 = .ok (.iconst 1, 1) := by decide +kernel
theorem dX11_readOne_27 : decode cX11_readOne 27 = .ok (.aload_n 0, 1) := by decide +kernel
theorem dX11_readOne_28 : decode cX11_readOne 28 = .ok (.getfield 25, 3) := by decide +kernel
theorem dX11_readOne_31 : decode cX11_readOne 31 = .ok (.aload_n 0, 1) := by decide +kernel
theorem dX11_readOne_32 : decode cX11_readOne 32 = .ok (.getfield 79, 3) := by decide +kernel
theorem dX11_readOne_35 : decode cX11_readOne 35 = .ok (.iaload, 1) := by decide +kernel
theorem dX11_readOne_36 : decode cX11_readOne 36 = .ok (.ishl, 1) := by decide +kernel
theorem dX11_readOne_37 : decode cX11_readOne 37 = .ok (.ior, 1) := by decide +kernel
theorem dX11_readOne_38 : decode cX11_readOne 38 = .ok (.putfield 85, 3) := by decide +kernel
theorem dX11_readOne_41 : decode cX11_readOne 41 = .ok (.iconst 0, 1) := by decide +kernel
theorem dX11_readOne_42 : decode cX11_readOne 42 = .ok (.istore_n 1, 1) := by decide +kernel
theorem dX11_readOne_43 : decode cX11_readOne 43 = .ok (.iconst 0, 1) := by decide +kernel
theorem dX11_readOne_44 : decode cX11_readOne 44 = .ok (.istore_n 2, 1) := by decide +kernel
theorem dX11_readOne_45 : decode cX11_readOne 45 = .ok (.iconst 1, 1) := by decide +kernel
theorem dX11_readOne_46 : decode cX11_readOne 46 = .ok (.istore_n 3, 1) := by decide +kernel
theorem dX11_readOne_47 : decode cX11_readOne 47 = .ok (.iload_n 3, 1) := by decide +kernel
theorem dX11_readOne_48 : decode cX11_readOne 48 = .ok (.ifCond .eq 94, 3) := by decide +kernel
theorem dX11_readOne_51 : decode cX11_readOne 51 = .ok (.aload_n 0, 1) := by decide +kernel
theorem dX11_readOne_52 : decode cX11_readOne 52 = .ok (.bipush 97, 2) := by decide +kernel
theorem dX11_readOne_54 : decode cX11_readOne 54 = .ok (.iconst 5, 1) := by decide +kernel
theorem dX11_readOne_55 : decode cX11_readOne 55 = .ok (.iload_n 1, 1) := by decide +kernel
theorem dX11_readOne_56 : decode cX11_readOne 56 = .ok (.invokevirtual 95, 3) := by decide +kernel
theorem dX11_readOne_59 : decode cX11_readOne 59 = .ok (.istore 4, 2) := by decide +kernel
theorem dX11_readOne_61 : decode cX11_readOne 61 = .ok (.aload_n 0, 1) := by decide +kernel
theorem dX11_readOne_62 : decode cX11_readOne 62 = .ok (.getfield 31, 3) := by decide +kernel
theorem dX11_readOne_65 : decode cX11_readOne 65 = .ok (.iconst 4, 1) := by decide +kernel
theorem dX11_readOne_66 : decode cX11_readOne 66 = .ok (.aload_n 0, 1) := by decide +kernel
theorem dX11_readOne_67 : decode cX11_readOne 67 = .ok (.getfield 79, 3) := by decide +kernel
theorem dX11_readOne_70 : decode cX11_readOne 70 = .ok (.imul, 1) := by decide +kernel
theorem dX11_readOne_71 : decode cX11_readOne 71 = .ok (.iload_n 2, 1) := by decide +kernel
theorem dX11_readOne_72 : decode cX11_readOne 72 = .ok (.iadd, 1) := by decide +kernel
theorem dX11_readOne_73 : decode cX11_readOne 73 = .ok (.iload 4, 2) := by decide +kernel
theorem dX11_readOne_75 : decode cX11_readOne 75 = .ok (.iastore, 1) := by decide +kernel
theorem dX11_readOne_76 : decode cX11_readOne 76 = .ok (.iload_n 1, 1) := by decide +kernel
theorem dX11_readOne_77 : decode cX11_readOne 77 = .ok (.iconst 1, 1) := by decide +kernel
theorem dX11_readOne_78 : decode cX11_readOne 78 = .ok (.iload 4, 2) := by decide +kernel
theorem dX11_readOne_80 : decode cX11_readOne 80 = .ok (.ishl, 1) := by decide +kernel
theorem dX11_readOne_81 : decode cX11_readOne 81 = .ok (.ior, 1) := by decide +kernel
theorem dX11_readOne_82 : decode cX11_readOne 82 = .ok (.istore_n 1, 1) := by decide +kernel
theorem dX11_readOne_83 : decode cX11_readOne 83 = .ok (.iinc 2 1, 3) := by decide +kernel
theorem dX11_readOne_86 : decode cX11_readOne 86 = .ok (.aload_n 0, 1) := by decide +kernel
theorem dX11_readOne_87 : decode cX11_readOne 87 = .ok (.getfield 69, 3) := by decide +kernel
theorem dX11_readOne_90 : decode cX11_readOne 90 = .ok (.bipush (-9), 2) := by decide +kernel
theorem dX11_readOne_92 : decode cX11_readOne 92 = .ok (.if_icmp .ne 45, 3) := by decide +kernel
theorem dX11_readOne_95 : decode cX11_readOne 95 = .ok (.iload_n 2, 1) := by decide +kernel
theorem dX11_readOne_96 : decode cX11_readOne 96 = .ok (.iconst 4, 1) := by decide +kernel
theorem dX11_readOne_97 : decode cX11_readOne 97 = .ok (.if_icmp .ge 40, 3) := by decide +kernel
theorem dX11_readOne_100 : decode cX11_readOne 100 = .ok (.aload_n 0, 1) := by decide +kernel
theorem dX11_readOne_101 : decode cX11_readOne 101 = .ok (.getfield 72, 3) := by decide +kernel
theorem dX11_readOne_104 : decode cX11_readOne 104 = .ok (.aload_n 0, 1) := by decide +kernel
theorem dX11_readOne_105 : decode cX11_readOne 105 = .ok (.getfield 65, 3) := by decide +kernel
theorem dX11_readOne_108 : decode cX11_readOne 108 = .ok (.if_icmp .ge 29, 3) := by decide +kernel
theorem dX11_readOne_111 : decode cX11_readOne 111 = .ok (.aload_n 0, 1) := by decide +kernel
theorem dX11_readOne_112 : decode cX11_readOne 112 = .ok (.getfield 37, 3) := by decide +kernel
theorem dX11_readOne_115 : decode cX11_readOne 115 = .ok (.aload_n 0, 1) := by decide +kernel
theorem dX11_readOne_116 : decode cX11_readOne 116 = .ok (.getfield 72, 3) := by decide +kernel
theorem dX11_readOne_119 : decode cX11_readOne 119 = .ok (.iaload, 1) := by decide +kernel
theorem dX11_readOne_120 : decode cX11_readOne 120 = .ok (.i2l, 1) := by decide +kernel
theorem dX11_readOne_121 : decode cX11_readOne 121 = .ok (.ldc2_w 99, 3) := by decide +kernel
theorem dX11_readOne_124 : decode cX11_readOne 124 = .ok (.ldc2_w 101, 3) := by decide +kernel
theorem dX11_readOne_127 : decode cX11_readOne 127 = .ok (.invokestatic 61, 3) := by decide +kernel
theorem dX11_readOne_130 : decode cX11_readOne 130 = .ok (.ifCond .eq 7, 3) := by decide +kernel
theorem dX11_readOne_133 : decode cX11_readOne 133 = .ok (.iconst 1, 1) := by decide +kernel
theorem dX11_readOne_134 : decode cX11_readOne 134 = .ok (.goto 4, 3) := by decide +kernel
theorem dX11_readOne_137 : decode cX11_readOne 137 = .ok (.iconst 0, 1) := by decide +kernel
theorem dX11_readOne_138 : decode cX11_readOne 138 = .ok (.istore_n 3, 1) := by decide +kernel
theorem dX11_readOne_139 : decode cX11_readOne 139 = .ok (.goto (-92), 3) := by decide +kernel
theorem dX11_readOne_142 : decode cX11_readOne 142 = .ok (.aload_n 0, 1) := by decide +kernel
theorem dX11_readOne_143 : decode cX11_readOne 143 = .ok (.getfield 28, 3) := by decide +kernel
theorem dX11_readOne_146 : decode cX11_readOne 146 = .ok (.aload_n 0, 1) := by decide +kernel
theorem dX11_readOne_147 : decode cX11_readOne 147 = .ok (.getfield 79, 3) := by decide +kernel
theorem dX11_readOne_150 : decode cX11_readOne 150 = .ok (.iload_n 2, 1) := by decide +kernel
theorem dX11_readOne_151 : decode cX11_readOne 151 = .ok (.iastore, 1) := by decide +kernel
theorem dX11_readOne_152 : decode cX11_readOne 152 = .ok (.aload_n 0, 1) := by decide +kernel
theorem dX11_readOne_153 : decode cX11_readOne 153 = .ok (.dup, 1) := by decide +kernel
theorem dX11_readOne_154 : decode cX11_readOne 154 = .ok (.getfield 79, 3) := by decide +kernel
theorem dX11_readOne_157 : decode cX11_readOne 157 = .ok (.iconst 1, 1) := by decide +kernel
theorem dX11_readOne_158 : decode cX11_readOne 158 = .ok (.iadd, 1) := by decide +kernel
theorem dX11_readOne_159 : decode cX11_readOne 159 = .ok (.putfield 79, 3) := by decide +kernel
theorem dX11_readOne_162 : decode cX11_readOne 162 = .ok (.return_, 1) := by decide +kernel
theorem dX11_fault_0 : decode cX11_fault 0 = .ok (.aload_n 0, 1) := by decide +kernel
theorem dX11_fault_1 : decode cX11_fault 1 = .ok (.invokevirtual 103, 3) := by decide +kernel
theorem dX11_fault_4 : decode cX11_fault 4 = .ok (.ireturn, 1) := by decide +kernel
theorem dX11_hill_0 : decode cX11_hill 0 = .ok (.aload_n 0, 1) := by decide +kernel
theorem dX11_hill_1 : decode cX11_hill 1 = .ok (.invokevirtual 103, 3) := by decide +kernel
theorem dX11_hill_4 : decode cX11_hill 4 = .ok (.bipush (-9), 2) := by decide +kernel
theorem dX11_hill_6 : decode cX11_hill 6 = .ok (.if_icmp .eq 6, 3) := by decide +kernel
theorem dX11_hill_9 : decode cX11_hill 9 = .ok (.bipush (-3), 2) := by decide +kernel
theorem dX11_hill_11 : decode cX11_hill 11 = .ok (.ireturn, 1) := by decide +kernel
theorem dX11_hill_12 : decode cX11_hill 12 = .ok (.aload_n 0, 1) := by decide +kernel
theorem dX11_hill_13 : decode cX11_hill 13 = .ok (.aload_n 0, 1) := by decide +kernel
theorem dX11_hill_14 : decode cX11_hill 14 = .ok (.getfield 79, 3) := by decide +kernel
theorem dX11_hill_17 : decode cX11_hill 17 = .ok (.putfield 107, 3) := by decide +kernel
theorem dX11_hill_20 : decode cX11_hill 20 = .ok (.aload_n 0, 1) := by decide +kernel
theorem dX11_hill_21 : decode cX11_hill 21 = .ok (.aload_n 0, 1) := by decide +kernel
theorem dX11_hill_22 : decode cX11_hill 22 = .ok (.getfield 82, 3) := by decide +kernel
theorem dX11_hill_25 : decode cX11_hill 25 = .ok (.putfield 110, 3) := by decide +kernel
theorem dX11_hill_28 : decode cX11_hill 28 = .ok (.iconst 0, 1) := by decide +kernel
theorem dX11_hill_29 : decode cX11_hill 29 = .ok (.istore_n 1, 1) := by decide +kernel
theorem dX11_hill_30 : decode cX11_hill 30 = .ok (.iload_n 1, 1) := by decide +kernel
theorem dX11_hill_31 : decode cX11_hill 31 = .ok (.bipush 14, 2) := by decide +kernel
theorem dX11_hill_33 : decode cX11_hill 33 = .ok (.if_icmp .ge 16, 3) := by decide +kernel
theorem dX11_hill_36 : decode cX11_hill 36 = .ok (.aload_n 0, 1) := by decide +kernel
theorem dX11_hill_37 : decode cX11_hill 37 = .ok (.getfield 22, 3) := by decide +kernel
theorem dX11_hill_40 : decode cX11_hill 40 = .ok (.iload_n 1, 1) := by decide +kernel
theorem dX11_hill_41 : decode cX11_hill 41 = .ok (.iconst 0, 1) := by decide +kernel
theorem dX11_hill_42 : decode cX11_hill 42 = .ok (.iastore, 1) := by decide +kernel
theorem dX11_hill_43 : decode cX11_hill 43 = .ok (.iinc 1 1, 3) := by decide +kernel
theorem dX11_hill_46 : decode cX11_hill 46 = .ok (.goto (-16), 3) := by decide +kernel
theorem dX11_hill_49 : decode cX11_hill 49 = .ok (.iconst 0, 1) := by decide +kernel
theorem dX11_hill_50 : decode cX11_hill 50 = .ok (.istore_n 1, 1) := by decide +kernel
theorem dX11_hill_51 : decode cX11_hill 51 = .ok (.iload_n 1, 1) := by decide +kernel
theorem dX11_hill_52 : decode cX11_hill 52 = .ok (.aload_n 0, 1) := by decide +kernel
theorem dX11_hill_53 : decode cX11_hill 53 = .ok (.getfield 107, 3) := by decide +kernel
theorem dX11_hill_56 : decode cX11_hill 56 = .ok (.if_icmp .ge 33, 3) := by decide +kernel
theorem dX11_hill_59 : decode cX11_hill 59 = .ok (.aload_n 0, 1) := by decide +kernel
theorem dX11_hill_60 : decode cX11_hill 60 = .ok (.getfield 7, 3) := by decide +kernel
theorem dX11_hill_63 : decode cX11_hill 63 = .ok (.iload_n 1, 1) := by decide +kernel
theorem dX11_hill_64 : decode cX11_hill 64 = .ok (.aload_n 0, 1) := by decide +kernel
theorem dX11_hill_65 : decode cX11_hill 65 = .ok (.getfield 25, 3) := by decide +kernel
theorem dX11_hill_68 : decode cX11_hill 68 = .ok (.iload_n 1, 1) := by decide +kernel
theorem dX11_hill_69 : decode cX11_hill 69 = .ok (.iaload, 1) := by decide +kernel
theorem dX11_hill_70 : decode cX11_hill 70 = .ok (.iastore, 1) := by decide +kernel
theorem dX11_hill_71 : decode cX11_hill 71 = .ok (.aload_n 0, 1) := by decide +kernel
theorem dX11_hill_72 : decode cX11_hill 72 = .ok (.getfield 13, 3) := by decide +kernel
theorem dX11_hill_75 : decode cX11_hill 75 = .ok (.iload_n 1, 1) := by decide +kernel
theorem dX11_hill_76 : decode cX11_hill 76 = .ok (.aload_n 0, 1) := by decide +kernel
theorem dX11_hill_77 : decode cX11_hill 77 = .ok (.getfield 28, 3) := by decide +kernel
theorem dX11_hill_80 : decode cX11_hill 80 = .ok (.iload_n 1, 1) := by decide +kernel
theorem dX11_hill_81 : decode cX11_hill 81 = .ok (.iaload, 1) := by decide +kernel
theorem dX11_hill_82 : decode cX11_hill 82 = .ok (.iastore, 1) := by decide +kernel
theorem dX11_hill_83 : decode cX11_hill 83 = .ok (.iinc 1 1, 3) := by decide +kernel
theorem dX11_hill_86 : decode cX11_hill 86 = .ok (.goto (-35), 3) := by decide +kernel
theorem dX11_hill_89 : decode cX11_hill 89 = .ok (.iconst 0, 1) := by decide +kernel
theorem dX11_hill_90 : decode cX11_hill 90 = .ok (.istore_n 1, 1) := by decide +kernel
theorem dX11_hill_91 : decode cX11_hill 91 = .ok (.iload_n 1, 1) := by decide +kernel
theorem dX11_hill_92 : decode cX11_hill 92 = .ok (.bipush 16, 2) := by decide +kernel
theorem dX11_hill_94 : decode cX11_hill 94 = .ok (.if_icmp .ge 21, 3) := by decide +kernel
theorem dX11_hill_97 : decode cX11_hill 97 = .ok (.aload_n 0, 1) := by decide +kernel
theorem dX11_hill_98 : decode cX11_hill 98 = .ok (.getfield 16, 3) := by decide +kernel
theorem dX11_hill_101 : decode cX11_hill 101 = .ok (.iload_n 1, 1) := by decide +kernel
theorem dX11_hill_102 : decode cX11_hill 102 = .ok (.aload_n 0, 1) := by decide +kernel
theorem dX11_hill_103 : decode cX11_hill 103 = .ok (.getfield 31, 3) := by decide +kernel
theorem dX11_hill_106 : decode cX11_hill 106 = .ok (.iload_n 1, 1) := by decide +kernel
theorem dX11_hill_107 : decode cX11_hill 107 = .ok (.iaload, 1) := by decide +kernel
theorem dX11_hill_108 : decode cX11_hill 108 = .ok (.iastore, 1) := by decide +kernel
theorem dX11_hill_109 : decode cX11_hill 109 = .ok (.iinc 1 1, 3) := by decide +kernel
theorem dX11_hill_112 : decode cX11_hill 112 = .ok (.goto (-21), 3) := by decide +kernel
theorem dX11_hill_115 : decode cX11_hill 115 = .ok (.iconst 0, 1) := by decide +kernel
theorem dX11_hill_116 : decode cX11_hill 116 = .ok (.istore_n 1, 1) := by decide +kernel
theorem dX11_hill_117 : decode cX11_hill 117 = .ok (.iload_n 1, 1) := by decide +kernel
theorem dX11_hill_118 : decode cX11_hill 118 = .ok (.aload_n 0, 1) := by decide +kernel
theorem dX11_hill_119 : decode cX11_hill 119 = .ok (.getfield 110, 3) := by decide +kernel
theorem dX11_hill_122 : decode cX11_hill 122 = .ok (.if_icmp .ge 39, 3) := by decide +kernel
theorem dX11_hill_125 : decode cX11_hill 125 = .ok (.aload_n 0, 1) := by decide +kernel
theorem dX11_hill_126 : decode cX11_hill 126 = .ok (.getfield 22, 3) := by decide +kernel
theorem dX11_hill_129 : decode cX11_hill 129 = .ok (.iload_n 1, 1) := by decide +kernel
theorem dX11_hill_130 : decode cX11_hill 130 = .ok (.aload_n 0, 1) := by decide +kernel
theorem dX11_hill_131 : decode cX11_hill 131 = .ok (.getfield 34, 3) := by decide +kernel
theorem dX11_hill_134 : decode cX11_hill 134 = .ok (.iconst 2, 1) := by decide +kernel
theorem dX11_hill_135 : decode cX11_hill 135 = .ok (.iload_n 1, 1) := by decide +kernel
theorem dX11_hill_136 : decode cX11_hill 136 = .ok (.imul, 1) := by decide +kernel
theorem dX11_hill_137 : decode cX11_hill 137 = .ok (.iaload, 1) := by decide +kernel
theorem dX11_hill_138 : decode cX11_hill 138 = .ok (.iastore, 1) := by decide +kernel
theorem dX11_hill_139 : decode cX11_hill 139 = .ok (.aload_n 0, 1) := by decide +kernel
theorem dX11_hill_140 : decode cX11_hill 140 = .ok (.getfield 19, 3) := by decide +kernel
theorem dX11_hill_143 : decode cX11_hill 143 = .ok (.iload_n 1, 1) := by decide +kernel
theorem dX11_hill_144 : decode cX11_hill 144 = .ok (.aload_n 0, 1) := by decide +kernel
theorem dX11_hill_145 : decode cX11_hill 145 = .ok (.getfield 34, 3) := by decide +kernel
theorem dX11_hill_148 : decode cX11_hill 148 = .ok (.iconst 2, 1) := by decide +kernel
theorem dX11_hill_149 : decode cX11_hill 149 = .ok (.iload_n 1, 1) := by decide +kernel
theorem dX11_hill_150 : decode cX11_hill 150 = .ok (.imul, 1) := by decide +kernel
theorem dX11_hill_151 : decode cX11_hill 151 = .ok (.iconst 1, 1) := by decide +kernel
theorem dX11_hill_152 : decode cX11_hill 152 = .ok (.iadd, 1) := by decide +kernel
theorem dX11_hill_153 : decode cX11_hill 153 = .ok (.iaload, 1) := by decide +kernel
theorem dX11_hill_154 : decode cX11_hill 154 = .ok (.iastore, 1) := by decide +kernel
theorem dX11_hill_155 : decode cX11_hill 155 = .ok (.iinc 1 1, 3) := by decide +kernel
theorem dX11_hill_158 : decode cX11_hill 158 = .ok (.goto (-41), 3) := by decide +kernel
theorem dX11_hill_161 : decode cX11_hill 161 = .ok (.aload_n 0, 1) := by decide +kernel
theorem dX11_hill_162 : decode cX11_hill 162 = .ok (.iconst 0, 1) := by decide +kernel
theorem dX11_hill_163 : decode cX11_hill 163 = .ok (.putfield 113, 3) := by decide +kernel
theorem dX11_hill_166 : decode cX11_hill 166 = .ok (.aload_n 0, 1) := by decide +kernel
theorem dX11_hill_167 : decode cX11_hill 167 = .ok (.getfield 52, 3) := by decide +kernel
theorem dX11_hill_170 : decode cX11_hill 170 = .ok (.iconst 0, 1) := by decide +kernel
theorem dX11_hill_171 : decode cX11_hill 171 = .ok (.iconst 0, 1) := by decide +kernel
theorem dX11_hill_172 : decode cX11_hill 172 = .ok (.bastore, 1) := by decide +kernel
theorem dX11_hill_173 : decode cX11_hill 173 = .ok (.aload_n 0, 1) := by decide +kernel
theorem dX11_hill_174 : decode cX11_hill 174 = .ok (.getfield 52, 3) := by decide +kernel
theorem dX11_hill_177 : decode cX11_hill 177 = .ok (.iconst 1, 1) := by decide +kernel
theorem dX11_hill_178 : decode cX11_hill 178 = .ok (.iconst 0, 1) := by decide +kernel
theorem dX11_hill_179 : decode cX11_hill 179 = .ok (.bastore, 1) := by decide +kernel
theorem dX11_hill_180 : decode cX11_hill 180 = .ok (.bipush 10, 2) := by decide +kernel
theorem dX11_hill_182 : decode cX11_hill 182 = .ok (.aload_n 0, 1) := by decide +kernel
theorem dX11_hill_183 : decode cX11_hill 183 = .ok (.getfield 107, 3) := by decide +kernel
theorem dX11_hill_186 : decode cX11_hill 186 = .ok (.imul, 1) := by decide +kernel
theorem dX11_hill_187 : decode cX11_hill 187 = .ok (.aload_n 0, 1) := by decide +kernel
theorem dX11_hill_188 : decode cX11_hill 188 = .ok (.getfield 110, 3) := by decide +kernel
theorem dX11_hill_191 : decode cX11_hill 191 = .ok (.iadd, 1) := by decide +kernel
theorem dX11_hill_192 : decode cX11_hill 192 = .ok (.ireturn, 1) := by decide +kernel
theorem dX11_isKiln_0 : decode cX11_isKiln 0 = .ok (.iload_n 1, 1) := by decide +kernel
theorem dX11_isKiln_1 : decode cX11_isKiln 1 = .ok (.i2l, 1) := by decide +kernel
theorem dX11_isKiln_2 : decode cX11_isKiln 2 = .ok (.lconst 0, 1) := by decide +kernel
theorem dX11_isKiln_3 : decode cX11_isKiln 3 = .ok (.aload_n 0, 1) := by decide +kernel
theorem dX11_isKiln_4 : decode cX11_isKiln 4 = .ok (.getfield 107, 3) := by decide +kernel
theorem dX11_isKiln_7 : decode cX11_isKiln 7 = .ok (.iconst 1, 1) := by decide +kernel
theorem dX11_isKiln_8 : decode cX11_isKiln 8 = .ok (.isub, 1) := by decide +kernel
theorem dX11_isKiln_9 : decode cX11_isKiln 9 = .ok (.i2l, 1) := by decide +kernel
theorem dX11_isKiln_10 : decode cX11_isKiln 10 = .ok (.invokestatic 61, 3) := by decide +kernel
theorem dX11_isKiln_13 : decode cX11_isKiln 13 = .ok (.ireturn, 1) := by decide +kernel
theorem dX11_isTramp_0 : decode cX11_isTramp 0 = .ok (.iload_n 1, 1) := by decide +kernel
theorem dX11_isTramp_1 : decode cX11_isTramp 1 = .ok (.i2l, 1) := by decide +kernel
theorem dX11_isTramp_2 : decode cX11_isTramp 2 = .ok (.lconst 0, 1) := by decide +kernel
theorem dX11_isTramp_3 : decode cX11_isTramp 3 = .ok (.aload_n 0, 1) := by decide +kernel
theorem dX11_isTramp_4 : decode cX11_isTramp 4 = .ok (.getfield 110, 3) := by decide +kernel
theorem dX11_isTramp_7 : decode cX11_isTramp 7 = .ok (.iconst 1, 1) := by decide +kernel
theorem dX11_isTramp_8 : decode cX11_isTramp 8 = .ok (.isub, 1) := by decide +kernel
theorem dX11_isTramp_9 : decode cX11_isTramp 9 = .ok (.i2l, 1) := by decide +kernel
theorem dX11_isTramp_10 : decode cX11_isTramp 10 = .ok (.invokestatic 61, 3) := by decide +kernel
theorem dX11_isTramp_13 : decode cX11_isTramp 13 = .ok (.ireturn, 1) := by decide +kernel
theorem dX11_isPlace_0 : decode cX11_isPlace 0 = .ok (.iload_n 0, 1) := by decide +kernel
theorem dX11_isPlace_1 : decode cX11_isPlace 1 = .ok (.i2l, 1) := by decide +kernel
theorem dX11_isPlace_2 : decode cX11_isPlace 2 = .ok (.lconst 0, 1) := by decide +kernel
theorem dX11_isPlace_3 : decode cX11_isPlace 3 = .ok (.ldc2_w 116, 3) := by decide +kernel
theorem dX11_isPlace_6 : decode cX11_isPlace 6 = .ok (.invokestatic 61, 3) := by decide +kernel
theorem dX11_isPlace_9 : decode cX11_isPlace 9 = .ok (.ireturn, 1) := by decide +kernel
theorem dX11_kilnOf_0 : decode cX11_kilnOf 0 = .ok (.iconst 0, 1) := by decide +kernel
theorem dX11_kilnOf_1 : decode cX11_kilnOf 1 = .ok (.istore_n 2, 1) := by decide +kernel
theorem dX11_kilnOf_2 : decode cX11_kilnOf 2 = .ok (.iload_n 2, 1) := by decide +kernel
theorem dX11_kilnOf_3 : decode cX11_kilnOf 3 = .ok (.aload_n 0, 1) := by decide +kernel
theorem dX11_kilnOf_4 : decode cX11_kilnOf 4 = .ok (.getfield 107, 3) := by decide +kernel
theorem dX11_kilnOf_7 : decode cX11_kilnOf 7 = .ok (.if_icmp .ge 21, 3) := by decide +kernel
theorem dX11_kilnOf_10 : decode cX11_kilnOf 10 = .ok (.aload_n 0, 1) := by decide +kernel
theorem dX11_kilnOf_11 : decode cX11_kilnOf 11 = .ok (.getfield 7, 3) := by decide +kernel
theorem dX11_kilnOf_14 : decode cX11_kilnOf 14 = .ok (.iload_n 2, 1) := by decide +kernel
theorem dX11_kilnOf_15 : decode cX11_kilnOf 15 = .ok (.iaload, 1) := by decide +kernel
theorem dX11_kilnOf_16 : decode cX11_kilnOf 16 = .ok (.iload_n 1, 1) := by decide +kernel
theorem dX11_kilnOf_17 : decode cX11_kilnOf 17 = .ok (.if_icmp .ne 5, 3) := by decide +kernel
theorem dX11_kilnOf_20 : decode cX11_kilnOf 20 = .ok (.iload_n 2, 1) := by decide +kernel
theorem dX11_kilnOf_21 : decode cX11_kilnOf 21 = .ok (.ireturn, 1) := by decide +kernel
theorem dX11_kilnOf_22 : decode cX11_kilnOf 22 = .ok (.iinc 2 1, 3) := by decide +kernel
theorem dX11_kilnOf_25 : decode cX11_kilnOf 25 = .ok (.goto (-23), 3) := by decide +kernel
theorem dX11_kilnOf_28 : decode cX11_kilnOf 28 = .ok (.bipush (-9), 2) := by decide +kernel
theorem dX11_kilnOf_30 : decode cX11_kilnOf 30 = .ok (.ireturn, 1) := by decide +kernel
theorem dX11_setOf_0 : decode cX11_setOf 0 = .ok (.iconst 0, 1) := by decide +kernel
theorem dX11_setOf_1 : decode cX11_setOf 1 = .ok (.istore_n 2, 1) := by decide +kernel
theorem dX11_setOf_2 : decode cX11_setOf 2 = .ok (.iconst 0, 1) := by decide +kernel
theorem dX11_setOf_3 : decode cX11_setOf 3 = .ok (.istore_n 3, 1) := by decide +kernel
theorem dX11_setOf_4 : decode cX11_setOf 4 = .ok (.iload_n 3, 1) := by decide +kernel
theorem dX11_setOf_5 : decode cX11_setOf 5 = .ok (.aload_n 0, 1) := by decide +kernel
theorem dX11_setOf_6 : decode cX11_setOf 6 = .ok (.getfield 13, 3) := by decide +kernel
theorem dX11_setOf_9 : decode cX11_setOf 9 = .ok (.iload_n 1, 1) := by decide +kernel
theorem dX11_setOf_10 : decode cX11_setOf 10 = .ok (.iaload, 1) := by decide +kernel
theorem dX11_setOf_11 : decode cX11_setOf 11 = .ok (.if_icmp .ge 24, 3) := by decide +kernel
theorem dX11_setOf_14 : decode cX11_setOf 14 = .ok (.iload_n 2, 1) := by decide +kernel
theorem dX11_setOf_15 : decode cX11_setOf 15 = .ok (.iconst 1, 1) := by decide +kernel
theorem dX11_setOf_16 : decode cX11_setOf 16 = .ok (.aload_n 0, 1) := by decide +kernel
theorem dX11_setOf_17 : decode cX11_setOf 17 = .ok (.getfield 16, 3) := by decide +kernel
theorem dX11_setOf_20 : decode cX11_setOf 20 = .ok (.iconst 4, 1) := by decide +kernel
theorem dX11_setOf_21 : decode cX11_setOf 21 = .ok (.iload_n 1, 1) := by decide +kernel
theorem dX11_setOf_22 : decode cX11_setOf 22 = .ok (.imul, 1) := by decide +kernel
theorem dX11_setOf_23 : decode cX11_setOf 23 = .ok (.iload_n 3, 1) := by decide +kernel
theorem dX11_setOf_24 : decode cX11_setOf 24 = .ok (.iadd, 1) := by decide +kernel
theorem dX11_setOf_25 : decode cX11_setOf 25 = .ok (.iaload, 1) := by decide +kernel
theorem dX11_setOf_26 : decode cX11_setOf 26 = .ok (.ishl, 1) := by decide +kernel
theorem dX11_setOf_27 : decode cX11_setOf 27 = .ok (.ior, 1) := by decide +kernel
theorem dX11_setOf_28 : decode cX11_setOf 28 = .ok (.istore_n 2, 1) := by decide +kernel
theorem dX11_setOf_29 : decode cX11_setOf 29 = .ok (.iinc 3 1, 3) := by decide +kernel
theorem dX11_setOf_32 : decode cX11_setOf 32 = .ok (.goto (-28), 3) := by decide +kernel
theorem dX11_setOf_35 : decode cX11_setOf 35 = .ok (.iload_n 2, 1) := by decide +kernel
theorem dX11_setOf_36 : decode cX11_setOf 36 = .ok (.ireturn, 1) := by decide +kernel
theorem dX11_isHummock_0 : decode cX11_isHummock 0 = .ok (.aload_n 0, 1) := by decide +kernel
theorem dX11_isHummock_1 : decode cX11_isHummock 1 = .ok (.getfield 22, 3) := by decide +kernel
theorem dX11_isHummock_4 : decode cX11_isHummock 4 = .ok (.bipush 14, 2) := by decide +kernel
theorem dX11_isHummock_6 : decode cX11_isHummock 6 = .ok (.iload_n 1, 1) := by decide +kernel
theorem dX11_isHummock_7 : decode cX11_isHummock 7 = .ok (.imul, 1) := by decide +kernel
theorem dX11_isHummock_8 : decode cX11_isHummock 8 = .ok (.bipush 8, 2) := by decide +kernel
theorem dX11_isHummock_10 : decode cX11_isHummock 10 = .ok (.iadd, 1) := by decide +kernel
theorem dX11_isHummock_11 : decode cX11_isHummock 11 = .ok (.iload_n 2, 1) := by decide +kernel
theorem dX11_isHummock_12 : decode cX11_isHummock 12 = .ok (.iadd, 1) := by decide +kernel
theorem dX11_isHummock_13 : decode cX11_isHummock 13 = .ok (.iaload, 1) := by decide +kernel
theorem dX11_isHummock_14 : decode cX11_isHummock 14 = .ok (.bipush 9, 2) := by decide +kernel
theorem dX11_isHummock_16 : decode cX11_isHummock 16 = .ok (.if_icmp .ne 7, 3) := by decide +kernel
theorem dX11_isHummock_19 : decode cX11_isHummock 19 = .ok (.iconst 1, 1) := by decide +kernel
theorem dX11_isHummock_20 : decode cX11_isHummock 20 = .ok (.goto 4, 3) := by decide +kernel
theorem dX11_isHummock_23 : decode cX11_isHummock 23 = .ok (.iconst 0, 1) := by decide +kernel
theorem dX11_isHummock_24 : decode cX11_isHummock 24 = .ok (.ireturn, 1) := by decide +kernel
theorem dX11_speedOf_0 : decode cX11_speedOf 0 = .ok (.iconst 3, 1) := by decide +kernel
theorem dX11_speedOf_1 : decode cX11_speedOf 1 = .ok (.aload_n 0, 1) := by decide +kernel
theorem dX11_speedOf_2 : decode cX11_speedOf 2 = .ok (.getfield 22, 3) := by decide +kernel
theorem dX11_speedOf_5 : decode cX11_speedOf 5 = .ok (.bipush 14, 2) := by decide +kernel
theorem dX11_speedOf_7 : decode cX11_speedOf 7 = .ok (.iload_n 1, 1) := by decide +kernel
theorem dX11_speedOf_8 : decode cX11_speedOf 8 = .ok (.imul, 1) := by decide +kernel
theorem dX11_speedOf_9 : decode cX11_speedOf 9 = .ok (.bipush 8, 2) := by decide +kernel
theorem dX11_speedOf_11 : decode cX11_speedOf 11 = .ok (.iadd, 1) := by decide +kernel
theorem dX11_speedOf_12 : decode cX11_speedOf 12 = .ok (.iload_n 2, 1) := by decide +kernel
theorem dX11_speedOf_13 : decode cX11_speedOf 13 = .ok (.iadd, 1) := by decide +kernel
theorem dX11_speedOf_14 : decode cX11_speedOf 14 = .ok (.iaload, 1) := by decide +kernel
theorem dX11_speedOf_15 : decode cX11_speedOf 15 = .ok (.iconst 3, 1) := by decide +kernel
theorem dX11_speedOf_16 : decode cX11_speedOf 16 = .ok (.idiv, 1) := by decide +kernel
theorem dX11_speedOf_17 : decode cX11_speedOf 17 = .ok (.isub, 1) := by decide +kernel
theorem dX11_speedOf_18 : decode cX11_speedOf 18 = .ok (.ireturn, 1) := by decide +kernel
theorem dX11_takeOn_0 : decode cX11_takeOn 0 = .ok (.bipush 14, 2) := by decide +kernel
theorem dX11_takeOn_2 : decode cX11_takeOn 2 = .ok (.iload_n 1, 1) := by decide +kernel
theorem dX11_takeOn_3 : decode cX11_takeOn 3 = .ok (.imul, 1) := by decide +kernel
theorem dX11_takeOn_4 : decode cX11_takeOn 4 = .ok (.istore_n 3, 1) := by decide +kernel
theorem dX11_takeOn_5 : decode cX11_takeOn 5 = .ok (.aload_n 0, 1) := by decide +kernel
theorem dX11_takeOn_6 : decode cX11_takeOn 6 = .ok (.aload_n 0, 1) := by decide +kernel
theorem dX11_takeOn_7 : decode cX11_takeOn 7 = .ok (.getfield 22, 3) := by decide +kernel
theorem dX11_takeOn_10 : decode cX11_takeOn 10 = .ok (.iload_n 3, 1) := by decide +kernel
theorem dX11_takeOn_11 : decode cX11_takeOn 11 = .ok (.iload_n 2, 1) := by decide +kernel
theorem dX11_takeOn_12 : decode cX11_takeOn 12 = .ok (.iadd, 1) := by decide +kernel
theorem dX11_takeOn_13 : decode cX11_takeOn 13 = .ok (.iaload, 1) := by decide +kernel
theorem dX11_takeOn_14 : decode cX11_takeOn 14 = .ok (.invokevirtual 118, 3) := by decide +kernel
theorem dX11_takeOn_17 : decode cX11_takeOn 17 = .ok (.istore 4, 2) := by decide +kernel
theorem dX11_takeOn_19 : decode cX11_takeOn 19 = .ok (.aload_n 0, 1) := by decide +kernel
theorem dX11_takeOn_20 : decode cX11_takeOn 20 = .ok (.iload_n 1, 1) := by decide +kernel
theorem dX11_takeOn_21 : decode cX11_takeOn 21 = .ok (.iload_n 2, 1) := by decide +kernel
theorem dX11_takeOn_22 : decode cX11_takeOn 22 = .ok (.invokevirtual 122, 3) := by decide +kernel
theorem dX11_takeOn_25 : decode cX11_takeOn 25 = .ok (.ifCond .ne 22, 3) := by decide +kernel
theorem dX11_takeOn_28 : decode cX11_takeOn 28 = .ok (.iload 4, 2) := by decide +kernel
theorem dX11_takeOn_30 : decode cX11_takeOn 30 = .ok (.bipush (-9), 2) := by decide +kernel
theorem dX11_takeOn_32 : decode cX11_takeOn 32 = .ok (.if_icmp .eq 15, 3) := by decide +kernel
theorem dX11_takeOn_35 : decode cX11_takeOn 35 = .ok (.aload_n 0, 1) := by decide +kernel
theorem dX11_takeOn_36 : decode cX11_takeOn 36 = .ok (.getfield 125, 3) := by decide +kernel
theorem dX11_takeOn_39 : decode cX11_takeOn 39 = .ok (.iload 4, 2) := by decide +kernel
theorem dX11_takeOn_41 : decode cX11_takeOn 41 = .ok (.invokestatic 75, 3) := by decide +kernel
theorem dX11_takeOn_44 : decode cX11_takeOn 44 = .ok (.ifCond .eq 4, 3) := by decide +kernel
theorem dX11_takeOn_47 : decode cX11_takeOn 47 = .ok (.return_, 1) := by decide +kernel
theorem dX11_takeOn_48 : decode cX11_takeOn 48 = .ok (.aload_n 0, 1) := by decide +kernel
theorem dX11_takeOn_49 : decode cX11_takeOn 49 = .ok (.getfield 19, 3) := by decide +kernel
theorem dX11_takeOn_52 : decode cX11_takeOn 52 = .ok (.iload_n 2, 1) := by decide +kernel
theorem dX11_takeOn_53 : decode cX11_takeOn 53 = .ok (.iaload, 1) := by decide +kernel
theorem dX11_takeOn_54 : decode cX11_takeOn 54 = .ok (.iconst 2, 1) := by decide +kernel
theorem dX11_takeOn_55 : decode cX11_takeOn 55 = .ok (.if_icmp .ne 7, 3) := by decide +kernel
theorem dX11_takeOn_58 : decode cX11_takeOn 58 = .ok (.iconst 4, 1) := by decide +kernel
theorem dX11_takeOn_59 : decode cX11_takeOn 59 = .ok (.goto 18, 3) := by decide +kernel
theorem dX11_takeOn_62 : decode cX11_takeOn 62 = .ok (.aload_n 0, 1) := by decide +kernel
theorem dX11_takeOn_63 : decode cX11_takeOn 63 = .ok (.getfield 19, 3) := by decide +kernel
theorem dX11_takeOn_66 : decode cX11_takeOn 66 = .ok (.iload_n 2, 1) := by decide +kernel
theorem dX11_takeOn_67 : decode cX11_takeOn 67 = .ok (.iaload, 1) := by decide +kernel
theorem dX11_takeOn_68 : decode cX11_takeOn 68 = .ok (.iconst 1, 1) := by decide +kernel
theorem dX11_takeOn_69 : decode cX11_takeOn 69 = .ok (.if_icmp .ne 7, 3) := by decide +kernel
theorem dX11_takeOn_72 : decode cX11_takeOn 72 = .ok (.iconst 2, 1) := by decide +kernel
theorem dX11_takeOn_73 : decode cX11_takeOn 73 = .ok (.goto 4, 3) := by decide +kernel
theorem dX11_takeOn_76 : decode cX11_takeOn 76 = .ok (.iconst 1, 1) := by decide +kernel
theorem dX11_takeOn_77 : decode cX11_takeOn 77 = .ok (.istore 5, 2) := by decide +kernel
theorem dX11_takeOn_79 : decode cX11_takeOn 79 = .ok (.iconst 0, 1) := by decide +kernel
theorem dX11_takeOn_80 : decode cX11_takeOn 80 = .ok (.istore 6, 2) := by decide +kernel
theorem dX11_takeOn_82 : decode cX11_takeOn 82 = .ok (.iload 6, 2) := by decide +kernel
theorem dX11_takeOn_84 : decode cX11_takeOn 84 = .ok (.aload_n 0, 1) := by decide +kernel
theorem dX11_takeOn_85 : decode cX11_takeOn 85 = .ok (.getfield 13, 3) := by decide +kernel
theorem dX11_takeOn_88 : decode cX11_takeOn 88 = .ok (.iload 4, 2) := by decide +kernel
theorem dX11_takeOn_90 : decode cX11_takeOn 90 = .ok (.iaload, 1) := by decide +kernel
theorem dX11_takeOn_91 : decode cX11_takeOn 91 = .ok (.if_icmp .ge 73, 3) := by decide +kernel
theorem dX11_takeOn_94 : decode cX11_takeOn 94 = .ok (.iload 5, 2) := by decide +kernel
theorem dX11_takeOn_96 : decode cX11_takeOn 96 = .ok (.ifCond .le 68, 3) := by decide +kernel
theorem dX11_takeOn_99 : decode cX11_takeOn 99 = .ok (.aload_n 0, 1) := by decide +kernel
theorem dX11_takeOn_100 : decode cX11_takeOn 100 = .ok (.getfield 16, 3) := by decide +kernel
theorem dX11_takeOn_103 : decode cX11_takeOn 103 = .ok (.iconst 4, 1) := by decide +kernel
theorem dX11_takeOn_104 : decode cX11_takeOn 104 = .ok (.iload 4, 2) := by decide +kernel
theorem dX11_takeOn_106 : decode cX11_takeOn 106 = .ok (.imul, 1) := by decide +kernel
theorem dX11_takeOn_107 : decode cX11_takeOn 107 = .ok (.iload 6, 2) := by decide +kernel
theorem dX11_takeOn_109 : decode cX11_takeOn 109 = .ok (.iadd, 1) := by decide +kernel
theorem dX11_takeOn_110 : decode cX11_takeOn 110 = .ok (.iaload, 1) := by decide +kernel
theorem dX11_takeOn_111 : decode cX11_takeOn 111 = .ok (.istore 7, 2) := by decide +kernel
theorem dX11_takeOn_113 : decode cX11_takeOn 113 = .ok (.iload 5, 2) := by decide +kernel
theorem dX11_takeOn_115 : decode cX11_takeOn 115 = .ok (.aload_n 0, 1) := by decide +kernel
theorem dX11_takeOn_116 : decode cX11_takeOn 116 = .ok (.getfield 22, 3) := by decide +kernel
theorem dX11_takeOn_119 : decode cX11_takeOn 119 = .ok (.iload_n 3, 1) := by decide +kernel
theorem dX11_takeOn_120 : decode cX11_takeOn 120 = .ok (.iconst 4, 1) := by decide +kernel
theorem dX11_takeOn_121 : decode cX11_takeOn 121 = .ok (.iadd, 1) := by decide +kernel
theorem dX11_takeOn_122 : decode cX11_takeOn 122 = .ok (.iload_n 2, 1) := by decide +kernel
theorem dX11_takeOn_123 : decode cX11_takeOn 123 = .ok (.iadd, 1) := by decide +kernel
theorem dX11_takeOn_124 : decode cX11_takeOn 124 = .ok (.iaload, 1) := by decide +kernel
theorem dX11_takeOn_125 : decode cX11_takeOn 125 = .ok (.iload 7, 2) := by decide +kernel
theorem dX11_takeOn_127 : decode cX11_takeOn 127 = .ok (.invokestatic 75, 3) := by decide +kernel
theorem dX11_takeOn_130 : decode cX11_takeOn 130 = .ok (.ifCond .eq 7, 3) := by decide +kernel
theorem dX11_takeOn_133 : decode cX11_takeOn 133 = .ok (.iconst 0, 1) := by decide +kernel
theorem dX11_takeOn_134 : decode cX11_takeOn 134 = .ok (.goto 4, 3) := by decide +kernel
theorem dX11_takeOn_137 : decode cX11_takeOn 137 = .ok (.iconst 1, 1) := by decide +kernel
theorem dX11_takeOn_138 : decode cX11_takeOn 138 = .ok (.isub, 1) := by decide +kernel
theorem dX11_takeOn_139 : decode cX11_takeOn 139 = .ok (.istore 5, 2) := by decide +kernel
theorem dX11_takeOn_141 : decode cX11_takeOn 141 = .ok (.aload_n 0, 1) := by decide +kernel
theorem dX11_takeOn_142 : decode cX11_takeOn 142 = .ok (.getfield 22, 3) := by decide +kernel
theorem dX11_takeOn_145 : decode cX11_takeOn 145 = .ok (.iload_n 3, 1) := by decide +kernel
theorem dX11_takeOn_146 : decode cX11_takeOn 146 = .ok (.iconst 4, 1) := by decide +kernel
theorem dX11_takeOn_147 : decode cX11_takeOn 147 = .ok (.iadd, 1) := by decide +kernel
theorem dX11_takeOn_148 : decode cX11_takeOn 148 = .ok (.iload_n 2, 1) := by decide +kernel
theorem dX11_takeOn_149 : decode cX11_takeOn 149 = .ok (.iadd, 1) := by decide +kernel
theorem dX11_takeOn_150 : decode cX11_takeOn 150 = .ok (.dup2, 1) := by decide +kernel
theorem dX11_takeOn_151 : decode cX11_takeOn 151 = .ok (.iaload, 1) := by decide +kernel
theorem dX11_takeOn_152 : decode cX11_takeOn 152 = .ok (.iconst 1, 1) := by decide +kernel
theorem dX11_takeOn_153 : decode cX11_takeOn 153 = .ok (.iload 7, 2) := by decide +kernel
theorem dX11_takeOn_155 : decode cX11_takeOn 155 = .ok (.ishl, 1) := by decide +kernel
theorem dX11_takeOn_156 : decode cX11_takeOn 156 = .ok (.ior, 1) := by decide +kernel
theorem dX11_takeOn_157 : decode cX11_takeOn 157 = .ok (.iastore, 1) := by decide +kernel
theorem dX11_takeOn_158 : decode cX11_takeOn 158 = .ok (.iinc 6 1, 3) := by decide +kernel
theorem dX11_takeOn_161 : decode cX11_takeOn 161 = .ok (.goto (-79), 3) := by decide +kernel
theorem dX11_takeOn_164 : decode cX11_takeOn 164 = .ok (.aload_n 0, 1) := by decide +kernel
theorem dX11_takeOn_165 : decode cX11_takeOn 165 = .ok (.getfield 22, 3) := by decide +kernel
theorem dX11_takeOn_168 : decode cX11_takeOn 168 = .ok (.iload_n 3, 1) := by decide +kernel
theorem dX11_takeOn_169 : decode cX11_takeOn 169 = .ok (.bipush 8, 2) := by decide +kernel
theorem dX11_takeOn_171 : decode cX11_takeOn 171 = .ok (.iadd, 1) := by decide +kernel
theorem dX11_takeOn_172 : decode cX11_takeOn 172 = .ok (.iload_n 2, 1) := by decide +kernel
theorem dX11_takeOn_173 : decode cX11_takeOn 173 = .ok (.iadd, 1) := by decide +kernel
theorem dX11_takeOn_174 : decode cX11_takeOn 174 = .ok (.iaload, 1) := by decide +kernel
theorem dX11_takeOn_175 : decode cX11_takeOn 175 = .ok (.aload_n 0, 1) := by decide +kernel
theorem dX11_takeOn_176 : decode cX11_takeOn 176 = .ok (.getfield 19, 3) := by decide +kernel
theorem dX11_takeOn_179 : decode cX11_takeOn 179 = .ok (.iload_n 2, 1) := by decide +kernel
theorem dX11_takeOn_180 : decode cX11_takeOn 180 = .ok (.iaload, 1) := by decide +kernel
theorem dX11_takeOn_181 : decode cX11_takeOn 181 = .ok (.iconst 2, 1) := by decide +kernel
theorem dX11_takeOn_182 : decode cX11_takeOn 182 = .ok (.if_icmp .ne 7, 3) := by decide +kernel
theorem dX11_takeOn_185 : decode cX11_takeOn 185 = .ok (.iconst 2, 1) := by decide +kernel
theorem dX11_takeOn_186 : decode cX11_takeOn 186 = .ok (.goto 4, 3) := by decide +kernel
theorem dX11_takeOn_189 : decode cX11_takeOn 189 = .ok (.iconst 1, 1) := by decide +kernel
theorem dX11_takeOn_190 : decode cX11_takeOn 190 = .ok (.iadd, 1) := by decide +kernel
theorem dX11_takeOn_191 : decode cX11_takeOn 191 = .ok (.istore 6, 2) := by decide +kernel
theorem dX11_takeOn_193 : decode cX11_takeOn 193 = .ok (.aload_n 0, 1) := by decide +kernel
theorem dX11_takeOn_194 : decode cX11_takeOn 194 = .ok (.getfield 22, 3) := by decide +kernel
theorem dX11_takeOn_197 : decode cX11_takeOn 197 = .ok (.iload_n 3, 1) := by decide +kernel
theorem dX11_takeOn_198 : decode cX11_takeOn 198 = .ok (.bipush 8, 2) := by decide +kernel
theorem dX11_takeOn_200 : decode cX11_takeOn 200 = .ok (.iadd, 1) := by decide +kernel
theorem dX11_takeOn_201 : decode cX11_takeOn 201 = .ok (.iload_n 2, 1) := by decide +kernel
theorem dX11_takeOn_202 : decode cX11_takeOn 202 = .ok (.iadd, 1) := by decide +kernel
theorem dX11_takeOn_203 : decode cX11_takeOn 203 = .ok (.iload 6, 2) := by decide +kernel
theorem dX11_takeOn_205 : decode cX11_takeOn 205 = .ok (.bipush 9, 2) := by decide +kernel
theorem dX11_takeOn_207 : decode cX11_takeOn 207 = .ok (.if_icmp .le 8, 3) := by decide +kernel
theorem dX11_takeOn_210 : decode cX11_takeOn 210 = .ok (.bipush 9, 2) := by decide +kernel
theorem dX11_takeOn_212 : decode cX11_takeOn 212 = .ok (.goto 5, 3) := by decide +kernel
theorem dX11_takeOn_215 : decode cX11_takeOn 215 = .ok (.iload 6, 2) := by decide +kernel
theorem dX11_takeOn_217 : decode cX11_takeOn 217 = .ok (.iastore, 1) := by decide +kernel
theorem dX11_takeOn_218 : decode cX11_takeOn 218 = .ok (.return_, 1) := by decide +kernel
theorem dX11_knownAt_0 : decode cX11_knownAt 0 = .ok (.iconst 0, 1) := by decide +kernel
theorem dX11_knownAt_1 : decode cX11_knownAt 1 = .ok (.istore_n 3, 1) := by decide +kernel
theorem dX11_knownAt_2 : decode cX11_knownAt 2 = .ok (.iconst 0, 1) := by decide +kernel
theorem dX11_knownAt_3 : decode cX11_knownAt 3 = .ok (.istore 4, 2) := by decide +kernel
theorem dX11_knownAt_5 : decode cX11_knownAt 5 = .ok (.iload 4, 2) := by decide +kernel
theorem dX11_knownAt_7 : decode cX11_knownAt 7 = .ok (.aload_n 0, 1) := by decide +kernel
theorem dX11_knownAt_8 : decode cX11_knownAt 8 = .ok (.getfield 110, 3) := by decide +kernel
theorem dX11_knownAt_11 : decode cX11_knownAt 11 = .ok (.if_icmp .ge 46, 3) := by decide +kernel
theorem dX11_knownAt_14 : decode cX11_knownAt 14 = .ok (.iload_n 3, 1) := by decide +kernel
theorem dX11_knownAt_15 : decode cX11_knownAt 15 = .ok (.aload_n 0, 1) := by decide +kernel
theorem dX11_knownAt_16 : decode cX11_knownAt 16 = .ok (.getfield 22, 3) := by decide +kernel
theorem dX11_knownAt_19 : decode cX11_knownAt 19 = .ok (.bipush 14, 2) := by decide +kernel
theorem dX11_knownAt_21 : decode cX11_knownAt 21 = .ok (.iload_n 1, 1) := by decide +kernel
theorem dX11_knownAt_22 : decode cX11_knownAt 22 = .ok (.imul, 1) := by decide +kernel
theorem dX11_knownAt_23 : decode cX11_knownAt 23 = .ok (.iload 4, 2) := by decide +kernel
theorem dX11_knownAt_25 : decode cX11_knownAt 25 = .ok (.iadd, 1) := by decide +kernel
theorem dX11_knownAt_26 : decode cX11_knownAt 26 = .ok (.iaload, 1) := by decide +kernel
theorem dX11_knownAt_27 : decode cX11_knownAt 27 = .ok (.iload_n 2, 1) := by decide +kernel
theorem dX11_knownAt_28 : decode cX11_knownAt 28 = .ok (.if_icmp .ne 20, 3) := by decide +kernel
theorem dX11_knownAt_31 : decode cX11_knownAt 31 = .ok (.aload_n 0, 1) := by decide +kernel
theorem dX11_knownAt_32 : decode cX11_knownAt 32 = .ok (.getfield 22, 3) := by decide +kernel
theorem dX11_knownAt_35 : decode cX11_knownAt 35 = .ok (.bipush 14, 2) := by decide +kernel
theorem dX11_knownAt_37 : decode cX11_knownAt 37 = .ok (.iload_n 1, 1) := by decide +kernel
theorem dX11_knownAt_38 : decode cX11_knownAt 38 = .ok (.imul, 1) := by decide +kernel
theorem dX11_knownAt_39 : decode cX11_knownAt 39 = .ok (.iconst 4, 1) := by decide +kernel
theorem dX11_knownAt_40 : decode cX11_knownAt 40 = .ok (.iadd, 1) := by decide +kernel
theorem dX11_knownAt_41 : decode cX11_knownAt 41 = .ok (.iload 4, 2) := by decide +kernel
theorem dX11_knownAt_43 : decode cX11_knownAt 43 = .ok (.iadd, 1) := by decide +kernel
theorem dX11_knownAt_44 : decode cX11_knownAt 44 = .ok (.iaload, 1) := by decide +kernel
theorem dX11_knownAt_45 : decode cX11_knownAt 45 = .ok (.goto 4, 3) := by decide +kernel
theorem dX11_knownAt_48 : decode cX11_knownAt 48 = .ok (.iconst 0, 1) := by decide +kernel
theorem dX11_knownAt_49 : decode cX11_knownAt 49 = .ok (.ior, 1) := by decide +kernel
theorem dX11_knownAt_50 : decode cX11_knownAt 50 = .ok (.istore_n 3, 1) := by decide +kernel
theorem dX11_knownAt_51 : decode cX11_knownAt 51 = .ok (.iinc 4 1, 3) := by decide +kernel
theorem dX11_knownAt_54 : decode cX11_knownAt 54 = .ok (.goto (-49), 3) := by decide +kernel
theorem dX11_knownAt_57 : decode cX11_knownAt 57 = .ok (.iload_n 3, 1) := by decide +kernel
theorem dX11_knownAt_58 : decode cX11_knownAt 58 = .ok (.ireturn, 1) := by decide +kernel
theorem dX11_passOn_0 : decode cX11_passOn 0 = .ok (.bipush 14, 2) := by decide +kernel
theorem dX11_passOn_2 : decode cX11_passOn 2 = .ok (.iload_n 1, 1) := by decide +kernel
theorem dX11_passOn_3 : decode cX11_passOn 3 = .ok (.imul, 1) := by decide +kernel
theorem dX11_passOn_4 : decode cX11_passOn 4 = .ok (.istore_n 2, 1) := by decide +kernel
theorem dX11_passOn_5 : decode cX11_passOn 5 = .ok (.iconst 0, 1) := by decide +kernel
theorem dX11_passOn_6 : decode cX11_passOn 6 = .ok (.istore_n 3, 1) := by decide +kernel
theorem dX11_passOn_7 : decode cX11_passOn 7 = .ok (.iload_n 3, 1) := by decide +kernel
theorem dX11_passOn_8 : decode cX11_passOn 8 = .ok (.aload_n 0, 1) := by decide +kernel
theorem dX11_passOn_9 : decode cX11_passOn 9 = .ok (.getfield 110, 3) := by decide +kernel
theorem dX11_passOn_12 : decode cX11_passOn 12 = .ok (.if_icmp .ge 15, 3) := by decide +kernel
theorem dX11_passOn_15 : decode cX11_passOn 15 = .ok (.aload_n 0, 1) := by decide +kernel
theorem dX11_passOn_16 : decode cX11_passOn 16 = .ok (.iload_n 1, 1) := by decide +kernel
theorem dX11_passOn_17 : decode cX11_passOn 17 = .ok (.iload_n 3, 1) := by decide +kernel
theorem dX11_passOn_18 : decode cX11_passOn 18 = .ok (.invokevirtual 128, 3) := by decide +kernel
theorem dX11_passOn_21 : decode cX11_passOn 21 = .ok (.iinc 3 1, 3) := by decide +kernel
theorem dX11_passOn_24 : decode cX11_passOn 24 = .ok (.goto (-17), 3) := by decide +kernel
theorem dX11_passOn_27 : decode cX11_passOn 27 = .ok (.iconst 0, 1) := by decide +kernel
theorem dX11_passOn_28 : decode cX11_passOn 28 = .ok (.istore_n 3, 1) := by decide +kernel
theorem dX11_passOn_29 : decode cX11_passOn 29 = .ok (.iload_n 3, 1) := by decide +kernel
theorem dX11_passOn_30 : decode cX11_passOn 30 = .ok (.aload_n 0, 1) := by decide +kernel
theorem dX11_passOn_31 : decode cX11_passOn 31 = .ok (.getfield 110, 3) := by decide +kernel
theorem dX11_passOn_34 : decode cX11_passOn 34 = .ok (.if_icmp .ge 54, 3) := by decide +kernel
theorem dX11_passOn_37 : decode cX11_passOn 37 = .ok (.aload_n 0, 1) := by decide +kernel
theorem dX11_passOn_38 : decode cX11_passOn 38 = .ok (.getfield 19, 3) := by decide +kernel
theorem dX11_passOn_41 : decode cX11_passOn 41 = .ok (.iload_n 3, 1) := by decide +kernel
theorem dX11_passOn_42 : decode cX11_passOn 42 = .ok (.iaload, 1) := by decide +kernel
theorem dX11_passOn_43 : decode cX11_passOn 43 = .ok (.iconst 3, 1) := by decide +kernel
theorem dX11_passOn_44 : decode cX11_passOn 44 = .ok (.if_icmp .ne 38, 3) := by decide +kernel
theorem dX11_passOn_47 : decode cX11_passOn 47 = .ok (.aload_n 0, 1) := by decide +kernel
theorem dX11_passOn_48 : decode cX11_passOn 48 = .ok (.iload_n 1, 1) := by decide +kernel
theorem dX11_passOn_49 : decode cX11_passOn 49 = .ok (.iload_n 3, 1) := by decide +kernel
theorem dX11_passOn_50 : decode cX11_passOn 50 = .ok (.invokevirtual 122, 3) := by decide +kernel
theorem dX11_passOn_53 : decode cX11_passOn 53 = .ok (.ifCond .ne 29, 3) := by decide +kernel
theorem dX11_passOn_56 : decode cX11_passOn 56 = .ok (.aload_n 0, 1) := by decide +kernel
theorem dX11_passOn_57 : decode cX11_passOn 57 = .ok (.getfield 22, 3) := by decide +kernel
theorem dX11_passOn_60 : decode cX11_passOn 60 = .ok (.iload_n 2, 1) := by decide +kernel
theorem dX11_passOn_61 : decode cX11_passOn 61 = .ok (.iconst 4, 1) := by decide +kernel
theorem dX11_passOn_62 : decode cX11_passOn 62 = .ok (.iadd, 1) := by decide +kernel
theorem dX11_passOn_63 : decode cX11_passOn 63 = .ok (.iload_n 3, 1) := by decide +kernel
theorem dX11_passOn_64 : decode cX11_passOn 64 = .ok (.iadd, 1) := by decide +kernel
theorem dX11_passOn_65 : decode cX11_passOn 65 = .ok (.dup2, 1) := by decide +kernel
theorem dX11_passOn_66 : decode cX11_passOn 66 = .ok (.iaload, 1) := by decide +kernel
theorem dX11_passOn_67 : decode cX11_passOn 67 = .ok (.aload_n 0, 1) := by decide +kernel
theorem dX11_passOn_68 : decode cX11_passOn 68 = .ok (.iload_n 1, 1) := by decide +kernel
theorem dX11_passOn_69 : decode cX11_passOn 69 = .ok (.aload_n 0, 1) := by decide +kernel
theorem dX11_passOn_70 : decode cX11_passOn 70 = .ok (.getfield 22, 3) := by decide +kernel
theorem dX11_passOn_73 : decode cX11_passOn 73 = .ok (.iload_n 2, 1) := by decide +kernel
theorem dX11_passOn_74 : decode cX11_passOn 74 = .ok (.iload_n 3, 1) := by decide +kernel
theorem dX11_passOn_75 : decode cX11_passOn 75 = .ok (.iadd, 1) := by decide +kernel
theorem dX11_passOn_76 : decode cX11_passOn 76 = .ok (.iaload, 1) := by decide +kernel
theorem dX11_passOn_77 : decode cX11_passOn 77 = .ok (.invokevirtual 132, 3) := by decide +kernel
theorem dX11_passOn_80 : decode cX11_passOn 80 = .ok (.ior, 1) := by decide +kernel
theorem dX11_passOn_81 : decode cX11_passOn 81 = .ok (.iastore, 1) := by decide +kernel
theorem dX11_passOn_82 : decode cX11_passOn 82 = .ok (.iinc 3 1, 3) := by decide +kernel
theorem dX11_passOn_85 : decode cX11_passOn 85 = .ok (.goto (-56), 3) := by decide +kernel
theorem dX11_passOn_88 : decode cX11_passOn 88 = .ok (.aload_n 0, 1) := by decide +kernel
theorem dX11_passOn_89 : decode cX11_passOn 89 = .ok (.getfield 22, 3) := by decide +kernel
theorem dX11_passOn_92 : decode cX11_passOn 92 = .ok (.iload_n 2, 1) := by decide +kernel
theorem dX11_passOn_93 : decode cX11_passOn 93 = .ok (.bipush 12, 2) := by decide +kernel
theorem dX11_passOn_95 : decode cX11_passOn 95 = .ok (.iadd, 1) := by decide +kernel
theorem dX11_passOn_96 : decode cX11_passOn 96 = .ok (.iconst 0, 1) := by decide +kernel
theorem dX11_passOn_97 : decode cX11_passOn 97 = .ok (.iastore, 1) := by decide +kernel
theorem dX11_passOn_98 : decode cX11_passOn 98 = .ok (.aload_n 0, 1) := by decide +kernel
theorem dX11_passOn_99 : decode cX11_passOn 99 = .ok (.getfield 22, 3) := by decide +kernel
theorem dX11_passOn_102 : decode cX11_passOn 102 = .ok (.iload_n 2, 1) := by decide +kernel
theorem dX11_passOn_103 : decode cX11_passOn 103 = .ok (.bipush 13, 2) := by decide +kernel
theorem dX11_passOn_105 : decode cX11_passOn 105 = .ok (.iadd, 1) := by decide +kernel
theorem dX11_passOn_106 : decode cX11_passOn 106 = .ok (.dup2, 1) := by decide +kernel
theorem dX11_passOn_107 : decode cX11_passOn 107 = .ok (.iaload, 1) := by decide +kernel
theorem dX11_passOn_108 : decode cX11_passOn 108 = .ok (.iconst 1, 1) := by decide +kernel
theorem dX11_passOn_109 : decode cX11_passOn 109 = .ok (.iadd, 1) := by decide +kernel
theorem dX11_passOn_110 : decode cX11_passOn 110 = .ok (.iastore, 1) := by decide +kernel
theorem dX11_passOn_111 : decode cX11_passOn 111 = .ok (.return_, 1) := by decide +kernel
theorem dX11_far_0 : decode cX11_far 0 = .ok (.iload_n 0, 1) := by decide +kernel
theorem dX11_far_1 : decode cX11_far 1 = .ok (.iload_n 1, 1) := by decide +kernel
theorem dX11_far_2 : decode cX11_far 2 = .ok (.if_icmp .le 9, 3) := by decide +kernel
theorem dX11_far_5 : decode cX11_far 5 = .ok (.iload_n 0, 1) := by decide +kernel
theorem dX11_far_6 : decode cX11_far 6 = .ok (.iload_n 1, 1) := by decide +kernel
theorem dX11_far_7 : decode cX11_far 7 = .ok (.isub, 1) := by decide +kernel
theorem dX11_far_8 : decode cX11_far 8 = .ok (.goto 6, 3) := by decide +kernel
theorem dX11_far_11 : decode cX11_far 11 = .ok (.iload_n 1, 1) := by decide +kernel
theorem dX11_far_12 : decode cX11_far 12 = .ok (.iload_n 0, 1) := by decide +kernel
theorem dX11_far_13 : decode cX11_far 13 = .ok (.isub, 1) := by decide +kernel
theorem dX11_far_14 : decode cX11_far 14 = .ok (.ireturn, 1) := by decide +kernel
theorem dX11_canWalk_0 : decode cX11_canWalk 0 = .ok (.bipush 14, 2) := by decide +kernel
theorem dX11_canWalk_2 : decode cX11_canWalk 2 = .ok (.iload_n 1, 1) := by decide +kernel
theorem dX11_canWalk_3 : decode cX11_canWalk 3 = .ok (.imul, 1) := by decide +kernel
theorem dX11_canWalk_4 : decode cX11_canWalk 4 = .ok (.istore 4, 2) := by decide +kernel
theorem dX11_canWalk_6 : decode cX11_canWalk 6 = .ok (.aload_n 0, 1) := by decide +kernel
theorem dX11_canWalk_7 : decode cX11_canWalk 7 = .ok (.iload_n 2, 1) := by decide +kernel
theorem dX11_canWalk_8 : decode cX11_canWalk 8 = .ok (.invokevirtual 136, 3) := by decide +kernel
theorem dX11_canWalk_11 : decode cX11_canWalk 11 = .ok (.ifCond .eq 36, 3) := by decide +kernel
theorem dX11_canWalk_14 : decode cX11_canWalk 14 = .ok (.iload_n 3, 1) := by decide +kernel
theorem dX11_canWalk_15 : decode cX11_canWalk 15 = .ok (.invokestatic 140, 3) := by decide +kernel
theorem dX11_canWalk_18 : decode cX11_canWalk 18 = .ok (.ifCond .eq 29, 3) := by decide +kernel
theorem dX11_canWalk_21 : decode cX11_canWalk 21 = .ok (.aload_n 0, 1) := by decide +kernel
theorem dX11_canWalk_22 : decode cX11_canWalk 22 = .ok (.getfield 22, 3) := by decide +kernel
theorem dX11_canWalk_25 : decode cX11_canWalk 25 = .ok (.iload 4, 2) := by decide +kernel
theorem dX11_canWalk_27 : decode cX11_canWalk 27 = .ok (.bipush 12, 2) := by decide +kernel
theorem dX11_canWalk_29 : decode cX11_canWalk 29 = .ok (.iadd, 1) := by decide +kernel
theorem dX11_canWalk_30 : decode cX11_canWalk 30 = .ok (.iaload, 1) := by decide +kernel
theorem dX11_canWalk_31 : decode cX11_canWalk 31 = .ok (.iload_n 2, 1) := by decide +kernel
theorem dX11_canWalk_32 : decode cX11_canWalk 32 = .ok (.invokestatic 75, 3) := by decide +kernel
theorem dX11_canWalk_35 : decode cX11_canWalk 35 = .ok (.ifCond .ne 12, 3) := by decide +kernel
theorem dX11_canWalk_38 : decode cX11_canWalk 38 = .ok (.aload_n 0, 1) := by decide +kernel
theorem dX11_canWalk_39 : decode cX11_canWalk 39 = .ok (.iload_n 1, 1) := by decide +kernel
theorem dX11_canWalk_40 : decode cX11_canWalk 40 = .ok (.iload_n 2, 1) := by decide +kernel
theorem dX11_canWalk_41 : decode cX11_canWalk 41 = .ok (.invokevirtual 122, 3) := by decide +kernel
theorem dX11_canWalk_44 : decode cX11_canWalk 44 = .ok (.ifCond .eq 5, 3) := by decide +kernel
theorem dX11_canWalk_47 : decode cX11_canWalk 47 = .ok (.iconst 0, 1) := by decide +kernel
theorem dX11_canWalk_48 : decode cX11_canWalk 48 = .ok (.ireturn, 1) := by decide +kernel
theorem dX11_canWalk_49 : decode cX11_canWalk 49 = .ok (.aload_n 0, 1) := by decide +kernel
theorem dX11_canWalk_50 : decode cX11_canWalk 50 = .ok (.getfield 22, 3) := by decide +kernel
theorem dX11_canWalk_53 : decode cX11_canWalk 53 = .ok (.iload 4, 2) := by decide +kernel
theorem dX11_canWalk_55 : decode cX11_canWalk 55 = .ok (.iload_n 2, 1) := by decide +kernel
theorem dX11_canWalk_56 : decode cX11_canWalk 56 = .ok (.iadd, 1) := by decide +kernel
theorem dX11_canWalk_57 : decode cX11_canWalk 57 = .ok (.iaload, 1) := by decide +kernel
theorem dX11_canWalk_58 : decode cX11_canWalk 58 = .ok (.iload_n 3, 1) := by decide +kernel
theorem dX11_canWalk_59 : decode cX11_canWalk 59 = .ok (.if_icmp .eq 29, 3) := by decide +kernel
theorem dX11_canWalk_62 : decode cX11_canWalk 62 = .ok (.aload_n 0, 1) := by decide +kernel
theorem dX11_canWalk_63 : decode cX11_canWalk 63 = .ok (.getfield 22, 3) := by decide +kernel
theorem dX11_canWalk_66 : decode cX11_canWalk 66 = .ok (.iload 4, 2) := by decide +kernel
theorem dX11_canWalk_68 : decode cX11_canWalk 68 = .ok (.iload_n 2, 1) := by decide +kernel
theorem dX11_canWalk_69 : decode cX11_canWalk 69 = .ok (.iadd, 1) := by decide +kernel
theorem dX11_canWalk_70 : decode cX11_canWalk 70 = .ok (.iaload, 1) := by decide +kernel
theorem dX11_canWalk_71 : decode cX11_canWalk 71 = .ok (.iload_n 3, 1) := by decide +kernel
theorem dX11_canWalk_72 : decode cX11_canWalk 72 = .ok (.invokestatic 143, 3) := by decide +kernel
theorem dX11_canWalk_75 : decode cX11_canWalk 75 = .ok (.aload_n 0, 1) := by decide +kernel
theorem dX11_canWalk_76 : decode cX11_canWalk 76 = .ok (.iload_n 1, 1) := by decide +kernel
theorem dX11_canWalk_77 : decode cX11_canWalk 77 = .ok (.iload_n 2, 1) := by decide +kernel
theorem dX11_canWalk_78 : decode cX11_canWalk 78 = .ok (.invokevirtual 146, 3) := by decide +kernel
theorem dX11_canWalk_81 : decode cX11_canWalk 81 = .ok (.if_icmp .gt 7, 3) := by decide +kernel
theorem dX11_canWalk_84 : decode cX11_canWalk 84 = .ok (.iconst 1, 1) := by decide +kernel
theorem dX11_canWalk_85 : decode cX11_canWalk 85 = .ok (.goto 4, 3) := by decide +kernel
theorem dX11_canWalk_88 : decode cX11_canWalk 88 = .ok (.iconst 0, 1) := by decide +kernel
theorem dX11_canWalk_89 : decode cX11_canWalk 89 = .ok (.ireturn, 1) := by decide +kernel
theorem dX11_walkOn_0 : decode cX11_walkOn 0 = .ok (.aload_n 0, 1) := by decide +kernel
theorem dX11_walkOn_1 : decode cX11_walkOn 1 = .ok (.getfield 22, 3) := by decide +kernel
theorem dX11_walkOn_4 : decode cX11_walkOn 4 = .ok (.bipush 14, 2) := by decide +kernel
theorem dX11_walkOn_6 : decode cX11_walkOn 6 = .ok (.iload_n 1, 1) := by decide +kernel
theorem dX11_walkOn_7 : decode cX11_walkOn 7 = .ok (.imul, 1) := by decide +kernel
theorem dX11_walkOn_8 : decode cX11_walkOn 8 = .ok (.iload_n 2, 1) := by decide +kernel
theorem dX11_walkOn_9 : decode cX11_walkOn 9 = .ok (.iadd, 1) := by decide +kernel
theorem dX11_walkOn_10 : decode cX11_walkOn 10 = .ok (.iload_n 3, 1) := by decide +kernel
theorem dX11_walkOn_11 : decode cX11_walkOn 11 = .ok (.iastore, 1) := by decide +kernel
theorem dX11_walkOn_12 : decode cX11_walkOn 12 = .ok (.aload_n 0, 1) := by decide +kernel
theorem dX11_walkOn_13 : decode cX11_walkOn 13 = .ok (.getfield 22, 3) := by decide +kernel
theorem dX11_walkOn_16 : decode cX11_walkOn 16 = .ok (.bipush 14, 2) := by decide +kernel
theorem dX11_walkOn_18 : decode cX11_walkOn 18 = .ok (.iload_n 1, 1) := by decide +kernel
theorem dX11_walkOn_19 : decode cX11_walkOn 19 = .ok (.imul, 1) := by decide +kernel
theorem dX11_walkOn_20 : decode cX11_walkOn 20 = .ok (.bipush 12, 2) := by decide +kernel
theorem dX11_walkOn_22 : decode cX11_walkOn 22 = .ok (.iadd, 1) := by decide +kernel
theorem dX11_walkOn_23 : decode cX11_walkOn 23 = .ok (.dup2, 1) := by decide +kernel
theorem dX11_walkOn_24 : decode cX11_walkOn 24 = .ok (.iaload, 1) := by decide +kernel
theorem dX11_walkOn_25 : decode cX11_walkOn 25 = .ok (.iconst 1, 1) := by decide +kernel
theorem dX11_walkOn_26 : decode cX11_walkOn 26 = .ok (.iload_n 2, 1) := by decide +kernel
theorem dX11_walkOn_27 : decode cX11_walkOn 27 = .ok (.ishl, 1) := by decide +kernel
theorem dX11_walkOn_28 : decode cX11_walkOn 28 = .ok (.ior, 1) := by decide +kernel
theorem dX11_walkOn_29 : decode cX11_walkOn 29 = .ok (.iastore, 1) := by decide +kernel
theorem dX11_walkOn_30 : decode cX11_walkOn 30 = .ok (.return_, 1) := by decide +kernel
theorem dX11_canTell_0 : decode cX11_canTell 0 = .ok (.aload_n 0, 1) := by decide +kernel
theorem dX11_canTell_1 : decode cX11_canTell 1 = .ok (.iload_n 2, 1) := by decide +kernel
theorem dX11_canTell_2 : decode cX11_canTell 2 = .ok (.invokevirtual 136, 3) := by decide +kernel
theorem dX11_canTell_5 : decode cX11_canTell 5 = .ok (.ifCond .eq 54, 3) := by decide +kernel
theorem dX11_canTell_8 : decode cX11_canTell 8 = .ok (.aload_n 0, 1) := by decide +kernel
theorem dX11_canTell_9 : decode cX11_canTell 9 = .ok (.iload_n 3, 1) := by decide +kernel
theorem dX11_canTell_10 : decode cX11_canTell 10 = .ok (.invokevirtual 136, 3) := by decide +kernel
theorem dX11_canTell_13 : decode cX11_canTell 13 = .ok (.ifCond .eq 46, 3) := by decide +kernel
theorem dX11_canTell_16 : decode cX11_canTell 16 = .ok (.iload_n 2, 1) := by decide +kernel
theorem dX11_canTell_17 : decode cX11_canTell 17 = .ok (.iload_n 3, 1) := by decide +kernel
theorem dX11_canTell_18 : decode cX11_canTell 18 = .ok (.if_icmp .eq 41, 3) := by decide +kernel
theorem dX11_canTell_21 : decode cX11_canTell 21 = .ok (.aload_n 0, 1) := by decide +kernel
theorem dX11_canTell_22 : decode cX11_canTell 22 = .ok (.getfield 22, 3) := by decide +kernel
theorem dX11_canTell_25 : decode cX11_canTell 25 = .ok (.bipush 14, 2) := by decide +kernel
theorem dX11_canTell_27 : decode cX11_canTell 27 = .ok (.iload_n 1, 1) := by decide +kernel
theorem dX11_canTell_28 : decode cX11_canTell 28 = .ok (.imul, 1) := by decide +kernel
theorem dX11_canTell_29 : decode cX11_canTell 29 = .ok (.iload_n 2, 1) := by decide +kernel
theorem dX11_canTell_30 : decode cX11_canTell 30 = .ok (.iadd, 1) := by decide +kernel
theorem dX11_canTell_31 : decode cX11_canTell 31 = .ok (.iaload, 1) := by decide +kernel
theorem dX11_canTell_32 : decode cX11_canTell 32 = .ok (.aload_n 0, 1) := by decide +kernel
theorem dX11_canTell_33 : decode cX11_canTell 33 = .ok (.getfield 22, 3) := by decide +kernel
theorem dX11_canTell_36 : decode cX11_canTell 36 = .ok (.bipush 14, 2) := by decide +kernel
theorem dX11_canTell_38 : decode cX11_canTell 38 = .ok (.iload_n 1, 1) := by decide +kernel
theorem dX11_canTell_39 : decode cX11_canTell 39 = .ok (.imul, 1) := by decide +kernel
theorem dX11_canTell_40 : decode cX11_canTell 40 = .ok (.iload_n 3, 1) := by decide +kernel
theorem dX11_canTell_41 : decode cX11_canTell 41 = .ok (.iadd, 1) := by decide +kernel
theorem dX11_canTell_42 : decode cX11_canTell 42 = .ok (.iaload, 1) := by decide +kernel
theorem dX11_canTell_43 : decode cX11_canTell 43 = .ok (.if_icmp .ne 16, 3) := by decide +kernel
theorem dX11_canTell_46 : decode cX11_canTell 46 = .ok (.aload_n 0, 1) := by decide +kernel
theorem dX11_canTell_47 : decode cX11_canTell 47 = .ok (.iload_n 1, 1) := by decide +kernel
theorem dX11_canTell_48 : decode cX11_canTell 48 = .ok (.iload_n 3, 1) := by decide +kernel
theorem dX11_canTell_49 : decode cX11_canTell 49 = .ok (.invokevirtual 122, 3) := by decide +kernel
theorem dX11_canTell_52 : decode cX11_canTell 52 = .ok (.ifCond .ne 7, 3) := by decide +kernel
theorem dX11_canTell_55 : decode cX11_canTell 55 = .ok (.iconst 1, 1) := by decide +kernel
theorem dX11_canTell_56 : decode cX11_canTell 56 = .ok (.goto 4, 3) := by decide +kernel
theorem dX11_canTell_59 : decode cX11_canTell 59 = .ok (.iconst 0, 1) := by decide +kernel
theorem dX11_canTell_60 : decode cX11_canTell 60 = .ok (.ireturn, 1) := by decide +kernel
theorem dX11_tellOn_0 : decode cX11_tellOn 0 = .ok (.aload_n 0, 1) := by decide +kernel
theorem dX11_tellOn_1 : decode cX11_tellOn 1 = .ok (.getfield 22, 3) := by decide +kernel
theorem dX11_tellOn_4 : decode cX11_tellOn 4 = .ok (.bipush 14, 2) := by decide +kernel
theorem dX11_tellOn_6 : decode cX11_tellOn 6 = .ok (.iload_n 1, 1) := by decide +kernel
theorem dX11_tellOn_7 : decode cX11_tellOn 7 = .ok (.imul, 1) := by decide +kernel
theorem dX11_tellOn_8 : decode cX11_tellOn 8 = .ok (.iconst 4, 1) := by decide +kernel
theorem dX11_tellOn_9 : decode cX11_tellOn 9 = .ok (.iadd, 1) := by decide +kernel
theorem dX11_tellOn_10 : decode cX11_tellOn 10 = .ok (.iload_n 3, 1) := by decide +kernel
theorem dX11_tellOn_11 : decode cX11_tellOn 11 = .ok (.iadd, 1) := by decide +kernel
theorem dX11_tellOn_12 : decode cX11_tellOn 12 = .ok (.dup2, 1) := by decide +kernel
theorem dX11_tellOn_13 : decode cX11_tellOn 13 = .ok (.iaload, 1) := by decide +kernel
theorem dX11_tellOn_14 : decode cX11_tellOn 14 = .ok (.aload_n 0, 1) := by decide +kernel
theorem dX11_tellOn_15 : decode cX11_tellOn 15 = .ok (.getfield 22, 3) := by decide +kernel
theorem dX11_tellOn_18 : decode cX11_tellOn 18 = .ok (.bipush 14, 2) := by decide +kernel
theorem dX11_tellOn_20 : decode cX11_tellOn 20 = .ok (.iload_n 1, 1) := by decide +kernel
theorem dX11_tellOn_21 : decode cX11_tellOn 21 = .ok (.imul, 1) := by decide +kernel
theorem dX11_tellOn_22 : decode cX11_tellOn 22 = .ok (.iconst 4, 1) := by decide +kernel
theorem dX11_tellOn_23 : decode cX11_tellOn 23 = .ok (.iadd, 1) := by decide +kernel
theorem dX11_tellOn_24 : decode cX11_tellOn 24 = .ok (.iload_n 2, 1) := by decide +kernel
theorem dX11_tellOn_25 : decode cX11_tellOn 25 = .ok (.iadd, 1) := by decide +kernel
theorem dX11_tellOn_26 : decode cX11_tellOn 26 = .ok (.iaload, 1) := by decide +kernel
theorem dX11_tellOn_27 : decode cX11_tellOn 27 = .ok (.ior, 1) := by decide +kernel
theorem dX11_tellOn_28 : decode cX11_tellOn 28 = .ok (.iastore, 1) := by decide +kernel
theorem dX11_tellOn_29 : decode cX11_tellOn 29 = .ok (.return_, 1) := by decide +kernel
theorem dX11_washOn_0 : decode cX11_washOn 0 = .ok (.aload_n 0, 1) := by decide +kernel
theorem dX11_washOn_1 : decode cX11_washOn 1 = .ok (.getfield 22, 3) := by decide +kernel
theorem dX11_washOn_4 : decode cX11_washOn 4 = .ok (.bipush 14, 2) := by decide +kernel
theorem dX11_washOn_6 : decode cX11_washOn 6 = .ok (.iload_n 1, 1) := by decide +kernel
theorem dX11_washOn_7 : decode cX11_washOn 7 = .ok (.imul, 1) := by decide +kernel
theorem dX11_washOn_8 : decode cX11_washOn 8 = .ok (.iconst 4, 1) := by decide +kernel
theorem dX11_washOn_9 : decode cX11_washOn 9 = .ok (.iadd, 1) := by decide +kernel
theorem dX11_washOn_10 : decode cX11_washOn 10 = .ok (.iload_n 2, 1) := by decide +kernel
theorem dX11_washOn_11 : decode cX11_washOn 11 = .ok (.iadd, 1) := by decide +kernel
theorem dX11_washOn_12 : decode cX11_washOn 12 = .ok (.iconst 0, 1) := by decide +kernel
theorem dX11_washOn_13 : decode cX11_washOn 13 = .ok (.iastore, 1) := by decide +kernel
theorem dX11_washOn_14 : decode cX11_washOn 14 = .ok (.aload_n 0, 1) := by decide +kernel
theorem dX11_washOn_15 : decode cX11_washOn 15 = .ok (.getfield 22, 3) := by decide +kernel
theorem dX11_washOn_18 : decode cX11_washOn 18 = .ok (.bipush 14, 2) := by decide +kernel
theorem dX11_washOn_20 : decode cX11_washOn 20 = .ok (.iload_n 1, 1) := by decide +kernel
theorem dX11_washOn_21 : decode cX11_washOn 21 = .ok (.imul, 1) := by decide +kernel
theorem dX11_washOn_22 : decode cX11_washOn 22 = .ok (.bipush 8, 2) := by decide +kernel
theorem dX11_washOn_24 : decode cX11_washOn 24 = .ok (.iadd, 1) := by decide +kernel
theorem dX11_washOn_25 : decode cX11_washOn 25 = .ok (.iload_n 2, 1) := by decide +kernel
theorem dX11_washOn_26 : decode cX11_washOn 26 = .ok (.iadd, 1) := by decide +kernel
theorem dX11_washOn_27 : decode cX11_washOn 27 = .ok (.iconst 0, 1) := by decide +kernel
theorem dX11_washOn_28 : decode cX11_washOn 28 = .ok (.iastore, 1) := by decide +kernel
theorem dX11_washOn_29 : decode cX11_washOn 29 = .ok (.return_, 1) := by decide +kernel
theorem dX11_hummocksOn_0 : decode cX11_hummocksOn 0 = .ok (.iconst 0, 1) := by decide +kernel
theorem dX11_hummocksOn_1 : decode cX11_hummocksOn 1 = .ok (.istore_n 2, 1) := by decide +kernel
theorem dX11_hummocksOn_2 : decode cX11_hummocksOn 2 = .ok (.iconst 0, 1) := by decide +kernel
theorem dX11_hummocksOn_3 : decode cX11_hummocksOn 3 = .ok (.istore_n 3, 1) := by decide +kernel
theorem dX11_hummocksOn_4 : decode cX11_hummocksOn 4 = .ok (.iload_n 3, 1) := by decide +kernel
theorem dX11_hummocksOn_5 : decode cX11_hummocksOn 5 = .ok (.aload_n 0, 1) := by decide +kernel
theorem dX11_hummocksOn_6 : decode cX11_hummocksOn 6 = .ok (.getfield 110, 3) := by decide +kernel
theorem dX11_hummocksOn_9 : decode cX11_hummocksOn 9 = .ok (.if_icmp .ge 28, 3) := by decide +kernel
theorem dX11_hummocksOn_12 : decode cX11_hummocksOn 12 = .ok (.iload_n 2, 1) := by decide +kernel
theorem dX11_hummocksOn_13 : decode cX11_hummocksOn 13 = .ok (.aload_n 0, 1) := by decide +kernel
theorem dX11_hummocksOn_14 : decode cX11_hummocksOn 14 = .ok (.iload_n 1, 1) := by decide +kernel
theorem dX11_hummocksOn_15 : decode cX11_hummocksOn 15 = .ok (.iload_n 3, 1) := by decide +kernel
theorem dX11_hummocksOn_16 : decode cX11_hummocksOn 16 = .ok (.invokevirtual 122, 3) := by decide +kernel
theorem dX11_hummocksOn_19 : decode cX11_hummocksOn 19 = .ok (.ifCond .eq 9, 3) := by decide +kernel
theorem dX11_hummocksOn_22 : decode cX11_hummocksOn 22 = .ok (.iconst 1, 1) := by decide +kernel
theorem dX11_hummocksOn_23 : decode cX11_hummocksOn 23 = .ok (.iload_n 3, 1) := by decide +kernel
theorem dX11_hummocksOn_24 : decode cX11_hummocksOn 24 = .ok (.ishl, 1) := by decide +kernel
theorem dX11_hummocksOn_25 : decode cX11_hummocksOn 25 = .ok (.goto 4, 3) := by decide +kernel
theorem dX11_hummocksOn_28 : decode cX11_hummocksOn 28 = .ok (.iconst 0, 1) := by decide +kernel
theorem dX11_hummocksOn_29 : decode cX11_hummocksOn 29 = .ok (.ior, 1) := by decide +kernel
theorem dX11_hummocksOn_30 : decode cX11_hummocksOn 30 = .ok (.istore_n 2, 1) := by decide +kernel
theorem dX11_hummocksOn_31 : decode cX11_hummocksOn 31 = .ok (.iinc 3 1, 3) := by decide +kernel
theorem dX11_hummocksOn_34 : decode cX11_hummocksOn 34 = .ok (.goto (-30), 3) := by decide +kernel
theorem dX11_hummocksOn_37 : decode cX11_hummocksOn 37 = .ok (.iload_n 2, 1) := by decide +kernel
theorem dX11_hummocksOn_38 : decode cX11_hummocksOn 38 = .ok (.ireturn, 1) := by decide +kernel
theorem dX11_figuresOf_0 : decode cX11_figuresOf 0 = .ok (.iconst 0, 1) := by decide +kernel
theorem dX11_figuresOf_1 : decode cX11_figuresOf 1 = .ok (.istore_n 2, 1) := by decide +kernel
theorem dX11_figuresOf_2 : decode cX11_figuresOf 2 = .ok (.iconst 0, 1) := by decide +kernel
theorem dX11_figuresOf_3 : decode cX11_figuresOf 3 = .ok (.istore_n 3, 1) := by decide +kernel
theorem dX11_figuresOf_4 : decode cX11_figuresOf 4 = .ok (.iload_n 3, 1) := by decide +kernel
theorem dX11_figuresOf_5 : decode cX11_figuresOf 5 = .ok (.aload_n 0, 1) := by decide +kernel
theorem dX11_figuresOf_6 : decode cX11_figuresOf 6 = .ok (.getfield 13, 3) := by decide +kernel
theorem dX11_figuresOf_9 : decode cX11_figuresOf 9 = .ok (.iload_n 1, 1) := by decide +kernel
theorem dX11_figuresOf_10 : decode cX11_figuresOf 10 = .ok (.iaload, 1) := by decide +kernel
theorem dX11_figuresOf_11 : decode cX11_figuresOf 11 = .ok (.if_icmp .ge 27, 3) := by decide +kernel
theorem dX11_figuresOf_14 : decode cX11_figuresOf 14 = .ok (.bipush 10, 2) := by decide +kernel
theorem dX11_figuresOf_16 : decode cX11_figuresOf 16 = .ok (.iload_n 2, 1) := by decide +kernel
theorem dX11_figuresOf_17 : decode cX11_figuresOf 17 = .ok (.imul, 1) := by decide +kernel
theorem dX11_figuresOf_18 : decode cX11_figuresOf 18 = .ok (.aload_n 0, 1) := by decide +kernel
theorem dX11_figuresOf_19 : decode cX11_figuresOf 19 = .ok (.getfield 16, 3) := by decide +kernel
theorem dX11_figuresOf_22 : decode cX11_figuresOf 22 = .ok (.iconst 4, 1) := by decide +kernel
theorem dX11_figuresOf_23 : decode cX11_figuresOf 23 = .ok (.iload_n 1, 1) := by decide +kernel
theorem dX11_figuresOf_24 : decode cX11_figuresOf 24 = .ok (.imul, 1) := by decide +kernel
theorem dX11_figuresOf_25 : decode cX11_figuresOf 25 = .ok (.iload_n 3, 1) := by decide +kernel
theorem dX11_figuresOf_26 : decode cX11_figuresOf 26 = .ok (.iadd, 1) := by decide +kernel
theorem dX11_figuresOf_27 : decode cX11_figuresOf 27 = .ok (.iaload, 1) := by decide +kernel
theorem dX11_figuresOf_28 : decode cX11_figuresOf 28 = .ok (.iadd, 1) := by decide +kernel
theorem dX11_figuresOf_29 : decode cX11_figuresOf 29 = .ok (.iconst 1, 1) := by decide +kernel
theorem dX11_figuresOf_30 : decode cX11_figuresOf 30 = .ok (.iadd, 1) := by decide +kernel
theorem dX11_figuresOf_31 : decode cX11_figuresOf 31 = .ok (.istore_n 2, 1) := by decide +kernel
theorem dX11_figuresOf_32 : decode cX11_figuresOf 32 = .ok (.iinc 3 1, 3) := by decide +kernel
theorem dX11_figuresOf_35 : decode cX11_figuresOf 35 = .ok (.goto (-31), 3) := by decide +kernel
theorem dX11_figuresOf_38 : decode cX11_figuresOf 38 = .ok (.iload_n 2, 1) := by decide +kernel
theorem dX11_figuresOf_39 : decode cX11_figuresOf 39 = .ok (.ireturn, 1) := by decide +kernel
theorem dX11_trampsAt_0 : decode cX11_trampsAt 0 = .ok (.iconst 0, 1) := by decide +kernel
theorem dX11_trampsAt_1 : decode cX11_trampsAt 1 = .ok (.istore_n 2, 1) := by decide +kernel
theorem dX11_trampsAt_2 : decode cX11_trampsAt 2 = .ok (.iconst 0, 1) := by decide +kernel
theorem dX11_trampsAt_3 : decode cX11_trampsAt 3 = .ok (.istore_n 3, 1) := by decide +kernel
theorem dX11_trampsAt_4 : decode cX11_trampsAt 4 = .ok (.iload_n 3, 1) := by decide +kernel
theorem dX11_trampsAt_5 : decode cX11_trampsAt 5 = .ok (.aload_n 0, 1) := by decide +kernel
theorem dX11_trampsAt_6 : decode cX11_trampsAt 6 = .ok (.getfield 110, 3) := by decide +kernel
theorem dX11_trampsAt_9 : decode cX11_trampsAt 9 = .ok (.if_icmp .ge 29, 3) := by decide +kernel
theorem dX11_trampsAt_12 : decode cX11_trampsAt 12 = .ok (.iload_n 2, 1) := by decide +kernel
theorem dX11_trampsAt_13 : decode cX11_trampsAt 13 = .ok (.aload_n 0, 1) := by decide +kernel
theorem dX11_trampsAt_14 : decode cX11_trampsAt 14 = .ok (.getfield 22, 3) := by decide +kernel
theorem dX11_trampsAt_17 : decode cX11_trampsAt 17 = .ok (.iload_n 3, 1) := by decide +kernel
theorem dX11_trampsAt_18 : decode cX11_trampsAt 18 = .ok (.iaload, 1) := by decide +kernel
theorem dX11_trampsAt_19 : decode cX11_trampsAt 19 = .ok (.iload_n 1, 1) := by decide +kernel
theorem dX11_trampsAt_20 : decode cX11_trampsAt 20 = .ok (.if_icmp .ne 9, 3) := by decide +kernel
theorem dX11_trampsAt_23 : decode cX11_trampsAt 23 = .ok (.iconst 1, 1) := by decide +kernel
theorem dX11_trampsAt_24 : decode cX11_trampsAt 24 = .ok (.iload_n 3, 1) := by decide +kernel
theorem dX11_trampsAt_25 : decode cX11_trampsAt 25 = .ok (.ishl, 1) := by decide +kernel
theorem dX11_trampsAt_26 : decode cX11_trampsAt 26 = .ok (.goto 4, 3) := by decide +kernel
theorem dX11_trampsAt_29 : decode cX11_trampsAt 29 = .ok (.iconst 0, 1) := by decide +kernel
theorem dX11_trampsAt_30 : decode cX11_trampsAt 30 = .ok (.ior, 1) := by decide +kernel
theorem dX11_trampsAt_31 : decode cX11_trampsAt 31 = .ok (.istore_n 2, 1) := by decide +kernel
theorem dX11_trampsAt_32 : decode cX11_trampsAt 32 = .ok (.iinc 3 1, 3) := by decide +kernel
theorem dX11_trampsAt_35 : decode cX11_trampsAt 35 = .ok (.goto (-31), 3) := by decide +kernel
theorem dX11_trampsAt_38 : decode cX11_trampsAt 38 = .ok (.iload_n 2, 1) := by decide +kernel
theorem dX11_trampsAt_39 : decode cX11_trampsAt 39 = .ok (.ireturn, 1) := by decide +kernel
theorem dX11_kiln_0 : decode cX11_kiln 0 = .ok (.aload_n 0, 1) := by decide +kernel
theorem dX11_kiln_1 : decode cX11_kiln 1 = .ok (.iload_n 1, 1) := by decide +kernel
theorem dX11_kiln_2 : decode cX11_kiln 2 = .ok (.invokevirtual 149, 3) := by decide +kernel
theorem dX11_kiln_5 : decode cX11_kiln 5 = .ok (.ifCond .ne 5, 3) := by decide +kernel
theorem dX11_kiln_8 : decode cX11_kiln 8 = .ok (.iconst (-1), 1) := by decide +kernel
theorem dX11_kiln_9 : decode cX11_kiln 9 = .ok (.ireturn, 1) := by decide +kernel
theorem dX11_kiln_10 : decode cX11_kiln 10 = .ok (.iload_n 2, 1) := by decide +kernel
theorem dX11_kiln_11 : decode cX11_kiln 11 = .ok (.tableswitch 70 0 4 #[33, 40, 47, 53, 59], 33) := by decide +kernel
theorem dX11_kiln_44 : decode cX11_kiln 44 = .ok (.aload_n 0, 1) := by decide +kernel
theorem dX11_kiln_45 : decode cX11_kiln 45 = .ok (.getfield 7, 3) := by decide +kernel
theorem dX11_kiln_48 : decode cX11_kiln 48 = .ok (.iload_n 1, 1) := by decide +kernel
theorem dX11_kiln_49 : decode cX11_kiln 49 = .ok (.iaload, 1) := by decide +kernel
theorem dX11_kiln_50 : decode cX11_kiln 50 = .ok (.ireturn, 1) := by decide +kernel
theorem dX11_kiln_51 : decode cX11_kiln 51 = .ok (.aload_n 0, 1) := by decide +kernel
theorem dX11_kiln_52 : decode cX11_kiln 52 = .ok (.getfield 13, 3) := by decide +kernel
theorem dX11_kiln_55 : decode cX11_kiln 55 = .ok (.iload_n 1, 1) := by decide +kernel
theorem dX11_kiln_56 : decode cX11_kiln 56 = .ok (.iaload, 1) := by decide +kernel
theorem dX11_kiln_57 : decode cX11_kiln 57 = .ok (.ireturn, 1) := by decide +kernel
theorem dX11_kiln_58 : decode cX11_kiln 58 = .ok (.aload_n 0, 1) := by decide +kernel
theorem dX11_kiln_59 : decode cX11_kiln 59 = .ok (.iload_n 1, 1) := by decide +kernel
theorem dX11_kiln_60 : decode cX11_kiln 60 = .ok (.invokevirtual 152, 3) := by decide +kernel
theorem dX11_kiln_63 : decode cX11_kiln 63 = .ok (.ireturn, 1) := by decide +kernel
theorem dX11_kiln_64 : decode cX11_kiln 64 = .ok (.aload_n 0, 1) := by decide +kernel
theorem dX11_kiln_65 : decode cX11_kiln 65 = .ok (.iload_n 1, 1) := by decide +kernel
theorem dX11_kiln_66 : decode cX11_kiln 66 = .ok (.invokevirtual 155, 3) := by decide +kernel
theorem dX11_kiln_69 : decode cX11_kiln 69 = .ok (.ireturn, 1) := by decide +kernel
theorem dX11_kiln_70 : decode cX11_kiln 70 = .ok (.aload_n 0, 1) := by decide +kernel
theorem dX11_kiln_71 : decode cX11_kiln 71 = .ok (.aload_n 0, 1) := by decide +kernel
theorem dX11_kiln_72 : decode cX11_kiln 72 = .ok (.getfield 7, 3) := by decide +kernel
theorem dX11_kiln_75 : decode cX11_kiln 75 = .ok (.iload_n 1, 1) := by decide +kernel
theorem dX11_kiln_76 : decode cX11_kiln 76 = .ok (.iaload, 1) := by decide +kernel
theorem dX11_kiln_77 : decode cX11_kiln 77 = .ok (.invokevirtual 158, 3) := by decide +kernel
theorem dX11_kiln_80 : decode cX11_kiln 80 = .ok (.ireturn, 1) := by decide +kernel
theorem dX11_kiln_81 : decode cX11_kiln 81 = .ok (.bipush (-2), 2) := by decide +kernel
theorem dX11_kiln_83 : decode cX11_kiln 83 = .ok (.ireturn, 1) := by decide +kernel
theorem dX11_tramp_0 : decode cX11_tramp 0 = .ok (.aload_n 0, 1) := by decide +kernel
theorem dX11_tramp_1 : decode cX11_tramp 1 = .ok (.iload_n 1, 1) := by decide +kernel
theorem dX11_tramp_2 : decode cX11_tramp 2 = .ok (.invokevirtual 136, 3) := by decide +kernel
theorem dX11_tramp_5 : decode cX11_tramp 5 = .ok (.ifCond .ne 5, 3) := by decide +kernel
theorem dX11_tramp_8 : decode cX11_tramp 8 = .ok (.iconst (-1), 1) := by decide +kernel
theorem dX11_tramp_9 : decode cX11_tramp 9 = .ok (.ireturn, 1) := by decide +kernel
theorem dX11_tramp_10 : decode cX11_tramp 10 = .ok (.iload_n 2, 1) := by decide +kernel
theorem dX11_tramp_11 : decode cX11_tramp 11 = .ok (.tableswitch 108 0 6 #[41, 48, 55, 64, 74, 81, 93], 41) := by decide +kernel
theorem dX11_tramp_52 : decode cX11_tramp 52 = .ok (.aload_n 0, 1) := by decide +kernel
theorem dX11_tramp_53 : decode cX11_tramp 53 = .ok (.getfield 22, 3) := by decide +kernel
theorem dX11_tramp_56 : decode cX11_tramp 56 = .ok (.iload_n 1, 1) := by decide +kernel
theorem dX11_tramp_57 : decode cX11_tramp 57 = .ok (.iaload, 1) := by decide +kernel
theorem dX11_tramp_58 : decode cX11_tramp 58 = .ok (.ireturn, 1) := by decide +kernel
theorem dX11_tramp_59 : decode cX11_tramp 59 = .ok (.aload_n 0, 1) := by decide +kernel
theorem dX11_tramp_60 : decode cX11_tramp 60 = .ok (.getfield 19, 3) := by decide +kernel
theorem dX11_tramp_63 : decode cX11_tramp 63 = .ok (.iload_n 1, 1) := by decide +kernel
theorem dX11_tramp_64 : decode cX11_tramp 64 = .ok (.iaload, 1) := by decide +kernel
theorem dX11_tramp_65 : decode cX11_tramp 65 = .ok (.ireturn, 1) := by decide +kernel
theorem dX11_tramp_66 : decode cX11_tramp 66 = .ok (.aload_n 0, 1) := by decide +kernel
theorem dX11_tramp_67 : decode cX11_tramp 67 = .ok (.getfield 22, 3) := by decide +kernel
theorem dX11_tramp_70 : decode cX11_tramp 70 = .ok (.iconst 4, 1) := by decide +kernel
theorem dX11_tramp_71 : decode cX11_tramp 71 = .ok (.iload_n 1, 1) := by decide +kernel
theorem dX11_tramp_72 : decode cX11_tramp 72 = .ok (.iadd, 1) := by decide +kernel
theorem dX11_tramp_73 : decode cX11_tramp 73 = .ok (.iaload, 1) := by decide +kernel
theorem dX11_tramp_74 : decode cX11_tramp 74 = .ok (.ireturn, 1) := by decide +kernel
theorem dX11_tramp_75 : decode cX11_tramp 75 = .ok (.aload_n 0, 1) := by decide +kernel
theorem dX11_tramp_76 : decode cX11_tramp 76 = .ok (.getfield 22, 3) := by decide +kernel
theorem dX11_tramp_79 : decode cX11_tramp 79 = .ok (.bipush 8, 2) := by decide +kernel
theorem dX11_tramp_81 : decode cX11_tramp 81 = .ok (.iload_n 1, 1) := by decide +kernel
theorem dX11_tramp_82 : decode cX11_tramp 82 = .ok (.iadd, 1) := by decide +kernel
theorem dX11_tramp_83 : decode cX11_tramp 83 = .ok (.iaload, 1) := by decide +kernel
theorem dX11_tramp_84 : decode cX11_tramp 84 = .ok (.ireturn, 1) := by decide +kernel
theorem dX11_tramp_85 : decode cX11_tramp 85 = .ok (.aload_n 0, 1) := by decide +kernel
theorem dX11_tramp_86 : decode cX11_tramp 86 = .ok (.iconst 0, 1) := by decide +kernel
theorem dX11_tramp_87 : decode cX11_tramp 87 = .ok (.iload_n 1, 1) := by decide +kernel
theorem dX11_tramp_88 : decode cX11_tramp 88 = .ok (.invokevirtual 146, 3) := by decide +kernel
theorem dX11_tramp_91 : decode cX11_tramp 91 = .ok (.ireturn, 1) := by decide +kernel
theorem dX11_tramp_92 : decode cX11_tramp 92 = .ok (.aload_n 0, 1) := by decide +kernel
theorem dX11_tramp_93 : decode cX11_tramp 93 = .ok (.getfield 22, 3) := by decide +kernel
theorem dX11_tramp_96 : decode cX11_tramp 96 = .ok (.bipush 12, 2) := by decide +kernel
theorem dX11_tramp_98 : decode cX11_tramp 98 = .ok (.iaload, 1) := by decide +kernel
theorem dX11_tramp_99 : decode cX11_tramp 99 = .ok (.iload_n 1, 1) := by decide +kernel
theorem dX11_tramp_100 : decode cX11_tramp 100 = .ok (.ishr, 1) := by decide +kernel
theorem dX11_tramp_101 : decode cX11_tramp 101 = .ok (.iconst 1, 1) := by decide +kernel
theorem dX11_tramp_102 : decode cX11_tramp 102 = .ok (.iand, 1) := by decide +kernel
theorem dX11_tramp_103 : decode cX11_tramp 103 = .ok (.ireturn, 1) := by decide +kernel
theorem dX11_tramp_104 : decode cX11_tramp 104 = .ok (.aload_n 0, 1) := by decide +kernel
theorem dX11_tramp_105 : decode cX11_tramp 105 = .ok (.iconst 0, 1) := by decide +kernel
theorem dX11_tramp_106 : decode cX11_tramp 106 = .ok (.iload_n 1, 1) := by decide +kernel
theorem dX11_tramp_107 : decode cX11_tramp 107 = .ok (.invokevirtual 122, 3) := by decide +kernel
theorem dX11_tramp_110 : decode cX11_tramp 110 = .ok (.ifCond .eq 7, 3) := by decide +kernel
theorem dX11_tramp_113 : decode cX11_tramp 113 = .ok (.iconst 1, 1) := by decide +kernel
theorem dX11_tramp_114 : decode cX11_tramp 114 = .ok (.goto 4, 3) := by decide +kernel
theorem dX11_tramp_117 : decode cX11_tramp 117 = .ok (.iconst 0, 1) := by decide +kernel
theorem dX11_tramp_118 : decode cX11_tramp 118 = .ok (.ireturn, 1) := by decide +kernel
theorem dX11_tramp_119 : decode cX11_tramp 119 = .ok (.bipush (-2), 2) := by decide +kernel
theorem dX11_tramp_121 : decode cX11_tramp 121 = .ok (.ireturn, 1) := by decide +kernel
theorem dX11_at_0 : decode cX11_at 0 = .ok (.iload_n 1, 1) := by decide +kernel
theorem dX11_at_1 : decode cX11_at 1 = .ok (.invokestatic 140, 3) := by decide +kernel
theorem dX11_at_4 : decode cX11_at 4 = .ok (.ifCond .eq 11, 3) := by decide +kernel
theorem dX11_at_7 : decode cX11_at 7 = .ok (.aload_n 0, 1) := by decide +kernel
theorem dX11_at_8 : decode cX11_at 8 = .ok (.iload_n 1, 1) := by decide +kernel
theorem dX11_at_9 : decode cX11_at 9 = .ok (.invokevirtual 118, 3) := by decide +kernel
theorem dX11_at_12 : decode cX11_at 12 = .ok (.goto 4, 3) := by decide +kernel
theorem dX11_at_15 : decode cX11_at 15 = .ok (.iconst (-1), 1) := by decide +kernel
theorem dX11_at_16 : decode cX11_at 16 = .ok (.ireturn, 1) := by decide +kernel
theorem dX11_keepAct_0 : decode cX11_keepAct 0 = .ok (.iconst 0, 1) := by decide +kernel
theorem dX11_keepAct_1 : decode cX11_keepAct 1 = .ok (.istore_n 1, 1) := by decide +kernel
theorem dX11_keepAct_2 : decode cX11_keepAct 2 = .ok (.iload_n 1, 1) := by decide +kernel
theorem dX11_keepAct_3 : decode cX11_keepAct 3 = .ok (.bipush 14, 2) := by decide +kernel
theorem dX11_keepAct_5 : decode cX11_keepAct 5 = .ok (.if_icmp .ge 29, 3) := by decide +kernel
theorem dX11_keepAct_8 : decode cX11_keepAct 8 = .ok (.aload_n 0, 1) := by decide +kernel
theorem dX11_keepAct_9 : decode cX11_keepAct 9 = .ok (.getfield 40, 3) := by decide +kernel
theorem dX11_keepAct_12 : decode cX11_keepAct 12 = .ok (.bipush 14, 2) := by decide +kernel
theorem dX11_keepAct_14 : decode cX11_keepAct 14 = .ok (.aload_n 0, 1) := by decide +kernel
theorem dX11_keepAct_15 : decode cX11_keepAct 15 = .ok (.getfield 161, 3) := by decide +kernel
theorem dX11_keepAct_18 : decode cX11_keepAct 18 = .ok (.imul, 1) := by decide +kernel
theorem dX11_keepAct_19 : decode cX11_keepAct 19 = .ok (.iload_n 1, 1) := by decide +kernel
theorem dX11_keepAct_20 : decode cX11_keepAct 20 = .ok (.iadd, 1) := by decide +kernel
theorem dX11_keepAct_21 : decode cX11_keepAct 21 = .ok (.aload_n 0, 1) := by decide +kernel
theorem dX11_keepAct_22 : decode cX11_keepAct 22 = .ok (.getfield 22, 3) := by decide +kernel
theorem dX11_keepAct_25 : decode cX11_keepAct 25 = .ok (.iload_n 1, 1) := by decide +kernel
theorem dX11_keepAct_26 : decode cX11_keepAct 26 = .ok (.iaload, 1) := by decide +kernel
theorem dX11_keepAct_27 : decode cX11_keepAct 27 = .ok (.iastore, 1) := by decide +kernel
theorem dX11_keepAct_28 : decode cX11_keepAct 28 = .ok (.iinc 1 1, 3) := by decide +kernel
theorem dX11_keepAct_31 : decode cX11_keepAct 31 = .ok (.goto (-29), 3) := by decide +kernel
theorem dX11_keepAct_34 : decode cX11_keepAct 34 = .ok (.aload_n 0, 1) := by decide +kernel
theorem dX11_keepAct_35 : decode cX11_keepAct 35 = .ok (.aload_n 0, 1) := by decide +kernel
theorem dX11_keepAct_36 : decode cX11_keepAct 36 = .ok (.getfield 161, 3) := by decide +kernel
theorem dX11_keepAct_39 : decode cX11_keepAct 39 = .ok (.iconst 1, 1) := by decide +kernel
theorem dX11_keepAct_40 : decode cX11_keepAct 40 = .ok (.iadd, 1) := by decide +kernel
theorem dX11_keepAct_41 : decode cX11_keepAct 41 = .ok (.bipush 14, 2) := by decide +kernel
theorem dX11_keepAct_43 : decode cX11_keepAct 43 = .ok (.irem, 1) := by decide +kernel
theorem dX11_keepAct_44 : decode cX11_keepAct 44 = .ok (.putfield 161, 3) := by decide +kernel
theorem dX11_keepAct_47 : decode cX11_keepAct 47 = .ok (.aload_n 0, 1) := by decide +kernel
theorem dX11_keepAct_48 : decode cX11_keepAct 48 = .ok (.aload_n 0, 1) := by decide +kernel
theorem dX11_keepAct_49 : decode cX11_keepAct 49 = .ok (.getfield 113, 3) := by decide +kernel
theorem dX11_keepAct_52 : decode cX11_keepAct 52 = .ok (.bipush 14, 2) := by decide +kernel
theorem dX11_keepAct_54 : decode cX11_keepAct 54 = .ok (.if_icmp .ge 12, 3) := by decide +kernel
theorem dX11_keepAct_57 : decode cX11_keepAct 57 = .ok (.aload_n 0, 1) := by decide +kernel
theorem dX11_keepAct_58 : decode cX11_keepAct 58 = .ok (.getfield 113, 3) := by decide +kernel
theorem dX11_keepAct_61 : decode cX11_keepAct 61 = .ok (.iconst 1, 1) := by decide +kernel
theorem dX11_keepAct_62 : decode cX11_keepAct 62 = .ok (.iadd, 1) := by decide +kernel
theorem dX11_keepAct_63 : decode cX11_keepAct 63 = .ok (.goto 5, 3) := by decide +kernel
theorem dX11_keepAct_66 : decode cX11_keepAct 66 = .ok (.bipush 14, 2) := by decide +kernel
theorem dX11_keepAct_68 : decode cX11_keepAct 68 = .ok (.putfield 113, 3) := by decide +kernel
theorem dX11_keepAct_71 : decode cX11_keepAct 71 = .ok (.return_, 1) := by decide +kernel
theorem dX11_night_0 : decode cX11_night 0 = .ok (.aload_n 0, 1) := by decide +kernel
theorem dX11_night_1 : decode cX11_night 1 = .ok (.invokevirtual 164, 3) := by decide +kernel
theorem dX11_night_4 : decode cX11_night 4 = .ok (.aload_n 0, 1) := by decide +kernel
theorem dX11_night_5 : decode cX11_night 5 = .ok (.iconst 0, 1) := by decide +kernel
theorem dX11_night_6 : decode cX11_night 6 = .ok (.invokevirtual 167, 3) := by decide +kernel
theorem dX11_night_9 : decode cX11_night 9 = .ok (.aload_n 0, 1) := by decide +kernel
theorem dX11_night_10 : decode cX11_night 10 = .ok (.iconst 0, 1) := by decide +kernel
theorem dX11_night_11 : decode cX11_night 11 = .ok (.invokevirtual 170, 3) := by decide +kernel
theorem dX11_night_14 : decode cX11_night 14 = .ok (.invokestatic 173, 3) := by decide +kernel
theorem dX11_night_17 : decode cX11_night 17 = .ok (.ireturn, 1) := by decide +kernel
theorem dX11_walk_0 : decode cX11_walk 0 = .ok (.aload_n 0, 1) := by decide +kernel
theorem dX11_walk_1 : decode cX11_walk 1 = .ok (.iload_n 1, 1) := by decide +kernel
theorem dX11_walk_2 : decode cX11_walk 2 = .ok (.invokevirtual 136, 3) := by decide +kernel
theorem dX11_walk_5 : decode cX11_walk 5 = .ok (.ifCond .eq 10, 3) := by decide +kernel
theorem dX11_walk_8 : decode cX11_walk 8 = .ok (.iload_n 2, 1) := by decide +kernel
theorem dX11_walk_9 : decode cX11_walk 9 = .ok (.invokestatic 140, 3) := by decide +kernel
theorem dX11_walk_12 : decode cX11_walk 12 = .ok (.ifCond .ne 5, 3) := by decide +kernel
theorem dX11_walk_15 : decode cX11_walk 15 = .ok (.iconst (-1), 1) := by decide +kernel
theorem dX11_walk_16 : decode cX11_walk 16 = .ok (.ireturn, 1) := by decide +kernel
theorem dX11_walk_17 : decode cX11_walk 17 = .ok (.aload_n 0, 1) := by decide +kernel
theorem dX11_walk_18 : decode cX11_walk 18 = .ok (.iconst 0, 1) := by decide +kernel
theorem dX11_walk_19 : decode cX11_walk 19 = .ok (.iload_n 1, 1) := by decide +kernel
theorem dX11_walk_20 : decode cX11_walk 20 = .ok (.iload_n 2, 1) := by decide +kernel
theorem dX11_walk_21 : decode cX11_walk 21 = .ok (.invokevirtual 176, 3) := by decide +kernel
theorem dX11_walk_24 : decode cX11_walk 24 = .ok (.ifCond .ne 6, 3) := by decide +kernel
theorem dX11_walk_27 : decode cX11_walk 27 = .ok (.bipush (-3), 2) := by decide +kernel
theorem dX11_walk_29 : decode cX11_walk 29 = .ok (.ireturn, 1) := by decide +kernel
theorem dX11_walk_30 : decode cX11_walk 30 = .ok (.aload_n 0, 1) := by decide +kernel
theorem dX11_walk_31 : decode cX11_walk 31 = .ok (.invokevirtual 164, 3) := by decide +kernel
theorem dX11_walk_34 : decode cX11_walk 34 = .ok (.aload_n 0, 1) := by decide +kernel
theorem dX11_walk_35 : decode cX11_walk 35 = .ok (.getfield 22, 3) := by decide +kernel
theorem dX11_walk_38 : decode cX11_walk 38 = .ok (.iload_n 1, 1) := by decide +kernel
theorem dX11_walk_39 : decode cX11_walk 39 = .ok (.iaload, 1) := by decide +kernel
theorem dX11_walk_40 : decode cX11_walk 40 = .ok (.iload_n 2, 1) := by decide +kernel
theorem dX11_walk_41 : decode cX11_walk 41 = .ok (.invokestatic 143, 3) := by decide +kernel
theorem dX11_walk_44 : decode cX11_walk 44 = .ok (.istore_n 3, 1) := by decide +kernel
theorem dX11_walk_45 : decode cX11_walk 45 = .ok (.aload_n 0, 1) := by decide +kernel
theorem dX11_walk_46 : decode cX11_walk 46 = .ok (.iconst 0, 1) := by decide +kernel
theorem dX11_walk_47 : decode cX11_walk 47 = .ok (.iload_n 1, 1) := by decide +kernel
theorem dX11_walk_48 : decode cX11_walk 48 = .ok (.iload_n 2, 1) := by decide +kernel
theorem dX11_walk_49 : decode cX11_walk 49 = .ok (.invokevirtual 180, 3) := by decide +kernel
theorem dX11_walk_52 : decode cX11_walk 52 = .ok (.iload_n 3, 1) := by decide +kernel
theorem dX11_walk_53 : decode cX11_walk 53 = .ok (.ireturn, 1) := by decide +kernel
theorem dX11_tell_0 : decode cX11_tell 0 = .ok (.aload_n 0, 1) := by decide +kernel
theorem dX11_tell_1 : decode cX11_tell 1 = .ok (.iload_n 1, 1) := by decide +kernel
theorem dX11_tell_2 : decode cX11_tell 2 = .ok (.invokevirtual 136, 3) := by decide +kernel
theorem dX11_tell_5 : decode cX11_tell 5 = .ok (.ifCond .eq 11, 3) := by decide +kernel
theorem dX11_tell_8 : decode cX11_tell 8 = .ok (.aload_n 0, 1) := by decide +kernel
theorem dX11_tell_9 : decode cX11_tell 9 = .ok (.iload_n 2, 1) := by decide +kernel
theorem dX11_tell_10 : decode cX11_tell 10 = .ok (.invokevirtual 136, 3) := by decide +kernel
theorem dX11_tell_13 : decode cX11_tell 13 = .ok (.ifCond .ne 5, 3) := by decide +kernel
theorem dX11_tell_16 : decode cX11_tell 16 = .ok (.iconst (-1), 1) := by decide +kernel
theorem dX11_tell_17 : decode cX11_tell 17 = .ok (.ireturn, 1) := by decide +kernel
theorem dX11_tell_18 : decode cX11_tell 18 = .ok (.iload_n 1, 1) := by decide +kernel
theorem dX11_tell_19 : decode cX11_tell 19 = .ok (.iload_n 2, 1) := by decide +kernel
theorem dX11_tell_20 : decode cX11_tell 20 = .ok (.if_icmp .ne 6, 3) := by decide +kernel
theorem dX11_tell_23 : decode cX11_tell 23 = .ok (.bipush (-2), 2) := by decide +kernel
theorem dX11_tell_25 : decode cX11_tell 25 = .ok (.ireturn, 1) := by decide +kernel
theorem dX11_tell_26 : decode cX11_tell 26 = .ok (.aload_n 0, 1) := by decide +kernel
theorem dX11_tell_27 : decode cX11_tell 27 = .ok (.iconst 0, 1) := by decide +kernel
theorem dX11_tell_28 : decode cX11_tell 28 = .ok (.iload_n 1, 1) := by decide +kernel
theorem dX11_tell_29 : decode cX11_tell 29 = .ok (.iload_n 2, 1) := by decide +kernel
theorem dX11_tell_30 : decode cX11_tell 30 = .ok (.invokevirtual 184, 3) := by decide +kernel
theorem dX11_tell_33 : decode cX11_tell 33 = .ok (.ifCond .ne 6, 3) := by decide +kernel
theorem dX11_tell_36 : decode cX11_tell 36 = .ok (.bipush (-3), 2) := by decide +kernel
theorem dX11_tell_38 : decode cX11_tell 38 = .ok (.ireturn, 1) := by decide +kernel
theorem dX11_tell_39 : decode cX11_tell 39 = .ok (.aload_n 0, 1) := by decide +kernel
theorem dX11_tell_40 : decode cX11_tell 40 = .ok (.invokevirtual 164, 3) := by decide +kernel
theorem dX11_tell_43 : decode cX11_tell 43 = .ok (.aload_n 0, 1) := by decide +kernel
theorem dX11_tell_44 : decode cX11_tell 44 = .ok (.iconst 0, 1) := by decide +kernel
theorem dX11_tell_45 : decode cX11_tell 45 = .ok (.iload_n 1, 1) := by decide +kernel
theorem dX11_tell_46 : decode cX11_tell 46 = .ok (.iload_n 2, 1) := by decide +kernel
theorem dX11_tell_47 : decode cX11_tell 47 = .ok (.invokevirtual 187, 3) := by decide +kernel
theorem dX11_tell_50 : decode cX11_tell 50 = .ok (.aload_n 0, 1) := by decide +kernel
theorem dX11_tell_51 : decode cX11_tell 51 = .ok (.getfield 22, 3) := by decide +kernel
theorem dX11_tell_54 : decode cX11_tell 54 = .ok (.iconst 4, 1) := by decide +kernel
theorem dX11_tell_55 : decode cX11_tell 55 = .ok (.iload_n 2, 1) := by decide +kernel
theorem dX11_tell_56 : decode cX11_tell 56 = .ok (.iadd, 1) := by decide +kernel
theorem dX11_tell_57 : decode cX11_tell 57 = .ok (.iaload, 1) := by decide +kernel
theorem dX11_tell_58 : decode cX11_tell 58 = .ok (.invokestatic 173, 3) := by decide +kernel
theorem dX11_tell_61 : decode cX11_tell 61 = .ok (.ireturn, 1) := by decide +kernel
theorem dX11_wash_0 : decode cX11_wash 0 = .ok (.aload_n 0, 1) := by decide +kernel
theorem dX11_wash_1 : decode cX11_wash 1 = .ok (.iload_n 1, 1) := by decide +kernel
theorem dX11_wash_2 : decode cX11_wash 2 = .ok (.invokevirtual 136, 3) := by decide +kernel
theorem dX11_wash_5 : decode cX11_wash 5 = .ok (.ifCond .ne 5, 3) := by decide +kernel
theorem dX11_wash_8 : decode cX11_wash 8 = .ok (.iconst (-1), 1) := by decide +kernel
theorem dX11_wash_9 : decode cX11_wash 9 = .ok (.ireturn, 1) := by decide +kernel
theorem dX11_wash_10 : decode cX11_wash 10 = .ok (.aload_n 0, 1) := by decide +kernel
theorem dX11_wash_11 : decode cX11_wash 11 = .ok (.iconst 0, 1) := by decide +kernel
theorem dX11_wash_12 : decode cX11_wash 12 = .ok (.iload_n 1, 1) := by decide +kernel
theorem dX11_wash_13 : decode cX11_wash 13 = .ok (.invokevirtual 122, 3) := by decide +kernel
theorem dX11_wash_16 : decode cX11_wash 16 = .ok (.ifCond .eq 6, 3) := by decide +kernel
theorem dX11_wash_19 : decode cX11_wash 19 = .ok (.bipush (-3), 2) := by decide +kernel
theorem dX11_wash_21 : decode cX11_wash 21 = .ok (.ireturn, 1) := by decide +kernel
theorem dX11_wash_22 : decode cX11_wash 22 = .ok (.aload_n 0, 1) := by decide +kernel
theorem dX11_wash_23 : decode cX11_wash 23 = .ok (.invokevirtual 164, 3) := by decide +kernel
theorem dX11_wash_26 : decode cX11_wash 26 = .ok (.aload_n 0, 1) := by decide +kernel
theorem dX11_wash_27 : decode cX11_wash 27 = .ok (.getfield 22, 3) := by decide +kernel
theorem dX11_wash_30 : decode cX11_wash 30 = .ok (.iconst 4, 1) := by decide +kernel
theorem dX11_wash_31 : decode cX11_wash 31 = .ok (.iload_n 1, 1) := by decide +kernel
theorem dX11_wash_32 : decode cX11_wash 32 = .ok (.iadd, 1) := by decide +kernel
theorem dX11_wash_33 : decode cX11_wash 33 = .ok (.iaload, 1) := by decide +kernel
theorem dX11_wash_34 : decode cX11_wash 34 = .ok (.invokestatic 173, 3) := by decide +kernel
theorem dX11_wash_37 : decode cX11_wash 37 = .ok (.istore_n 2, 1) := by decide +kernel
theorem dX11_wash_38 : decode cX11_wash 38 = .ok (.aload_n 0, 1) := by decide +kernel
theorem dX11_wash_39 : decode cX11_wash 39 = .ok (.iconst 0, 1) := by decide +kernel
theorem dX11_wash_40 : decode cX11_wash 40 = .ok (.iload_n 1, 1) := by decide +kernel
theorem dX11_wash_41 : decode cX11_wash 41 = .ok (.invokevirtual 190, 3) := by decide +kernel
theorem dX11_wash_44 : decode cX11_wash 44 = .ok (.iload_n 2, 1) := by decide +kernel
theorem dX11_wash_45 : decode cX11_wash 45 = .ok (.ireturn, 1) := by decide +kernel
theorem dX11_undo_0 : decode cX11_undo 0 = .ok (.aload_n 0, 1) := by decide +kernel
theorem dX11_undo_1 : decode cX11_undo 1 = .ok (.getfield 113, 3) := by decide +kernel
theorem dX11_undo_4 : decode cX11_undo 4 = .ok (.ifCond .ne 6, 3) := by decide +kernel
theorem dX11_undo_7 : decode cX11_undo 7 = .ok (.bipush (-3), 2) := by decide +kernel
theorem dX11_undo_9 : decode cX11_undo 9 = .ok (.ireturn, 1) := by decide +kernel
theorem dX11_undo_10 : decode cX11_undo 10 = .ok (.aload_n 0, 1) := by decide +kernel
theorem dX11_undo_11 : decode cX11_undo 11 = .ok (.dup, 1) := by decide +kernel
theorem dX11_undo_12 : decode cX11_undo 12 = .ok (.getfield 113, 3) := by decide +kernel
theorem dX11_undo_15 : decode cX11_undo 15 = .ok (.iconst 1, 1) := by decide +kernel
theorem dX11_undo_16 : decode cX11_undo 16 = .ok (.isub, 1) := by decide +kernel
theorem dX11_undo_17 : decode cX11_undo 17 = .ok (.putfield 113, 3) := by decide +kernel
theorem dX11_undo_20 : decode cX11_undo 20 = .ok (.aload_n 0, 1) := by decide +kernel
theorem dX11_undo_21 : decode cX11_undo 21 = .ok (.aload_n 0, 1) := by decide +kernel
theorem dX11_undo_22 : decode cX11_undo 22 = .ok (.getfield 161, 3) := by decide +kernel
theorem dX11_undo_25 : decode cX11_undo 25 = .ok (.bipush 13, 2) := by decide +kernel
theorem dX11_undo_27 : decode cX11_undo 27 = .ok (.iadd, 1) := by decide +kernel
theorem dX11_undo_28 : decode cX11_undo 28 = .ok (.bipush 14, 2) := by decide +kernel
theorem dX11_undo_30 : decode cX11_undo 30 = .ok (.irem, 1) := by decide +kernel
theorem dX11_undo_31 : decode cX11_undo 31 = .ok (.putfield 161, 3) := by decide +kernel
theorem dX11_undo_34 : decode cX11_undo 34 = .ok (.iconst 0, 1) := by decide +kernel
theorem dX11_undo_35 : decode cX11_undo 35 = .ok (.istore_n 1, 1) := by decide +kernel
theorem dX11_undo_36 : decode cX11_undo 36 = .ok (.iload_n 1, 1) := by decide +kernel
theorem dX11_undo_37 : decode cX11_undo 37 = .ok (.bipush 14, 2) := by decide +kernel
theorem dX11_undo_39 : decode cX11_undo 39 = .ok (.if_icmp .ge 29, 3) := by decide +kernel
theorem dX11_undo_42 : decode cX11_undo 42 = .ok (.aload_n 0, 1) := by decide +kernel
theorem dX11_undo_43 : decode cX11_undo 43 = .ok (.getfield 22, 3) := by decide +kernel
theorem dX11_undo_46 : decode cX11_undo 46 = .ok (.iload_n 1, 1) := by decide +kernel
theorem dX11_undo_47 : decode cX11_undo 47 = .ok (.aload_n 0, 1) := by decide +kernel
theorem dX11_undo_48 : decode cX11_undo 48 = .ok (.getfield 40, 3) := by decide +kernel
theorem dX11_undo_51 : decode cX11_undo 51 = .ok (.bipush 14, 2) := by decide +kernel
theorem dX11_undo_53 : decode cX11_undo 53 = .ok (.aload_n 0, 1) := by decide +kernel
theorem dX11_undo_54 : decode cX11_undo 54 = .ok (.getfield 161, 3) := by decide +kernel
theorem dX11_undo_57 : decode cX11_undo 57 = .ok (.imul, 1) := by decide +kernel
theorem dX11_undo_58 : decode cX11_undo 58 = .ok (.iload_n 1, 1) := by decide +kernel
theorem dX11_undo_59 : decode cX11_undo 59 = .ok (.iadd, 1) := by decide +kernel
theorem dX11_undo_60 : decode cX11_undo 60 = .ok (.iaload, 1) := by decide +kernel
theorem dX11_undo_61 : decode cX11_undo 61 = .ok (.iastore, 1) := by decide +kernel
theorem dX11_undo_62 : decode cX11_undo 62 = .ok (.iinc 1 1, 3) := by decide +kernel
theorem dX11_undo_65 : decode cX11_undo 65 = .ok (.goto (-29), 3) := by decide +kernel
theorem dX11_undo_68 : decode cX11_undo 68 = .ok (.aload_n 0, 1) := by decide +kernel
theorem dX11_undo_69 : decode cX11_undo 69 = .ok (.getfield 113, 3) := by decide +kernel
theorem dX11_undo_72 : decode cX11_undo 72 = .ok (.ireturn, 1) := by decide +kernel
theorem dX11_layTrial_0 : decode cX11_layTrial 0 = .ok (.iconst 0, 1) := by decide +kernel
theorem dX11_layTrial_1 : decode cX11_layTrial 1 = .ok (.istore_n 1, 1) := by decide +kernel
theorem dX11_layTrial_2 : decode cX11_layTrial 2 = .ok (.iload_n 1, 1) := by decide +kernel
theorem dX11_layTrial_3 : decode cX11_layTrial 3 = .ok (.bipush 14, 2) := by decide +kernel
theorem dX11_layTrial_5 : decode cX11_layTrial 5 = .ok (.if_icmp .ge 24, 3) := by decide +kernel
theorem dX11_layTrial_8 : decode cX11_layTrial 8 = .ok (.aload_n 0, 1) := by decide +kernel
theorem dX11_layTrial_9 : decode cX11_layTrial 9 = .ok (.getfield 22, 3) := by decide +kernel
theorem dX11_layTrial_12 : decode cX11_layTrial 12 = .ok (.bipush 14, 2) := by decide +kernel
theorem dX11_layTrial_14 : decode cX11_layTrial 14 = .ok (.iload_n 1, 1) := by decide +kernel
theorem dX11_layTrial_15 : decode cX11_layTrial 15 = .ok (.iadd, 1) := by decide +kernel
theorem dX11_layTrial_16 : decode cX11_layTrial 16 = .ok (.aload_n 0, 1) := by decide +kernel
theorem dX11_layTrial_17 : decode cX11_layTrial 17 = .ok (.getfield 22, 3) := by decide +kernel
theorem dX11_layTrial_20 : decode cX11_layTrial 20 = .ok (.iload_n 1, 1) := by decide +kernel
theorem dX11_layTrial_21 : decode cX11_layTrial 21 = .ok (.iaload, 1) := by decide +kernel
theorem dX11_layTrial_22 : decode cX11_layTrial 22 = .ok (.iastore, 1) := by decide +kernel
theorem dX11_layTrial_23 : decode cX11_layTrial 23 = .ok (.iinc 1 1, 3) := by decide +kernel
theorem dX11_layTrial_26 : decode cX11_layTrial 26 = .ok (.goto (-24), 3) := by decide +kernel
theorem dX11_layTrial_29 : decode cX11_layTrial 29 = .ok (.return_, 1) := by decide +kernel
theorem dX11_later_0 : decode cX11_later 0 = .ok (.aload_n 0, 1) := by decide +kernel
theorem dX11_later_1 : decode cX11_later 1 = .ok (.iload_n 1, 1) := by decide +kernel
theorem dX11_later_2 : decode cX11_later 2 = .ok (.invokevirtual 136, 3) := by decide +kernel
theorem dX11_later_5 : decode cX11_later 5 = .ok (.ifCond .ne 5, 3) := by decide +kernel
theorem dX11_later_8 : decode cX11_later 8 = .ok (.iconst (-1), 1) := by decide +kernel
theorem dX11_later_9 : decode cX11_later 9 = .ok (.ireturn, 1) := by decide +kernel
theorem dX11_later_10 : decode cX11_later 10 = .ok (.iload_n 2, 1) := by decide +kernel
theorem dX11_later_11 : decode cX11_later 11 = .ok (.i2l, 1) := by decide +kernel
theorem dX11_later_12 : decode cX11_later 12 = .ok (.lconst 0, 1) := by decide +kernel
theorem dX11_later_13 : decode cX11_later 13 = .ok (.ldc2_w 193, 3) := by decide +kernel
theorem dX11_later_16 : decode cX11_later 16 = .ok (.invokestatic 61, 3) := by decide +kernel
theorem dX11_later_19 : decode cX11_later 19 = .ok (.ifCond .eq 13, 3) := by decide +kernel
theorem dX11_later_22 : decode cX11_later 22 = .ok (.iload_n 3, 1) := by decide +kernel
theorem dX11_later_23 : decode cX11_later 23 = .ok (.i2l, 1) := by decide +kernel
theorem dX11_later_24 : decode cX11_later 24 = .ok (.lconst 0, 1) := by decide +kernel
theorem dX11_later_25 : decode cX11_later 25 = .ok (.lconst 1, 1) := by decide +kernel
theorem dX11_later_26 : decode cX11_later 26 = .ok (.invokestatic 61, 3) := by decide +kernel
theorem dX11_later_29 : decode cX11_later 29 = .ok (.ifCond .ne 6, 3) := by decide +kernel
theorem dX11_later_32 : decode cX11_later 32 = .ok (.bipush (-2), 2) := by decide +kernel
theorem dX11_later_34 : decode cX11_later 34 = .ok (.ireturn, 1) := by decide +kernel
theorem dX11_later_35 : decode cX11_later 35 = .ok (.aload_n 0, 1) := by decide +kernel
theorem dX11_later_36 : decode cX11_later 36 = .ok (.invokevirtual 195, 3) := by decide +kernel
theorem dX11_later_39 : decode cX11_later 39 = .ok (.iconst 0, 1) := by decide +kernel
theorem dX11_later_40 : decode cX11_later 40 = .ok (.istore 4, 2) := by decide +kernel
theorem dX11_later_42 : decode cX11_later 42 = .ok (.iload 4, 2) := by decide +kernel
theorem dX11_later_44 : decode cX11_later 44 = .ok (.iload_n 2, 1) := by decide +kernel
theorem dX11_later_45 : decode cX11_later 45 = .ok (.if_icmp .ge 14, 3) := by decide +kernel
theorem dX11_later_48 : decode cX11_later 48 = .ok (.aload_n 0, 1) := by decide +kernel
theorem dX11_later_49 : decode cX11_later 49 = .ok (.iconst 1, 1) := by decide +kernel
theorem dX11_later_50 : decode cX11_later 50 = .ok (.invokevirtual 167, 3) := by decide +kernel
theorem dX11_later_53 : decode cX11_later 53 = .ok (.iinc 4 1, 3) := by decide +kernel
theorem dX11_later_56 : decode cX11_later 56 = .ok (.goto (-14), 3) := by decide +kernel
theorem dX11_later_59 : decode cX11_later 59 = .ok (.aload_n 0, 1) := by decide +kernel
theorem dX11_later_60 : decode cX11_later 60 = .ok (.getfield 22, 3) := by decide +kernel
theorem dX11_later_63 : decode cX11_later 63 = .ok (.bipush 14, 2) := by decide +kernel
theorem dX11_later_65 : decode cX11_later 65 = .ok (.iload_n 3, 1) := by decide +kernel
theorem dX11_later_66 : decode cX11_later 66 = .ok (.ifCond .ne 7, 3) := by decide +kernel
theorem dX11_later_69 : decode cX11_later 69 = .ok (.iconst 4, 1) := by decide +kernel
theorem dX11_later_70 : decode cX11_later 70 = .ok (.goto 5, 3) := by decide +kernel
theorem dX11_later_73 : decode cX11_later 73 = .ok (.bipush 8, 2) := by decide +kernel
theorem dX11_later_75 : decode cX11_later 75 = .ok (.iadd, 1) := by decide +kernel
theorem dX11_later_76 : decode cX11_later 76 = .ok (.iload_n 1, 1) := by decide +kernel
theorem dX11_later_77 : decode cX11_later 77 = .ok (.iadd, 1) := by decide +kernel
theorem dX11_later_78 : decode cX11_later 78 = .ok (.iaload, 1) := by decide +kernel
theorem dX11_later_79 : decode cX11_later 79 = .ok (.ireturn, 1) := by decide +kernel
theorem dX11_hummock_0 : decode cX11_hummock 0 = .ok (.aload_n 0, 1) := by decide +kernel
theorem dX11_hummock_1 : decode cX11_hummock 1 = .ok (.iload_n 1, 1) := by decide +kernel
theorem dX11_hummock_2 : decode cX11_hummock 2 = .ok (.invokevirtual 136, 3) := by decide +kernel
theorem dX11_hummock_5 : decode cX11_hummock 5 = .ok (.ifCond .ne 5, 3) := by decide +kernel
theorem dX11_hummock_8 : decode cX11_hummock 8 = .ok (.iconst (-1), 1) := by decide +kernel
theorem dX11_hummock_9 : decode cX11_hummock 9 = .ok (.ireturn, 1) := by decide +kernel
theorem dX11_hummock_10 : decode cX11_hummock 10 = .ok (.aload_n 0, 1) := by decide +kernel
theorem dX11_hummock_11 : decode cX11_hummock 11 = .ok (.invokevirtual 195, 3) := by decide +kernel
theorem dX11_hummock_14 : decode cX11_hummock 14 = .ok (.iconst 0, 1) := by decide +kernel
theorem dX11_hummock_15 : decode cX11_hummock 15 = .ok (.istore_n 2, 1) := by decide +kernel
theorem dX11_hummock_16 : decode cX11_hummock 16 = .ok (.iload_n 2, 1) := by decide +kernel
theorem dX11_hummock_17 : decode cX11_hummock 17 = .ok (.bipush 21, 2) := by decide +kernel
theorem dX11_hummock_19 : decode cX11_hummock 19 = .ok (.if_icmp .ge 25, 3) := by decide +kernel
theorem dX11_hummock_22 : decode cX11_hummock 22 = .ok (.aload_n 0, 1) := by decide +kernel
theorem dX11_hummock_23 : decode cX11_hummock 23 = .ok (.iconst 1, 1) := by decide +kernel
theorem dX11_hummock_24 : decode cX11_hummock 24 = .ok (.iload_n 1, 1) := by decide +kernel
theorem dX11_hummock_25 : decode cX11_hummock 25 = .ok (.invokevirtual 122, 3) := by decide +kernel
theorem dX11_hummock_28 : decode cX11_hummock 28 = .ok (.ifCond .eq 5, 3) := by decide +kernel
theorem dX11_hummock_31 : decode cX11_hummock 31 = .ok (.iload_n 2, 1) := by decide +kernel
theorem dX11_hummock_32 : decode cX11_hummock 32 = .ok (.ireturn, 1) := by decide +kernel
theorem dX11_hummock_33 : decode cX11_hummock 33 = .ok (.aload_n 0, 1) := by decide +kernel
theorem dX11_hummock_34 : decode cX11_hummock 34 = .ok (.iconst 1, 1) := by decide +kernel
theorem dX11_hummock_35 : decode cX11_hummock 35 = .ok (.invokevirtual 167, 3) := by decide +kernel
theorem dX11_hummock_38 : decode cX11_hummock 38 = .ok (.iinc 2 1, 3) := by decide +kernel
theorem dX11_hummock_41 : decode cX11_hummock 41 = .ok (.goto (-25), 3) := by decide +kernel
theorem dX11_hummock_44 : decode cX11_hummock 44 = .ok (.bipush (-9), 2) := by decide +kernel
theorem dX11_hummock_46 : decode cX11_hummock 46 = .ok (.ireturn, 1) := by decide +kernel
theorem dX11_tenTo_0 : decode cX11_tenTo 0 = .ok (.iconst 1, 1) := by decide +kernel
theorem dX11_tenTo_1 : decode cX11_tenTo 1 = .ok (.istore_n 1, 1) := by decide +kernel
theorem dX11_tenTo_2 : decode cX11_tenTo 2 = .ok (.iconst 0, 1) := by decide +kernel
theorem dX11_tenTo_3 : decode cX11_tenTo 3 = .ok (.istore_n 2, 1) := by decide +kernel
theorem dX11_tenTo_4 : decode cX11_tenTo 4 = .ok (.iload_n 2, 1) := by decide +kernel
theorem dX11_tenTo_5 : decode cX11_tenTo 5 = .ok (.iload_n 0, 1) := by decide +kernel
theorem dX11_tenTo_6 : decode cX11_tenTo 6 = .ok (.if_icmp .ge 14, 3) := by decide +kernel
theorem dX11_tenTo_9 : decode cX11_tenTo 9 = .ok (.iload_n 1, 1) := by decide +kernel
theorem dX11_tenTo_10 : decode cX11_tenTo 10 = .ok (.bipush 10, 2) := by decide +kernel
theorem dX11_tenTo_12 : decode cX11_tenTo 12 = .ok (.imul, 1) := by decide +kernel
theorem dX11_tenTo_13 : decode cX11_tenTo 13 = .ok (.istore_n 1, 1) := by decide +kernel
theorem dX11_tenTo_14 : decode cX11_tenTo 14 = .ok (.iinc 2 1, 3) := by decide +kernel
theorem dX11_tenTo_17 : decode cX11_tenTo 17 = .ok (.goto (-13), 3) := by decide +kernel
theorem dX11_tenTo_20 : decode cX11_tenTo 20 = .ok (.iload_n 1, 1) := by decide +kernel
theorem dX11_tenTo_21 : decode cX11_tenTo 21 = .ok (.ireturn, 1) := by decide +kernel
theorem dX11_knowsBy_0 : decode cX11_knowsBy 0 = .ok (.aload_n 0, 1) := by decide +kernel
theorem dX11_knowsBy_1 : decode cX11_knowsBy 1 = .ok (.invokevirtual 195, 3) := by decide +kernel
theorem dX11_knowsBy_4 : decode cX11_knowsBy 4 = .ok (.iconst 0, 1) := by decide +kernel
theorem dX11_knowsBy_5 : decode cX11_knowsBy 5 = .ok (.istore 5, 2) := by decide +kernel
theorem dX11_knowsBy_7 : decode cX11_knowsBy 7 = .ok (.iload 5, 2) := by decide +kernel
theorem dX11_knowsBy_9 : decode cX11_knowsBy 9 = .ok (.iload 4, 2) := by decide +kernel
theorem dX11_knowsBy_11 : decode cX11_knowsBy 11 = .ok (.if_icmp .ge 69, 3) := by decide +kernel
theorem dX11_knowsBy_14 : decode cX11_knowsBy 14 = .ok (.iload_n 3, 1) := by decide +kernel
theorem dX11_knowsBy_15 : decode cX11_knowsBy 15 = .ok (.iload 4, 2) := by decide +kernel
theorem dX11_knowsBy_17 : decode cX11_knowsBy 17 = .ok (.iconst 1, 1) := by decide +kernel
theorem dX11_knowsBy_18 : decode cX11_knowsBy 18 = .ok (.isub, 1) := by decide +kernel
theorem dX11_knowsBy_19 : decode cX11_knowsBy 19 = .ok (.iload 5, 2) := by decide +kernel
theorem dX11_knowsBy_21 : decode cX11_knowsBy 21 = .ok (.isub, 1) := by decide +kernel
theorem dX11_knowsBy_22 : decode cX11_knowsBy 22 = .ok (.invokestatic 198, 3) := by decide +kernel
theorem dX11_knowsBy_25 : decode cX11_knowsBy 25 = .ok (.idiv, 1) := by decide +kernel
theorem dX11_knowsBy_26 : decode cX11_knowsBy 26 = .ok (.bipush 10, 2) := by decide +kernel
theorem dX11_knowsBy_28 : decode cX11_knowsBy 28 = .ok (.irem, 1) := by decide +kernel
theorem dX11_knowsBy_29 : decode cX11_knowsBy 29 = .ok (.istore 6, 2) := by decide +kernel
theorem dX11_knowsBy_31 : decode cX11_knowsBy 31 = .ok (.aload_n 0, 1) := by decide +kernel
theorem dX11_knowsBy_32 : decode cX11_knowsBy 32 = .ok (.iconst 1, 1) := by decide +kernel
theorem dX11_knowsBy_33 : decode cX11_knowsBy 33 = .ok (.iload_n 1, 1) := by decide +kernel
theorem dX11_knowsBy_34 : decode cX11_knowsBy 34 = .ok (.iload 6, 2) := by decide +kernel
theorem dX11_knowsBy_36 : decode cX11_knowsBy 36 = .ok (.invokevirtual 176, 3) := by decide +kernel
theorem dX11_knowsBy_39 : decode cX11_knowsBy 39 = .ok (.ifCond .eq 14, 3) := by decide +kernel
theorem dX11_knowsBy_42 : decode cX11_knowsBy 42 = .ok (.aload_n 0, 1) := by decide +kernel
theorem dX11_knowsBy_43 : decode cX11_knowsBy 43 = .ok (.iconst 1, 1) := by decide +kernel
theorem dX11_knowsBy_44 : decode cX11_knowsBy 44 = .ok (.iload_n 1, 1) := by decide +kernel
theorem dX11_knowsBy_45 : decode cX11_knowsBy 45 = .ok (.iload 6, 2) := by decide +kernel
theorem dX11_knowsBy_47 : decode cX11_knowsBy 47 = .ok (.invokevirtual 180, 3) := by decide +kernel
theorem dX11_knowsBy_50 : decode cX11_knowsBy 50 = .ok (.goto 19, 3) := by decide +kernel
theorem dX11_knowsBy_53 : decode cX11_knowsBy 53 = .ok (.aload_n 0, 1) := by decide +kernel
theorem dX11_knowsBy_54 : decode cX11_knowsBy 54 = .ok (.getfield 22, 3) := by decide +kernel
theorem dX11_knowsBy_57 : decode cX11_knowsBy 57 = .ok (.bipush 14, 2) := by decide +kernel
theorem dX11_knowsBy_59 : decode cX11_knowsBy 59 = .ok (.iload_n 1, 1) := by decide +kernel
theorem dX11_knowsBy_60 : decode cX11_knowsBy 60 = .ok (.iadd, 1) := by decide +kernel
theorem dX11_knowsBy_61 : decode cX11_knowsBy 61 = .ok (.iaload, 1) := by decide +kernel
theorem dX11_knowsBy_62 : decode cX11_knowsBy 62 = .ok (.iload 6, 2) := by decide +kernel
theorem dX11_knowsBy_64 : decode cX11_knowsBy 64 = .ok (.if_icmp .eq 5, 3) := by decide +kernel
theorem dX11_knowsBy_67 : decode cX11_knowsBy 67 = .ok (.iconst 0, 1) := by decide +kernel
theorem dX11_knowsBy_68 : decode cX11_knowsBy 68 = .ok (.ireturn, 1) := by decide +kernel
theorem dX11_knowsBy_69 : decode cX11_knowsBy 69 = .ok (.aload_n 0, 1) := by decide +kernel
theorem dX11_knowsBy_70 : decode cX11_knowsBy 70 = .ok (.iconst 1, 1) := by decide +kernel
theorem dX11_knowsBy_71 : decode cX11_knowsBy 71 = .ok (.invokevirtual 167, 3) := by decide +kernel
theorem dX11_knowsBy_74 : decode cX11_knowsBy 74 = .ok (.iinc 5 1, 3) := by decide +kernel
theorem dX11_knowsBy_77 : decode cX11_knowsBy 77 = .ok (.goto (-70), 3) := by decide +kernel
theorem dX11_knowsBy_80 : decode cX11_knowsBy 80 = .ok (.iload_n 2, 1) := by decide +kernel
theorem dX11_knowsBy_81 : decode cX11_knowsBy 81 = .ok (.aload_n 0, 1) := by decide +kernel
theorem dX11_knowsBy_82 : decode cX11_knowsBy 82 = .ok (.getfield 22, 3) := by decide +kernel
theorem dX11_knowsBy_85 : decode cX11_knowsBy 85 = .ok (.bipush 18, 2) := by decide +kernel
theorem dX11_knowsBy_87 : decode cX11_knowsBy 87 = .ok (.iload_n 1, 1) := by decide +kernel
theorem dX11_knowsBy_88 : decode cX11_knowsBy 88 = .ok (.iadd, 1) := by decide +kernel
theorem dX11_knowsBy_89 : decode cX11_knowsBy 89 = .ok (.iaload, 1) := by decide +kernel
theorem dX11_knowsBy_90 : decode cX11_knowsBy 90 = .ok (.iconst (-1), 1) := by decide +kernel
theorem dX11_knowsBy_91 : decode cX11_knowsBy 91 = .ok (.ixor, 1) := by decide +kernel
theorem dX11_knowsBy_92 : decode cX11_knowsBy 92 = .ok (.iand, 1) := by decide +kernel
theorem dX11_knowsBy_93 : decode cX11_knowsBy 93 = .ok (.ifCond .ne 7, 3) := by decide +kernel
theorem dX11_knowsBy_96 : decode cX11_knowsBy 96 = .ok (.iconst 1, 1) := by decide +kernel
theorem dX11_knowsBy_97 : decode cX11_knowsBy 97 = .ok (.goto 4, 3) := by decide +kernel
theorem dX11_knowsBy_100 : decode cX11_knowsBy 100 = .ok (.iconst 0, 1) := by decide +kernel
theorem dX11_knowsBy_101 : decode cX11_knowsBy 101 = .ok (.ireturn, 1) := by decide +kernel
theorem dX11_soon_0 : decode cX11_soon 0 = .ok (.aload_n 0, 1) := by decide +kernel
theorem dX11_soon_1 : decode cX11_soon 1 = .ok (.iload_n 1, 1) := by decide +kernel
theorem dX11_soon_2 : decode cX11_soon 2 = .ok (.invokevirtual 136, 3) := by decide +kernel
theorem dX11_soon_5 : decode cX11_soon 5 = .ok (.ifCond .ne 5, 3) := by decide +kernel
theorem dX11_soon_8 : decode cX11_soon 8 = .ok (.iconst (-1), 1) := by decide +kernel
theorem dX11_soon_9 : decode cX11_soon 9 = .ok (.ireturn, 1) := by decide +kernel
theorem dX11_soon_10 : decode cX11_soon 10 = .ok (.iload_n 2, 1) := by decide +kernel
theorem dX11_soon_11 : decode cX11_soon 11 = .ok (.i2l, 1) := by decide +kernel
theorem dX11_soon_12 : decode cX11_soon 12 = .ok (.lconst 0, 1) := by decide +kernel
theorem dX11_soon_13 : decode cX11_soon 13 = .ok (.ldc2_w 201, 3) := by decide +kernel
theorem dX11_soon_16 : decode cX11_soon 16 = .ok (.invokestatic 61, 3) := by decide +kernel
theorem dX11_soon_19 : decode cX11_soon 19 = .ok (.ifCond .eq 13, 3) := by decide +kernel
theorem dX11_soon_22 : decode cX11_soon 22 = .ok (.iload_n 3, 1) := by decide +kernel
theorem dX11_soon_23 : decode cX11_soon 23 = .ok (.i2l, 1) := by decide +kernel
theorem dX11_soon_24 : decode cX11_soon 24 = .ok (.lconst 0, 1) := by decide +kernel
theorem dX11_soon_25 : decode cX11_soon 25 = .ok (.lconst 1, 1) := by decide +kernel
theorem dX11_soon_26 : decode cX11_soon 26 = .ok (.invokestatic 61, 3) := by decide +kernel
theorem dX11_soon_29 : decode cX11_soon 29 = .ok (.ifCond .ne 6, 3) := by decide +kernel
theorem dX11_soon_32 : decode cX11_soon 32 = .ok (.bipush (-2), 2) := by decide +kernel
theorem dX11_soon_34 : decode cX11_soon 34 = .ok (.ireturn, 1) := by decide +kernel
theorem dX11_soon_35 : decode cX11_soon 35 = .ok (.iconst 0, 1) := by decide +kernel
theorem dX11_soon_36 : decode cX11_soon 36 = .ok (.istore 4, 2) := by decide +kernel
theorem dX11_soon_38 : decode cX11_soon 38 = .ok (.iload 4, 2) := by decide +kernel
theorem dX11_soon_40 : decode cX11_soon 40 = .ok (.iconst 5, 1) := by decide +kernel
theorem dX11_soon_41 : decode cX11_soon 41 = .ok (.if_icmp .ge 53, 3) := by decide +kernel
theorem dX11_soon_44 : decode cX11_soon 44 = .ok (.iconst 0, 1) := by decide +kernel
theorem dX11_soon_45 : decode cX11_soon 45 = .ok (.istore 5, 2) := by decide +kernel
theorem dX11_soon_47 : decode cX11_soon 47 = .ok (.iload 5, 2) := by decide +kernel
theorem dX11_soon_49 : decode cX11_soon 49 = .ok (.iload 4, 2) := by decide +kernel
theorem dX11_soon_51 : decode cX11_soon 51 = .ok (.invokestatic 198, 3) := by decide +kernel
theorem dX11_soon_54 : decode cX11_soon 54 = .ok (.if_icmp .ge 34, 3) := by decide +kernel
theorem dX11_soon_57 : decode cX11_soon 57 = .ok (.aload_n 0, 1) := by decide +kernel
theorem dX11_soon_58 : decode cX11_soon 58 = .ok (.iload_n 1, 1) := by decide +kernel
theorem dX11_soon_59 : decode cX11_soon 59 = .ok (.iload_n 2, 1) := by decide +kernel
theorem dX11_soon_60 : decode cX11_soon 60 = .ok (.iload 5, 2) := by decide +kernel
theorem dX11_soon_62 : decode cX11_soon 62 = .ok (.iload 4, 2) := by decide +kernel
theorem dX11_soon_64 : decode cX11_soon 64 = .ok (.invokevirtual 203, 3) := by decide +kernel
theorem dX11_soon_67 : decode cX11_soon 67 = .ok (.ifCond .eq 15, 3) := by decide +kernel
theorem dX11_soon_70 : decode cX11_soon 70 = .ok (.iload_n 3, 1) := by decide +kernel
theorem dX11_soon_71 : decode cX11_soon 71 = .ok (.ifCond .ne 8, 3) := by decide +kernel
theorem dX11_soon_74 : decode cX11_soon 74 = .ok (.iload 4, 2) := by decide +kernel
theorem dX11_soon_76 : decode cX11_soon 76 = .ok (.goto 5, 3) := by decide +kernel
theorem dX11_soon_79 : decode cX11_soon 79 = .ok (.iload 5, 2) := by decide +kernel
theorem dX11_soon_81 : decode cX11_soon 81 = .ok (.ireturn, 1) := by decide +kernel
theorem dX11_soon_82 : decode cX11_soon 82 = .ok (.iinc 5 1, 3) := by decide +kernel
theorem dX11_soon_85 : decode cX11_soon 85 = .ok (.goto (-38), 3) := by decide +kernel
theorem dX11_soon_88 : decode cX11_soon 88 = .ok (.iinc 4 1, 3) := by decide +kernel
theorem dX11_soon_91 : decode cX11_soon 91 = .ok (.goto (-53), 3) := by decide +kernel
theorem dX11_soon_94 : decode cX11_soon 94 = .ok (.bipush (-9), 2) := by decide +kernel
theorem dX11_soon_96 : decode cX11_soon 96 = .ok (.ireturn, 1) := by decide +kernel
theorem dX11_allLayers_0 : decode cX11_allLayers 0 = .ok (.iconst 0, 1) := by decide +kernel
theorem dX11_allLayers_1 : decode cX11_allLayers 1 = .ok (.istore_n 1, 1) := by decide +kernel
theorem dX11_allLayers_2 : decode cX11_allLayers 2 = .ok (.iconst 0, 1) := by decide +kernel
theorem dX11_allLayers_3 : decode cX11_allLayers 3 = .ok (.istore_n 2, 1) := by decide +kernel
theorem dX11_allLayers_4 : decode cX11_allLayers 4 = .ok (.iload_n 2, 1) := by decide +kernel
theorem dX11_allLayers_5 : decode cX11_allLayers 5 = .ok (.aload_n 0, 1) := by decide +kernel
theorem dX11_allLayers_6 : decode cX11_allLayers 6 = .ok (.getfield 107, 3) := by decide +kernel
theorem dX11_allLayers_9 : decode cX11_allLayers 9 = .ok (.if_icmp .ge 17, 3) := by decide +kernel
theorem dX11_allLayers_12 : decode cX11_allLayers 12 = .ok (.iload_n 1, 1) := by decide +kernel
theorem dX11_allLayers_13 : decode cX11_allLayers 13 = .ok (.aload_n 0, 1) := by decide +kernel
theorem dX11_allLayers_14 : decode cX11_allLayers 14 = .ok (.iload_n 2, 1) := by decide +kernel
theorem dX11_allLayers_15 : decode cX11_allLayers 15 = .ok (.invokevirtual 152, 3) := by decide +kernel
theorem dX11_allLayers_18 : decode cX11_allLayers 18 = .ok (.ior, 1) := by decide +kernel
theorem dX11_allLayers_19 : decode cX11_allLayers 19 = .ok (.istore_n 1, 1) := by decide +kernel
theorem dX11_allLayers_20 : decode cX11_allLayers 20 = .ok (.iinc 2 1, 3) := by decide +kernel
theorem dX11_allLayers_23 : decode cX11_allLayers 23 = .ok (.goto (-19), 3) := by decide +kernel
theorem dX11_allLayers_26 : decode cX11_allLayers 26 = .ok (.iload_n 1, 1) := by decide +kernel
theorem dX11_allLayers_27 : decode cX11_allLayers 27 = .ok (.ireturn, 1) := by decide +kernel
theorem dX11_isOrder_0 : decode cX11_isOrder 0 = .ok (.aload_n 0, 1) := by decide +kernel
theorem dX11_isOrder_1 : decode cX11_isOrder 1 = .ok (.invokevirtual 207, 3) := by decide +kernel
theorem dX11_isOrder_4 : decode cX11_isOrder 4 = .ok (.istore_n 3, 1) := by decide +kernel
theorem dX11_isOrder_5 : decode cX11_isOrder 5 = .ok (.iconst 0, 1) := by decide +kernel
theorem dX11_isOrder_6 : decode cX11_isOrder 6 = .ok (.istore 4, 2) := by decide +kernel
theorem dX11_isOrder_8 : decode cX11_isOrder 8 = .ok (.iload_n 1, 1) := by decide +kernel
theorem dX11_isOrder_9 : decode cX11_isOrder 9 = .ok (.istore 5, 2) := by decide +kernel
theorem dX11_isOrder_11 : decode cX11_isOrder 11 = .ok (.iload_n 2, 1) := by decide +kernel
theorem dX11_isOrder_12 : decode cX11_isOrder 12 = .ok (.iconst 1, 1) := by decide +kernel
theorem dX11_isOrder_13 : decode cX11_isOrder 13 = .ok (.isub, 1) := by decide +kernel
theorem dX11_isOrder_14 : decode cX11_isOrder 14 = .ok (.istore 6, 2) := by decide +kernel
theorem dX11_isOrder_16 : decode cX11_isOrder 16 = .ok (.iload 6, 2) := by decide +kernel
theorem dX11_isOrder_18 : decode cX11_isOrder 18 = .ok (.ifCond .lt 77, 3) := by decide +kernel
theorem dX11_isOrder_21 : decode cX11_isOrder 21 = .ok (.iload 5, 2) := by decide +kernel
theorem dX11_isOrder_23 : decode cX11_isOrder 23 = .ok (.bipush 10, 2) := by decide +kernel
theorem dX11_isOrder_25 : decode cX11_isOrder 25 = .ok (.irem, 1) := by decide +kernel
theorem dX11_isOrder_26 : decode cX11_isOrder 26 = .ok (.iconst 1, 1) := by decide +kernel
theorem dX11_isOrder_27 : decode cX11_isOrder 27 = .ok (.isub, 1) := by decide +kernel
theorem dX11_isOrder_28 : decode cX11_isOrder 28 = .ok (.istore 7, 2) := by decide +kernel
theorem dX11_isOrder_30 : decode cX11_isOrder 30 = .ok (.iload 5, 2) := by decide +kernel
theorem dX11_isOrder_32 : decode cX11_isOrder 32 = .ok (.bipush 10, 2) := by decide +kernel
theorem dX11_isOrder_34 : decode cX11_isOrder 34 = .ok (.idiv, 1) := by decide +kernel
theorem dX11_isOrder_35 : decode cX11_isOrder 35 = .ok (.istore 5, 2) := by decide +kernel
theorem dX11_isOrder_37 : decode cX11_isOrder 37 = .ok (.iload 7, 2) := by decide +kernel
theorem dX11_isOrder_39 : decode cX11_isOrder 39 = .ok (.i2l, 1) := by decide +kernel
theorem dX11_isOrder_40 : decode cX11_isOrder 40 = .ok (.lconst 0, 1) := by decide +kernel
theorem dX11_isOrder_41 : decode cX11_isOrder 41 = .ok (.ldc2_w 210, 3) := by decide +kernel
theorem dX11_isOrder_44 : decode cX11_isOrder 44 = .ok (.invokestatic 61, 3) := by decide +kernel
theorem dX11_isOrder_47 : decode cX11_isOrder 47 = .ok (.ifCond .eq 22, 3) := by decide +kernel
theorem dX11_isOrder_50 : decode cX11_isOrder 50 = .ok (.iload_n 3, 1) := by decide +kernel
theorem dX11_isOrder_51 : decode cX11_isOrder 51 = .ok (.iload 7, 2) := by decide +kernel
theorem dX11_isOrder_53 : decode cX11_isOrder 53 = .ok (.invokestatic 75, 3) := by decide +kernel
theorem dX11_isOrder_56 : decode cX11_isOrder 56 = .ok (.ifCond .eq 13, 3) := by decide +kernel
theorem dX11_isOrder_59 : decode cX11_isOrder 59 = .ok (.iload 4, 2) := by decide +kernel
theorem dX11_isOrder_61 : decode cX11_isOrder 61 = .ok (.iload 7, 2) := by decide +kernel
theorem dX11_isOrder_63 : decode cX11_isOrder 63 = .ok (.invokestatic 75, 3) := by decide +kernel
theorem dX11_isOrder_66 : decode cX11_isOrder 66 = .ok (.ifCond .eq 5, 3) := by decide +kernel
theorem dX11_isOrder_69 : decode cX11_isOrder 69 = .ok (.iconst 0, 1) := by decide +kernel
theorem dX11_isOrder_70 : decode cX11_isOrder 70 = .ok (.ireturn, 1) := by decide +kernel
theorem dX11_isOrder_71 : decode cX11_isOrder 71 = .ok (.iload 4, 2) := by decide +kernel
theorem dX11_isOrder_73 : decode cX11_isOrder 73 = .ok (.iconst 1, 1) := by decide +kernel
theorem dX11_isOrder_74 : decode cX11_isOrder 74 = .ok (.iload 7, 2) := by decide +kernel
theorem dX11_isOrder_76 : decode cX11_isOrder 76 = .ok (.ishl, 1) := by decide +kernel
theorem dX11_isOrder_77 : decode cX11_isOrder 77 = .ok (.ior, 1) := by decide +kernel
theorem dX11_isOrder_78 : decode cX11_isOrder 78 = .ok (.istore 4, 2) := by decide +kernel
theorem dX11_isOrder_80 : decode cX11_isOrder 80 = .ok (.aload_n 0, 1) := by decide +kernel
theorem dX11_isOrder_81 : decode cX11_isOrder 81 = .ok (.getfield 43, 3) := by decide +kernel
theorem dX11_isOrder_84 : decode cX11_isOrder 84 = .ok (.iload 7, 2) := by decide +kernel
theorem dX11_isOrder_86 : decode cX11_isOrder 86 = .ok (.iload 6, 2) := by decide +kernel
theorem dX11_isOrder_88 : decode cX11_isOrder 88 = .ok (.iastore, 1) := by decide +kernel
theorem dX11_isOrder_89 : decode cX11_isOrder 89 = .ok (.iinc 6 (-1), 3) := by decide +kernel
theorem dX11_isOrder_92 : decode cX11_isOrder 92 = .ok (.goto (-76), 3) := by decide +kernel
theorem dX11_isOrder_95 : decode cX11_isOrder 95 = .ok (.iconst 1, 1) := by decide +kernel
theorem dX11_isOrder_96 : decode cX11_isOrder 96 = .ok (.istore 6, 2) := by decide +kernel
theorem dX11_isOrder_98 : decode cX11_isOrder 98 = .ok (.iconst 0, 1) := by decide +kernel
theorem dX11_isOrder_99 : decode cX11_isOrder 99 = .ok (.istore 7, 2) := by decide +kernel
theorem dX11_isOrder_101 : decode cX11_isOrder 101 = .ok (.iload 7, 2) := by decide +kernel
theorem dX11_isOrder_103 : decode cX11_isOrder 103 = .ok (.aload_n 0, 1) := by decide +kernel
theorem dX11_isOrder_104 : decode cX11_isOrder 104 = .ok (.getfield 107, 3) := by decide +kernel
theorem dX11_isOrder_107 : decode cX11_isOrder 107 = .ok (.if_icmp .ge 81, 3) := by decide +kernel
theorem dX11_isOrder_110 : decode cX11_isOrder 110 = .ok (.iconst 1, 1) := by decide +kernel
theorem dX11_isOrder_111 : decode cX11_isOrder 111 = .ok (.istore 8, 2) := by decide +kernel
theorem dX11_isOrder_113 : decode cX11_isOrder 113 = .ok (.iload 8, 2) := by decide +kernel
theorem dX11_isOrder_115 : decode cX11_isOrder 115 = .ok (.aload_n 0, 1) := by decide +kernel
theorem dX11_isOrder_116 : decode cX11_isOrder 116 = .ok (.getfield 13, 3) := by decide +kernel
theorem dX11_isOrder_119 : decode cX11_isOrder 119 = .ok (.iload 7, 2) := by decide +kernel
theorem dX11_isOrder_121 : decode cX11_isOrder 121 = .ok (.iaload, 1) := by decide +kernel
theorem dX11_isOrder_122 : decode cX11_isOrder 122 = .ok (.if_icmp .ge 60, 3) := by decide +kernel
theorem dX11_isOrder_125 : decode cX11_isOrder 125 = .ok (.iload 6, 2) := by decide +kernel
theorem dX11_isOrder_127 : decode cX11_isOrder 127 = .ok (.ifCond .eq 46, 3) := by decide +kernel
theorem dX11_isOrder_130 : decode cX11_isOrder 130 = .ok (.aload_n 0, 1) := by decide +kernel
theorem dX11_isOrder_131 : decode cX11_isOrder 131 = .ok (.getfield 43, 3) := by decide +kernel
theorem dX11_isOrder_134 : decode cX11_isOrder 134 = .ok (.aload_n 0, 1) := by decide +kernel
theorem dX11_isOrder_135 : decode cX11_isOrder 135 = .ok (.getfield 16, 3) := by decide +kernel
theorem dX11_isOrder_138 : decode cX11_isOrder 138 = .ok (.iconst 4, 1) := by decide +kernel
theorem dX11_isOrder_139 : decode cX11_isOrder 139 = .ok (.iload 7, 2) := by decide +kernel
theorem dX11_isOrder_141 : decode cX11_isOrder 141 = .ok (.imul, 1) := by decide +kernel
theorem dX11_isOrder_142 : decode cX11_isOrder 142 = .ok (.iload 8, 2) := by decide +kernel
theorem dX11_isOrder_144 : decode cX11_isOrder 144 = .ok (.iadd, 1) := by decide +kernel
theorem dX11_isOrder_145 : decode cX11_isOrder 145 = .ok (.iconst 1, 1) := by decide +kernel
theorem dX11_isOrder_146 : decode cX11_isOrder 146 = .ok (.isub, 1) := by decide +kernel
theorem dX11_isOrder_147 : decode cX11_isOrder 147 = .ok (.iaload, 1) := by decide +kernel
theorem dX11_isOrder_148 : decode cX11_isOrder 148 = .ok (.iaload, 1) := by decide +kernel
theorem dX11_isOrder_149 : decode cX11_isOrder 149 = .ok (.aload_n 0, 1) := by decide +kernel
theorem dX11_isOrder_150 : decode cX11_isOrder 150 = .ok (.getfield 43, 3) := by decide +kernel
theorem dX11_isOrder_153 : decode cX11_isOrder 153 = .ok (.aload_n 0, 1) := by decide +kernel
theorem dX11_isOrder_154 : decode cX11_isOrder 154 = .ok (.getfield 16, 3) := by decide +kernel
theorem dX11_isOrder_157 : decode cX11_isOrder 157 = .ok (.iconst 4, 1) := by decide +kernel
theorem dX11_isOrder_158 : decode cX11_isOrder 158 = .ok (.iload 7, 2) := by decide +kernel
theorem dX11_isOrder_160 : decode cX11_isOrder 160 = .ok (.imul, 1) := by decide +kernel
theorem dX11_isOrder_161 : decode cX11_isOrder 161 = .ok (.iload 8, 2) := by decide +kernel
theorem dX11_isOrder_163 : decode cX11_isOrder 163 = .ok (.iadd, 1) := by decide +kernel
theorem dX11_isOrder_164 : decode cX11_isOrder 164 = .ok (.iaload, 1) := by decide +kernel
theorem dX11_isOrder_165 : decode cX11_isOrder 165 = .ok (.iaload, 1) := by decide +kernel
theorem dX11_isOrder_166 : decode cX11_isOrder 166 = .ok (.if_icmp .ge 7, 3) := by decide +kernel
theorem dX11_isOrder_169 : decode cX11_isOrder 169 = .ok (.iconst 1, 1) := by decide +kernel
theorem dX11_isOrder_170 : decode cX11_isOrder 170 = .ok (.goto 4, 3) := by decide +kernel
theorem dX11_isOrder_173 : decode cX11_isOrder 173 = .ok (.iconst 0, 1) := by decide +kernel
theorem dX11_isOrder_174 : decode cX11_isOrder 174 = .ok (.istore 6, 2) := by decide +kernel
theorem dX11_isOrder_176 : decode cX11_isOrder 176 = .ok (.iinc 8 1, 3) := by decide +kernel
theorem dX11_isOrder_179 : decode cX11_isOrder 179 = .ok (.goto (-66), 3) := by decide +kernel
theorem dX11_isOrder_182 : decode cX11_isOrder 182 = .ok (.iinc 7 1, 3) := by decide +kernel
theorem dX11_isOrder_185 : decode cX11_isOrder 185 = .ok (.goto (-84), 3) := by decide +kernel
theorem dX11_isOrder_188 : decode cX11_isOrder 188 = .ok (.iload 6, 2) := by decide +kernel
theorem dX11_isOrder_190 : decode cX11_isOrder 190 = .ok (.ireturn, 1) := by decide +kernel
theorem dX11_countOrders_0 : decode cX11_countOrders 0 = .ok (.aload_n 0, 1) := by decide +kernel
theorem dX11_countOrders_1 : decode cX11_countOrders 1 = .ok (.invokevirtual 207, 3) := by decide +kernel
theorem dX11_countOrders_4 : decode cX11_countOrders 4 = .ok (.istore_n 1, 1) := by decide +kernel
theorem dX11_countOrders_5 : decode cX11_countOrders 5 = .ok (.iload_n 1, 1) := by decide +kernel
theorem dX11_countOrders_6 : decode cX11_countOrders 6 = .ok (.invokestatic 173, 3) := by decide +kernel
theorem dX11_countOrders_9 : decode cX11_countOrders 9 = .ok (.istore_n 2, 1) := by decide +kernel
theorem dX11_countOrders_10 : decode cX11_countOrders 10 = .ok (.aload_n 0, 1) := by decide +kernel
theorem dX11_countOrders_11 : decode cX11_countOrders 11 = .ok (.iconst 0, 1) := by decide +kernel
theorem dX11_countOrders_12 : decode cX11_countOrders 12 = .ok (.putfield 212, 3) := by decide +kernel
theorem dX11_countOrders_15 : decode cX11_countOrders 15 = .ok (.aload_n 0, 1) := by decide +kernel
theorem dX11_countOrders_16 : decode cX11_countOrders 16 = .ok (.bipush (-9), 2) := by decide +kernel
theorem dX11_countOrders_18 : decode cX11_countOrders 18 = .ok (.putfield 215, 3) := by decide +kernel
theorem dX11_countOrders_21 : decode cX11_countOrders 21 = .ok (.iconst 1, 1) := by decide +kernel
theorem dX11_countOrders_22 : decode cX11_countOrders 22 = .ok (.istore_n 3, 1) := by decide +kernel
theorem dX11_countOrders_23 : decode cX11_countOrders 23 = .ok (.iconst 2, 1) := by decide +kernel
theorem dX11_countOrders_24 : decode cX11_countOrders 24 = .ok (.istore 4, 2) := by decide +kernel
theorem dX11_countOrders_26 : decode cX11_countOrders 26 = .ok (.iload 4, 2) := by decide +kernel
theorem dX11_countOrders_28 : decode cX11_countOrders 28 = .ok (.iload_n 2, 1) := by decide +kernel
theorem dX11_countOrders_29 : decode cX11_countOrders 29 = .ok (.if_icmp .gt 14, 3) := by decide +kernel
theorem dX11_countOrders_32 : decode cX11_countOrders 32 = .ok (.iload_n 3, 1) := by decide +kernel
theorem dX11_countOrders_33 : decode cX11_countOrders 33 = .ok (.iload 4, 2) := by decide +kernel
theorem dX11_countOrders_35 : decode cX11_countOrders 35 = .ok (.imul, 1) := by decide +kernel
theorem dX11_countOrders_36 : decode cX11_countOrders 36 = .ok (.istore_n 3, 1) := by decide +kernel
theorem dX11_countOrders_37 : decode cX11_countOrders 37 = .ok (.iinc 4 1, 3) := by decide +kernel
theorem dX11_countOrders_40 : decode cX11_countOrders 40 = .ok (.goto (-14), 3) := by decide +kernel
theorem dX11_countOrders_43 : decode cX11_countOrders 43 = .ok (.iconst 0, 1) := by decide +kernel
theorem dX11_countOrders_44 : decode cX11_countOrders 44 = .ok (.istore 4, 2) := by decide +kernel
theorem dX11_countOrders_46 : decode cX11_countOrders 46 = .ok (.iload 4, 2) := by decide +kernel
theorem dX11_countOrders_48 : decode cX11_countOrders 48 = .ok (.iload_n 3, 1) := by decide +kernel
theorem dX11_countOrders_49 : decode cX11_countOrders 49 = .ok (.if_icmp .ge 60, 3) := by decide +kernel
theorem dX11_countOrders_52 : decode cX11_countOrders 52 = .ok (.aload_n 0, 1) := by decide +kernel
theorem dX11_countOrders_53 : decode cX11_countOrders 53 = .ok (.iload 4, 2) := by decide +kernel
theorem dX11_countOrders_55 : decode cX11_countOrders 55 = .ok (.iload_n 1, 1) := by decide +kernel
theorem dX11_countOrders_56 : decode cX11_countOrders 56 = .ok (.iload_n 2, 1) := by decide +kernel
theorem dX11_countOrders_57 : decode cX11_countOrders 57 = .ok (.iload_n 3, 1) := by decide +kernel
theorem dX11_countOrders_58 : decode cX11_countOrders 58 = .ok (.invokevirtual 218, 3) := by decide +kernel
theorem dX11_countOrders_61 : decode cX11_countOrders 61 = .ok (.istore 5, 2) := by decide +kernel
theorem dX11_countOrders_63 : decode cX11_countOrders 63 = .ok (.aload_n 0, 1) := by decide +kernel
theorem dX11_countOrders_64 : decode cX11_countOrders 64 = .ok (.iload 5, 2) := by decide +kernel
theorem dX11_countOrders_66 : decode cX11_countOrders 66 = .ok (.iload_n 2, 1) := by decide +kernel
theorem dX11_countOrders_67 : decode cX11_countOrders 67 = .ok (.invokevirtual 222, 3) := by decide +kernel
theorem dX11_countOrders_70 : decode cX11_countOrders 70 = .ok (.ifCond .eq 33, 3) := by decide +kernel
theorem dX11_countOrders_73 : decode cX11_countOrders 73 = .ok (.aload_n 0, 1) := by decide +kernel
theorem dX11_countOrders_74 : decode cX11_countOrders 74 = .ok (.aload_n 0, 1) := by decide +kernel
theorem dX11_countOrders_75 : decode cX11_countOrders 75 = .ok (.getfield 212, 3) := by decide +kernel
theorem dX11_countOrders_78 : decode cX11_countOrders 78 = .ok (.ifCond .ne 8, 3) := by decide +kernel
theorem dX11_countOrders_81 : decode cX11_countOrders 81 = .ok (.iload 5, 2) := by decide +kernel
theorem dX11_countOrders_83 : decode cX11_countOrders 83 = .ok (.goto 7, 3) := by decide +kernel
theorem dX11_countOrders_86 : decode cX11_countOrders 86 = .ok (.aload_n 0, 1) := by decide +kernel
theorem dX11_countOrders_87 : decode cX11_countOrders 87 = .ok (.getfield 215, 3) := by decide +kernel
theorem dX11_countOrders_90 : decode cX11_countOrders 90 = .ok (.putfield 215, 3) := by decide +kernel
theorem dX11_countOrders_93 : decode cX11_countOrders 93 = .ok (.aload_n 0, 1) := by decide +kernel
theorem dX11_countOrders_94 : decode cX11_countOrders 94 = .ok (.dup, 1) := by decide +kernel
theorem dX11_countOrders_95 : decode cX11_countOrders 95 = .ok (.getfield 212, 3) := by decide +kernel
theorem dX11_countOrders_98 : decode cX11_countOrders 98 = .ok (.iconst 1, 1) := by decide +kernel
theorem dX11_countOrders_99 : decode cX11_countOrders 99 = .ok (.iadd, 1) := by decide +kernel
theorem dX11_countOrders_100 : decode cX11_countOrders 100 = .ok (.putfield 212, 3) := by decide +kernel
theorem dX11_countOrders_103 : decode cX11_countOrders 103 = .ok (.iinc 4 1, 3) := by decide +kernel
theorem dX11_countOrders_106 : decode cX11_countOrders 106 = .ok (.goto (-60), 3) := by decide +kernel
theorem dX11_countOrders_109 : decode cX11_countOrders 109 = .ok (.return_, 1) := by decide +kernel
theorem dX11_orderOf_0 : decode cX11_orderOf 0 = .ok (.iload_n 2, 1) := by decide +kernel
theorem dX11_orderOf_1 : decode cX11_orderOf 1 = .ok (.istore 5, 2) := by decide +kernel
theorem dX11_orderOf_3 : decode cX11_orderOf 3 = .ok (.iload 4, 2) := by decide +kernel
theorem dX11_orderOf_5 : decode cX11_orderOf 5 = .ok (.istore 6, 2) := by decide +kernel
theorem dX11_orderOf_7 : decode cX11_orderOf 7 = .ok (.iload_n 1, 1) := by decide +kernel
theorem dX11_orderOf_8 : decode cX11_orderOf 8 = .ok (.istore 7, 2) := by decide +kernel
theorem dX11_orderOf_10 : decode cX11_orderOf 10 = .ok (.iconst 0, 1) := by decide +kernel
theorem dX11_orderOf_11 : decode cX11_orderOf 11 = .ok (.istore 8, 2) := by decide +kernel
theorem dX11_orderOf_13 : decode cX11_orderOf 13 = .ok (.iload_n 3, 1) := by decide +kernel
theorem dX11_orderOf_14 : decode cX11_orderOf 14 = .ok (.istore 9, 2) := by decide +kernel
theorem dX11_orderOf_16 : decode cX11_orderOf 16 = .ok (.iload 9, 2) := by decide +kernel
theorem dX11_orderOf_18 : decode cX11_orderOf 18 = .ok (.ifCond .le 97, 3) := by decide +kernel
theorem dX11_orderOf_21 : decode cX11_orderOf 21 = .ok (.iload 6, 2) := by decide +kernel
theorem dX11_orderOf_23 : decode cX11_orderOf 23 = .ok (.iload 9, 2) := by decide +kernel
theorem dX11_orderOf_25 : decode cX11_orderOf 25 = .ok (.idiv, 1) := by decide +kernel
theorem dX11_orderOf_26 : decode cX11_orderOf 26 = .ok (.istore 6, 2) := by decide +kernel
theorem dX11_orderOf_28 : decode cX11_orderOf 28 = .ok (.iload 7, 2) := by decide +kernel
theorem dX11_orderOf_30 : decode cX11_orderOf 30 = .ok (.iload 6, 2) := by decide +kernel
theorem dX11_orderOf_32 : decode cX11_orderOf 32 = .ok (.idiv, 1) := by decide +kernel
theorem dX11_orderOf_33 : decode cX11_orderOf 33 = .ok (.istore 10, 2) := by decide +kernel
theorem dX11_orderOf_35 : decode cX11_orderOf 35 = .ok (.iload 7, 2) := by decide +kernel
theorem dX11_orderOf_37 : decode cX11_orderOf 37 = .ok (.iload 6, 2) := by decide +kernel
theorem dX11_orderOf_39 : decode cX11_orderOf 39 = .ok (.irem, 1) := by decide +kernel
theorem dX11_orderOf_40 : decode cX11_orderOf 40 = .ok (.istore 7, 2) := by decide +kernel
theorem dX11_orderOf_42 : decode cX11_orderOf 42 = .ok (.iconst 0, 1) := by decide +kernel
theorem dX11_orderOf_43 : decode cX11_orderOf 43 = .ok (.istore 11, 2) := by decide +kernel
theorem dX11_orderOf_45 : decode cX11_orderOf 45 = .ok (.iload 5, 2) := by decide +kernel
theorem dX11_orderOf_47 : decode cX11_orderOf 47 = .ok (.iload 11, 2) := by decide +kernel
theorem dX11_orderOf_49 : decode cX11_orderOf 49 = .ok (.invokestatic 75, 3) := by decide +kernel
theorem dX11_orderOf_52 : decode cX11_orderOf 52 = .ok (.ifCond .eq 8, 3) := by decide +kernel
theorem dX11_orderOf_55 : decode cX11_orderOf 55 = .ok (.iload 10, 2) := by decide +kernel
theorem dX11_orderOf_57 : decode cX11_orderOf 57 = .ok (.ifCond .le 29, 3) := by decide +kernel
theorem dX11_orderOf_60 : decode cX11_orderOf 60 = .ok (.iload 10, 2) := by decide +kernel
theorem dX11_orderOf_62 : decode cX11_orderOf 62 = .ok (.iload 5, 2) := by decide +kernel
theorem dX11_orderOf_64 : decode cX11_orderOf 64 = .ok (.iload 11, 2) := by decide +kernel
theorem dX11_orderOf_66 : decode cX11_orderOf 66 = .ok (.invokestatic 75, 3) := by decide +kernel
theorem dX11_orderOf_69 : decode cX11_orderOf 69 = .ok (.ifCond .eq 7, 3) := by decide +kernel
theorem dX11_orderOf_72 : decode cX11_orderOf 72 = .ok (.iconst 1, 1) := by decide +kernel
theorem dX11_orderOf_73 : decode cX11_orderOf 73 = .ok (.goto 4, 3) := by decide +kernel
theorem dX11_orderOf_76 : decode cX11_orderOf 76 = .ok (.iconst 0, 1) := by decide +kernel
theorem dX11_orderOf_77 : decode cX11_orderOf 77 = .ok (.isub, 1) := by decide +kernel
theorem dX11_orderOf_78 : decode cX11_orderOf 78 = .ok (.istore 10, 2) := by decide +kernel
theorem dX11_orderOf_80 : decode cX11_orderOf 80 = .ok (.iinc 11 1, 3) := by decide +kernel
theorem dX11_orderOf_83 : decode cX11_orderOf 83 = .ok (.goto (-38), 3) := by decide +kernel
theorem dX11_orderOf_86 : decode cX11_orderOf 86 = .ok (.iload 5, 2) := by decide +kernel
theorem dX11_orderOf_88 : decode cX11_orderOf 88 = .ok (.iconst 1, 1) := by decide +kernel
theorem dX11_orderOf_89 : decode cX11_orderOf 89 = .ok (.iload 11, 2) := by decide +kernel
theorem dX11_orderOf_91 : decode cX11_orderOf 91 = .ok (.ishl, 1) := by decide +kernel
theorem dX11_orderOf_92 : decode cX11_orderOf 92 = .ok (.iconst (-1), 1) := by decide +kernel
theorem dX11_orderOf_93 : decode cX11_orderOf 93 = .ok (.ixor, 1) := by decide +kernel
theorem dX11_orderOf_94 : decode cX11_orderOf 94 = .ok (.iand, 1) := by decide +kernel
theorem dX11_orderOf_95 : decode cX11_orderOf 95 = .ok (.istore 5, 2) := by decide +kernel
theorem dX11_orderOf_97 : decode cX11_orderOf 97 = .ok (.bipush 10, 2) := by decide +kernel
theorem dX11_orderOf_99 : decode cX11_orderOf 99 = .ok (.iload 8, 2) := by decide +kernel
theorem dX11_orderOf_101 : decode cX11_orderOf 101 = .ok (.imul, 1) := by decide +kernel
theorem dX11_orderOf_102 : decode cX11_orderOf 102 = .ok (.iload 11, 2) := by decide +kernel
theorem dX11_orderOf_104 : decode cX11_orderOf 104 = .ok (.iadd, 1) := by decide +kernel
theorem dX11_orderOf_105 : decode cX11_orderOf 105 = .ok (.iconst 1, 1) := by decide +kernel
theorem dX11_orderOf_106 : decode cX11_orderOf 106 = .ok (.iadd, 1) := by decide +kernel
theorem dX11_orderOf_107 : decode cX11_orderOf 107 = .ok (.istore 8, 2) := by decide +kernel
theorem dX11_orderOf_109 : decode cX11_orderOf 109 = .ok (.iinc 9 (-1), 3) := by decide +kernel
theorem dX11_orderOf_112 : decode cX11_orderOf 112 = .ok (.goto (-96), 3) := by decide +kernel
theorem dX11_orderOf_115 : decode cX11_orderOf 115 = .ok (.iload 8, 2) := by decide +kernel
theorem dX11_orderOf_117 : decode cX11_orderOf 117 = .ok (.ireturn, 1) := by decide +kernel
theorem dX11_beneath_0 : decode cX11_beneath 0 = .ok (.iload_n 1, 1) := by decide +kernel
theorem dX11_beneath_1 : decode cX11_beneath 1 = .ok (.i2l, 1) := by decide +kernel
theorem dX11_beneath_2 : decode cX11_beneath 2 = .ok (.lconst 0, 1) := by decide +kernel
theorem dX11_beneath_3 : decode cX11_beneath 3 = .ok (.lconst 1, 1) := by decide +kernel
theorem dX11_beneath_4 : decode cX11_beneath 4 = .ok (.invokestatic 61, 3) := by decide +kernel
theorem dX11_beneath_7 : decode cX11_beneath 7 = .ok (.ifCond .ne 6, 3) := by decide +kernel
theorem dX11_beneath_10 : decode cX11_beneath 10 = .ok (.bipush (-2), 2) := by decide +kernel
theorem dX11_beneath_12 : decode cX11_beneath 12 = .ok (.ireturn, 1) := by decide +kernel
theorem dX11_beneath_13 : decode cX11_beneath 13 = .ok (.aload_n 0, 1) := by decide +kernel
theorem dX11_beneath_14 : decode cX11_beneath 14 = .ok (.invokevirtual 225, 3) := by decide +kernel
theorem dX11_beneath_17 : decode cX11_beneath 17 = .ok (.iload_n 1, 1) := by decide +kernel
theorem dX11_beneath_18 : decode cX11_beneath 18 = .ok (.ifCond .ne 10, 3) := by decide +kernel
theorem dX11_beneath_21 : decode cX11_beneath 21 = .ok (.aload_n 0, 1) := by decide +kernel
theorem dX11_beneath_22 : decode cX11_beneath 22 = .ok (.getfield 212, 3) := by decide +kernel
theorem dX11_beneath_25 : decode cX11_beneath 25 = .ok (.goto 7, 3) := by decide +kernel
theorem dX11_beneath_28 : decode cX11_beneath 28 = .ok (.aload_n 0, 1) := by decide +kernel
theorem dX11_beneath_29 : decode cX11_beneath 29 = .ok (.getfield 215, 3) := by decide +kernel
theorem dX11_beneath_32 : decode cX11_beneath 32 = .ok (.ireturn, 1) := by decide +kernel
theorem dX11_tryThing_0 : decode cX11_tryThing 0 = .ok (.iload_n 1, 1) := by decide +kernel
theorem dX11_tryThing_1 : decode cX11_tryThing 1 = .ok (.tableswitch 219 0 5 #[39, 58, 82, 106, 148, 192], 39) := by decide +kernel
theorem dX11_tryThing_40 : decode cX11_tryThing 40 = .ok (.aload_n 0, 1) := by decide +kernel
theorem dX11_tryThing_41 : decode cX11_tryThing 41 = .ok (.iconst 1, 1) := by decide +kernel
theorem dX11_tryThing_42 : decode cX11_tryThing 42 = .ok (.invokevirtual 167, 3) := by decide +kernel
theorem dX11_tryThing_45 : decode cX11_tryThing 45 = .ok (.iload_n 2, 1) := by decide +kernel
theorem dX11_tryThing_46 : decode cX11_tryThing 46 = .ok (.ifCond .ne 11, 3) := by decide +kernel
theorem dX11_tryThing_49 : decode cX11_tryThing 49 = .ok (.iload_n 3, 1) := by decide +kernel
theorem dX11_tryThing_50 : decode cX11_tryThing 50 = .ok (.ifCond .ne 7, 3) := by decide +kernel
theorem dX11_tryThing_53 : decode cX11_tryThing 53 = .ok (.iconst 1, 1) := by decide +kernel
theorem dX11_tryThing_54 : decode cX11_tryThing 54 = .ok (.goto 4, 3) := by decide +kernel
theorem dX11_tryThing_57 : decode cX11_tryThing 57 = .ok (.iconst 0, 1) := by decide +kernel
theorem dX11_tryThing_58 : decode cX11_tryThing 58 = .ok (.ireturn, 1) := by decide +kernel
theorem dX11_tryThing_59 : decode cX11_tryThing 59 = .ok (.aload_n 0, 1) := by decide +kernel
theorem dX11_tryThing_60 : decode cX11_tryThing 60 = .ok (.iconst 1, 1) := by decide +kernel
theorem dX11_tryThing_61 : decode cX11_tryThing 61 = .ok (.iload_n 2, 1) := by decide +kernel
theorem dX11_tryThing_62 : decode cX11_tryThing 62 = .ok (.iload_n 3, 1) := by decide +kernel
theorem dX11_tryThing_63 : decode cX11_tryThing 63 = .ok (.invokevirtual 176, 3) := by decide +kernel
theorem dX11_tryThing_66 : decode cX11_tryThing 66 = .ok (.istore 4, 2) := by decide +kernel
theorem dX11_tryThing_68 : decode cX11_tryThing 68 = .ok (.iload 4, 2) := by decide +kernel
theorem dX11_tryThing_70 : decode cX11_tryThing 70 = .ok (.ifCond .eq 10, 3) := by decide +kernel
theorem dX11_tryThing_73 : decode cX11_tryThing 73 = .ok (.aload_n 0, 1) := by decide +kernel
theorem dX11_tryThing_74 : decode cX11_tryThing 74 = .ok (.iconst 1, 1) := by decide +kernel
theorem dX11_tryThing_75 : decode cX11_tryThing 75 = .ok (.iload_n 2, 1) := by decide +kernel
theorem dX11_tryThing_76 : decode cX11_tryThing 76 = .ok (.iload_n 3, 1) := by decide +kernel
theorem dX11_tryThing_77 : decode cX11_tryThing 77 = .ok (.invokevirtual 180, 3) := by decide +kernel
theorem dX11_tryThing_80 : decode cX11_tryThing 80 = .ok (.iload 4, 2) := by decide +kernel
theorem dX11_tryThing_82 : decode cX11_tryThing 82 = .ok (.ireturn, 1) := by decide +kernel
theorem dX11_tryThing_83 : decode cX11_tryThing 83 = .ok (.aload_n 0, 1) := by decide +kernel
theorem dX11_tryThing_84 : decode cX11_tryThing 84 = .ok (.iconst 1, 1) := by decide +kernel
theorem dX11_tryThing_85 : decode cX11_tryThing 85 = .ok (.iload_n 2, 1) := by decide +kernel
theorem dX11_tryThing_86 : decode cX11_tryThing 86 = .ok (.iload_n 3, 1) := by decide +kernel
theorem dX11_tryThing_87 : decode cX11_tryThing 87 = .ok (.invokevirtual 184, 3) := by decide +kernel
theorem dX11_tryThing_90 : decode cX11_tryThing 90 = .ok (.istore 5, 2) := by decide +kernel
theorem dX11_tryThing_92 : decode cX11_tryThing 92 = .ok (.iload 5, 2) := by decide +kernel
theorem dX11_tryThing_94 : decode cX11_tryThing 94 = .ok (.ifCond .eq 10, 3) := by decide +kernel
theorem dX11_tryThing_97 : decode cX11_tryThing 97 = .ok (.aload_n 0, 1) := by decide +kernel
theorem dX11_tryThing_98 : decode cX11_tryThing 98 = .ok (.iconst 1, 1) := by decide +kernel
theorem dX11_tryThing_99 : decode cX11_tryThing 99 = .ok (.iload_n 2, 1) := by decide +kernel
theorem dX11_tryThing_100 : decode cX11_tryThing 100 = .ok (.iload_n 3, 1) := by decide +kernel
theorem dX11_tryThing_101 : decode cX11_tryThing 101 = .ok (.invokevirtual 187, 3) := by decide +kernel
theorem dX11_tryThing_104 : decode cX11_tryThing 104 = .ok (.iload 5, 2) := by decide +kernel
theorem dX11_tryThing_106 : decode cX11_tryThing 106 = .ok (.ireturn, 1) := by decide +kernel
theorem dX11_tryThing_107 : decode cX11_tryThing 107 = .ok (.iload_n 2, 1) := by decide +kernel
theorem dX11_tryThing_108 : decode cX11_tryThing 108 = .ok (.ifCond .ne 24, 3) := by decide +kernel
theorem dX11_tryThing_111 : decode cX11_tryThing 111 = .ok (.aload_n 0, 1) := by decide +kernel
theorem dX11_tryThing_112 : decode cX11_tryThing 112 = .ok (.iload_n 3, 1) := by decide +kernel
theorem dX11_tryThing_113 : decode cX11_tryThing 113 = .ok (.invokevirtual 136, 3) := by decide +kernel
theorem dX11_tryThing_116 : decode cX11_tryThing 116 = .ok (.ifCond .eq 16, 3) := by decide +kernel
theorem dX11_tryThing_119 : decode cX11_tryThing 119 = .ok (.aload_n 0, 1) := by decide +kernel
theorem dX11_tryThing_120 : decode cX11_tryThing 120 = .ok (.iconst 1, 1) := by decide +kernel
theorem dX11_tryThing_121 : decode cX11_tryThing 121 = .ok (.iload_n 3, 1) := by decide +kernel
theorem dX11_tryThing_122 : decode cX11_tryThing 122 = .ok (.invokevirtual 122, 3) := by decide +kernel
theorem dX11_tryThing_125 : decode cX11_tryThing 125 = .ok (.ifCond .ne 7, 3) := by decide +kernel
theorem dX11_tryThing_128 : decode cX11_tryThing 128 = .ok (.iconst 1, 1) := by decide +kernel
theorem dX11_tryThing_129 : decode cX11_tryThing 129 = .ok (.goto 4, 3) := by decide +kernel
theorem dX11_tryThing_132 : decode cX11_tryThing 132 = .ok (.iconst 0, 1) := by decide +kernel
theorem dX11_tryThing_133 : decode cX11_tryThing 133 = .ok (.istore 6, 2) := by decide +kernel
theorem dX11_tryThing_135 : decode cX11_tryThing 135 = .ok (.iload 6, 2) := by decide +kernel
theorem dX11_tryThing_137 : decode cX11_tryThing 137 = .ok (.ifCond .eq 9, 3) := by decide +kernel
theorem dX11_tryThing_140 : decode cX11_tryThing 140 = .ok (.aload_n 0, 1) := by decide +kernel
theorem dX11_tryThing_141 : decode cX11_tryThing 141 = .ok (.iconst 1, 1) := by decide +kernel
theorem dX11_tryThing_142 : decode cX11_tryThing 142 = .ok (.iload_n 3, 1) := by decide +kernel
theorem dX11_tryThing_143 : decode cX11_tryThing 143 = .ok (.invokevirtual 190, 3) := by decide +kernel
theorem dX11_tryThing_146 : decode cX11_tryThing 146 = .ok (.iload 6, 2) := by decide +kernel
theorem dX11_tryThing_148 : decode cX11_tryThing 148 = .ok (.ireturn, 1) := by decide +kernel
theorem dX11_tryThing_149 : decode cX11_tryThing 149 = .ok (.aload_n 0, 1) := by decide +kernel
theorem dX11_tryThing_150 : decode cX11_tryThing 150 = .ok (.iload_n 2, 1) := by decide +kernel
theorem dX11_tryThing_151 : decode cX11_tryThing 151 = .ok (.invokevirtual 136, 3) := by decide +kernel
theorem dX11_tryThing_154 : decode cX11_tryThing 154 = .ok (.ifCond .eq 37, 3) := by decide +kernel
theorem dX11_tryThing_157 : decode cX11_tryThing 157 = .ok (.iload_n 3, 1) := by decide +kernel
theorem dX11_tryThing_158 : decode cX11_tryThing 158 = .ok (.i2l, 1) := by decide +kernel
theorem dX11_tryThing_159 : decode cX11_tryThing 159 = .ok (.lconst 1, 1) := by decide +kernel
theorem dX11_tryThing_160 : decode cX11_tryThing 160 = .ok (.ldc2_w 228, 3) := by decide +kernel
theorem dX11_tryThing_163 : decode cX11_tryThing 163 = .ok (.invokestatic 61, 3) := by decide +kernel
theorem dX11_tryThing_166 : decode cX11_tryThing 166 = .ok (.ifCond .eq 25, 3) := by decide +kernel
theorem dX11_tryThing_169 : decode cX11_tryThing 169 = .ok (.aload_n 0, 1) := by decide +kernel
theorem dX11_tryThing_170 : decode cX11_tryThing 170 = .ok (.getfield 22, 3) := by decide +kernel
theorem dX11_tryThing_173 : decode cX11_tryThing 173 = .ok (.bipush 18, 2) := by decide +kernel
theorem dX11_tryThing_175 : decode cX11_tryThing 175 = .ok (.iload_n 2, 1) := by decide +kernel
theorem dX11_tryThing_176 : decode cX11_tryThing 176 = .ok (.iadd, 1) := by decide +kernel
theorem dX11_tryThing_177 : decode cX11_tryThing 177 = .ok (.iaload, 1) := by decide +kernel
theorem dX11_tryThing_178 : decode cX11_tryThing 178 = .ok (.iload_n 3, 1) := by decide +kernel
theorem dX11_tryThing_179 : decode cX11_tryThing 179 = .ok (.iconst 1, 1) := by decide +kernel
theorem dX11_tryThing_180 : decode cX11_tryThing 180 = .ok (.isub, 1) := by decide +kernel
theorem dX11_tryThing_181 : decode cX11_tryThing 181 = .ok (.invokestatic 75, 3) := by decide +kernel
theorem dX11_tryThing_184 : decode cX11_tryThing 184 = .ok (.ifCond .eq 7, 3) := by decide +kernel
theorem dX11_tryThing_187 : decode cX11_tryThing 187 = .ok (.iconst 1, 1) := by decide +kernel
theorem dX11_tryThing_188 : decode cX11_tryThing 188 = .ok (.goto 4, 3) := by decide +kernel
theorem dX11_tryThing_191 : decode cX11_tryThing 191 = .ok (.iconst 0, 1) := by decide +kernel
theorem dX11_tryThing_192 : decode cX11_tryThing 192 = .ok (.ireturn, 1) := by decide +kernel
theorem dX11_tryThing_193 : decode cX11_tryThing 193 = .ok (.aload_n 0, 1) := by decide +kernel
theorem dX11_tryThing_194 : decode cX11_tryThing 194 = .ok (.iload_n 2, 1) := by decide +kernel
theorem dX11_tryThing_195 : decode cX11_tryThing 195 = .ok (.invokevirtual 136, 3) := by decide +kernel
theorem dX11_tryThing_198 : decode cX11_tryThing 198 = .ok (.ifCond .eq 20, 3) := by decide +kernel
theorem dX11_tryThing_201 : decode cX11_tryThing 201 = .ok (.aload_n 0, 1) := by decide +kernel
theorem dX11_tryThing_202 : decode cX11_tryThing 202 = .ok (.getfield 22, 3) := by decide +kernel
theorem dX11_tryThing_205 : decode cX11_tryThing 205 = .ok (.bipush 22, 2) := by decide +kernel
theorem dX11_tryThing_207 : decode cX11_tryThing 207 = .ok (.iload_n 2, 1) := by decide +kernel
theorem dX11_tryThing_208 : decode cX11_tryThing 208 = .ok (.iadd, 1) := by decide +kernel
theorem dX11_tryThing_209 : decode cX11_tryThing 209 = .ok (.iaload, 1) := by decide +kernel
theorem dX11_tryThing_210 : decode cX11_tryThing 210 = .ok (.iload_n 3, 1) := by decide +kernel
theorem dX11_tryThing_211 : decode cX11_tryThing 211 = .ok (.if_icmp .lt 7, 3) := by decide +kernel
theorem dX11_tryThing_214 : decode cX11_tryThing 214 = .ok (.iconst 1, 1) := by decide +kernel
theorem dX11_tryThing_215 : decode cX11_tryThing 215 = .ok (.goto 4, 3) := by decide +kernel
theorem dX11_tryThing_218 : decode cX11_tryThing 218 = .ok (.iconst 0, 1) := by decide +kernel
theorem dX11_tryThing_219 : decode cX11_tryThing 219 = .ok (.ireturn, 1) := by decide +kernel
theorem dX11_tryThing_220 : decode cX11_tryThing 220 = .ok (.iconst 0, 1) := by decide +kernel
theorem dX11_tryThing_221 : decode cX11_tryThing 221 = .ok (.ireturn, 1) := by decide +kernel
theorem dX11_thousandTo_0 : decode cX11_thousandTo 0 = .ok (.lconst 1, 1) := by decide +kernel
theorem dX11_thousandTo_1 : decode cX11_thousandTo 1 = .ok (.lstore_n 1, 1) := by decide +kernel
theorem dX11_thousandTo_2 : decode cX11_thousandTo 2 = .ok (.iconst 0, 1) := by decide +kernel
theorem dX11_thousandTo_3 : decode cX11_thousandTo 3 = .ok (.istore_n 3, 1) := by decide +kernel
theorem dX11_thousandTo_4 : decode cX11_thousandTo 4 = .ok (.iload_n 3, 1) := by decide +kernel
theorem dX11_thousandTo_5 : decode cX11_thousandTo 5 = .ok (.iload_n 0, 1) := by decide +kernel
theorem dX11_thousandTo_6 : decode cX11_thousandTo 6 = .ok (.if_icmp .ge 15, 3) := by decide +kernel
theorem dX11_thousandTo_9 : decode cX11_thousandTo 9 = .ok (.lload_n 1, 1) := by decide +kernel
theorem dX11_thousandTo_10 : decode cX11_thousandTo 10 = .ok (.ldc2_w 230, 3) := by decide +kernel
theorem dX11_thousandTo_13 : decode cX11_thousandTo 13 = .ok (.lmul, 1) := by decide +kernel
theorem dX11_thousandTo_14 : decode cX11_thousandTo 14 = .ok (.lstore_n 1, 1) := by decide +kernel
theorem dX11_thousandTo_15 : decode cX11_thousandTo 15 = .ok (.iinc 3 1, 3) := by decide +kernel
theorem dX11_thousandTo_18 : decode cX11_thousandTo 18 = .ok (.goto (-14), 3) := by decide +kernel
theorem dX11_thousandTo_21 : decode cX11_thousandTo 21 = .ok (.lload_n 1, 1) := by decide +kernel
theorem dX11_thousandTo_22 : decode cX11_thousandTo 22 = .ok (.lreturn, 1) := by decide +kernel
theorem dX11_judge_0 : decode cX11_judge 0 = .ok (.iload_n 1, 1) := by decide +kernel
theorem dX11_judge_1 : decode cX11_judge 1 = .ok (.i2l, 1) := by decide +kernel
theorem dX11_judge_2 : decode cX11_judge 2 = .ok (.lconst 1, 1) := by decide +kernel
theorem dX11_judge_3 : decode cX11_judge 3 = .ok (.ldc2_w 232, 3) := by decide +kernel
theorem dX11_judge_6 : decode cX11_judge 6 = .ok (.invokestatic 61, 3) := by decide +kernel
theorem dX11_judge_9 : decode cX11_judge 9 = .ok (.ifCond .eq 17, 3) := by decide +kernel
theorem dX11_judge_12 : decode cX11_judge 12 = .ok (.lload_n 2, 1) := by decide +kernel
theorem dX11_judge_13 : decode cX11_judge 13 = .ok (.lconst 0, 1) := by decide +kernel
theorem dX11_judge_14 : decode cX11_judge 14 = .ok (.iload_n 1, 1) := by decide +kernel
theorem dX11_judge_15 : decode cX11_judge 15 = .ok (.invokestatic 234, 3) := by decide +kernel
theorem dX11_judge_18 : decode cX11_judge 18 = .ok (.lconst 1, 1) := by decide +kernel
theorem dX11_judge_19 : decode cX11_judge 19 = .ok (.lsub, 1) := by decide +kernel
theorem dX11_judge_20 : decode cX11_judge 20 = .ok (.invokestatic 61, 3) := by decide +kernel
theorem dX11_judge_23 : decode cX11_judge 23 = .ok (.ifCond .ne 6, 3) := by decide +kernel
theorem dX11_judge_26 : decode cX11_judge 26 = .ok (.bipush (-2), 2) := by decide +kernel
theorem dX11_judge_28 : decode cX11_judge 28 = .ok (.ireturn, 1) := by decide +kernel
theorem dX11_judge_29 : decode cX11_judge 29 = .ok (.aload_n 0, 1) := by decide +kernel
theorem dX11_judge_30 : decode cX11_judge 30 = .ok (.invokevirtual 195, 3) := by decide +kernel
theorem dX11_judge_33 : decode cX11_judge 33 = .ok (.iconst 0, 1) := by decide +kernel
theorem dX11_judge_34 : decode cX11_judge 34 = .ok (.istore 4, 2) := by decide +kernel
theorem dX11_judge_36 : decode cX11_judge 36 = .ok (.iload 4, 2) := by decide +kernel
theorem dX11_judge_38 : decode cX11_judge 38 = .ok (.iload_n 1, 1) := by decide +kernel
theorem dX11_judge_39 : decode cX11_judge 39 = .ok (.if_icmp .ge 55, 3) := by decide +kernel
theorem dX11_judge_42 : decode cX11_judge 42 = .ok (.lload_n 2, 1) := by decide +kernel
theorem dX11_judge_43 : decode cX11_judge 43 = .ok (.iload_n 1, 1) := by decide +kernel
theorem dX11_judge_44 : decode cX11_judge 44 = .ok (.iconst 1, 1) := by decide +kernel
theorem dX11_judge_45 : decode cX11_judge 45 = .ok (.isub, 1) := by decide +kernel
theorem dX11_judge_46 : decode cX11_judge 46 = .ok (.iload 4, 2) := by decide +kernel
theorem dX11_judge_48 : decode cX11_judge 48 = .ok (.isub, 1) := by decide +kernel
theorem dX11_judge_49 : decode cX11_judge 49 = .ok (.invokestatic 234, 3) := by decide +kernel
theorem dX11_judge_52 : decode cX11_judge 52 = .ok (.ldiv, 1) := by decide +kernel
theorem dX11_judge_53 : decode cX11_judge 53 = .ok (.ldc2_w 230, 3) := by decide +kernel
theorem dX11_judge_56 : decode cX11_judge 56 = .ok (.lrem, 1) := by decide +kernel
theorem dX11_judge_57 : decode cX11_judge 57 = .ok (.l2i, 1) := by decide +kernel
theorem dX11_judge_58 : decode cX11_judge 58 = .ok (.istore 5, 2) := by decide +kernel
theorem dX11_judge_60 : decode cX11_judge 60 = .ok (.aload_n 0, 1) := by decide +kernel
theorem dX11_judge_61 : decode cX11_judge 61 = .ok (.iload 5, 2) := by decide +kernel
theorem dX11_judge_63 : decode cX11_judge 63 = .ok (.bipush 100, 2) := by decide +kernel
theorem dX11_judge_65 : decode cX11_judge 65 = .ok (.idiv, 1) := by decide +kernel
theorem dX11_judge_66 : decode cX11_judge 66 = .ok (.iload 5, 2) := by decide +kernel
theorem dX11_judge_68 : decode cX11_judge 68 = .ok (.bipush 10, 2) := by decide +kernel
theorem dX11_judge_70 : decode cX11_judge 70 = .ok (.idiv, 1) := by decide +kernel
theorem dX11_judge_71 : decode cX11_judge 71 = .ok (.bipush 10, 2) := by decide +kernel
theorem dX11_judge_73 : decode cX11_judge 73 = .ok (.irem, 1) := by decide +kernel
theorem dX11_judge_74 : decode cX11_judge 74 = .ok (.iload 5, 2) := by decide +kernel
theorem dX11_judge_76 : decode cX11_judge 76 = .ok (.bipush 10, 2) := by decide +kernel
theorem dX11_judge_78 : decode cX11_judge 78 = .ok (.irem, 1) := by decide +kernel
theorem dX11_judge_79 : decode cX11_judge 79 = .ok (.invokevirtual 238, 3) := by decide +kernel
theorem dX11_judge_82 : decode cX11_judge 82 = .ok (.ifCond .ne 6, 3) := by decide +kernel
theorem dX11_judge_85 : decode cX11_judge 85 = .ok (.iload 4, 2) := by decide +kernel
theorem dX11_judge_87 : decode cX11_judge 87 = .ok (.ireturn, 1) := by decide +kernel
theorem dX11_judge_88 : decode cX11_judge 88 = .ok (.iinc 4 1, 3) := by decide +kernel
theorem dX11_judge_91 : decode cX11_judge 91 = .ok (.goto (-55), 3) := by decide +kernel
theorem dX11_judge_94 : decode cX11_judge 94 = .ok (.bipush (-9), 2) := by decide +kernel
theorem dX11_judge_96 : decode cX11_judge 96 = .ok (.ireturn, 1) := by decide +kernel
theorem dX11_knew_0 : decode cX11_knew 0 = .ok (.iload_n 1, 1) := by decide +kernel
theorem dX11_knew_1 : decode cX11_knew 1 = .ok (.i2l, 1) := by decide +kernel
theorem dX11_knew_2 : decode cX11_knew 2 = .ok (.lconst 1, 1) := by decide +kernel
theorem dX11_knew_3 : decode cX11_knew 3 = .ok (.ldc2_w 228, 3) := by decide +kernel
theorem dX11_knew_6 : decode cX11_knew 6 = .ok (.invokestatic 61, 3) := by decide +kernel
theorem dX11_knew_9 : decode cX11_knew 9 = .ok (.ifCond .eq 13, 3) := by decide +kernel
theorem dX11_knew_12 : decode cX11_knew 12 = .ok (.iload_n 2, 1) := by decide +kernel
theorem dX11_knew_13 : decode cX11_knew 13 = .ok (.i2l, 1) := by decide +kernel
theorem dX11_knew_14 : decode cX11_knew 14 = .ok (.lconst 0, 1) := by decide +kernel
theorem dX11_knew_15 : decode cX11_knew 15 = .ok (.lconst 1, 1) := by decide +kernel
theorem dX11_knew_16 : decode cX11_knew 16 = .ok (.invokestatic 61, 3) := by decide +kernel
theorem dX11_knew_19 : decode cX11_knew 19 = .ok (.ifCond .ne 6, 3) := by decide +kernel
theorem dX11_knew_22 : decode cX11_knew 22 = .ok (.bipush (-2), 2) := by decide +kernel
theorem dX11_knew_24 : decode cX11_knew 24 = .ok (.ireturn, 1) := by decide +kernel
theorem dX11_knew_25 : decode cX11_knew 25 = .ok (.aload_n 0, 1) := by decide +kernel
theorem dX11_knew_26 : decode cX11_knew 26 = .ok (.getfield 241, 3) := by decide +kernel
theorem dX11_knew_29 : decode cX11_knew 29 = .ok (.bipush 6, 2) := by decide +kernel
theorem dX11_knew_31 : decode cX11_knew 31 = .ok (.if_icmp .ne 6, 3) := by decide +kernel
theorem dX11_knew_34 : decode cX11_knew 34 = .ok (.bipush (-4), 2) := by decide +kernel
theorem dX11_knew_36 : decode cX11_knew 36 = .ok (.ireturn, 1) := by decide +kernel
theorem dX11_knew_37 : decode cX11_knew 37 = .ok (.aload_n 0, 1) := by decide +kernel
theorem dX11_knew_38 : decode cX11_knew 38 = .ok (.getfield 46, 3) := by decide +kernel
theorem dX11_knew_41 : decode cX11_knew 41 = .ok (.aload_n 0, 1) := by decide +kernel
theorem dX11_knew_42 : decode cX11_knew 42 = .ok (.getfield 241, 3) := by decide +kernel
theorem dX11_knew_45 : decode cX11_knew 45 = .ok (.iload_n 1, 1) := by decide +kernel
theorem dX11_knew_46 : decode cX11_knew 46 = .ok (.iastore, 1) := by decide +kernel
theorem dX11_knew_47 : decode cX11_knew 47 = .ok (.aload_n 0, 1) := by decide +kernel
theorem dX11_knew_48 : decode cX11_knew 48 = .ok (.getfield 49, 3) := by decide +kernel
theorem dX11_knew_51 : decode cX11_knew 51 = .ok (.aload_n 0, 1) := by decide +kernel
theorem dX11_knew_52 : decode cX11_knew 52 = .ok (.getfield 241, 3) := by decide +kernel
theorem dX11_knew_55 : decode cX11_knew 55 = .ok (.iload_n 2, 1) := by decide +kernel
theorem dX11_knew_56 : decode cX11_knew 56 = .ok (.iastore, 1) := by decide +kernel
theorem dX11_knew_57 : decode cX11_knew 57 = .ok (.aload_n 0, 1) := by decide +kernel
theorem dX11_knew_58 : decode cX11_knew 58 = .ok (.dup, 1) := by decide +kernel
theorem dX11_knew_59 : decode cX11_knew 59 = .ok (.getfield 241, 3) := by decide +kernel
theorem dX11_knew_62 : decode cX11_knew 62 = .ok (.iconst 1, 1) := by decide +kernel
theorem dX11_knew_63 : decode cX11_knew 63 = .ok (.iadd, 1) := by decide +kernel
theorem dX11_knew_64 : decode cX11_knew 64 = .ok (.putfield 241, 3) := by decide +kernel
theorem dX11_knew_67 : decode cX11_knew 67 = .ok (.aload_n 0, 1) := by decide +kernel
theorem dX11_knew_68 : decode cX11_knew 68 = .ok (.getfield 241, 3) := by decide +kernel
theorem dX11_knew_71 : decode cX11_knew 71 = .ok (.ireturn, 1) := by decide +kernel
theorem dX11_unknew_0 : decode cX11_unknew 0 = .ok (.aload_n 0, 1) := by decide +kernel
theorem dX11_unknew_1 : decode cX11_unknew 1 = .ok (.getfield 241, 3) := by decide +kernel
theorem dX11_unknew_4 : decode cX11_unknew 4 = .ok (.istore_n 1, 1) := by decide +kernel
theorem dX11_unknew_5 : decode cX11_unknew 5 = .ok (.aload_n 0, 1) := by decide +kernel
theorem dX11_unknew_6 : decode cX11_unknew 6 = .ok (.iconst 0, 1) := by decide +kernel
theorem dX11_unknew_7 : decode cX11_unknew 7 = .ok (.putfield 241, 3) := by decide +kernel
theorem dX11_unknew_10 : decode cX11_unknew 10 = .ok (.iload_n 1, 1) := by decide +kernel
theorem dX11_unknew_11 : decode cX11_unknew 11 = .ok (.ireturn, 1) := by decide +kernel
theorem dX11_upperOf_0 : decode cX11_upperOf 0 = .ok (.iconst 0, 1) := by decide +kernel
theorem dX11_upperOf_1 : decode cX11_upperOf 1 = .ok (.istore_n 3, 1) := by decide +kernel
theorem dX11_upperOf_2 : decode cX11_upperOf 2 = .ok (.iconst 0, 1) := by decide +kernel
theorem dX11_upperOf_3 : decode cX11_upperOf 3 = .ok (.istore 4, 2) := by decide +kernel
theorem dX11_upperOf_5 : decode cX11_upperOf 5 = .ok (.iload 4, 2) := by decide +kernel
theorem dX11_upperOf_7 : decode cX11_upperOf 7 = .ok (.aload_n 0, 1) := by decide +kernel
theorem dX11_upperOf_8 : decode cX11_upperOf 8 = .ok (.getfield 13, 3) := by decide +kernel
theorem dX11_upperOf_11 : decode cX11_upperOf 11 = .ok (.iload_n 1, 1) := by decide +kernel
theorem dX11_upperOf_12 : decode cX11_upperOf 12 = .ok (.iaload, 1) := by decide +kernel
theorem dX11_upperOf_13 : decode cX11_upperOf 13 = .ok (.if_icmp .ge 31, 3) := by decide +kernel
theorem dX11_upperOf_16 : decode cX11_upperOf 16 = .ok (.iload 4, 2) := by decide +kernel
theorem dX11_upperOf_18 : decode cX11_upperOf 18 = .ok (.iload_n 2, 1) := by decide +kernel
theorem dX11_upperOf_19 : decode cX11_upperOf 19 = .ok (.if_icmp .ge 25, 3) := by decide +kernel
theorem dX11_upperOf_22 : decode cX11_upperOf 22 = .ok (.iload_n 3, 1) := by decide +kernel
theorem dX11_upperOf_23 : decode cX11_upperOf 23 = .ok (.iconst 1, 1) := by decide +kernel
theorem dX11_upperOf_24 : decode cX11_upperOf 24 = .ok (.aload_n 0, 1) := by decide +kernel
theorem dX11_upperOf_25 : decode cX11_upperOf 25 = .ok (.getfield 16, 3) := by decide +kernel
theorem dX11_upperOf_28 : decode cX11_upperOf 28 = .ok (.iconst 4, 1) := by decide +kernel
theorem dX11_upperOf_29 : decode cX11_upperOf 29 = .ok (.iload_n 1, 1) := by decide +kernel
theorem dX11_upperOf_30 : decode cX11_upperOf 30 = .ok (.imul, 1) := by decide +kernel
theorem dX11_upperOf_31 : decode cX11_upperOf 31 = .ok (.iload 4, 2) := by decide +kernel
theorem dX11_upperOf_33 : decode cX11_upperOf 33 = .ok (.iadd, 1) := by decide +kernel
theorem dX11_upperOf_34 : decode cX11_upperOf 34 = .ok (.iaload, 1) := by decide +kernel
theorem dX11_upperOf_35 : decode cX11_upperOf 35 = .ok (.ishl, 1) := by decide +kernel
theorem dX11_upperOf_36 : decode cX11_upperOf 36 = .ok (.ior, 1) := by decide +kernel
theorem dX11_upperOf_37 : decode cX11_upperOf 37 = .ok (.istore_n 3, 1) := by decide +kernel
theorem dX11_upperOf_38 : decode cX11_upperOf 38 = .ok (.iinc 4 1, 3) := by decide +kernel
theorem dX11_upperOf_41 : decode cX11_upperOf 41 = .ok (.goto (-36), 3) := by decide +kernel
theorem dX11_upperOf_44 : decode cX11_upperOf 44 = .ok (.iload_n 3, 1) := by decide +kernel
theorem dX11_upperOf_45 : decode cX11_upperOf 45 = .ok (.ireturn, 1) := by decide +kernel
theorem dX11_lay_0 : decode cX11_lay 0 = .ok (.iload_n 1, 1) := by decide +kernel
theorem dX11_lay_1 : decode cX11_lay 1 = .ok (.i2l, 1) := by decide +kernel
theorem dX11_lay_2 : decode cX11_lay 2 = .ok (.lconst 0, 1) := by decide +kernel
theorem dX11_lay_3 : decode cX11_lay 3 = .ok (.lconst 1, 1) := by decide +kernel
theorem dX11_lay_4 : decode cX11_lay 4 = .ok (.invokestatic 61, 3) := by decide +kernel
theorem dX11_lay_7 : decode cX11_lay 7 = .ok (.ifCond .ne 6, 3) := by decide +kernel
theorem dX11_lay_10 : decode cX11_lay 10 = .ok (.bipush (-2), 2) := by decide +kernel
theorem dX11_lay_12 : decode cX11_lay 12 = .ok (.ireturn, 1) := by decide +kernel
theorem dX11_lay_13 : decode cX11_lay 13 = .ok (.iconst 0, 1) := by decide +kernel
theorem dX11_lay_14 : decode cX11_lay 14 = .ok (.istore_n 2, 1) := by decide +kernel
theorem dX11_lay_15 : decode cX11_lay 15 = .ok (.bipush (-9), 2) := by decide +kernel
theorem dX11_lay_17 : decode cX11_lay 17 = .ok (.istore_n 3, 1) := by decide +kernel
theorem dX11_lay_18 : decode cX11_lay 18 = .ok (.iconst 0, 1) := by decide +kernel
theorem dX11_lay_19 : decode cX11_lay 19 = .ok (.istore 4, 2) := by decide +kernel
theorem dX11_lay_21 : decode cX11_lay 21 = .ok (.iload 4, 2) := by decide +kernel
theorem dX11_lay_23 : decode cX11_lay 23 = .ok (.bipush 8, 2) := by decide +kernel
theorem dX11_lay_25 : decode cX11_lay 25 = .ok (.aload_n 0, 1) := by decide +kernel
theorem dX11_lay_26 : decode cX11_lay 26 = .ok (.getfield 107, 3) := by decide +kernel
theorem dX11_lay_29 : decode cX11_lay 29 = .ok (.imul, 1) := by decide +kernel
theorem dX11_lay_30 : decode cX11_lay 30 = .ok (.if_icmp .ge 157, 3) := by decide +kernel
theorem dX11_lay_33 : decode cX11_lay 33 = .ok (.iload 4, 2) := by decide +kernel
theorem dX11_lay_35 : decode cX11_lay 35 = .ok (.iconst 4, 1) := by decide +kernel
theorem dX11_lay_36 : decode cX11_lay 36 = .ok (.aload_n 0, 1) := by decide +kernel
theorem dX11_lay_37 : decode cX11_lay 37 = .ok (.getfield 107, 3) := by decide +kernel
theorem dX11_lay_40 : decode cX11_lay 40 = .ok (.imul, 1) := by decide +kernel
theorem dX11_lay_41 : decode cX11_lay 41 = .ok (.idiv, 1) := by decide +kernel
theorem dX11_lay_42 : decode cX11_lay 42 = .ok (.istore 5, 2) := by decide +kernel
theorem dX11_lay_44 : decode cX11_lay 44 = .ok (.iload 4, 2) := by decide +kernel
theorem dX11_lay_46 : decode cX11_lay 46 = .ok (.iconst 4, 1) := by decide +kernel
theorem dX11_lay_47 : decode cX11_lay 47 = .ok (.idiv, 1) := by decide +kernel
theorem dX11_lay_48 : decode cX11_lay 48 = .ok (.aload_n 0, 1) := by decide +kernel
theorem dX11_lay_49 : decode cX11_lay 49 = .ok (.getfield 107, 3) := by decide +kernel
theorem dX11_lay_52 : decode cX11_lay 52 = .ok (.irem, 1) := by decide +kernel
theorem dX11_lay_53 : decode cX11_lay 53 = .ok (.istore 6, 2) := by decide +kernel
theorem dX11_lay_55 : decode cX11_lay 55 = .ok (.aload_n 0, 1) := by decide +kernel
theorem dX11_lay_56 : decode cX11_lay 56 = .ok (.iload 6, 2) := by decide +kernel
theorem dX11_lay_58 : decode cX11_lay 58 = .ok (.iload 4, 2) := by decide +kernel
theorem dX11_lay_60 : decode cX11_lay 60 = .ok (.iconst 4, 1) := by decide +kernel
theorem dX11_lay_61 : decode cX11_lay 61 = .ok (.irem, 1) := by decide +kernel
theorem dX11_lay_62 : decode cX11_lay 62 = .ok (.iload 5, 2) := by decide +kernel
theorem dX11_lay_64 : decode cX11_lay 64 = .ok (.iconst 1, 1) := by decide +kernel
theorem dX11_lay_65 : decode cX11_lay 65 = .ok (.iadd, 1) := by decide +kernel
theorem dX11_lay_66 : decode cX11_lay 66 = .ok (.imul, 1) := by decide +kernel
theorem dX11_lay_67 : decode cX11_lay 67 = .ok (.invokevirtual 244, 3) := by decide +kernel
theorem dX11_lay_70 : decode cX11_lay 70 = .ok (.istore 7, 2) := by decide +kernel
theorem dX11_lay_72 : decode cX11_lay 72 = .ok (.iconst 1, 1) := by decide +kernel
theorem dX11_lay_73 : decode cX11_lay 73 = .ok (.istore 8, 2) := by decide +kernel
theorem dX11_lay_75 : decode cX11_lay 75 = .ok (.iconst 0, 1) := by decide +kernel
theorem dX11_lay_76 : decode cX11_lay 76 = .ok (.istore 9, 2) := by decide +kernel
theorem dX11_lay_78 : decode cX11_lay 78 = .ok (.iload 9, 2) := by decide +kernel
theorem dX11_lay_80 : decode cX11_lay 80 = .ok (.aload_n 0, 1) := by decide +kernel
theorem dX11_lay_81 : decode cX11_lay 81 = .ok (.getfield 241, 3) := by decide +kernel
theorem dX11_lay_84 : decode cX11_lay 84 = .ok (.if_icmp .ge 54, 3) := by decide +kernel
theorem dX11_lay_87 : decode cX11_lay 87 = .ok (.iload 8, 2) := by decide +kernel
theorem dX11_lay_89 : decode cX11_lay 89 = .ok (.ifCond .eq 40, 3) := by decide +kernel
theorem dX11_lay_92 : decode cX11_lay 92 = .ok (.iload 7, 2) := by decide +kernel
theorem dX11_lay_94 : decode cX11_lay 94 = .ok (.aload_n 0, 1) := by decide +kernel
theorem dX11_lay_95 : decode cX11_lay 95 = .ok (.getfield 46, 3) := by decide +kernel
theorem dX11_lay_98 : decode cX11_lay 98 = .ok (.iload 9, 2) := by decide +kernel
theorem dX11_lay_100 : decode cX11_lay 100 = .ok (.iaload, 1) := by decide +kernel
theorem dX11_lay_101 : decode cX11_lay 101 = .ok (.iconst 1, 1) := by decide +kernel
theorem dX11_lay_102 : decode cX11_lay 102 = .ok (.isub, 1) := by decide +kernel
theorem dX11_lay_103 : decode cX11_lay 103 = .ok (.invokestatic 75, 3) := by decide +kernel
theorem dX11_lay_106 : decode cX11_lay 106 = .ok (.aload_n 0, 1) := by decide +kernel
theorem dX11_lay_107 : decode cX11_lay 107 = .ok (.getfield 49, 3) := by decide +kernel
theorem dX11_lay_110 : decode cX11_lay 110 = .ok (.iload 9, 2) := by decide +kernel
theorem dX11_lay_112 : decode cX11_lay 112 = .ok (.iaload, 1) := by decide +kernel
theorem dX11_lay_113 : decode cX11_lay 113 = .ok (.iconst 1, 1) := by decide +kernel
theorem dX11_lay_114 : decode cX11_lay 114 = .ok (.if_icmp .ne 7, 3) := by decide +kernel
theorem dX11_lay_117 : decode cX11_lay 117 = .ok (.iconst 1, 1) := by decide +kernel
theorem dX11_lay_118 : decode cX11_lay 118 = .ok (.goto 4, 3) := by decide +kernel
theorem dX11_lay_121 : decode cX11_lay 121 = .ok (.iconst 0, 1) := by decide +kernel
theorem dX11_lay_122 : decode cX11_lay 122 = .ok (.if_icmp .ne 7, 3) := by decide +kernel
theorem dX11_lay_125 : decode cX11_lay 125 = .ok (.iconst 1, 1) := by decide +kernel
theorem dX11_lay_126 : decode cX11_lay 126 = .ok (.goto 4, 3) := by decide +kernel
theorem dX11_lay_129 : decode cX11_lay 129 = .ok (.iconst 0, 1) := by decide +kernel
theorem dX11_lay_130 : decode cX11_lay 130 = .ok (.istore 8, 2) := by decide +kernel
theorem dX11_lay_132 : decode cX11_lay 132 = .ok (.iinc 9 1, 3) := by decide +kernel
theorem dX11_lay_135 : decode cX11_lay 135 = .ok (.goto (-57), 3) := by decide +kernel
theorem dX11_lay_138 : decode cX11_lay 138 = .ok (.iload 8, 2) := by decide +kernel
theorem dX11_lay_140 : decode cX11_lay 140 = .ok (.ifCond .eq 26, 3) := by decide +kernel
theorem dX11_lay_143 : decode cX11_lay 143 = .ok (.iload_n 2, 1) := by decide +kernel
theorem dX11_lay_144 : decode cX11_lay 144 = .ok (.ifCond .ne 22, 3) := by decide +kernel
theorem dX11_lay_147 : decode cX11_lay 147 = .ok (.bipush 100, 2) := by decide +kernel
theorem dX11_lay_149 : decode cX11_lay 149 = .ok (.iload 5, 2) := by decide +kernel
theorem dX11_lay_151 : decode cX11_lay 151 = .ok (.imul, 1) := by decide +kernel
theorem dX11_lay_152 : decode cX11_lay 152 = .ok (.bipush 10, 2) := by decide +kernel
theorem dX11_lay_154 : decode cX11_lay 154 = .ok (.iload 6, 2) := by decide +kernel
theorem dX11_lay_156 : decode cX11_lay 156 = .ok (.imul, 1) := by decide +kernel
theorem dX11_lay_157 : decode cX11_lay 157 = .ok (.iadd, 1) := by decide +kernel
theorem dX11_lay_158 : decode cX11_lay 158 = .ok (.iload 4, 2) := by decide +kernel
theorem dX11_lay_160 : decode cX11_lay 160 = .ok (.iconst 4, 1) := by decide +kernel
theorem dX11_lay_161 : decode cX11_lay 161 = .ok (.irem, 1) := by decide +kernel
theorem dX11_lay_162 : decode cX11_lay 162 = .ok (.iadd, 1) := by decide +kernel
theorem dX11_lay_163 : decode cX11_lay 163 = .ok (.goto 4, 3) := by decide +kernel
theorem dX11_lay_166 : decode cX11_lay 166 = .ok (.iload_n 3, 1) := by decide +kernel
theorem dX11_lay_167 : decode cX11_lay 167 = .ok (.istore_n 3, 1) := by decide +kernel
theorem dX11_lay_168 : decode cX11_lay 168 = .ok (.iload_n 2, 1) := by decide +kernel
theorem dX11_lay_169 : decode cX11_lay 169 = .ok (.iload 8, 2) := by decide +kernel
theorem dX11_lay_171 : decode cX11_lay 171 = .ok (.ifCond .eq 7, 3) := by decide +kernel
theorem dX11_lay_174 : decode cX11_lay 174 = .ok (.iconst 1, 1) := by decide +kernel
theorem dX11_lay_175 : decode cX11_lay 175 = .ok (.goto 4, 3) := by decide +kernel
theorem dX11_lay_178 : decode cX11_lay 178 = .ok (.iconst 0, 1) := by decide +kernel
theorem dX11_lay_179 : decode cX11_lay 179 = .ok (.iadd, 1) := by decide +kernel
theorem dX11_lay_180 : decode cX11_lay 180 = .ok (.istore_n 2, 1) := by decide +kernel
theorem dX11_lay_181 : decode cX11_lay 181 = .ok (.iinc 4 1, 3) := by decide +kernel
theorem dX11_lay_184 : decode cX11_lay 184 = .ok (.goto (-163), 3) := by decide +kernel
theorem dX11_lay_187 : decode cX11_lay 187 = .ok (.iload_n 1, 1) := by decide +kernel
theorem dX11_lay_188 : decode cX11_lay 188 = .ok (.ifCond .ne 7, 3) := by decide +kernel
theorem dX11_lay_191 : decode cX11_lay 191 = .ok (.iload_n 2, 1) := by decide +kernel
theorem dX11_lay_192 : decode cX11_lay 192 = .ok (.goto 4, 3) := by decide +kernel
theorem dX11_lay_195 : decode cX11_lay 195 = .ok (.iload_n 3, 1) := by decide +kernel
theorem dX11_lay_196 : decode cX11_lay 196 = .ok (.ireturn, 1) := by decide +kernel
theorem dX11_factorial_0 : decode cX11_factorial 0 = .ok (.iconst 1, 1) := by decide +kernel
theorem dX11_factorial_1 : decode cX11_factorial 1 = .ok (.istore_n 1, 1) := by decide +kernel
theorem dX11_factorial_2 : decode cX11_factorial 2 = .ok (.iconst 2, 1) := by decide +kernel
theorem dX11_factorial_3 : decode cX11_factorial 3 = .ok (.istore_n 2, 1) := by decide +kernel
theorem dX11_factorial_4 : decode cX11_factorial 4 = .ok (.iload_n 2, 1) := by decide +kernel
theorem dX11_factorial_5 : decode cX11_factorial 5 = .ok (.iload_n 0, 1) := by decide +kernel
theorem dX11_factorial_6 : decode cX11_factorial 6 = .ok (.if_icmp .gt 13, 3) := by decide +kernel
theorem dX11_factorial_9 : decode cX11_factorial 9 = .ok (.iload_n 1, 1) := by decide +kernel
theorem dX11_factorial_10 : decode cX11_factorial 10 = .ok (.iload_n 2, 1) := by decide +kernel
theorem dX11_factorial_11 : decode cX11_factorial 11 = .ok (.imul, 1) := by decide +kernel
theorem dX11_factorial_12 : decode cX11_factorial 12 = .ok (.istore_n 1, 1) := by decide +kernel
theorem dX11_factorial_13 : decode cX11_factorial 13 = .ok (.iinc 2 1, 3) := by decide +kernel
theorem dX11_factorial_16 : decode cX11_factorial 16 = .ok (.goto (-12), 3) := by decide +kernel
theorem dX11_factorial_19 : decode cX11_factorial 19 = .ok (.iload_n 1, 1) := by decide +kernel
theorem dX11_factorial_20 : decode cX11_factorial 20 = .ok (.ireturn, 1) := by decide +kernel
theorem dX11_common_0 : decode cX11_common 0 = .ok (.iload_n 0, 1) := by decide +kernel
theorem dX11_common_1 : decode cX11_common 1 = .ok (.ifCond .ge 8, 3) := by decide +kernel
theorem dX11_common_4 : decode cX11_common 4 = .ok (.iload_n 0, 1) := by decide +kernel
theorem dX11_common_5 : decode cX11_common 5 = .ok (.ineg, 1) := by decide +kernel
theorem dX11_common_6 : decode cX11_common 6 = .ok (.goto 4, 3) := by decide +kernel
theorem dX11_common_9 : decode cX11_common 9 = .ok (.iload_n 0, 1) := by decide +kernel
theorem dX11_common_10 : decode cX11_common 10 = .ok (.istore_n 2, 1) := by decide +kernel
theorem dX11_common_11 : decode cX11_common 11 = .ok (.iload_n 1, 1) := by decide +kernel
theorem dX11_common_12 : decode cX11_common 12 = .ok (.istore_n 3, 1) := by decide +kernel
theorem dX11_common_13 : decode cX11_common 13 = .ok (.iload_n 3, 1) := by decide +kernel
theorem dX11_common_14 : decode cX11_common 14 = .ok (.ifCond .eq 16, 3) := by decide +kernel
theorem dX11_common_17 : decode cX11_common 17 = .ok (.iload_n 2, 1) := by decide +kernel
theorem dX11_common_18 : decode cX11_common 18 = .ok (.iload_n 3, 1) := by decide +kernel
theorem dX11_common_19 : decode cX11_common 19 = .ok (.irem, 1) := by decide +kernel
theorem dX11_common_20 : decode cX11_common 20 = .ok (.istore 4, 2) := by decide +kernel
theorem dX11_common_22 : decode cX11_common 22 = .ok (.iload_n 3, 1) := by decide +kernel
theorem dX11_common_23 : decode cX11_common 23 = .ok (.istore_n 2, 1) := by decide +kernel
theorem dX11_common_24 : decode cX11_common 24 = .ok (.iload 4, 2) := by decide +kernel
theorem dX11_common_26 : decode cX11_common 26 = .ok (.istore_n 3, 1) := by decide +kernel
theorem dX11_common_27 : decode cX11_common 27 = .ok (.goto (-14), 3) := by decide +kernel
theorem dX11_common_30 : decode cX11_common 30 = .ok (.iload_n 2, 1) := by decide +kernel
theorem dX11_common_31 : decode cX11_common 31 = .ok (.ireturn, 1) := by decide +kernel
theorem dX11_knownBy_0 : decode cX11_knownBy 0 = .ok (.iconst 0, 1) := by decide +kernel
theorem dX11_knownBy_1 : decode cX11_knownBy 1 = .ok (.istore_n 2, 1) := by decide +kernel
theorem dX11_knownBy_2 : decode cX11_knownBy 2 = .ok (.iconst 0, 1) := by decide +kernel
theorem dX11_knownBy_3 : decode cX11_knownBy 3 = .ok (.istore_n 3, 1) := by decide +kernel
theorem dX11_knownBy_4 : decode cX11_knownBy 4 = .ok (.iload_n 3, 1) := by decide +kernel
theorem dX11_knownBy_5 : decode cX11_knownBy 5 = .ok (.aload_n 0, 1) := by decide +kernel
theorem dX11_knownBy_6 : decode cX11_knownBy 6 = .ok (.getfield 110, 3) := by decide +kernel
theorem dX11_knownBy_9 : decode cX11_knownBy 9 = .ok (.if_icmp .ge 32, 3) := by decide +kernel
theorem dX11_knownBy_12 : decode cX11_knownBy 12 = .ok (.iload_n 2, 1) := by decide +kernel
theorem dX11_knownBy_13 : decode cX11_knownBy 13 = .ok (.iload_n 1, 1) := by decide +kernel
theorem dX11_knownBy_14 : decode cX11_knownBy 14 = .ok (.iload_n 3, 1) := by decide +kernel
theorem dX11_knownBy_15 : decode cX11_knownBy 15 = .ok (.invokestatic 75, 3) := by decide +kernel
theorem dX11_knownBy_18 : decode cX11_knownBy 18 = .ok (.ifCond .eq 14, 3) := by decide +kernel
theorem dX11_knownBy_21 : decode cX11_knownBy 21 = .ok (.aload_n 0, 1) := by decide +kernel
theorem dX11_knownBy_22 : decode cX11_knownBy 22 = .ok (.getfield 22, 3) := by decide +kernel
theorem dX11_knownBy_25 : decode cX11_knownBy 25 = .ok (.iconst 4, 1) := by decide +kernel
theorem dX11_knownBy_26 : decode cX11_knownBy 26 = .ok (.iload_n 3, 1) := by decide +kernel
theorem dX11_knownBy_27 : decode cX11_knownBy 27 = .ok (.iadd, 1) := by decide +kernel
theorem dX11_knownBy_28 : decode cX11_knownBy 28 = .ok (.iaload, 1) := by decide +kernel
theorem dX11_knownBy_29 : decode cX11_knownBy 29 = .ok (.goto 4, 3) := by decide +kernel
theorem dX11_knownBy_32 : decode cX11_knownBy 32 = .ok (.iconst 0, 1) := by decide +kernel
theorem dX11_knownBy_33 : decode cX11_knownBy 33 = .ok (.ior, 1) := by decide +kernel
theorem dX11_knownBy_34 : decode cX11_knownBy 34 = .ok (.istore_n 2, 1) := by decide +kernel
theorem dX11_knownBy_35 : decode cX11_knownBy 35 = .ok (.iinc 3 1, 3) := by decide +kernel
theorem dX11_knownBy_38 : decode cX11_knownBy 38 = .ok (.goto (-34), 3) := by decide +kernel
theorem dX11_knownBy_41 : decode cX11_knownBy 41 = .ok (.iload_n 2, 1) := by decide +kernel
theorem dX11_knownBy_42 : decode cX11_knownBy 42 = .ok (.ireturn, 1) := by decide +kernel
theorem dX11_share_0 : decode cX11_share 0 = .ok (.aload_n 0, 1) := by decide +kernel
theorem dX11_share_1 : decode cX11_share 1 = .ok (.iload_n 1, 1) := by decide +kernel
theorem dX11_share_2 : decode cX11_share 2 = .ok (.invokevirtual 136, 3) := by decide +kernel
theorem dX11_share_5 : decode cX11_share 5 = .ok (.ifCond .ne 5, 3) := by decide +kernel
theorem dX11_share_8 : decode cX11_share 8 = .ok (.iconst (-1), 1) := by decide +kernel
theorem dX11_share_9 : decode cX11_share 9 = .ok (.ireturn, 1) := by decide +kernel
theorem dX11_share_10 : decode cX11_share 10 = .ok (.iconst 0, 1) := by decide +kernel
theorem dX11_share_11 : decode cX11_share 11 = .ok (.istore_n 3, 1) := by decide +kernel
theorem dX11_share_12 : decode cX11_share 12 = .ok (.iconst 0, 1) := by decide +kernel
theorem dX11_share_13 : decode cX11_share 13 = .ok (.istore 4, 2) := by decide +kernel
theorem dX11_share_15 : decode cX11_share 15 = .ok (.iload 4, 2) := by decide +kernel
theorem dX11_share_17 : decode cX11_share 17 = .ok (.iconst 1, 1) := by decide +kernel
theorem dX11_share_18 : decode cX11_share 18 = .ok (.aload_n 0, 1) := by decide +kernel
theorem dX11_share_19 : decode cX11_share 19 = .ok (.getfield 110, 3) := by decide +kernel
theorem dX11_share_22 : decode cX11_share 22 = .ok (.ishl, 1) := by decide +kernel
theorem dX11_share_23 : decode cX11_share 23 = .ok (.if_icmp .ge 73, 3) := by decide +kernel
theorem dX11_share_26 : decode cX11_share 26 = .ok (.iload 4, 2) := by decide +kernel
theorem dX11_share_28 : decode cX11_share 28 = .ok (.iload_n 1, 1) := by decide +kernel
theorem dX11_share_29 : decode cX11_share 29 = .ok (.invokestatic 75, 3) := by decide +kernel
theorem dX11_share_32 : decode cX11_share 32 = .ok (.ifCond .ne 58, 3) := by decide +kernel
theorem dX11_share_35 : decode cX11_share 35 = .ok (.iload 4, 2) := by decide +kernel
theorem dX11_share_37 : decode cX11_share 37 = .ok (.invokestatic 173, 3) := by decide +kernel
theorem dX11_share_40 : decode cX11_share 40 = .ok (.invokestatic 247, 3) := by decide +kernel
theorem dX11_share_43 : decode cX11_share 43 = .ok (.aload_n 0, 1) := by decide +kernel
theorem dX11_share_44 : decode cX11_share 44 = .ok (.getfield 110, 3) := by decide +kernel
theorem dX11_share_47 : decode cX11_share 47 = .ok (.iconst 1, 1) := by decide +kernel
theorem dX11_share_48 : decode cX11_share 48 = .ok (.isub, 1) := by decide +kernel
theorem dX11_share_49 : decode cX11_share 49 = .ok (.iload 4, 2) := by decide +kernel
theorem dX11_share_51 : decode cX11_share 51 = .ok (.invokestatic 173, 3) := by decide +kernel
theorem dX11_share_54 : decode cX11_share 54 = .ok (.isub, 1) := by decide +kernel
theorem dX11_share_55 : decode cX11_share 55 = .ok (.invokestatic 247, 3) := by decide +kernel
theorem dX11_share_58 : decode cX11_share 58 = .ok (.imul, 1) := by decide +kernel
theorem dX11_share_59 : decode cX11_share 59 = .ok (.istore 5, 2) := by decide +kernel
theorem dX11_share_61 : decode cX11_share 61 = .ok (.iload_n 3, 1) := by decide +kernel
theorem dX11_share_62 : decode cX11_share 62 = .ok (.iload 5, 2) := by decide +kernel
theorem dX11_share_64 : decode cX11_share 64 = .ok (.aload_n 0, 1) := by decide +kernel
theorem dX11_share_65 : decode cX11_share 65 = .ok (.iload 4, 2) := by decide +kernel
theorem dX11_share_67 : decode cX11_share 67 = .ok (.iconst 1, 1) := by decide +kernel
theorem dX11_share_68 : decode cX11_share 68 = .ok (.iload_n 1, 1) := by decide +kernel
theorem dX11_share_69 : decode cX11_share 69 = .ok (.ishl, 1) := by decide +kernel
theorem dX11_share_70 : decode cX11_share 70 = .ok (.ior, 1) := by decide +kernel
theorem dX11_share_71 : decode cX11_share 71 = .ok (.invokevirtual 250, 3) := by decide +kernel
theorem dX11_share_74 : decode cX11_share 74 = .ok (.invokestatic 173, 3) := by decide +kernel
theorem dX11_share_77 : decode cX11_share 77 = .ok (.aload_n 0, 1) := by decide +kernel
theorem dX11_share_78 : decode cX11_share 78 = .ok (.iload 4, 2) := by decide +kernel
theorem dX11_share_80 : decode cX11_share 80 = .ok (.invokevirtual 250, 3) := by decide +kernel
theorem dX11_share_83 : decode cX11_share 83 = .ok (.invokestatic 173, 3) := by decide +kernel
theorem dX11_share_86 : decode cX11_share 86 = .ok (.isub, 1) := by decide +kernel
theorem dX11_share_87 : decode cX11_share 87 = .ok (.imul, 1) := by decide +kernel
theorem dX11_share_88 : decode cX11_share 88 = .ok (.iadd, 1) := by decide +kernel
theorem dX11_share_89 : decode cX11_share 89 = .ok (.istore_n 3, 1) := by decide +kernel
theorem dX11_share_90 : decode cX11_share 90 = .ok (.iinc 4 1, 3) := by decide +kernel
theorem dX11_share_93 : decode cX11_share 93 = .ok (.goto (-78), 3) := by decide +kernel
theorem dX11_share_96 : decode cX11_share 96 = .ok (.iload_n 3, 1) := by decide +kernel
theorem dX11_share_97 : decode cX11_share 97 = .ok (.aload_n 0, 1) := by decide +kernel
theorem dX11_share_98 : decode cX11_share 98 = .ok (.getfield 110, 3) := by decide +kernel
theorem dX11_share_101 : decode cX11_share 101 = .ok (.invokestatic 247, 3) := by decide +kernel
theorem dX11_share_104 : decode cX11_share 104 = .ok (.invokestatic 253, 3) := by decide +kernel
theorem dX11_share_107 : decode cX11_share 107 = .ok (.istore 4, 2) := by decide +kernel
theorem dX11_share_109 : decode cX11_share 109 = .ok (.iload_n 2, 1) := by decide +kernel
theorem dX11_share_110 : decode cX11_share 110 = .ok (.ifCond .eq 10, 3) := by decide +kernel
theorem dX11_share_113 : decode cX11_share 113 = .ok (.iload_n 3, 1) := by decide +kernel
theorem dX11_share_114 : decode cX11_share 114 = .ok (.iload 4, 2) := by decide +kernel
theorem dX11_share_116 : decode cX11_share 116 = .ok (.idiv, 1) := by decide +kernel
theorem dX11_share_117 : decode cX11_share 117 = .ok (.goto 13, 3) := by decide +kernel
theorem dX11_share_120 : decode cX11_share 120 = .ok (.aload_n 0, 1) := by decide +kernel
theorem dX11_share_121 : decode cX11_share 121 = .ok (.getfield 110, 3) := by decide +kernel
theorem dX11_share_124 : decode cX11_share 124 = .ok (.invokestatic 247, 3) := by decide +kernel
theorem dX11_share_127 : decode cX11_share 127 = .ok (.iload 4, 2) := by decide +kernel
theorem dX11_share_129 : decode cX11_share 129 = .ok (.idiv, 1) := by decide +kernel
theorem dX11_share_130 : decode cX11_share 130 = .ok (.ireturn, 1) := by decide +kernel
theorem dX11_goTo_0 : decode cX11_goTo 0 = .ok (.aload_n 0, 1) := by decide +kernel
theorem dX11_goTo_1 : decode cX11_goTo 1 = .ok (.iload_n 2, 1) := by decide +kernel
theorem dX11_goTo_2 : decode cX11_goTo 2 = .ok (.invokevirtual 149, 3) := by decide +kernel
theorem dX11_goTo_5 : decode cX11_goTo 5 = .ok (.ifCond .eq 30, 3) := by decide +kernel
theorem dX11_goTo_8 : decode cX11_goTo 8 = .ok (.aload_n 0, 1) := by decide +kernel
theorem dX11_goTo_9 : decode cX11_goTo 9 = .ok (.iconst 1, 1) := by decide +kernel
theorem dX11_goTo_10 : decode cX11_goTo 10 = .ok (.iload_n 1, 1) := by decide +kernel
theorem dX11_goTo_11 : decode cX11_goTo 11 = .ok (.aload_n 0, 1) := by decide +kernel
theorem dX11_goTo_12 : decode cX11_goTo 12 = .ok (.getfield 7, 3) := by decide +kernel
theorem dX11_goTo_15 : decode cX11_goTo 15 = .ok (.iload_n 2, 1) := by decide +kernel
theorem dX11_goTo_16 : decode cX11_goTo 16 = .ok (.iaload, 1) := by decide +kernel
theorem dX11_goTo_17 : decode cX11_goTo 17 = .ok (.invokevirtual 176, 3) := by decide +kernel
theorem dX11_goTo_20 : decode cX11_goTo 20 = .ok (.ifCond .eq 15, 3) := by decide +kernel
theorem dX11_goTo_23 : decode cX11_goTo 23 = .ok (.aload_n 0, 1) := by decide +kernel
theorem dX11_goTo_24 : decode cX11_goTo 24 = .ok (.iconst 1, 1) := by decide +kernel
theorem dX11_goTo_25 : decode cX11_goTo 25 = .ok (.iload_n 1, 1) := by decide +kernel
theorem dX11_goTo_26 : decode cX11_goTo 26 = .ok (.aload_n 0, 1) := by decide +kernel
theorem dX11_goTo_27 : decode cX11_goTo 27 = .ok (.getfield 7, 3) := by decide +kernel
theorem dX11_goTo_30 : decode cX11_goTo 30 = .ok (.iload_n 2, 1) := by decide +kernel
theorem dX11_goTo_31 : decode cX11_goTo 31 = .ok (.iaload, 1) := by decide +kernel
theorem dX11_goTo_32 : decode cX11_goTo 32 = .ok (.invokevirtual 180, 3) := by decide +kernel
theorem dX11_goTo_35 : decode cX11_goTo 35 = .ok (.return_, 1) := by decide +kernel
theorem dX11_gain_0 : decode cX11_gain 0 = .ok (.aload_n 0, 1) := by decide +kernel
theorem dX11_gain_1 : decode cX11_gain 1 = .ok (.invokevirtual 195, 3) := by decide +kernel
theorem dX11_gain_4 : decode cX11_gain 4 = .ok (.aload_n 0, 1) := by decide +kernel
theorem dX11_gain_5 : decode cX11_gain 5 = .ok (.iload_n 1, 1) := by decide +kernel
theorem dX11_gain_6 : decode cX11_gain 6 = .ok (.iload_n 3, 1) := by decide +kernel
theorem dX11_gain_7 : decode cX11_gain 7 = .ok (.invokevirtual 256, 3) := by decide +kernel
theorem dX11_gain_10 : decode cX11_gain 10 = .ok (.aload_n 0, 1) := by decide +kernel
theorem dX11_gain_11 : decode cX11_gain 11 = .ok (.iload_n 2, 1) := by decide +kernel
theorem dX11_gain_12 : decode cX11_gain 12 = .ok (.iload 4, 2) := by decide +kernel
theorem dX11_gain_14 : decode cX11_gain 14 = .ok (.invokevirtual 256, 3) := by decide +kernel
theorem dX11_gain_17 : decode cX11_gain 17 = .ok (.aload_n 0, 1) := by decide +kernel
theorem dX11_gain_18 : decode cX11_gain 18 = .ok (.iconst 1, 1) := by decide +kernel
theorem dX11_gain_19 : decode cX11_gain 19 = .ok (.invokevirtual 167, 3) := by decide +kernel
theorem dX11_gain_22 : decode cX11_gain 22 = .ok (.iconst 2, 1) := by decide +kernel
theorem dX11_gain_23 : decode cX11_gain 23 = .ok (.aload_n 0, 1) := by decide +kernel
theorem dX11_gain_24 : decode cX11_gain 24 = .ok (.getfield 22, 3) := by decide +kernel
theorem dX11_gain_27 : decode cX11_gain 27 = .ok (.bipush 18, 2) := by decide +kernel
theorem dX11_gain_29 : decode cX11_gain 29 = .ok (.iload 5, 2) := by decide +kernel
theorem dX11_gain_31 : decode cX11_gain 31 = .ok (.iadd, 1) := by decide +kernel
theorem dX11_gain_32 : decode cX11_gain 32 = .ok (.iaload, 1) := by decide +kernel
theorem dX11_gain_33 : decode cX11_gain 33 = .ok (.invokestatic 173, 3) := by decide +kernel
theorem dX11_gain_36 : decode cX11_gain 36 = .ok (.imul, 1) := by decide +kernel
theorem dX11_gain_37 : decode cX11_gain 37 = .ok (.aload_n 0, 1) := by decide +kernel
theorem dX11_gain_38 : decode cX11_gain 38 = .ok (.getfield 22, 3) := by decide +kernel
theorem dX11_gain_41 : decode cX11_gain 41 = .ok (.bipush 14, 2) := by decide +kernel
theorem dX11_gain_43 : decode cX11_gain 43 = .ok (.iload_n 1, 1) := by decide +kernel
theorem dX11_gain_44 : decode cX11_gain 44 = .ok (.iadd, 1) := by decide +kernel
theorem dX11_gain_45 : decode cX11_gain 45 = .ok (.iaload, 1) := by decide +kernel
theorem dX11_gain_46 : decode cX11_gain 46 = .ok (.aload_n 0, 1) := by decide +kernel
theorem dX11_gain_47 : decode cX11_gain 47 = .ok (.getfield 22, 3) := by decide +kernel
theorem dX11_gain_50 : decode cX11_gain 50 = .ok (.bipush 14, 2) := by decide +kernel
theorem dX11_gain_52 : decode cX11_gain 52 = .ok (.iload_n 2, 1) := by decide +kernel
theorem dX11_gain_53 : decode cX11_gain 53 = .ok (.iadd, 1) := by decide +kernel
theorem dX11_gain_54 : decode cX11_gain 54 = .ok (.iaload, 1) := by decide +kernel
theorem dX11_gain_55 : decode cX11_gain 55 = .ok (.if_icmp .ne 7, 3) := by decide +kernel
theorem dX11_gain_58 : decode cX11_gain 58 = .ok (.iconst 3, 1) := by decide +kernel
theorem dX11_gain_59 : decode cX11_gain 59 = .ok (.goto 4, 3) := by decide +kernel
theorem dX11_gain_62 : decode cX11_gain 62 = .ok (.iconst 0, 1) := by decide +kernel
theorem dX11_gain_63 : decode cX11_gain 63 = .ok (.isub, 1) := by decide +kernel
theorem dX11_gain_64 : decode cX11_gain 64 = .ok (.ireturn, 1) := by decide +kernel
theorem dX11_isRest_0 : decode cX11_isRest 0 = .ok (.iconst 1, 1) := by decide +kernel
theorem dX11_isRest_1 : decode cX11_isRest 1 = .ok (.istore 5, 2) := by decide +kernel
theorem dX11_isRest_3 : decode cX11_isRest 3 = .ok (.iconst 0, 1) := by decide +kernel
theorem dX11_isRest_4 : decode cX11_isRest 4 = .ok (.istore 6, 2) := by decide +kernel
theorem dX11_isRest_6 : decode cX11_isRest 6 = .ok (.iload 6, 2) := by decide +kernel
theorem dX11_isRest_8 : decode cX11_isRest 8 = .ok (.iconst 4, 1) := by decide +kernel
theorem dX11_isRest_9 : decode cX11_isRest 9 = .ok (.if_icmp .ge 68, 3) := by decide +kernel
theorem dX11_isRest_12 : decode cX11_isRest 12 = .ok (.iload 5, 2) := by decide +kernel
theorem dX11_isRest_14 : decode cX11_isRest 14 = .ok (.ifCond .eq 54, 3) := by decide +kernel
theorem dX11_isRest_17 : decode cX11_isRest 17 = .ok (.aload_n 0, 1) := by decide +kernel
theorem dX11_isRest_18 : decode cX11_isRest 18 = .ok (.iload_n 1, 1) := by decide +kernel
theorem dX11_isRest_19 : decode cX11_isRest 19 = .ok (.iload_n 2, 1) := by decide +kernel
theorem dX11_isRest_20 : decode cX11_isRest 20 = .ok (.iload 6, 2) := by decide +kernel
theorem dX11_isRest_22 : decode cX11_isRest 22 = .ok (.iload 4, 2) := by decide +kernel
theorem dX11_isRest_24 : decode cX11_isRest 24 = .ok (.iload_n 1, 1) := by decide +kernel
theorem dX11_isRest_25 : decode cX11_isRest 25 = .ok (.invokevirtual 259, 3) := by decide +kernel
theorem dX11_isRest_28 : decode cX11_isRest 28 = .ok (.aload_n 0, 1) := by decide +kernel
theorem dX11_isRest_29 : decode cX11_isRest 29 = .ok (.iload_n 1, 1) := by decide +kernel
theorem dX11_isRest_30 : decode cX11_isRest 30 = .ok (.iload_n 2, 1) := by decide +kernel
theorem dX11_isRest_31 : decode cX11_isRest 31 = .ok (.iload_n 3, 1) := by decide +kernel
theorem dX11_isRest_32 : decode cX11_isRest 32 = .ok (.iload 4, 2) := by decide +kernel
theorem dX11_isRest_34 : decode cX11_isRest 34 = .ok (.iload_n 1, 1) := by decide +kernel
theorem dX11_isRest_35 : decode cX11_isRest 35 = .ok (.invokevirtual 259, 3) := by decide +kernel
theorem dX11_isRest_38 : decode cX11_isRest 38 = .ok (.if_icmp .gt 30, 3) := by decide +kernel
theorem dX11_isRest_41 : decode cX11_isRest 41 = .ok (.aload_n 0, 1) := by decide +kernel
theorem dX11_isRest_42 : decode cX11_isRest 42 = .ok (.iload_n 1, 1) := by decide +kernel
theorem dX11_isRest_43 : decode cX11_isRest 43 = .ok (.iload_n 2, 1) := by decide +kernel
theorem dX11_isRest_44 : decode cX11_isRest 44 = .ok (.iload_n 3, 1) := by decide +kernel
theorem dX11_isRest_45 : decode cX11_isRest 45 = .ok (.iload 6, 2) := by decide +kernel
theorem dX11_isRest_47 : decode cX11_isRest 47 = .ok (.iload_n 2, 1) := by decide +kernel
theorem dX11_isRest_48 : decode cX11_isRest 48 = .ok (.invokevirtual 259, 3) := by decide +kernel
theorem dX11_isRest_51 : decode cX11_isRest 51 = .ok (.aload_n 0, 1) := by decide +kernel
theorem dX11_isRest_52 : decode cX11_isRest 52 = .ok (.iload_n 1, 1) := by decide +kernel
theorem dX11_isRest_53 : decode cX11_isRest 53 = .ok (.iload_n 2, 1) := by decide +kernel
theorem dX11_isRest_54 : decode cX11_isRest 54 = .ok (.iload_n 3, 1) := by decide +kernel
theorem dX11_isRest_55 : decode cX11_isRest 55 = .ok (.iload 4, 2) := by decide +kernel
theorem dX11_isRest_57 : decode cX11_isRest 57 = .ok (.iload_n 2, 1) := by decide +kernel
theorem dX11_isRest_58 : decode cX11_isRest 58 = .ok (.invokevirtual 259, 3) := by decide +kernel
theorem dX11_isRest_61 : decode cX11_isRest 61 = .ok (.if_icmp .gt 7, 3) := by decide +kernel
theorem dX11_isRest_64 : decode cX11_isRest 64 = .ok (.iconst 1, 1) := by decide +kernel
theorem dX11_isRest_65 : decode cX11_isRest 65 = .ok (.goto 4, 3) := by decide +kernel
theorem dX11_isRest_68 : decode cX11_isRest 68 = .ok (.iconst 0, 1) := by decide +kernel
theorem dX11_isRest_69 : decode cX11_isRest 69 = .ok (.istore 5, 2) := by decide +kernel
theorem dX11_isRest_71 : decode cX11_isRest 71 = .ok (.iinc 6 1, 3) := by decide +kernel
theorem dX11_isRest_74 : decode cX11_isRest 74 = .ok (.goto (-68), 3) := by decide +kernel
theorem dX11_isRest_77 : decode cX11_isRest 77 = .ok (.iload 5, 2) := by decide +kernel
theorem dX11_isRest_79 : decode cX11_isRest 79 = .ok (.ireturn, 1) := by decide +kernel
theorem dX11_rests_0 : decode cX11_rests 0 = .ok (.aload_n 0, 1) := by decide +kernel
theorem dX11_rests_1 : decode cX11_rests 1 = .ok (.iload_n 1, 1) := by decide +kernel
theorem dX11_rests_2 : decode cX11_rests 2 = .ok (.invokevirtual 136, 3) := by decide +kernel
theorem dX11_rests_5 : decode cX11_rests 5 = .ok (.ifCond .eq 11, 3) := by decide +kernel
theorem dX11_rests_8 : decode cX11_rests 8 = .ok (.aload_n 0, 1) := by decide +kernel
theorem dX11_rests_9 : decode cX11_rests 9 = .ok (.iload_n 2, 1) := by decide +kernel
theorem dX11_rests_10 : decode cX11_rests 10 = .ok (.invokevirtual 136, 3) := by decide +kernel
theorem dX11_rests_13 : decode cX11_rests 13 = .ok (.ifCond .ne 5, 3) := by decide +kernel
theorem dX11_rests_16 : decode cX11_rests 16 = .ok (.iconst (-1), 1) := by decide +kernel
theorem dX11_rests_17 : decode cX11_rests 17 = .ok (.ireturn, 1) := by decide +kernel
theorem dX11_rests_18 : decode cX11_rests 18 = .ok (.iload_n 1, 1) := by decide +kernel
theorem dX11_rests_19 : decode cX11_rests 19 = .ok (.iload_n 2, 1) := by decide +kernel
theorem dX11_rests_20 : decode cX11_rests 20 = .ok (.if_icmp .eq 13, 3) := by decide +kernel
theorem dX11_rests_23 : decode cX11_rests 23 = .ok (.iload_n 3, 1) := by decide +kernel
theorem dX11_rests_24 : decode cX11_rests 24 = .ok (.i2l, 1) := by decide +kernel
theorem dX11_rests_25 : decode cX11_rests 25 = .ok (.lconst 0, 1) := by decide +kernel
theorem dX11_rests_26 : decode cX11_rests 26 = .ok (.lconst 1, 1) := by decide +kernel
theorem dX11_rests_27 : decode cX11_rests 27 = .ok (.invokestatic 61, 3) := by decide +kernel
theorem dX11_rests_30 : decode cX11_rests 30 = .ok (.ifCond .ne 6, 3) := by decide +kernel
theorem dX11_rests_33 : decode cX11_rests 33 = .ok (.bipush (-2), 2) := by decide +kernel
theorem dX11_rests_35 : decode cX11_rests 35 = .ok (.ireturn, 1) := by decide +kernel
theorem dX11_rests_36 : decode cX11_rests 36 = .ok (.iconst 0, 1) := by decide +kernel
theorem dX11_rests_37 : decode cX11_rests 37 = .ok (.istore 4, 2) := by decide +kernel
theorem dX11_rests_39 : decode cX11_rests 39 = .ok (.bipush (-9), 2) := by decide +kernel
theorem dX11_rests_41 : decode cX11_rests 41 = .ok (.istore 5, 2) := by decide +kernel
theorem dX11_rests_43 : decode cX11_rests 43 = .ok (.iconst 0, 1) := by decide +kernel
theorem dX11_rests_44 : decode cX11_rests 44 = .ok (.istore 6, 2) := by decide +kernel
theorem dX11_rests_46 : decode cX11_rests 46 = .ok (.iload 6, 2) := by decide +kernel
theorem dX11_rests_48 : decode cX11_rests 48 = .ok (.bipush 16, 2) := by decide +kernel
theorem dX11_rests_50 : decode cX11_rests 50 = .ok (.if_icmp .ge 53, 3) := by decide +kernel
theorem dX11_rests_53 : decode cX11_rests 53 = .ok (.aload_n 0, 1) := by decide +kernel
theorem dX11_rests_54 : decode cX11_rests 54 = .ok (.iload_n 1, 1) := by decide +kernel
theorem dX11_rests_55 : decode cX11_rests 55 = .ok (.iload_n 2, 1) := by decide +kernel
theorem dX11_rests_56 : decode cX11_rests 56 = .ok (.iload 6, 2) := by decide +kernel
theorem dX11_rests_58 : decode cX11_rests 58 = .ok (.iconst 4, 1) := by decide +kernel
theorem dX11_rests_59 : decode cX11_rests 59 = .ok (.idiv, 1) := by decide +kernel
theorem dX11_rests_60 : decode cX11_rests 60 = .ok (.iload 6, 2) := by decide +kernel
theorem dX11_rests_62 : decode cX11_rests 62 = .ok (.iconst 4, 1) := by decide +kernel
theorem dX11_rests_63 : decode cX11_rests 63 = .ok (.irem, 1) := by decide +kernel
theorem dX11_rests_64 : decode cX11_rests 64 = .ok (.invokevirtual 263, 3) := by decide +kernel
theorem dX11_rests_67 : decode cX11_rests 67 = .ok (.ifCond .eq 30, 3) := by decide +kernel
theorem dX11_rests_70 : decode cX11_rests 70 = .ok (.iload 4, 2) := by decide +kernel
theorem dX11_rests_72 : decode cX11_rests 72 = .ok (.ifCond .ne 18, 3) := by decide +kernel
theorem dX11_rests_75 : decode cX11_rests 75 = .ok (.bipush 10, 2) := by decide +kernel
theorem dX11_rests_77 : decode cX11_rests 77 = .ok (.iload 6, 2) := by decide +kernel
theorem dX11_rests_79 : decode cX11_rests 79 = .ok (.iconst 4, 1) := by decide +kernel
theorem dX11_rests_80 : decode cX11_rests 80 = .ok (.idiv, 1) := by decide +kernel
theorem dX11_rests_81 : decode cX11_rests 81 = .ok (.imul, 1) := by decide +kernel
theorem dX11_rests_82 : decode cX11_rests 82 = .ok (.iload 6, 2) := by decide +kernel
theorem dX11_rests_84 : decode cX11_rests 84 = .ok (.iconst 4, 1) := by decide +kernel
theorem dX11_rests_85 : decode cX11_rests 85 = .ok (.irem, 1) := by decide +kernel
theorem dX11_rests_86 : decode cX11_rests 86 = .ok (.iadd, 1) := by decide +kernel
theorem dX11_rests_87 : decode cX11_rests 87 = .ok (.goto 5, 3) := by decide +kernel
theorem dX11_rests_90 : decode cX11_rests 90 = .ok (.iload 5, 2) := by decide +kernel
theorem dX11_rests_92 : decode cX11_rests 92 = .ok (.istore 5, 2) := by decide +kernel
theorem dX11_rests_94 : decode cX11_rests 94 = .ok (.iinc 4 1, 3) := by decide +kernel
theorem dX11_rests_97 : decode cX11_rests 97 = .ok (.iinc 6 1, 3) := by decide +kernel
theorem dX11_rests_100 : decode cX11_rests 100 = .ok (.goto (-54), 3) := by decide +kernel
theorem dX11_rests_103 : decode cX11_rests 103 = .ok (.iload_n 3, 1) := by decide +kernel
theorem dX11_rests_104 : decode cX11_rests 104 = .ok (.ifCond .ne 8, 3) := by decide +kernel
theorem dX11_rests_107 : decode cX11_rests 107 = .ok (.iload 4, 2) := by decide +kernel
theorem dX11_rests_109 : decode cX11_rests 109 = .ok (.goto 5, 3) := by decide +kernel
theorem dX11_rests_112 : decode cX11_rests 112 = .ok (.iload 5, 2) := by decide +kernel
theorem dX11_rests_114 : decode cX11_rests 114 = .ok (.ireturn, 1) := by decide +kernel
theorem dX11_cold_0 : decode cX11_cold 0 = .ok (.aload_n 0, 1) := by decide +kernel
theorem dX11_cold_1 : decode cX11_cold 1 = .ok (.iload_n 1, 1) := by decide +kernel
theorem dX11_cold_2 : decode cX11_cold 2 = .ok (.invokevirtual 136, 3) := by decide +kernel
theorem dX11_cold_5 : decode cX11_cold 5 = .ok (.ifCond .ne 5, 3) := by decide +kernel
theorem dX11_cold_8 : decode cX11_cold 8 = .ok (.iconst (-1), 1) := by decide +kernel
theorem dX11_cold_9 : decode cX11_cold 9 = .ok (.ireturn, 1) := by decide +kernel
theorem dX11_cold_10 : decode cX11_cold 10 = .ok (.iload_n 2, 1) := by decide +kernel
theorem dX11_cold_11 : decode cX11_cold 11 = .ok (.i2l, 1) := by decide +kernel
theorem dX11_cold_12 : decode cX11_cold 12 = .ok (.lconst 0, 1) := by decide +kernel
theorem dX11_cold_13 : decode cX11_cold 13 = .ok (.ldc2_w 228, 3) := by decide +kernel
theorem dX11_cold_16 : decode cX11_cold 16 = .ok (.invokestatic 61, 3) := by decide +kernel
theorem dX11_cold_19 : decode cX11_cold 19 = .ok (.ifCond .eq 15, 3) := by decide +kernel
theorem dX11_cold_22 : decode cX11_cold 22 = .ok (.iload_n 3, 1) := by decide +kernel
theorem dX11_cold_23 : decode cX11_cold 23 = .ok (.i2l, 1) := by decide +kernel
theorem dX11_cold_24 : decode cX11_cold 24 = .ok (.lconst 0, 1) := by decide +kernel
theorem dX11_cold_25 : decode cX11_cold 25 = .ok (.ldc2_w 266, 3) := by decide +kernel
theorem dX11_cold_28 : decode cX11_cold 28 = .ok (.invokestatic 61, 3) := by decide +kernel
theorem dX11_cold_31 : decode cX11_cold 31 = .ok (.ifCond .ne 6, 3) := by decide +kernel
theorem dX11_cold_34 : decode cX11_cold 34 = .ok (.bipush (-2), 2) := by decide +kernel
theorem dX11_cold_36 : decode cX11_cold 36 = .ok (.ireturn, 1) := by decide +kernel
theorem dX11_cold_37 : decode cX11_cold 37 = .ok (.iconst 0, 1) := by decide +kernel
theorem dX11_cold_38 : decode cX11_cold 38 = .ok (.istore 5, 2) := by decide +kernel
theorem dX11_cold_40 : decode cX11_cold 40 = .ok (.iconst 0, 1) := by decide +kernel
theorem dX11_cold_41 : decode cX11_cold 41 = .ok (.istore 6, 2) := by decide +kernel
theorem dX11_cold_43 : decode cX11_cold 43 = .ok (.iconst 0, 1) := by decide +kernel
theorem dX11_cold_44 : decode cX11_cold 44 = .ok (.istore 7, 2) := by decide +kernel
theorem dX11_cold_46 : decode cX11_cold 46 = .ok (.iload 7, 2) := by decide +kernel
theorem dX11_cold_48 : decode cX11_cold 48 = .ok (.iconst 1, 1) := by decide +kernel
theorem dX11_cold_49 : decode cX11_cold 49 = .ok (.aload_n 0, 1) := by decide +kernel
theorem dX11_cold_50 : decode cX11_cold 50 = .ok (.getfield 107, 3) := by decide +kernel
theorem dX11_cold_53 : decode cX11_cold 53 = .ok (.ishl, 1) := by decide +kernel
theorem dX11_cold_54 : decode cX11_cold 54 = .ok (.if_icmp .ge 107, 3) := by decide +kernel
theorem dX11_cold_57 : decode cX11_cold 57 = .ok (.iconst 1, 1) := by decide +kernel
theorem dX11_cold_58 : decode cX11_cold 58 = .ok (.istore 8, 2) := by decide +kernel
theorem dX11_cold_60 : decode cX11_cold 60 = .ok (.iconst 0, 1) := by decide +kernel
theorem dX11_cold_61 : decode cX11_cold 61 = .ok (.istore 9, 2) := by decide +kernel
theorem dX11_cold_63 : decode cX11_cold 63 = .ok (.iload 9, 2) := by decide +kernel
theorem dX11_cold_65 : decode cX11_cold 65 = .ok (.aload_n 0, 1) := by decide +kernel
theorem dX11_cold_66 : decode cX11_cold 66 = .ok (.getfield 107, 3) := by decide +kernel
theorem dX11_cold_69 : decode cX11_cold 69 = .ok (.if_icmp .ge 32, 3) := by decide +kernel
theorem dX11_cold_72 : decode cX11_cold 72 = .ok (.iload 8, 2) := by decide +kernel
theorem dX11_cold_74 : decode cX11_cold 74 = .ok (.iload 7, 2) := by decide +kernel
theorem dX11_cold_76 : decode cX11_cold 76 = .ok (.iload 9, 2) := by decide +kernel
theorem dX11_cold_78 : decode cX11_cold 78 = .ok (.invokestatic 75, 3) := by decide +kernel
theorem dX11_cold_81 : decode cX11_cold 81 = .ok (.ifCond .eq 7, 3) := by decide +kernel
theorem dX11_cold_84 : decode cX11_cold 84 = .ok (.iload_n 3, 1) := by decide +kernel
theorem dX11_cold_85 : decode cX11_cold 85 = .ok (.goto 7, 3) := by decide +kernel
theorem dX11_cold_88 : decode cX11_cold 88 = .ok (.bipush 10, 2) := by decide +kernel
theorem dX11_cold_90 : decode cX11_cold 90 = .ok (.iload_n 3, 1) := by decide +kernel
theorem dX11_cold_91 : decode cX11_cold 91 = .ok (.isub, 1) := by decide +kernel
theorem dX11_cold_92 : decode cX11_cold 92 = .ok (.imul, 1) := by decide +kernel
theorem dX11_cold_93 : decode cX11_cold 93 = .ok (.istore 8, 2) := by decide +kernel
theorem dX11_cold_95 : decode cX11_cold 95 = .ok (.iinc 9 1, 3) := by decide +kernel
theorem dX11_cold_98 : decode cX11_cold 98 = .ok (.goto (-35), 3) := by decide +kernel
theorem dX11_cold_101 : decode cX11_cold 101 = .ok (.aload_n 0, 1) := by decide +kernel
theorem dX11_cold_102 : decode cX11_cold 102 = .ok (.invokevirtual 195, 3) := by decide +kernel
theorem dX11_cold_105 : decode cX11_cold 105 = .ok (.aload_n 0, 1) := by decide +kernel
theorem dX11_cold_106 : decode cX11_cold 106 = .ok (.iload 7, 2) := by decide +kernel
theorem dX11_cold_108 : decode cX11_cold 108 = .ok (.putfield 125, 3) := by decide +kernel
theorem dX11_cold_111 : decode cX11_cold 111 = .ok (.aload_n 0, 1) := by decide +kernel
theorem dX11_cold_112 : decode cX11_cold 112 = .ok (.iconst 1, 1) := by decide +kernel
theorem dX11_cold_113 : decode cX11_cold 113 = .ok (.invokevirtual 167, 3) := by decide +kernel
theorem dX11_cold_116 : decode cX11_cold 116 = .ok (.aload_n 0, 1) := by decide +kernel
theorem dX11_cold_117 : decode cX11_cold 117 = .ok (.iconst 0, 1) := by decide +kernel
theorem dX11_cold_118 : decode cX11_cold 118 = .ok (.putfield 125, 3) := by decide +kernel
theorem dX11_cold_121 : decode cX11_cold 121 = .ok (.iload 6, 2) := by decide +kernel
theorem dX11_cold_123 : decode cX11_cold 123 = .ok (.iload 8, 2) := by decide +kernel
theorem dX11_cold_125 : decode cX11_cold 125 = .ok (.iadd, 1) := by decide +kernel
theorem dX11_cold_126 : decode cX11_cold 126 = .ok (.istore 6, 2) := by decide +kernel
theorem dX11_cold_128 : decode cX11_cold 128 = .ok (.iload 5, 2) := by decide +kernel
theorem dX11_cold_130 : decode cX11_cold 130 = .ok (.aload_n 0, 1) := by decide +kernel
theorem dX11_cold_131 : decode cX11_cold 131 = .ok (.getfield 22, 3) := by decide +kernel
theorem dX11_cold_134 : decode cX11_cold 134 = .ok (.bipush 18, 2) := by decide +kernel
theorem dX11_cold_136 : decode cX11_cold 136 = .ok (.iload_n 1, 1) := by decide +kernel
theorem dX11_cold_137 : decode cX11_cold 137 = .ok (.iadd, 1) := by decide +kernel
theorem dX11_cold_138 : decode cX11_cold 138 = .ok (.iaload, 1) := by decide +kernel
theorem dX11_cold_139 : decode cX11_cold 139 = .ok (.invokestatic 173, 3) := by decide +kernel
theorem dX11_cold_142 : decode cX11_cold 142 = .ok (.iload_n 2, 1) := by decide +kernel
theorem dX11_cold_143 : decode cX11_cold 143 = .ok (.if_icmp .lt 8, 3) := by decide +kernel
theorem dX11_cold_146 : decode cX11_cold 146 = .ok (.iload 8, 2) := by decide +kernel
theorem dX11_cold_148 : decode cX11_cold 148 = .ok (.goto 4, 3) := by decide +kernel
theorem dX11_cold_151 : decode cX11_cold 151 = .ok (.iconst 0, 1) := by decide +kernel
theorem dX11_cold_152 : decode cX11_cold 152 = .ok (.iadd, 1) := by decide +kernel
theorem dX11_cold_153 : decode cX11_cold 153 = .ok (.istore 5, 2) := by decide +kernel
theorem dX11_cold_155 : decode cX11_cold 155 = .ok (.iinc 7 1, 3) := by decide +kernel
theorem dX11_cold_158 : decode cX11_cold 158 = .ok (.goto (-112), 3) := by decide +kernel
theorem dX11_cold_161 : decode cX11_cold 161 = .ok (.iload 5, 2) := by decide +kernel
theorem dX11_cold_163 : decode cX11_cold 163 = .ok (.iload 6, 2) := by decide +kernel
theorem dX11_cold_165 : decode cX11_cold 165 = .ok (.invokestatic 253, 3) := by decide +kernel
theorem dX11_cold_168 : decode cX11_cold 168 = .ok (.istore 7, 2) := by decide +kernel
theorem dX11_cold_170 : decode cX11_cold 170 = .ok (.iload 4, 2) := by decide +kernel
theorem dX11_cold_172 : decode cX11_cold 172 = .ok (.ifCond .eq 11, 3) := by decide +kernel
theorem dX11_cold_175 : decode cX11_cold 175 = .ok (.iload 5, 2) := by decide +kernel
theorem dX11_cold_177 : decode cX11_cold 177 = .ok (.iload 7, 2) := by decide +kernel
theorem dX11_cold_179 : decode cX11_cold 179 = .ok (.idiv, 1) := by decide +kernel
theorem dX11_cold_180 : decode cX11_cold 180 = .ok (.goto 8, 3) := by decide +kernel
theorem dX11_cold_183 : decode cX11_cold 183 = .ok (.iload 6, 2) := by decide +kernel
theorem dX11_cold_185 : decode cX11_cold 185 = .ok (.iload 7, 2) := by decide +kernel
theorem dX11_cold_187 : decode cX11_cold 187 = .ok (.idiv, 1) := by decide +kernel
theorem dX11_cold_188 : decode cX11_cold 188 = .ok (.ireturn, 1) := by decide +kernel
theorem dX11_seed_0 : decode cX11_seed 0 = .ok (.aload_n 0, 1) := by decide +kernel
theorem dX11_seed_1 : decode cX11_seed 1 = .ok (.getfield 268, 3) := by decide +kernel
theorem dX11_seed_4 : decode cX11_seed 4 = .ok (.lstore_n 3, 1) := by decide +kernel
theorem dX11_seed_5 : decode cX11_seed 5 = .ok (.aload_n 0, 1) := by decide +kernel
theorem dX11_seed_6 : decode cX11_seed 6 = .ok (.lload_n 1, 1) := by decide +kernel
theorem dX11_seed_7 : decode cX11_seed 7 = .ok (.putfield 268, 3) := by decide +kernel
theorem dX11_seed_10 : decode cX11_seed 10 = .ok (.lload_n 3, 1) := by decide +kernel
theorem dX11_seed_11 : decode cX11_seed 11 = .ok (.lreturn, 1) := by decide +kernel
theorem dX11_knownOfAll_0 : decode cX11_knownOfAll 0 = .ok (.iconst 0, 1) := by decide +kernel
theorem dX11_knownOfAll_1 : decode cX11_knownOfAll 1 = .ok (.istore_n 1, 1) := by decide +kernel
theorem dX11_knownOfAll_2 : decode cX11_knownOfAll 2 = .ok (.iconst 0, 1) := by decide +kernel
theorem dX11_knownOfAll_3 : decode cX11_knownOfAll 3 = .ok (.istore_n 2, 1) := by decide +kernel
theorem dX11_knownOfAll_4 : decode cX11_knownOfAll 4 = .ok (.iload_n 2, 1) := by decide +kernel
theorem dX11_knownOfAll_5 : decode cX11_knownOfAll 5 = .ok (.aload_n 0, 1) := by decide +kernel
theorem dX11_knownOfAll_6 : decode cX11_knownOfAll 6 = .ok (.getfield 110, 3) := by decide +kernel
theorem dX11_knownOfAll_9 : decode cX11_knownOfAll 9 = .ok (.if_icmp .ge 24, 3) := by decide +kernel
theorem dX11_knownOfAll_12 : decode cX11_knownOfAll 12 = .ok (.iload_n 1, 1) := by decide +kernel
theorem dX11_knownOfAll_13 : decode cX11_knownOfAll 13 = .ok (.aload_n 0, 1) := by decide +kernel
theorem dX11_knownOfAll_14 : decode cX11_knownOfAll 14 = .ok (.getfield 22, 3) := by decide +kernel
theorem dX11_knownOfAll_17 : decode cX11_knownOfAll 17 = .ok (.bipush 18, 2) := by decide +kernel
theorem dX11_knownOfAll_19 : decode cX11_knownOfAll 19 = .ok (.iload_n 2, 1) := by decide +kernel
theorem dX11_knownOfAll_20 : decode cX11_knownOfAll 20 = .ok (.iadd, 1) := by decide +kernel
theorem dX11_knownOfAll_21 : decode cX11_knownOfAll 21 = .ok (.iaload, 1) := by decide +kernel
theorem dX11_knownOfAll_22 : decode cX11_knownOfAll 22 = .ok (.invokestatic 173, 3) := by decide +kernel
theorem dX11_knownOfAll_25 : decode cX11_knownOfAll 25 = .ok (.iadd, 1) := by decide +kernel
theorem dX11_knownOfAll_26 : decode cX11_knownOfAll 26 = .ok (.istore_n 1, 1) := by decide +kernel
theorem dX11_knownOfAll_27 : decode cX11_knownOfAll 27 = .ok (.iinc 2 1, 3) := by decide +kernel
theorem dX11_knownOfAll_30 : decode cX11_knownOfAll 30 = .ok (.goto (-26), 3) := by decide +kernel
theorem dX11_knownOfAll_33 : decode cX11_knownOfAll 33 = .ok (.iload_n 1, 1) := by decide +kernel
theorem dX11_knownOfAll_34 : decode cX11_knownOfAll 34 = .ok (.ireturn, 1) := by decide +kernel
theorem dX11_years_0 : decode cX11_years 0 = .ok (.iload_n 1, 1) := by decide +kernel
theorem dX11_years_1 : decode cX11_years 1 = .ok (.i2l, 1) := by decide +kernel
theorem dX11_years_2 : decode cX11_years 2 = .ok (.lconst 1, 1) := by decide +kernel
theorem dX11_years_3 : decode cX11_years 3 = .ok (.ldc2_w 272, 3) := by decide +kernel
theorem dX11_years_6 : decode cX11_years 6 = .ok (.invokestatic 61, 3) := by decide +kernel
theorem dX11_years_9 : decode cX11_years 9 = .ok (.ifCond .ne 6, 3) := by decide +kernel
theorem dX11_years_12 : decode cX11_years 12 = .ok (.bipush (-2), 2) := by decide +kernel
theorem dX11_years_14 : decode cX11_years 14 = .ok (.ireturn, 1) := by decide +kernel
theorem dX11_years_15 : decode cX11_years 15 = .ok (.aload_n 0, 1) := by decide +kernel
theorem dX11_years_16 : decode cX11_years 16 = .ok (.invokevirtual 195, 3) := by decide +kernel
theorem dX11_years_19 : decode cX11_years 19 = .ok (.iconst 0, 1) := by decide +kernel
theorem dX11_years_20 : decode cX11_years 20 = .ok (.istore_n 2, 1) := by decide +kernel
theorem dX11_years_21 : decode cX11_years 21 = .ok (.iconst 0, 1) := by decide +kernel
theorem dX11_years_22 : decode cX11_years 22 = .ok (.istore_n 3, 1) := by decide +kernel
theorem dX11_years_23 : decode cX11_years 23 = .ok (.iload_n 3, 1) := by decide +kernel
theorem dX11_years_24 : decode cX11_years 24 = .ok (.iload_n 1, 1) := by decide +kernel
theorem dX11_years_25 : decode cX11_years 25 = .ok (.if_icmp .ge 127, 3) := by decide +kernel
theorem dX11_years_28 : decode cX11_years 28 = .ok (.aload_n 0, 1) := by decide +kernel
theorem dX11_years_29 : decode cX11_years 29 = .ok (.aload_n 0, 1) := by decide +kernel
theorem dX11_years_30 : decode cX11_years 30 = .ok (.getfield 268, 3) := by decide +kernel
theorem dX11_years_33 : decode cX11_years 33 = .ok (.ldc2_w 274, 3) := by decide +kernel
theorem dX11_years_36 : decode cX11_years 36 = .ok (.lmul, 1) := by decide +kernel
theorem dX11_years_37 : decode cX11_years 37 = .ok (.ldc2_w 276, 3) := by decide +kernel
theorem dX11_years_40 : decode cX11_years 40 = .ok (.ladd, 1) := by decide +kernel
theorem dX11_years_41 : decode cX11_years 41 = .ok (.putfield 268, 3) := by decide +kernel
theorem dX11_years_44 : decode cX11_years 44 = .ok (.aload_n 0, 1) := by decide +kernel
theorem dX11_years_45 : decode cX11_years 45 = .ok (.getfield 268, 3) := by decide +kernel
theorem dX11_years_48 : decode cX11_years 48 = .ok (.bipush 33, 2) := by decide +kernel
theorem dX11_years_50 : decode cX11_years 50 = .ok (.lushr, 1) := by decide +kernel
theorem dX11_years_51 : decode cX11_years 51 = .ok (.ldc2_w 278, 3) := by decide +kernel
theorem dX11_years_54 : decode cX11_years 54 = .ok (.lrem, 1) := by decide +kernel
theorem dX11_years_55 : decode cX11_years 55 = .ok (.l2i, 1) := by decide +kernel
theorem dX11_years_56 : decode cX11_years 56 = .ok (.istore 4, 2) := by decide +kernel
theorem dX11_years_58 : decode cX11_years 58 = .ok (.iload 4, 2) := by decide +kernel
theorem dX11_years_60 : decode cX11_years 60 = .ok (.bipush 47, 2) := by decide +kernel
theorem dX11_years_62 : decode cX11_years 62 = .ok (.if_icmp .le 11, 3) := by decide +kernel
theorem dX11_years_65 : decode cX11_years 65 = .ok (.aload_n 0, 1) := by decide +kernel
theorem dX11_years_66 : decode cX11_years 66 = .ok (.iconst 1, 1) := by decide +kernel
theorem dX11_years_67 : decode cX11_years 67 = .ok (.invokevirtual 167, 3) := by decide +kernel
theorem dX11_years_70 : decode cX11_years 70 = .ok (.goto 69, 3) := by decide +kernel
theorem dX11_years_73 : decode cX11_years 73 = .ok (.iload 4, 2) := by decide +kernel
theorem dX11_years_75 : decode cX11_years 75 = .ok (.bipush 43, 2) := by decide +kernel
theorem dX11_years_77 : decode cX11_years 77 = .ok (.if_icmp .le 24, 3) := by decide +kernel
theorem dX11_years_80 : decode cX11_years 80 = .ok (.aload_n 0, 1) := by decide +kernel
theorem dX11_years_81 : decode cX11_years 81 = .ok (.iconst 2, 1) := by decide +kernel
theorem dX11_years_82 : decode cX11_years 82 = .ok (.iload 4, 2) := by decide +kernel
theorem dX11_years_84 : decode cX11_years 84 = .ok (.bipush 44, 2) := by decide +kernel
theorem dX11_years_86 : decode cX11_years 86 = .ok (.isub, 1) := by decide +kernel
theorem dX11_years_87 : decode cX11_years 87 = .ok (.iload 4, 2) := by decide +kernel
theorem dX11_years_89 : decode cX11_years 89 = .ok (.bipush 43, 2) := by decide +kernel
theorem dX11_years_91 : decode cX11_years 91 = .ok (.isub, 1) := by decide +kernel
theorem dX11_years_92 : decode cX11_years 92 = .ok (.iconst 4, 1) := by decide +kernel
theorem dX11_years_93 : decode cX11_years 93 = .ok (.irem, 1) := by decide +kernel
theorem dX11_years_94 : decode cX11_years 94 = .ok (.invokevirtual 238, 3) := by decide +kernel
theorem dX11_years_97 : decode cX11_years 97 = .ok (.pop, 1) := by decide +kernel
theorem dX11_years_98 : decode cX11_years 98 = .ok (.goto 41, 3) := by decide +kernel
theorem dX11_years_101 : decode cX11_years 101 = .ok (.iload 4, 2) := by decide +kernel
theorem dX11_years_103 : decode cX11_years 103 = .ok (.bipush 39, 2) := by decide +kernel
theorem dX11_years_105 : decode cX11_years 105 = .ok (.if_icmp .le 18, 3) := by decide +kernel
theorem dX11_years_108 : decode cX11_years 108 = .ok (.aload_n 0, 1) := by decide +kernel
theorem dX11_years_109 : decode cX11_years 109 = .ok (.iconst 3, 1) := by decide +kernel
theorem dX11_years_110 : decode cX11_years 110 = .ok (.iconst 0, 1) := by decide +kernel
theorem dX11_years_111 : decode cX11_years 111 = .ok (.iload 4, 2) := by decide +kernel
theorem dX11_years_113 : decode cX11_years 113 = .ok (.bipush 40, 2) := by decide +kernel
theorem dX11_years_115 : decode cX11_years 115 = .ok (.isub, 1) := by decide +kernel
theorem dX11_years_116 : decode cX11_years 116 = .ok (.invokevirtual 238, 3) := by decide +kernel
theorem dX11_years_119 : decode cX11_years 119 = .ok (.pop, 1) := by decide +kernel
theorem dX11_years_120 : decode cX11_years 120 = .ok (.goto 19, 3) := by decide +kernel
theorem dX11_years_123 : decode cX11_years 123 = .ok (.aload_n 0, 1) := by decide +kernel
theorem dX11_years_124 : decode cX11_years 124 = .ok (.iconst 1, 1) := by decide +kernel
theorem dX11_years_125 : decode cX11_years 125 = .ok (.iload 4, 2) := by decide +kernel
theorem dX11_years_127 : decode cX11_years 127 = .ok (.bipush 10, 2) := by decide +kernel
theorem dX11_years_129 : decode cX11_years 129 = .ok (.idiv, 1) := by decide +kernel
theorem dX11_years_130 : decode cX11_years 130 = .ok (.iload 4, 2) := by decide +kernel
theorem dX11_years_132 : decode cX11_years 132 = .ok (.bipush 10, 2) := by decide +kernel
theorem dX11_years_134 : decode cX11_years 134 = .ok (.irem, 1) := by decide +kernel
theorem dX11_years_135 : decode cX11_years 135 = .ok (.invokevirtual 238, 3) := by decide +kernel
theorem dX11_years_138 : decode cX11_years 138 = .ok (.pop, 1) := by decide +kernel
theorem dX11_years_139 : decode cX11_years 139 = .ok (.iload_n 2, 1) := by decide +kernel
theorem dX11_years_140 : decode cX11_years 140 = .ok (.aload_n 0, 1) := by decide +kernel
theorem dX11_years_141 : decode cX11_years 141 = .ok (.invokevirtual 280, 3) := by decide +kernel
theorem dX11_years_144 : decode cX11_years 144 = .ok (.iadd, 1) := by decide +kernel
theorem dX11_years_145 : decode cX11_years 145 = .ok (.istore_n 2, 1) := by decide +kernel
theorem dX11_years_146 : decode cX11_years 146 = .ok (.iinc 3 1, 3) := by decide +kernel
theorem dX11_years_149 : decode cX11_years 149 = .ok (.goto (-126), 3) := by decide +kernel
theorem dX11_years_152 : decode cX11_years 152 = .ok (.iload_n 2, 1) := by decide +kernel
theorem dX11_years_153 : decode cX11_years 153 = .ok (.ireturn, 1) := by decide +kernel
theorem dX11_keep_0 : decode cX11_keep 0 = .ok (.iload_n 1, 1) := by decide +kernel
theorem dX11_keep_1 : decode cX11_keep 1 = .ok (.i2l, 1) := by decide +kernel
theorem dX11_keep_2 : decode cX11_keep 2 = .ok (.lconst 0, 1) := by decide +kernel
theorem dX11_keep_3 : decode cX11_keep 3 = .ok (.lconst 1, 1) := by decide +kernel
theorem dX11_keep_4 : decode cX11_keep 4 = .ok (.invokestatic 61, 3) := by decide +kernel
theorem dX11_keep_7 : decode cX11_keep 7 = .ok (.ifCond .ne 5, 3) := by decide +kernel
theorem dX11_keep_10 : decode cX11_keep 10 = .ok (.iconst (-1), 1) := by decide +kernel
theorem dX11_keep_11 : decode cX11_keep 11 = .ok (.ireturn, 1) := by decide +kernel
theorem dX11_keep_12 : decode cX11_keep 12 = .ok (.aload_n 0, 1) := by decide +kernel
theorem dX11_keep_13 : decode cX11_keep 13 = .ok (.getfield 52, 3) := by decide +kernel
theorem dX11_keep_16 : decode cX11_keep 16 = .ok (.iload_n 1, 1) := by decide +kernel
theorem dX11_keep_17 : decode cX11_keep 17 = .ok (.iconst 1, 1) := by decide +kernel
theorem dX11_keep_18 : decode cX11_keep 18 = .ok (.bastore, 1) := by decide +kernel
theorem dX11_keep_19 : decode cX11_keep 19 = .ok (.iconst 0, 1) := by decide +kernel
theorem dX11_keep_20 : decode cX11_keep 20 = .ok (.istore_n 2, 1) := by decide +kernel
theorem dX11_keep_21 : decode cX11_keep 21 = .ok (.iload_n 2, 1) := by decide +kernel
theorem dX11_keep_22 : decode cX11_keep 22 = .ok (.bipush 14, 2) := by decide +kernel
theorem dX11_keep_24 : decode cX11_keep 24 = .ok (.if_icmp .ge 26, 3) := by decide +kernel
theorem dX11_keep_27 : decode cX11_keep 27 = .ok (.aload_n 0, 1) := by decide +kernel
theorem dX11_keep_28 : decode cX11_keep 28 = .ok (.getfield 56, 3) := by decide +kernel
theorem dX11_keep_31 : decode cX11_keep 31 = .ok (.bipush 14, 2) := by decide +kernel
theorem dX11_keep_33 : decode cX11_keep 33 = .ok (.iload_n 1, 1) := by decide +kernel
theorem dX11_keep_34 : decode cX11_keep 34 = .ok (.imul, 1) := by decide +kernel
theorem dX11_keep_35 : decode cX11_keep 35 = .ok (.iload_n 2, 1) := by decide +kernel
theorem dX11_keep_36 : decode cX11_keep 36 = .ok (.iadd, 1) := by decide +kernel
theorem dX11_keep_37 : decode cX11_keep 37 = .ok (.aload_n 0, 1) := by decide +kernel
theorem dX11_keep_38 : decode cX11_keep 38 = .ok (.getfield 22, 3) := by decide +kernel
theorem dX11_keep_41 : decode cX11_keep 41 = .ok (.iload_n 2, 1) := by decide +kernel
theorem dX11_keep_42 : decode cX11_keep 42 = .ok (.iaload, 1) := by decide +kernel
theorem dX11_keep_43 : decode cX11_keep 43 = .ok (.iastore, 1) := by decide +kernel
theorem dX11_keep_44 : decode cX11_keep 44 = .ok (.iinc 2 1, 3) := by decide +kernel
theorem dX11_keep_47 : decode cX11_keep 47 = .ok (.goto (-26), 3) := by decide +kernel
theorem dX11_keep_50 : decode cX11_keep 50 = .ok (.aload_n 0, 1) := by decide +kernel
theorem dX11_keep_51 : decode cX11_keep 51 = .ok (.getfield 22, 3) := by decide +kernel
theorem dX11_keep_54 : decode cX11_keep 54 = .ok (.bipush 13, 2) := by decide +kernel
theorem dX11_keep_56 : decode cX11_keep 56 = .ok (.iaload, 1) := by decide +kernel
theorem dX11_keep_57 : decode cX11_keep 57 = .ok (.ireturn, 1) := by decide +kernel
theorem dX11_again_0 : decode cX11_again 0 = .ok (.iload_n 1, 1) := by decide +kernel
theorem dX11_again_1 : decode cX11_again 1 = .ok (.i2l, 1) := by decide +kernel
theorem dX11_again_2 : decode cX11_again 2 = .ok (.lconst 0, 1) := by decide +kernel
theorem dX11_again_3 : decode cX11_again 3 = .ok (.lconst 1, 1) := by decide +kernel
theorem dX11_again_4 : decode cX11_again 4 = .ok (.invokestatic 61, 3) := by decide +kernel
theorem dX11_again_7 : decode cX11_again 7 = .ok (.ifCond .ne 5, 3) := by decide +kernel
theorem dX11_again_10 : decode cX11_again 10 = .ok (.iconst (-1), 1) := by decide +kernel
theorem dX11_again_11 : decode cX11_again 11 = .ok (.ireturn, 1) := by decide +kernel
theorem dX11_again_12 : decode cX11_again 12 = .ok (.aload_n 0, 1) := by decide +kernel
theorem dX11_again_13 : decode cX11_again 13 = .ok (.getfield 52, 3) := by decide +kernel
theorem dX11_again_16 : decode cX11_again 16 = .ok (.iload_n 1, 1) := by decide +kernel
theorem dX11_again_17 : decode cX11_again 17 = .ok (.baload, 1) := by decide +kernel
theorem dX11_again_18 : decode cX11_again 18 = .ok (.ifCond .ne 6, 3) := by decide +kernel
theorem dX11_again_21 : decode cX11_again 21 = .ok (.bipush (-3), 2) := by decide +kernel
theorem dX11_again_23 : decode cX11_again 23 = .ok (.ireturn, 1) := by decide +kernel
theorem dX11_again_24 : decode cX11_again 24 = .ok (.iconst 0, 1) := by decide +kernel
theorem dX11_again_25 : decode cX11_again 25 = .ok (.istore_n 2, 1) := by decide +kernel
theorem dX11_again_26 : decode cX11_again 26 = .ok (.iload_n 2, 1) := by decide +kernel
theorem dX11_again_27 : decode cX11_again 27 = .ok (.bipush 14, 2) := by decide +kernel
theorem dX11_again_29 : decode cX11_again 29 = .ok (.if_icmp .ge 26, 3) := by decide +kernel
theorem dX11_again_32 : decode cX11_again 32 = .ok (.aload_n 0, 1) := by decide +kernel
theorem dX11_again_33 : decode cX11_again 33 = .ok (.getfield 22, 3) := by decide +kernel
theorem dX11_again_36 : decode cX11_again 36 = .ok (.iload_n 2, 1) := by decide +kernel
theorem dX11_again_37 : decode cX11_again 37 = .ok (.aload_n 0, 1) := by decide +kernel
theorem dX11_again_38 : decode cX11_again 38 = .ok (.getfield 56, 3) := by decide +kernel
theorem dX11_again_41 : decode cX11_again 41 = .ok (.bipush 14, 2) := by decide +kernel
theorem dX11_again_43 : decode cX11_again 43 = .ok (.iload_n 1, 1) := by decide +kernel
theorem dX11_again_44 : decode cX11_again 44 = .ok (.imul, 1) := by decide +kernel
theorem dX11_again_45 : decode cX11_again 45 = .ok (.iload_n 2, 1) := by decide +kernel
theorem dX11_again_46 : decode cX11_again 46 = .ok (.iadd, 1) := by decide +kernel
theorem dX11_again_47 : decode cX11_again 47 = .ok (.iaload, 1) := by decide +kernel
theorem dX11_again_48 : decode cX11_again 48 = .ok (.iastore, 1) := by decide +kernel
theorem dX11_again_49 : decode cX11_again 49 = .ok (.iinc 2 1, 3) := by decide +kernel
theorem dX11_again_52 : decode cX11_again 52 = .ok (.goto (-26), 3) := by decide +kernel
theorem dX11_again_55 : decode cX11_again 55 = .ok (.aload_n 0, 1) := by decide +kernel
theorem dX11_again_56 : decode cX11_again 56 = .ok (.iconst 0, 1) := by decide +kernel
theorem dX11_again_57 : decode cX11_again 57 = .ok (.putfield 113, 3) := by decide +kernel
theorem dX11_again_60 : decode cX11_again 60 = .ok (.aload_n 0, 1) := by decide +kernel
theorem dX11_again_61 : decode cX11_again 61 = .ok (.getfield 22, 3) := by decide +kernel
theorem dX11_again_64 : decode cX11_again 64 = .ok (.bipush 13, 2) := by decide +kernel
theorem dX11_again_66 : decode cX11_again 66 = .ok (.iaload, 1) := by decide +kernel
theorem dX11_again_67 : decode cX11_again 67 = .ok (.ireturn, 1) := by decide +kernel
theorem dX11_count_0 : decode cX11_count 0 = .ok (.iload_n 1, 1) := by decide +kernel
theorem dX11_count_1 : decode cX11_count 1 = .ok (.tableswitch 114 0 9 #[55, 60, 65, 70, 78, 84, 92, 99, 104, 109], 55) := by decide +kernel
theorem dX11_count_56 : decode cX11_count 56 = .ok (.aload_n 0, 1) := by decide +kernel
theorem dX11_count_57 : decode cX11_count 57 = .ok (.getfield 65, 3) := by decide +kernel
theorem dX11_count_60 : decode cX11_count 60 = .ok (.ireturn, 1) := by decide +kernel
theorem dX11_count_61 : decode cX11_count 61 = .ok (.aload_n 0, 1) := by decide +kernel
theorem dX11_count_62 : decode cX11_count 62 = .ok (.getfield 107, 3) := by decide +kernel
theorem dX11_count_65 : decode cX11_count 65 = .ok (.ireturn, 1) := by decide +kernel
theorem dX11_count_66 : decode cX11_count 66 = .ok (.aload_n 0, 1) := by decide +kernel
theorem dX11_count_67 : decode cX11_count 67 = .ok (.getfield 110, 3) := by decide +kernel
theorem dX11_count_70 : decode cX11_count 70 = .ok (.ireturn, 1) := by decide +kernel
theorem dX11_count_71 : decode cX11_count 71 = .ok (.aload_n 0, 1) := by decide +kernel
theorem dX11_count_72 : decode cX11_count 72 = .ok (.getfield 22, 3) := by decide +kernel
theorem dX11_count_75 : decode cX11_count 75 = .ok (.bipush 13, 2) := by decide +kernel
theorem dX11_count_77 : decode cX11_count 77 = .ok (.iaload, 1) := by decide +kernel
theorem dX11_count_78 : decode cX11_count 78 = .ok (.ireturn, 1) := by decide +kernel
theorem dX11_count_79 : decode cX11_count 79 = .ok (.aload_n 0, 1) := by decide +kernel
theorem dX11_count_80 : decode cX11_count 80 = .ok (.iconst 0, 1) := by decide +kernel
theorem dX11_count_81 : decode cX11_count 81 = .ok (.invokevirtual 170, 3) := by decide +kernel
theorem dX11_count_84 : decode cX11_count 84 = .ok (.ireturn, 1) := by decide +kernel
theorem dX11_count_85 : decode cX11_count 85 = .ok (.aload_n 0, 1) := by decide +kernel
theorem dX11_count_86 : decode cX11_count 86 = .ok (.getfield 22, 3) := by decide +kernel
theorem dX11_count_89 : decode cX11_count 89 = .ok (.bipush 12, 2) := by decide +kernel
theorem dX11_count_91 : decode cX11_count 91 = .ok (.iaload, 1) := by decide +kernel
theorem dX11_count_92 : decode cX11_count 92 = .ok (.ireturn, 1) := by decide +kernel
theorem dX11_count_93 : decode cX11_count 93 = .ok (.aload_n 0, 1) := by decide +kernel
theorem dX11_count_94 : decode cX11_count 94 = .ok (.bipush 15, 2) := by decide +kernel
theorem dX11_count_96 : decode cX11_count 96 = .ok (.invokevirtual 250, 3) := by decide +kernel
theorem dX11_count_99 : decode cX11_count 99 = .ok (.ireturn, 1) := by decide +kernel
theorem dX11_count_100 : decode cX11_count 100 = .ok (.aload_n 0, 1) := by decide +kernel
theorem dX11_count_101 : decode cX11_count 101 = .ok (.invokevirtual 207, 3) := by decide +kernel
theorem dX11_count_104 : decode cX11_count 104 = .ok (.ireturn, 1) := by decide +kernel
theorem dX11_count_105 : decode cX11_count 105 = .ok (.aload_n 0, 1) := by decide +kernel
theorem dX11_count_106 : decode cX11_count 106 = .ok (.getfield 113, 3) := by decide +kernel
theorem dX11_count_109 : decode cX11_count 109 = .ok (.ireturn, 1) := by decide +kernel
theorem dX11_count_110 : decode cX11_count 110 = .ok (.aload_n 0, 1) := by decide +kernel
theorem dX11_count_111 : decode cX11_count 111 = .ok (.getfield 241, 3) := by decide +kernel
theorem dX11_count_114 : decode cX11_count 114 = .ok (.ireturn, 1) := by decide +kernel
theorem dX11_count_115 : decode cX11_count 115 = .ok (.bipush (-2), 2) := by decide +kernel
theorem dX11_count_117 : decode cX11_count 117 = .ok (.ireturn, 1) := by decide +kernel
end
section
theorem dL_law_0 : decode cL_law 0 = .ok (.new 7, 3) := by decide +kernel
theorem dL_law_3 : decode cL_law 3 = .ok (.dup, 1) := by decide +kernel
theorem dL_law_4 : decode cL_law 4 = .ok (.invokespecial 9, 3) := by decide +kernel
theorem dL_law_7 : decode cL_law 7 = .ok (.astore_n 1, 1) := by decide +kernel
theorem dL_law_8 : decode cL_law 8 = .ok (.new 10, 3) := by decide +kernel
theorem dL_law_11 : decode cL_law 11 = .ok (.dup, 1) := by decide +kernel
theorem dL_law_12 : decode cL_law 12 = .ok (.invokespecial 12, 3) := by decide +kernel
theorem dL_law_15 : decode cL_law 15 = .ok (.astore_n 2, 1) := by decide +kernel
theorem dL_law_16 : decode cL_law 16 = .ok (.iconst 0, 1) := by decide +kernel
theorem dL_law_17 : decode cL_law 17 = .ok (.istore_n 3, 1) := by decide +kernel
theorem dL_law_18 : decode cL_law 18 = .ok (.iload_n 3, 1) := by decide +kernel
theorem dL_law_19 : decode cL_law 19 = .ok (.aload_n 0, 1) := by decide +kernel
theorem dL_law_20 : decode cL_law 20 = .ok (.arraylength, 1) := by decide +kernel
theorem dL_law_21 : decode cL_law 21 = .ok (.iconst 5, 1) := by decide +kernel
theorem dL_law_22 : decode cL_law 22 = .ok (.isub, 1) := by decide +kernel
theorem dL_law_23 : decode cL_law 23 = .ok (.if_icmp .gt 980, 3) := by decide +kernel
theorem dL_law_26 : decode cL_law 26 = .ok (.aload_n 0, 1) := by decide +kernel
theorem dL_law_27 : decode cL_law 27 = .ok (.iload_n 3, 1) := by decide +kernel
theorem dL_law_28 : decode cL_law 28 = .ok (.iaload, 1) := by decide +kernel
theorem dL_law_29 : decode cL_law 29 = .ok (.bipush 31, 2) := by decide +kernel
theorem dL_law_31 : decode cL_law 31 = .ok (.iand, 1) := by decide +kernel
theorem dL_law_32 : decode cL_law 32 = .ok (.tableswitch 965 0 27 #[128, 151, 164, 177, 190, 223, 256, 279, 292, 325, 358, 381, 394, 437, 460, 503, 526, 589, 622, 635, 658, 707, 750, 819, 873, 896, 919, 942], 128) := by decide +kernel
theorem dL_law_160 : decode cL_law 160 = .ok (.aload_n 1, 1) := by decide +kernel
theorem dL_law_161 : decode cL_law 161 = .ok (.aload_n 0, 1) := by decide +kernel
theorem dL_law_162 : decode cL_law 162 = .ok (.iload_n 3, 1) := by decide +kernel
theorem dL_law_163 : decode cL_law 163 = .ok (.iconst 1, 1) := by decide +kernel
theorem dL_law_164 : decode cL_law 164 = .ok (.iadd, 1) := by decide +kernel
theorem dL_law_165 : decode cL_law 165 = .ok (.iaload, 1) := by decide +kernel
theorem dL_law_166 : decode cL_law 166 = .ok (.invokevirtual 13, 3) := by decide +kernel
theorem dL_law_169 : decode cL_law 169 = .ok (.aload_n 2, 1) := by decide +kernel
theorem dL_law_170 : decode cL_law 170 = .ok (.aload_n 0, 1) := by decide +kernel
theorem dL_law_171 : decode cL_law 171 = .ok (.iload_n 3, 1) := by decide +kernel
theorem dL_law_172 : decode cL_law 172 = .ok (.iconst 1, 1) := by decide +kernel
theorem dL_law_173 : decode cL_law 173 = .ok (.iadd, 1) := by decide +kernel
theorem dL_law_174 : decode cL_law 174 = .ok (.iaload, 1) := by decide +kernel
theorem dL_law_175 : decode cL_law 175 = .ok (.invokevirtual 17, 3) := by decide +kernel
theorem dL_law_178 : decode cL_law 178 = .ok (.if_icmp .eq 819, 3) := by decide +kernel
theorem dL_law_181 : decode cL_law 181 = .ok (.iconst 0, 1) := by decide +kernel
theorem dL_law_182 : decode cL_law 182 = .ok (.ireturn, 1) := by decide +kernel
theorem dL_law_183 : decode cL_law 183 = .ok (.aload_n 1, 1) := by decide +kernel
theorem dL_law_184 : decode cL_law 184 = .ok (.invokevirtual 18, 3) := by decide +kernel
theorem dL_law_187 : decode cL_law 187 = .ok (.aload_n 2, 1) := by decide +kernel
theorem dL_law_188 : decode cL_law 188 = .ok (.invokevirtual 22, 3) := by decide +kernel
theorem dL_law_191 : decode cL_law 191 = .ok (.if_icmp .eq 806, 3) := by decide +kernel
theorem dL_law_194 : decode cL_law 194 = .ok (.iconst 0, 1) := by decide +kernel
theorem dL_law_195 : decode cL_law 195 = .ok (.ireturn, 1) := by decide +kernel
theorem dL_law_196 : decode cL_law 196 = .ok (.aload_n 1, 1) := by decide +kernel
theorem dL_law_197 : decode cL_law 197 = .ok (.invokevirtual 23, 3) := by decide +kernel
theorem dL_law_200 : decode cL_law 200 = .ok (.aload_n 2, 1) := by decide +kernel
theorem dL_law_201 : decode cL_law 201 = .ok (.invokevirtual 26, 3) := by decide +kernel
theorem dL_law_204 : decode cL_law 204 = .ok (.if_icmp .eq 793, 3) := by decide +kernel
theorem dL_law_207 : decode cL_law 207 = .ok (.iconst 0, 1) := by decide +kernel
theorem dL_law_208 : decode cL_law 208 = .ok (.ireturn, 1) := by decide +kernel
theorem dL_law_209 : decode cL_law 209 = .ok (.aload_n 1, 1) := by decide +kernel
theorem dL_law_210 : decode cL_law 210 = .ok (.invokevirtual 27, 3) := by decide +kernel
theorem dL_law_213 : decode cL_law 213 = .ok (.aload_n 2, 1) := by decide +kernel
theorem dL_law_214 : decode cL_law 214 = .ok (.invokevirtual 30, 3) := by decide +kernel
theorem dL_law_217 : decode cL_law 217 = .ok (.if_icmp .eq 780, 3) := by decide +kernel
theorem dL_law_220 : decode cL_law 220 = .ok (.iconst 0, 1) := by decide +kernel
theorem dL_law_221 : decode cL_law 221 = .ok (.ireturn, 1) := by decide +kernel
theorem dL_law_222 : decode cL_law 222 = .ok (.aload_n 1, 1) := by decide +kernel
theorem dL_law_223 : decode cL_law 223 = .ok (.aload_n 0, 1) := by decide +kernel
theorem dL_law_224 : decode cL_law 224 = .ok (.iload_n 3, 1) := by decide +kernel
theorem dL_law_225 : decode cL_law 225 = .ok (.iconst 1, 1) := by decide +kernel
theorem dL_law_226 : decode cL_law 226 = .ok (.iadd, 1) := by decide +kernel
theorem dL_law_227 : decode cL_law 227 = .ok (.iaload, 1) := by decide +kernel
theorem dL_law_228 : decode cL_law 228 = .ok (.aload_n 0, 1) := by decide +kernel
theorem dL_law_229 : decode cL_law 229 = .ok (.iload_n 3, 1) := by decide +kernel
theorem dL_law_230 : decode cL_law 230 = .ok (.iconst 2, 1) := by decide +kernel
theorem dL_law_231 : decode cL_law 231 = .ok (.iadd, 1) := by decide +kernel
theorem dL_law_232 : decode cL_law 232 = .ok (.iaload, 1) := by decide +kernel
theorem dL_law_233 : decode cL_law 233 = .ok (.invokevirtual 31, 3) := by decide +kernel
theorem dL_law_236 : decode cL_law 236 = .ok (.aload_n 2, 1) := by decide +kernel
theorem dL_law_237 : decode cL_law 237 = .ok (.aload_n 0, 1) := by decide +kernel
theorem dL_law_238 : decode cL_law 238 = .ok (.iload_n 3, 1) := by decide +kernel
theorem dL_law_239 : decode cL_law 239 = .ok (.iconst 1, 1) := by decide +kernel
theorem dL_law_240 : decode cL_law 240 = .ok (.iadd, 1) := by decide +kernel
theorem dL_law_241 : decode cL_law 241 = .ok (.iaload, 1) := by decide +kernel
theorem dL_law_242 : decode cL_law 242 = .ok (.aload_n 0, 1) := by decide +kernel
theorem dL_law_243 : decode cL_law 243 = .ok (.iload_n 3, 1) := by decide +kernel
theorem dL_law_244 : decode cL_law 244 = .ok (.iconst 2, 1) := by decide +kernel
theorem dL_law_245 : decode cL_law 245 = .ok (.iadd, 1) := by decide +kernel
theorem dL_law_246 : decode cL_law 246 = .ok (.iaload, 1) := by decide +kernel
theorem dL_law_247 : decode cL_law 247 = .ok (.invokevirtual 35, 3) := by decide +kernel
theorem dL_law_250 : decode cL_law 250 = .ok (.if_icmp .eq 747, 3) := by decide +kernel
theorem dL_law_253 : decode cL_law 253 = .ok (.iconst 0, 1) := by decide +kernel
theorem dL_law_254 : decode cL_law 254 = .ok (.ireturn, 1) := by decide +kernel
theorem dL_law_255 : decode cL_law 255 = .ok (.aload_n 1, 1) := by decide +kernel
theorem dL_law_256 : decode cL_law 256 = .ok (.aload_n 0, 1) := by decide +kernel
theorem dL_law_257 : decode cL_law 257 = .ok (.iload_n 3, 1) := by decide +kernel
theorem dL_law_258 : decode cL_law 258 = .ok (.iconst 1, 1) := by decide +kernel
theorem dL_law_259 : decode cL_law 259 = .ok (.iadd, 1) := by decide +kernel
theorem dL_law_260 : decode cL_law 260 = .ok (.iaload, 1) := by decide +kernel
theorem dL_law_261 : decode cL_law 261 = .ok (.aload_n 0, 1) := by decide +kernel
theorem dL_law_262 : decode cL_law 262 = .ok (.iload_n 3, 1) := by decide +kernel
theorem dL_law_263 : decode cL_law 263 = .ok (.iconst 2, 1) := by decide +kernel
theorem dL_law_264 : decode cL_law 264 = .ok (.iadd, 1) := by decide +kernel
theorem dL_law_265 : decode cL_law 265 = .ok (.iaload, 1) := by decide +kernel
theorem dL_law_266 : decode cL_law 266 = .ok (.invokevirtual 36, 3) := by decide +kernel
theorem dL_law_269 : decode cL_law 269 = .ok (.aload_n 2, 1) := by decide +kernel
theorem dL_law_270 : decode cL_law 270 = .ok (.aload_n 0, 1) := by decide +kernel
theorem dL_law_271 : decode cL_law 271 = .ok (.iload_n 3, 1) := by decide +kernel
theorem dL_law_272 : decode cL_law 272 = .ok (.iconst 1, 1) := by decide +kernel
theorem dL_law_273 : decode cL_law 273 = .ok (.iadd, 1) := by decide +kernel
theorem dL_law_274 : decode cL_law 274 = .ok (.iaload, 1) := by decide +kernel
theorem dL_law_275 : decode cL_law 275 = .ok (.aload_n 0, 1) := by decide +kernel
theorem dL_law_276 : decode cL_law 276 = .ok (.iload_n 3, 1) := by decide +kernel
theorem dL_law_277 : decode cL_law 277 = .ok (.iconst 2, 1) := by decide +kernel
theorem dL_law_278 : decode cL_law 278 = .ok (.iadd, 1) := by decide +kernel
theorem dL_law_279 : decode cL_law 279 = .ok (.iaload, 1) := by decide +kernel
theorem dL_law_280 : decode cL_law 280 = .ok (.invokevirtual 39, 3) := by decide +kernel
theorem dL_law_283 : decode cL_law 283 = .ok (.if_icmp .eq 714, 3) := by decide +kernel
theorem dL_law_286 : decode cL_law 286 = .ok (.iconst 0, 1) := by decide +kernel
theorem dL_law_287 : decode cL_law 287 = .ok (.ireturn, 1) := by decide +kernel
theorem dL_law_288 : decode cL_law 288 = .ok (.aload_n 1, 1) := by decide +kernel
theorem dL_law_289 : decode cL_law 289 = .ok (.aload_n 0, 1) := by decide +kernel
theorem dL_law_290 : decode cL_law 290 = .ok (.iload_n 3, 1) := by decide +kernel
theorem dL_law_291 : decode cL_law 291 = .ok (.iconst 1, 1) := by decide +kernel
theorem dL_law_292 : decode cL_law 292 = .ok (.iadd, 1) := by decide +kernel
theorem dL_law_293 : decode cL_law 293 = .ok (.iaload, 1) := by decide +kernel
theorem dL_law_294 : decode cL_law 294 = .ok (.invokevirtual 40, 3) := by decide +kernel
theorem dL_law_297 : decode cL_law 297 = .ok (.aload_n 2, 1) := by decide +kernel
theorem dL_law_298 : decode cL_law 298 = .ok (.aload_n 0, 1) := by decide +kernel
theorem dL_law_299 : decode cL_law 299 = .ok (.iload_n 3, 1) := by decide +kernel
theorem dL_law_300 : decode cL_law 300 = .ok (.iconst 1, 1) := by decide +kernel
theorem dL_law_301 : decode cL_law 301 = .ok (.iadd, 1) := by decide +kernel
theorem dL_law_302 : decode cL_law 302 = .ok (.iaload, 1) := by decide +kernel
theorem dL_law_303 : decode cL_law 303 = .ok (.invokevirtual 43, 3) := by decide +kernel
theorem dL_law_306 : decode cL_law 306 = .ok (.if_icmp .eq 691, 3) := by decide +kernel
theorem dL_law_309 : decode cL_law 309 = .ok (.iconst 0, 1) := by decide +kernel
theorem dL_law_310 : decode cL_law 310 = .ok (.ireturn, 1) := by decide +kernel
theorem dL_law_311 : decode cL_law 311 = .ok (.aload_n 1, 1) := by decide +kernel
theorem dL_law_312 : decode cL_law 312 = .ok (.invokevirtual 44, 3) := by decide +kernel
theorem dL_law_315 : decode cL_law 315 = .ok (.aload_n 2, 1) := by decide +kernel
theorem dL_law_316 : decode cL_law 316 = .ok (.invokevirtual 47, 3) := by decide +kernel
theorem dL_law_319 : decode cL_law 319 = .ok (.if_icmp .eq 678, 3) := by decide +kernel
theorem dL_law_322 : decode cL_law 322 = .ok (.iconst 0, 1) := by decide +kernel
theorem dL_law_323 : decode cL_law 323 = .ok (.ireturn, 1) := by decide +kernel
theorem dL_law_324 : decode cL_law 324 = .ok (.aload_n 1, 1) := by decide +kernel
theorem dL_law_325 : decode cL_law 325 = .ok (.aload_n 0, 1) := by decide +kernel
theorem dL_law_326 : decode cL_law 326 = .ok (.iload_n 3, 1) := by decide +kernel
theorem dL_law_327 : decode cL_law 327 = .ok (.iconst 1, 1) := by decide +kernel
theorem dL_law_328 : decode cL_law 328 = .ok (.iadd, 1) := by decide +kernel
theorem dL_law_329 : decode cL_law 329 = .ok (.iaload, 1) := by decide +kernel
theorem dL_law_330 : decode cL_law 330 = .ok (.aload_n 0, 1) := by decide +kernel
theorem dL_law_331 : decode cL_law 331 = .ok (.iload_n 3, 1) := by decide +kernel
theorem dL_law_332 : decode cL_law 332 = .ok (.iconst 2, 1) := by decide +kernel
theorem dL_law_333 : decode cL_law 333 = .ok (.iadd, 1) := by decide +kernel
theorem dL_law_334 : decode cL_law 334 = .ok (.iaload, 1) := by decide +kernel
theorem dL_law_335 : decode cL_law 335 = .ok (.invokevirtual 48, 3) := by decide +kernel
theorem dL_law_338 : decode cL_law 338 = .ok (.aload_n 2, 1) := by decide +kernel
theorem dL_law_339 : decode cL_law 339 = .ok (.aload_n 0, 1) := by decide +kernel
theorem dL_law_340 : decode cL_law 340 = .ok (.iload_n 3, 1) := by decide +kernel
theorem dL_law_341 : decode cL_law 341 = .ok (.iconst 1, 1) := by decide +kernel
theorem dL_law_342 : decode cL_law 342 = .ok (.iadd, 1) := by decide +kernel
theorem dL_law_343 : decode cL_law 343 = .ok (.iaload, 1) := by decide +kernel
theorem dL_law_344 : decode cL_law 344 = .ok (.aload_n 0, 1) := by decide +kernel
theorem dL_law_345 : decode cL_law 345 = .ok (.iload_n 3, 1) := by decide +kernel
theorem dL_law_346 : decode cL_law 346 = .ok (.iconst 2, 1) := by decide +kernel
theorem dL_law_347 : decode cL_law 347 = .ok (.iadd, 1) := by decide +kernel
theorem dL_law_348 : decode cL_law 348 = .ok (.iaload, 1) := by decide +kernel
theorem dL_law_349 : decode cL_law 349 = .ok (.invokevirtual 51, 3) := by decide +kernel
theorem dL_law_352 : decode cL_law 352 = .ok (.if_icmp .eq 645, 3) := by decide +kernel
theorem dL_law_355 : decode cL_law 355 = .ok (.iconst 0, 1) := by decide +kernel
theorem dL_law_356 : decode cL_law 356 = .ok (.ireturn, 1) := by decide +kernel
theorem dL_law_357 : decode cL_law 357 = .ok (.aload_n 1, 1) := by decide +kernel
theorem dL_law_358 : decode cL_law 358 = .ok (.aload_n 0, 1) := by decide +kernel
theorem dL_law_359 : decode cL_law 359 = .ok (.iload_n 3, 1) := by decide +kernel
theorem dL_law_360 : decode cL_law 360 = .ok (.iconst 1, 1) := by decide +kernel
theorem dL_law_361 : decode cL_law 361 = .ok (.iadd, 1) := by decide +kernel
theorem dL_law_362 : decode cL_law 362 = .ok (.iaload, 1) := by decide +kernel
theorem dL_law_363 : decode cL_law 363 = .ok (.aload_n 0, 1) := by decide +kernel
theorem dL_law_364 : decode cL_law 364 = .ok (.iload_n 3, 1) := by decide +kernel
theorem dL_law_365 : decode cL_law 365 = .ok (.iconst 2, 1) := by decide +kernel
theorem dL_law_366 : decode cL_law 366 = .ok (.iadd, 1) := by decide +kernel
theorem dL_law_367 : decode cL_law 367 = .ok (.iaload, 1) := by decide +kernel
theorem dL_law_368 : decode cL_law 368 = .ok (.invokevirtual 52, 3) := by decide +kernel
theorem dL_law_371 : decode cL_law 371 = .ok (.aload_n 2, 1) := by decide +kernel
theorem dL_law_372 : decode cL_law 372 = .ok (.aload_n 0, 1) := by decide +kernel
theorem dL_law_373 : decode cL_law 373 = .ok (.iload_n 3, 1) := by decide +kernel
theorem dL_law_374 : decode cL_law 374 = .ok (.iconst 1, 1) := by decide +kernel
theorem dL_law_375 : decode cL_law 375 = .ok (.iadd, 1) := by decide +kernel
theorem dL_law_376 : decode cL_law 376 = .ok (.iaload, 1) := by decide +kernel
theorem dL_law_377 : decode cL_law 377 = .ok (.aload_n 0, 1) := by decide +kernel
theorem dL_law_378 : decode cL_law 378 = .ok (.iload_n 3, 1) := by decide +kernel
theorem dL_law_379 : decode cL_law 379 = .ok (.iconst 2, 1) := by decide +kernel
theorem dL_law_380 : decode cL_law 380 = .ok (.iadd, 1) := by decide +kernel
theorem dL_law_381 : decode cL_law 381 = .ok (.iaload, 1) := by decide +kernel
theorem dL_law_382 : decode cL_law 382 = .ok (.invokevirtual 55, 3) := by decide +kernel
theorem dL_law_385 : decode cL_law 385 = .ok (.if_icmp .eq 612, 3) := by decide +kernel
theorem dL_law_388 : decode cL_law 388 = .ok (.iconst 0, 1) := by decide +kernel
theorem dL_law_389 : decode cL_law 389 = .ok (.ireturn, 1) := by decide +kernel
theorem dL_law_390 : decode cL_law 390 = .ok (.aload_n 1, 1) := by decide +kernel
theorem dL_law_391 : decode cL_law 391 = .ok (.aload_n 0, 1) := by decide +kernel
theorem dL_law_392 : decode cL_law 392 = .ok (.iload_n 3, 1) := by decide +kernel
theorem dL_law_393 : decode cL_law 393 = .ok (.iconst 1, 1) := by decide +kernel
theorem dL_law_394 : decode cL_law 394 = .ok (.iadd, 1) := by decide +kernel
theorem dL_law_395 : decode cL_law 395 = .ok (.iaload, 1) := by decide +kernel
theorem dL_law_396 : decode cL_law 396 = .ok (.invokevirtual 56, 3) := by decide +kernel
theorem dL_law_399 : decode cL_law 399 = .ok (.aload_n 2, 1) := by decide +kernel
theorem dL_law_400 : decode cL_law 400 = .ok (.aload_n 0, 1) := by decide +kernel
theorem dL_law_401 : decode cL_law 401 = .ok (.iload_n 3, 1) := by decide +kernel
theorem dL_law_402 : decode cL_law 402 = .ok (.iconst 1, 1) := by decide +kernel
theorem dL_law_403 : decode cL_law 403 = .ok (.iadd, 1) := by decide +kernel
theorem dL_law_404 : decode cL_law 404 = .ok (.iaload, 1) := by decide +kernel
theorem dL_law_405 : decode cL_law 405 = .ok (.invokevirtual 59, 3) := by decide +kernel
theorem dL_law_408 : decode cL_law 408 = .ok (.if_icmp .eq 589, 3) := by decide +kernel
theorem dL_law_411 : decode cL_law 411 = .ok (.iconst 0, 1) := by decide +kernel
theorem dL_law_412 : decode cL_law 412 = .ok (.ireturn, 1) := by decide +kernel
theorem dL_law_413 : decode cL_law 413 = .ok (.aload_n 1, 1) := by decide +kernel
theorem dL_law_414 : decode cL_law 414 = .ok (.invokevirtual 60, 3) := by decide +kernel
theorem dL_law_417 : decode cL_law 417 = .ok (.aload_n 2, 1) := by decide +kernel
theorem dL_law_418 : decode cL_law 418 = .ok (.invokevirtual 63, 3) := by decide +kernel
theorem dL_law_421 : decode cL_law 421 = .ok (.if_icmp .eq 576, 3) := by decide +kernel
theorem dL_law_424 : decode cL_law 424 = .ok (.iconst 0, 1) := by decide +kernel
theorem dL_law_425 : decode cL_law 425 = .ok (.ireturn, 1) := by decide +kernel
theorem dL_law_426 : decode cL_law 426 = .ok (.aload_n 1, 1) := by decide +kernel
theorem dL_law_427 : decode cL_law 427 = .ok (.aload_n 0, 1) := by decide +kernel
theorem dL_law_428 : decode cL_law 428 = .ok (.iload_n 3, 1) := by decide +kernel
theorem dL_law_429 : decode cL_law 429 = .ok (.iconst 1, 1) := by decide +kernel
theorem dL_law_430 : decode cL_law 430 = .ok (.iadd, 1) := by decide +kernel
theorem dL_law_431 : decode cL_law 431 = .ok (.iaload, 1) := by decide +kernel
theorem dL_law_432 : decode cL_law 432 = .ok (.aload_n 0, 1) := by decide +kernel
theorem dL_law_433 : decode cL_law 433 = .ok (.iload_n 3, 1) := by decide +kernel
theorem dL_law_434 : decode cL_law 434 = .ok (.iconst 2, 1) := by decide +kernel
theorem dL_law_435 : decode cL_law 435 = .ok (.iadd, 1) := by decide +kernel
theorem dL_law_436 : decode cL_law 436 = .ok (.iaload, 1) := by decide +kernel
theorem dL_law_437 : decode cL_law 437 = .ok (.aload_n 0, 1) := by decide +kernel
theorem dL_law_438 : decode cL_law 438 = .ok (.iload_n 3, 1) := by decide +kernel
theorem dL_law_439 : decode cL_law 439 = .ok (.iconst 3, 1) := by decide +kernel
theorem dL_law_440 : decode cL_law 440 = .ok (.iadd, 1) := by decide +kernel
theorem dL_law_441 : decode cL_law 441 = .ok (.iaload, 1) := by decide +kernel
theorem dL_law_442 : decode cL_law 442 = .ok (.invokevirtual 64, 3) := by decide +kernel
theorem dL_law_445 : decode cL_law 445 = .ok (.aload_n 2, 1) := by decide +kernel
theorem dL_law_446 : decode cL_law 446 = .ok (.aload_n 0, 1) := by decide +kernel
theorem dL_law_447 : decode cL_law 447 = .ok (.iload_n 3, 1) := by decide +kernel
theorem dL_law_448 : decode cL_law 448 = .ok (.iconst 1, 1) := by decide +kernel
theorem dL_law_449 : decode cL_law 449 = .ok (.iadd, 1) := by decide +kernel
theorem dL_law_450 : decode cL_law 450 = .ok (.iaload, 1) := by decide +kernel
theorem dL_law_451 : decode cL_law 451 = .ok (.aload_n 0, 1) := by decide +kernel
theorem dL_law_452 : decode cL_law 452 = .ok (.iload_n 3, 1) := by decide +kernel
theorem dL_law_453 : decode cL_law 453 = .ok (.iconst 2, 1) := by decide +kernel
theorem dL_law_454 : decode cL_law 454 = .ok (.iadd, 1) := by decide +kernel
theorem dL_law_455 : decode cL_law 455 = .ok (.iaload, 1) := by decide +kernel
theorem dL_law_456 : decode cL_law 456 = .ok (.aload_n 0, 1) := by decide +kernel
theorem dL_law_457 : decode cL_law 457 = .ok (.iload_n 3, 1) := by decide +kernel
theorem dL_law_458 : decode cL_law 458 = .ok (.iconst 3, 1) := by decide +kernel
theorem dL_law_459 : decode cL_law 459 = .ok (.iadd, 1) := by decide +kernel
theorem dL_law_460 : decode cL_law 460 = .ok (.iaload, 1) := by decide +kernel
theorem dL_law_461 : decode cL_law 461 = .ok (.invokevirtual 68, 3) := by decide +kernel
theorem dL_law_464 : decode cL_law 464 = .ok (.if_icmp .eq 533, 3) := by decide +kernel
theorem dL_law_467 : decode cL_law 467 = .ok (.iconst 0, 1) := by decide +kernel
theorem dL_law_468 : decode cL_law 468 = .ok (.ireturn, 1) := by decide +kernel
theorem dL_law_469 : decode cL_law 469 = .ok (.aload_n 1, 1) := by decide +kernel
theorem dL_law_470 : decode cL_law 470 = .ok (.aload_n 0, 1) := by decide +kernel
theorem dL_law_471 : decode cL_law 471 = .ok (.iload_n 3, 1) := by decide +kernel
theorem dL_law_472 : decode cL_law 472 = .ok (.iconst 1, 1) := by decide +kernel
theorem dL_law_473 : decode cL_law 473 = .ok (.iadd, 1) := by decide +kernel
theorem dL_law_474 : decode cL_law 474 = .ok (.iaload, 1) := by decide +kernel
theorem dL_law_475 : decode cL_law 475 = .ok (.invokevirtual 69, 3) := by decide +kernel
theorem dL_law_478 : decode cL_law 478 = .ok (.aload_n 2, 1) := by decide +kernel
theorem dL_law_479 : decode cL_law 479 = .ok (.aload_n 0, 1) := by decide +kernel
theorem dL_law_480 : decode cL_law 480 = .ok (.iload_n 3, 1) := by decide +kernel
theorem dL_law_481 : decode cL_law 481 = .ok (.iconst 1, 1) := by decide +kernel
theorem dL_law_482 : decode cL_law 482 = .ok (.iadd, 1) := by decide +kernel
theorem dL_law_483 : decode cL_law 483 = .ok (.iaload, 1) := by decide +kernel
theorem dL_law_484 : decode cL_law 484 = .ok (.invokevirtual 72, 3) := by decide +kernel
theorem dL_law_487 : decode cL_law 487 = .ok (.if_icmp .eq 510, 3) := by decide +kernel
theorem dL_law_490 : decode cL_law 490 = .ok (.iconst 0, 1) := by decide +kernel
theorem dL_law_491 : decode cL_law 491 = .ok (.ireturn, 1) := by decide +kernel
theorem dL_law_492 : decode cL_law 492 = .ok (.aload_n 1, 1) := by decide +kernel
theorem dL_law_493 : decode cL_law 493 = .ok (.aload_n 0, 1) := by decide +kernel
theorem dL_law_494 : decode cL_law 494 = .ok (.iload_n 3, 1) := by decide +kernel
theorem dL_law_495 : decode cL_law 495 = .ok (.iconst 1, 1) := by decide +kernel
theorem dL_law_496 : decode cL_law 496 = .ok (.iadd, 1) := by decide +kernel
theorem dL_law_497 : decode cL_law 497 = .ok (.iaload, 1) := by decide +kernel
theorem dL_law_498 : decode cL_law 498 = .ok (.aload_n 0, 1) := by decide +kernel
theorem dL_law_499 : decode cL_law 499 = .ok (.iload_n 3, 1) := by decide +kernel
theorem dL_law_500 : decode cL_law 500 = .ok (.iconst 2, 1) := by decide +kernel
theorem dL_law_501 : decode cL_law 501 = .ok (.iadd, 1) := by decide +kernel
theorem dL_law_502 : decode cL_law 502 = .ok (.iaload, 1) := by decide +kernel
theorem dL_law_503 : decode cL_law 503 = .ok (.aload_n 0, 1) := by decide +kernel
theorem dL_law_504 : decode cL_law 504 = .ok (.iload_n 3, 1) := by decide +kernel
theorem dL_law_505 : decode cL_law 505 = .ok (.iconst 3, 1) := by decide +kernel
theorem dL_law_506 : decode cL_law 506 = .ok (.iadd, 1) := by decide +kernel
theorem dL_law_507 : decode cL_law 507 = .ok (.iaload, 1) := by decide +kernel
theorem dL_law_508 : decode cL_law 508 = .ok (.invokevirtual 73, 3) := by decide +kernel
theorem dL_law_511 : decode cL_law 511 = .ok (.aload_n 2, 1) := by decide +kernel
theorem dL_law_512 : decode cL_law 512 = .ok (.aload_n 0, 1) := by decide +kernel
theorem dL_law_513 : decode cL_law 513 = .ok (.iload_n 3, 1) := by decide +kernel
theorem dL_law_514 : decode cL_law 514 = .ok (.iconst 1, 1) := by decide +kernel
theorem dL_law_515 : decode cL_law 515 = .ok (.iadd, 1) := by decide +kernel
theorem dL_law_516 : decode cL_law 516 = .ok (.iaload, 1) := by decide +kernel
theorem dL_law_517 : decode cL_law 517 = .ok (.aload_n 0, 1) := by decide +kernel
theorem dL_law_518 : decode cL_law 518 = .ok (.iload_n 3, 1) := by decide +kernel
theorem dL_law_519 : decode cL_law 519 = .ok (.iconst 2, 1) := by decide +kernel
theorem dL_law_520 : decode cL_law 520 = .ok (.iadd, 1) := by decide +kernel
theorem dL_law_521 : decode cL_law 521 = .ok (.iaload, 1) := by decide +kernel
theorem dL_law_522 : decode cL_law 522 = .ok (.aload_n 0, 1) := by decide +kernel
theorem dL_law_523 : decode cL_law 523 = .ok (.iload_n 3, 1) := by decide +kernel
theorem dL_law_524 : decode cL_law 524 = .ok (.iconst 3, 1) := by decide +kernel
theorem dL_law_525 : decode cL_law 525 = .ok (.iadd, 1) := by decide +kernel
theorem dL_law_526 : decode cL_law 526 = .ok (.iaload, 1) := by decide +kernel
theorem dL_law_527 : decode cL_law 527 = .ok (.invokevirtual 76, 3) := by decide +kernel
theorem dL_law_530 : decode cL_law 530 = .ok (.if_icmp .eq 467, 3) := by decide +kernel
theorem dL_law_533 : decode cL_law 533 = .ok (.iconst 0, 1) := by decide +kernel
theorem dL_law_534 : decode cL_law 534 = .ok (.ireturn, 1) := by decide +kernel
theorem dL_law_535 : decode cL_law 535 = .ok (.aload_n 1, 1) := by decide +kernel
theorem dL_law_536 : decode cL_law 536 = .ok (.aload_n 0, 1) := by decide +kernel
theorem dL_law_537 : decode cL_law 537 = .ok (.iload_n 3, 1) := by decide +kernel
theorem dL_law_538 : decode cL_law 538 = .ok (.iconst 1, 1) := by decide +kernel
theorem dL_law_539 : decode cL_law 539 = .ok (.iadd, 1) := by decide +kernel
theorem dL_law_540 : decode cL_law 540 = .ok (.iaload, 1) := by decide +kernel
theorem dL_law_541 : decode cL_law 541 = .ok (.invokevirtual 77, 3) := by decide +kernel
theorem dL_law_544 : decode cL_law 544 = .ok (.aload_n 2, 1) := by decide +kernel
theorem dL_law_545 : decode cL_law 545 = .ok (.aload_n 0, 1) := by decide +kernel
theorem dL_law_546 : decode cL_law 546 = .ok (.iload_n 3, 1) := by decide +kernel
theorem dL_law_547 : decode cL_law 547 = .ok (.iconst 1, 1) := by decide +kernel
theorem dL_law_548 : decode cL_law 548 = .ok (.iadd, 1) := by decide +kernel
theorem dL_law_549 : decode cL_law 549 = .ok (.iaload, 1) := by decide +kernel
theorem dL_law_550 : decode cL_law 550 = .ok (.invokevirtual 80, 3) := by decide +kernel
theorem dL_law_553 : decode cL_law 553 = .ok (.if_icmp .eq 444, 3) := by decide +kernel
theorem dL_law_556 : decode cL_law 556 = .ok (.iconst 0, 1) := by decide +kernel
theorem dL_law_557 : decode cL_law 557 = .ok (.ireturn, 1) := by decide +kernel
theorem dL_law_558 : decode cL_law 558 = .ok (.aload_n 1, 1) := by decide +kernel
theorem dL_law_559 : decode cL_law 559 = .ok (.aload_n 0, 1) := by decide +kernel
theorem dL_law_560 : decode cL_law 560 = .ok (.iload_n 3, 1) := by decide +kernel
theorem dL_law_561 : decode cL_law 561 = .ok (.iconst 1, 1) := by decide +kernel
theorem dL_law_562 : decode cL_law 562 = .ok (.iadd, 1) := by decide +kernel
theorem dL_law_563 : decode cL_law 563 = .ok (.iaload, 1) := by decide +kernel
theorem dL_law_564 : decode cL_law 564 = .ok (.aload_n 0, 1) := by decide +kernel
theorem dL_law_565 : decode cL_law 565 = .ok (.iload_n 3, 1) := by decide +kernel
theorem dL_law_566 : decode cL_law 566 = .ok (.iconst 2, 1) := by decide +kernel
theorem dL_law_567 : decode cL_law 567 = .ok (.iadd, 1) := by decide +kernel
theorem dL_law_568 : decode cL_law 568 = .ok (.iaload, 1) := by decide +kernel
theorem dL_law_569 : decode cL_law 569 = .ok (.i2l, 1) := by decide +kernel
theorem dL_law_570 : decode cL_law 570 = .ok (.bipush 32, 2) := by decide +kernel
theorem dL_law_572 : decode cL_law 572 = .ok (.lshl, 1) := by decide +kernel
theorem dL_law_573 : decode cL_law 573 = .ok (.aload_n 0, 1) := by decide +kernel
theorem dL_law_574 : decode cL_law 574 = .ok (.iload_n 3, 1) := by decide +kernel
theorem dL_law_575 : decode cL_law 575 = .ok (.iconst 3, 1) := by decide +kernel
theorem dL_law_576 : decode cL_law 576 = .ok (.iadd, 1) := by decide +kernel
theorem dL_law_577 : decode cL_law 577 = .ok (.iaload, 1) := by decide +kernel
theorem dL_law_578 : decode cL_law 578 = .ok (.i2l, 1) := by decide +kernel
theorem dL_law_579 : decode cL_law 579 = .ok (.ldc2_w 81, 3) := by decide +kernel
theorem dL_law_582 : decode cL_law 582 = .ok (.land, 1) := by decide +kernel
theorem dL_law_583 : decode cL_law 583 = .ok (.lor, 1) := by decide +kernel
theorem dL_law_584 : decode cL_law 584 = .ok (.invokevirtual 83, 3) := by decide +kernel
theorem dL_law_587 : decode cL_law 587 = .ok (.aload_n 2, 1) := by decide +kernel
theorem dL_law_588 : decode cL_law 588 = .ok (.aload_n 0, 1) := by decide +kernel
theorem dL_law_589 : decode cL_law 589 = .ok (.iload_n 3, 1) := by decide +kernel
theorem dL_law_590 : decode cL_law 590 = .ok (.iconst 1, 1) := by decide +kernel
theorem dL_law_591 : decode cL_law 591 = .ok (.iadd, 1) := by decide +kernel
theorem dL_law_592 : decode cL_law 592 = .ok (.iaload, 1) := by decide +kernel
theorem dL_law_593 : decode cL_law 593 = .ok (.aload_n 0, 1) := by decide +kernel
theorem dL_law_594 : decode cL_law 594 = .ok (.iload_n 3, 1) := by decide +kernel
theorem dL_law_595 : decode cL_law 595 = .ok (.iconst 2, 1) := by decide +kernel
theorem dL_law_596 : decode cL_law 596 = .ok (.iadd, 1) := by decide +kernel
theorem dL_law_597 : decode cL_law 597 = .ok (.iaload, 1) := by decide +kernel
theorem dL_law_598 : decode cL_law 598 = .ok (.i2l, 1) := by decide +kernel
theorem dL_law_599 : decode cL_law 599 = .ok (.bipush 32, 2) := by decide +kernel
theorem dL_law_601 : decode cL_law 601 = .ok (.lshl, 1) := by decide +kernel
theorem dL_law_602 : decode cL_law 602 = .ok (.aload_n 0, 1) := by decide +kernel
theorem dL_law_603 : decode cL_law 603 = .ok (.iload_n 3, 1) := by decide +kernel
theorem dL_law_604 : decode cL_law 604 = .ok (.iconst 3, 1) := by decide +kernel
theorem dL_law_605 : decode cL_law 605 = .ok (.iadd, 1) := by decide +kernel
theorem dL_law_606 : decode cL_law 606 = .ok (.iaload, 1) := by decide +kernel
theorem dL_law_607 : decode cL_law 607 = .ok (.i2l, 1) := by decide +kernel
theorem dL_law_608 : decode cL_law 608 = .ok (.ldc2_w 81, 3) := by decide +kernel
theorem dL_law_611 : decode cL_law 611 = .ok (.land, 1) := by decide +kernel
theorem dL_law_612 : decode cL_law 612 = .ok (.lor, 1) := by decide +kernel
theorem dL_law_613 : decode cL_law 613 = .ok (.invokevirtual 87, 3) := by decide +kernel
theorem dL_law_616 : decode cL_law 616 = .ok (.if_icmp .eq 381, 3) := by decide +kernel
theorem dL_law_619 : decode cL_law 619 = .ok (.iconst 0, 1) := by decide +kernel
theorem dL_law_620 : decode cL_law 620 = .ok (.ireturn, 1) := by decide +kernel
theorem dL_law_621 : decode cL_law 621 = .ok (.aload_n 1, 1) := by decide +kernel
theorem dL_law_622 : decode cL_law 622 = .ok (.aload_n 0, 1) := by decide +kernel
theorem dL_law_623 : decode cL_law 623 = .ok (.iload_n 3, 1) := by decide +kernel
theorem dL_law_624 : decode cL_law 624 = .ok (.iconst 1, 1) := by decide +kernel
theorem dL_law_625 : decode cL_law 625 = .ok (.iadd, 1) := by decide +kernel
theorem dL_law_626 : decode cL_law 626 = .ok (.iaload, 1) := by decide +kernel
theorem dL_law_627 : decode cL_law 627 = .ok (.aload_n 0, 1) := by decide +kernel
theorem dL_law_628 : decode cL_law 628 = .ok (.iload_n 3, 1) := by decide +kernel
theorem dL_law_629 : decode cL_law 629 = .ok (.iconst 2, 1) := by decide +kernel
theorem dL_law_630 : decode cL_law 630 = .ok (.iadd, 1) := by decide +kernel
theorem dL_law_631 : decode cL_law 631 = .ok (.iaload, 1) := by decide +kernel
theorem dL_law_632 : decode cL_law 632 = .ok (.invokevirtual 88, 3) := by decide +kernel
theorem dL_law_635 : decode cL_law 635 = .ok (.aload_n 2, 1) := by decide +kernel
theorem dL_law_636 : decode cL_law 636 = .ok (.aload_n 0, 1) := by decide +kernel
theorem dL_law_637 : decode cL_law 637 = .ok (.iload_n 3, 1) := by decide +kernel
theorem dL_law_638 : decode cL_law 638 = .ok (.iconst 1, 1) := by decide +kernel
theorem dL_law_639 : decode cL_law 639 = .ok (.iadd, 1) := by decide +kernel
theorem dL_law_640 : decode cL_law 640 = .ok (.iaload, 1) := by decide +kernel
theorem dL_law_641 : decode cL_law 641 = .ok (.aload_n 0, 1) := by decide +kernel
theorem dL_law_642 : decode cL_law 642 = .ok (.iload_n 3, 1) := by decide +kernel
theorem dL_law_643 : decode cL_law 643 = .ok (.iconst 2, 1) := by decide +kernel
theorem dL_law_644 : decode cL_law 644 = .ok (.iadd, 1) := by decide +kernel
theorem dL_law_645 : decode cL_law 645 = .ok (.iaload, 1) := by decide +kernel
theorem dL_law_646 : decode cL_law 646 = .ok (.invokevirtual 91, 3) := by decide +kernel
theorem dL_law_649 : decode cL_law 649 = .ok (.if_icmp .eq 348, 3) := by decide +kernel
theorem dL_law_652 : decode cL_law 652 = .ok (.iconst 0, 1) := by decide +kernel
theorem dL_law_653 : decode cL_law 653 = .ok (.ireturn, 1) := by decide +kernel
theorem dL_law_654 : decode cL_law 654 = .ok (.aload_n 1, 1) := by decide +kernel
theorem dL_law_655 : decode cL_law 655 = .ok (.invokevirtual 92, 3) := by decide +kernel
theorem dL_law_658 : decode cL_law 658 = .ok (.aload_n 2, 1) := by decide +kernel
theorem dL_law_659 : decode cL_law 659 = .ok (.invokevirtual 95, 3) := by decide +kernel
theorem dL_law_662 : decode cL_law 662 = .ok (.if_icmp .eq 335, 3) := by decide +kernel
theorem dL_law_665 : decode cL_law 665 = .ok (.iconst 0, 1) := by decide +kernel
theorem dL_law_666 : decode cL_law 666 = .ok (.ireturn, 1) := by decide +kernel
theorem dL_law_667 : decode cL_law 667 = .ok (.aload_n 1, 1) := by decide +kernel
theorem dL_law_668 : decode cL_law 668 = .ok (.aload_n 0, 1) := by decide +kernel
theorem dL_law_669 : decode cL_law 669 = .ok (.iload_n 3, 1) := by decide +kernel
theorem dL_law_670 : decode cL_law 670 = .ok (.iconst 1, 1) := by decide +kernel
theorem dL_law_671 : decode cL_law 671 = .ok (.iadd, 1) := by decide +kernel
theorem dL_law_672 : decode cL_law 672 = .ok (.iaload, 1) := by decide +kernel
theorem dL_law_673 : decode cL_law 673 = .ok (.invokevirtual 96, 3) := by decide +kernel
theorem dL_law_676 : decode cL_law 676 = .ok (.aload_n 2, 1) := by decide +kernel
theorem dL_law_677 : decode cL_law 677 = .ok (.aload_n 0, 1) := by decide +kernel
theorem dL_law_678 : decode cL_law 678 = .ok (.iload_n 3, 1) := by decide +kernel
theorem dL_law_679 : decode cL_law 679 = .ok (.iconst 1, 1) := by decide +kernel
theorem dL_law_680 : decode cL_law 680 = .ok (.iadd, 1) := by decide +kernel
theorem dL_law_681 : decode cL_law 681 = .ok (.iaload, 1) := by decide +kernel
theorem dL_law_682 : decode cL_law 682 = .ok (.invokevirtual 99, 3) := by decide +kernel
theorem dL_law_685 : decode cL_law 685 = .ok (.if_icmp .eq 312, 3) := by decide +kernel
theorem dL_law_688 : decode cL_law 688 = .ok (.iconst 0, 1) := by decide +kernel
theorem dL_law_689 : decode cL_law 689 = .ok (.ireturn, 1) := by decide +kernel
theorem dL_law_690 : decode cL_law 690 = .ok (.aload_n 1, 1) := by decide +kernel
theorem dL_law_691 : decode cL_law 691 = .ok (.aload_n 0, 1) := by decide +kernel
theorem dL_law_692 : decode cL_law 692 = .ok (.iload_n 3, 1) := by decide +kernel
theorem dL_law_693 : decode cL_law 693 = .ok (.iconst 1, 1) := by decide +kernel
theorem dL_law_694 : decode cL_law 694 = .ok (.iadd, 1) := by decide +kernel
theorem dL_law_695 : decode cL_law 695 = .ok (.iaload, 1) := by decide +kernel
theorem dL_law_696 : decode cL_law 696 = .ok (.aload_n 0, 1) := by decide +kernel
theorem dL_law_697 : decode cL_law 697 = .ok (.iload_n 3, 1) := by decide +kernel
theorem dL_law_698 : decode cL_law 698 = .ok (.iconst 2, 1) := by decide +kernel
theorem dL_law_699 : decode cL_law 699 = .ok (.iadd, 1) := by decide +kernel
theorem dL_law_700 : decode cL_law 700 = .ok (.iaload, 1) := by decide +kernel
theorem dL_law_701 : decode cL_law 701 = .ok (.ifCond .eq 7, 3) := by decide +kernel
theorem dL_law_704 : decode cL_law 704 = .ok (.iconst 1, 1) := by decide +kernel
theorem dL_law_705 : decode cL_law 705 = .ok (.goto 4, 3) := by decide +kernel
theorem dL_law_708 : decode cL_law 708 = .ok (.iconst 0, 1) := by decide +kernel
theorem dL_law_709 : decode cL_law 709 = .ok (.invokevirtual 100, 3) := by decide +kernel
theorem dL_law_712 : decode cL_law 712 = .ok (.aload_n 2, 1) := by decide +kernel
theorem dL_law_713 : decode cL_law 713 = .ok (.aload_n 0, 1) := by decide +kernel
theorem dL_law_714 : decode cL_law 714 = .ok (.iload_n 3, 1) := by decide +kernel
theorem dL_law_715 : decode cL_law 715 = .ok (.iconst 1, 1) := by decide +kernel
theorem dL_law_716 : decode cL_law 716 = .ok (.iadd, 1) := by decide +kernel
theorem dL_law_717 : decode cL_law 717 = .ok (.iaload, 1) := by decide +kernel
theorem dL_law_718 : decode cL_law 718 = .ok (.aload_n 0, 1) := by decide +kernel
theorem dL_law_719 : decode cL_law 719 = .ok (.iload_n 3, 1) := by decide +kernel
theorem dL_law_720 : decode cL_law 720 = .ok (.iconst 2, 1) := by decide +kernel
theorem dL_law_721 : decode cL_law 721 = .ok (.iadd, 1) := by decide +kernel
theorem dL_law_722 : decode cL_law 722 = .ok (.iaload, 1) := by decide +kernel
theorem dL_law_723 : decode cL_law 723 = .ok (.ifCond .eq 7, 3) := by decide +kernel
theorem dL_law_726 : decode cL_law 726 = .ok (.iconst 1, 1) := by decide +kernel
theorem dL_law_727 : decode cL_law 727 = .ok (.goto 4, 3) := by decide +kernel
theorem dL_law_730 : decode cL_law 730 = .ok (.iconst 0, 1) := by decide +kernel
theorem dL_law_731 : decode cL_law 731 = .ok (.invokevirtual 104, 3) := by decide +kernel
theorem dL_law_734 : decode cL_law 734 = .ok (.if_icmp .eq 263, 3) := by decide +kernel
theorem dL_law_737 : decode cL_law 737 = .ok (.iconst 0, 1) := by decide +kernel
theorem dL_law_738 : decode cL_law 738 = .ok (.ireturn, 1) := by decide +kernel
theorem dL_law_739 : decode cL_law 739 = .ok (.aload_n 1, 1) := by decide +kernel
theorem dL_law_740 : decode cL_law 740 = .ok (.aload_n 0, 1) := by decide +kernel
theorem dL_law_741 : decode cL_law 741 = .ok (.iload_n 3, 1) := by decide +kernel
theorem dL_law_742 : decode cL_law 742 = .ok (.iconst 1, 1) := by decide +kernel
theorem dL_law_743 : decode cL_law 743 = .ok (.iadd, 1) := by decide +kernel
theorem dL_law_744 : decode cL_law 744 = .ok (.iaload, 1) := by decide +kernel
theorem dL_law_745 : decode cL_law 745 = .ok (.aload_n 0, 1) := by decide +kernel
theorem dL_law_746 : decode cL_law 746 = .ok (.iload_n 3, 1) := by decide +kernel
theorem dL_law_747 : decode cL_law 747 = .ok (.iconst 2, 1) := by decide +kernel
theorem dL_law_748 : decode cL_law 748 = .ok (.iadd, 1) := by decide +kernel
theorem dL_law_749 : decode cL_law 749 = .ok (.iaload, 1) := by decide +kernel
theorem dL_law_750 : decode cL_law 750 = .ok (.aload_n 0, 1) := by decide +kernel
theorem dL_law_751 : decode cL_law 751 = .ok (.iload_n 3, 1) := by decide +kernel
theorem dL_law_752 : decode cL_law 752 = .ok (.iconst 3, 1) := by decide +kernel
theorem dL_law_753 : decode cL_law 753 = .ok (.iadd, 1) := by decide +kernel
theorem dL_law_754 : decode cL_law 754 = .ok (.iaload, 1) := by decide +kernel
theorem dL_law_755 : decode cL_law 755 = .ok (.invokevirtual 105, 3) := by decide +kernel
theorem dL_law_758 : decode cL_law 758 = .ok (.aload_n 2, 1) := by decide +kernel
theorem dL_law_759 : decode cL_law 759 = .ok (.aload_n 0, 1) := by decide +kernel
theorem dL_law_760 : decode cL_law 760 = .ok (.iload_n 3, 1) := by decide +kernel
theorem dL_law_761 : decode cL_law 761 = .ok (.iconst 1, 1) := by decide +kernel
theorem dL_law_762 : decode cL_law 762 = .ok (.iadd, 1) := by decide +kernel
theorem dL_law_763 : decode cL_law 763 = .ok (.iaload, 1) := by decide +kernel
theorem dL_law_764 : decode cL_law 764 = .ok (.aload_n 0, 1) := by decide +kernel
theorem dL_law_765 : decode cL_law 765 = .ok (.iload_n 3, 1) := by decide +kernel
theorem dL_law_766 : decode cL_law 766 = .ok (.iconst 2, 1) := by decide +kernel
theorem dL_law_767 : decode cL_law 767 = .ok (.iadd, 1) := by decide +kernel
theorem dL_law_768 : decode cL_law 768 = .ok (.iaload, 1) := by decide +kernel
theorem dL_law_769 : decode cL_law 769 = .ok (.aload_n 0, 1) := by decide +kernel
theorem dL_law_770 : decode cL_law 770 = .ok (.iload_n 3, 1) := by decide +kernel
theorem dL_law_771 : decode cL_law 771 = .ok (.iconst 3, 1) := by decide +kernel
theorem dL_law_772 : decode cL_law 772 = .ok (.iadd, 1) := by decide +kernel
theorem dL_law_773 : decode cL_law 773 = .ok (.iaload, 1) := by decide +kernel
theorem dL_law_774 : decode cL_law 774 = .ok (.invokevirtual 108, 3) := by decide +kernel
theorem dL_law_777 : decode cL_law 777 = .ok (.if_icmp .eq 220, 3) := by decide +kernel
theorem dL_law_780 : decode cL_law 780 = .ok (.iconst 0, 1) := by decide +kernel
theorem dL_law_781 : decode cL_law 781 = .ok (.ireturn, 1) := by decide +kernel
theorem dL_law_782 : decode cL_law 782 = .ok (.aload_n 1, 1) := by decide +kernel
theorem dL_law_783 : decode cL_law 783 = .ok (.aload_n 0, 1) := by decide +kernel
theorem dL_law_784 : decode cL_law 784 = .ok (.iload_n 3, 1) := by decide +kernel
theorem dL_law_785 : decode cL_law 785 = .ok (.iconst 1, 1) := by decide +kernel
theorem dL_law_786 : decode cL_law 786 = .ok (.iadd, 1) := by decide +kernel
theorem dL_law_787 : decode cL_law 787 = .ok (.iaload, 1) := by decide +kernel
theorem dL_law_788 : decode cL_law 788 = .ok (.aload_n 0, 1) := by decide +kernel
theorem dL_law_789 : decode cL_law 789 = .ok (.iload_n 3, 1) := by decide +kernel
theorem dL_law_790 : decode cL_law 790 = .ok (.iconst 2, 1) := by decide +kernel
theorem dL_law_791 : decode cL_law 791 = .ok (.iadd, 1) := by decide +kernel
theorem dL_law_792 : decode cL_law 792 = .ok (.iaload, 1) := by decide +kernel
theorem dL_law_793 : decode cL_law 793 = .ok (.aload_n 0, 1) := by decide +kernel
theorem dL_law_794 : decode cL_law 794 = .ok (.iload_n 3, 1) := by decide +kernel
theorem dL_law_795 : decode cL_law 795 = .ok (.iconst 3, 1) := by decide +kernel
theorem dL_law_796 : decode cL_law 796 = .ok (.iadd, 1) := by decide +kernel
theorem dL_law_797 : decode cL_law 797 = .ok (.iaload, 1) := by decide +kernel
theorem dL_law_798 : decode cL_law 798 = .ok (.aload_n 0, 1) := by decide +kernel
theorem dL_law_799 : decode cL_law 799 = .ok (.iload_n 3, 1) := by decide +kernel
theorem dL_law_800 : decode cL_law 800 = .ok (.iconst 4, 1) := by decide +kernel
theorem dL_law_801 : decode cL_law 801 = .ok (.iadd, 1) := by decide +kernel
theorem dL_law_802 : decode cL_law 802 = .ok (.iaload, 1) := by decide +kernel
theorem dL_law_803 : decode cL_law 803 = .ok (.ifCond .eq 7, 3) := by decide +kernel
theorem dL_law_806 : decode cL_law 806 = .ok (.iconst 1, 1) := by decide +kernel
theorem dL_law_807 : decode cL_law 807 = .ok (.goto 4, 3) := by decide +kernel
theorem dL_law_810 : decode cL_law 810 = .ok (.iconst 0, 1) := by decide +kernel
theorem dL_law_811 : decode cL_law 811 = .ok (.invokevirtual 109, 3) := by decide +kernel
theorem dL_law_814 : decode cL_law 814 = .ok (.aload_n 2, 1) := by decide +kernel
theorem dL_law_815 : decode cL_law 815 = .ok (.aload_n 0, 1) := by decide +kernel
theorem dL_law_816 : decode cL_law 816 = .ok (.iload_n 3, 1) := by decide +kernel
theorem dL_law_817 : decode cL_law 817 = .ok (.iconst 1, 1) := by decide +kernel
theorem dL_law_818 : decode cL_law 818 = .ok (.iadd, 1) := by decide +kernel
theorem dL_law_819 : decode cL_law 819 = .ok (.iaload, 1) := by decide +kernel
theorem dL_law_820 : decode cL_law 820 = .ok (.aload_n 0, 1) := by decide +kernel
theorem dL_law_821 : decode cL_law 821 = .ok (.iload_n 3, 1) := by decide +kernel
theorem dL_law_822 : decode cL_law 822 = .ok (.iconst 2, 1) := by decide +kernel
theorem dL_law_823 : decode cL_law 823 = .ok (.iadd, 1) := by decide +kernel
theorem dL_law_824 : decode cL_law 824 = .ok (.iaload, 1) := by decide +kernel
theorem dL_law_825 : decode cL_law 825 = .ok (.aload_n 0, 1) := by decide +kernel
theorem dL_law_826 : decode cL_law 826 = .ok (.iload_n 3, 1) := by decide +kernel
theorem dL_law_827 : decode cL_law 827 = .ok (.iconst 3, 1) := by decide +kernel
theorem dL_law_828 : decode cL_law 828 = .ok (.iadd, 1) := by decide +kernel
theorem dL_law_829 : decode cL_law 829 = .ok (.iaload, 1) := by decide +kernel
theorem dL_law_830 : decode cL_law 830 = .ok (.aload_n 0, 1) := by decide +kernel
theorem dL_law_831 : decode cL_law 831 = .ok (.iload_n 3, 1) := by decide +kernel
theorem dL_law_832 : decode cL_law 832 = .ok (.iconst 4, 1) := by decide +kernel
theorem dL_law_833 : decode cL_law 833 = .ok (.iadd, 1) := by decide +kernel
theorem dL_law_834 : decode cL_law 834 = .ok (.iaload, 1) := by decide +kernel
theorem dL_law_835 : decode cL_law 835 = .ok (.ifCond .eq 7, 3) := by decide +kernel
theorem dL_law_838 : decode cL_law 838 = .ok (.iconst 1, 1) := by decide +kernel
theorem dL_law_839 : decode cL_law 839 = .ok (.goto 4, 3) := by decide +kernel
theorem dL_law_842 : decode cL_law 842 = .ok (.iconst 0, 1) := by decide +kernel
theorem dL_law_843 : decode cL_law 843 = .ok (.invokevirtual 113, 3) := by decide +kernel
theorem dL_law_846 : decode cL_law 846 = .ok (.if_icmp .eq 151, 3) := by decide +kernel
theorem dL_law_849 : decode cL_law 849 = .ok (.iconst 0, 1) := by decide +kernel
theorem dL_law_850 : decode cL_law 850 = .ok (.ireturn, 1) := by decide +kernel
theorem dL_law_851 : decode cL_law 851 = .ok (.aload_n 1, 1) := by decide +kernel
theorem dL_law_852 : decode cL_law 852 = .ok (.aload_n 0, 1) := by decide +kernel
theorem dL_law_853 : decode cL_law 853 = .ok (.iload_n 3, 1) := by decide +kernel
theorem dL_law_854 : decode cL_law 854 = .ok (.iconst 1, 1) := by decide +kernel
theorem dL_law_855 : decode cL_law 855 = .ok (.iadd, 1) := by decide +kernel
theorem dL_law_856 : decode cL_law 856 = .ok (.iaload, 1) := by decide +kernel
theorem dL_law_857 : decode cL_law 857 = .ok (.i2l, 1) := by decide +kernel
theorem dL_law_858 : decode cL_law 858 = .ok (.bipush 32, 2) := by decide +kernel
theorem dL_law_860 : decode cL_law 860 = .ok (.lshl, 1) := by decide +kernel
theorem dL_law_861 : decode cL_law 861 = .ok (.aload_n 0, 1) := by decide +kernel
theorem dL_law_862 : decode cL_law 862 = .ok (.iload_n 3, 1) := by decide +kernel
theorem dL_law_863 : decode cL_law 863 = .ok (.iconst 2, 1) := by decide +kernel
theorem dL_law_864 : decode cL_law 864 = .ok (.iadd, 1) := by decide +kernel
theorem dL_law_865 : decode cL_law 865 = .ok (.iaload, 1) := by decide +kernel
theorem dL_law_866 : decode cL_law 866 = .ok (.i2l, 1) := by decide +kernel
theorem dL_law_867 : decode cL_law 867 = .ok (.ldc2_w 81, 3) := by decide +kernel
theorem dL_law_870 : decode cL_law 870 = .ok (.land, 1) := by decide +kernel
theorem dL_law_871 : decode cL_law 871 = .ok (.lor, 1) := by decide +kernel
theorem dL_law_872 : decode cL_law 872 = .ok (.invokevirtual 114, 3) := by decide +kernel
theorem dL_law_875 : decode cL_law 875 = .ok (.aload_n 2, 1) := by decide +kernel
theorem dL_law_876 : decode cL_law 876 = .ok (.aload_n 0, 1) := by decide +kernel
theorem dL_law_877 : decode cL_law 877 = .ok (.iload_n 3, 1) := by decide +kernel
theorem dL_law_878 : decode cL_law 878 = .ok (.iconst 1, 1) := by decide +kernel
theorem dL_law_879 : decode cL_law 879 = .ok (.iadd, 1) := by decide +kernel
theorem dL_law_880 : decode cL_law 880 = .ok (.iaload, 1) := by decide +kernel
theorem dL_law_881 : decode cL_law 881 = .ok (.i2l, 1) := by decide +kernel
theorem dL_law_882 : decode cL_law 882 = .ok (.bipush 32, 2) := by decide +kernel
theorem dL_law_884 : decode cL_law 884 = .ok (.lshl, 1) := by decide +kernel
theorem dL_law_885 : decode cL_law 885 = .ok (.aload_n 0, 1) := by decide +kernel
theorem dL_law_886 : decode cL_law 886 = .ok (.iload_n 3, 1) := by decide +kernel
theorem dL_law_887 : decode cL_law 887 = .ok (.iconst 2, 1) := by decide +kernel
theorem dL_law_888 : decode cL_law 888 = .ok (.iadd, 1) := by decide +kernel
theorem dL_law_889 : decode cL_law 889 = .ok (.iaload, 1) := by decide +kernel
theorem dL_law_890 : decode cL_law 890 = .ok (.i2l, 1) := by decide +kernel
theorem dL_law_891 : decode cL_law 891 = .ok (.ldc2_w 81, 3) := by decide +kernel
theorem dL_law_894 : decode cL_law 894 = .ok (.land, 1) := by decide +kernel
theorem dL_law_895 : decode cL_law 895 = .ok (.lor, 1) := by decide +kernel
theorem dL_law_896 : decode cL_law 896 = .ok (.invokevirtual 118, 3) := by decide +kernel
theorem dL_law_899 : decode cL_law 899 = .ok (.lcmp, 1) := by decide +kernel
theorem dL_law_900 : decode cL_law 900 = .ok (.ifCond .eq 97, 3) := by decide +kernel
theorem dL_law_903 : decode cL_law 903 = .ok (.iconst 0, 1) := by decide +kernel
theorem dL_law_904 : decode cL_law 904 = .ok (.ireturn, 1) := by decide +kernel
theorem dL_law_905 : decode cL_law 905 = .ok (.aload_n 1, 1) := by decide +kernel
theorem dL_law_906 : decode cL_law 906 = .ok (.aload_n 0, 1) := by decide +kernel
theorem dL_law_907 : decode cL_law 907 = .ok (.iload_n 3, 1) := by decide +kernel
theorem dL_law_908 : decode cL_law 908 = .ok (.iconst 1, 1) := by decide +kernel
theorem dL_law_909 : decode cL_law 909 = .ok (.iadd, 1) := by decide +kernel
theorem dL_law_910 : decode cL_law 910 = .ok (.iaload, 1) := by decide +kernel
theorem dL_law_911 : decode cL_law 911 = .ok (.invokevirtual 119, 3) := by decide +kernel
theorem dL_law_914 : decode cL_law 914 = .ok (.aload_n 2, 1) := by decide +kernel
theorem dL_law_915 : decode cL_law 915 = .ok (.aload_n 0, 1) := by decide +kernel
theorem dL_law_916 : decode cL_law 916 = .ok (.iload_n 3, 1) := by decide +kernel
theorem dL_law_917 : decode cL_law 917 = .ok (.iconst 1, 1) := by decide +kernel
theorem dL_law_918 : decode cL_law 918 = .ok (.iadd, 1) := by decide +kernel
theorem dL_law_919 : decode cL_law 919 = .ok (.iaload, 1) := by decide +kernel
theorem dL_law_920 : decode cL_law 920 = .ok (.invokevirtual 122, 3) := by decide +kernel
theorem dL_law_923 : decode cL_law 923 = .ok (.if_icmp .eq 74, 3) := by decide +kernel
theorem dL_law_926 : decode cL_law 926 = .ok (.iconst 0, 1) := by decide +kernel
theorem dL_law_927 : decode cL_law 927 = .ok (.ireturn, 1) := by decide +kernel
theorem dL_law_928 : decode cL_law 928 = .ok (.aload_n 1, 1) := by decide +kernel
theorem dL_law_929 : decode cL_law 929 = .ok (.aload_n 0, 1) := by decide +kernel
theorem dL_law_930 : decode cL_law 930 = .ok (.iload_n 3, 1) := by decide +kernel
theorem dL_law_931 : decode cL_law 931 = .ok (.iconst 1, 1) := by decide +kernel
theorem dL_law_932 : decode cL_law 932 = .ok (.iadd, 1) := by decide +kernel
theorem dL_law_933 : decode cL_law 933 = .ok (.iaload, 1) := by decide +kernel
theorem dL_law_934 : decode cL_law 934 = .ok (.invokevirtual 123, 3) := by decide +kernel
theorem dL_law_937 : decode cL_law 937 = .ok (.aload_n 2, 1) := by decide +kernel
theorem dL_law_938 : decode cL_law 938 = .ok (.aload_n 0, 1) := by decide +kernel
theorem dL_law_939 : decode cL_law 939 = .ok (.iload_n 3, 1) := by decide +kernel
theorem dL_law_940 : decode cL_law 940 = .ok (.iconst 1, 1) := by decide +kernel
theorem dL_law_941 : decode cL_law 941 = .ok (.iadd, 1) := by decide +kernel
theorem dL_law_942 : decode cL_law 942 = .ok (.iaload, 1) := by decide +kernel
theorem dL_law_943 : decode cL_law 943 = .ok (.invokevirtual 126, 3) := by decide +kernel
theorem dL_law_946 : decode cL_law 946 = .ok (.if_icmp .eq 51, 3) := by decide +kernel
theorem dL_law_949 : decode cL_law 949 = .ok (.iconst 0, 1) := by decide +kernel
theorem dL_law_950 : decode cL_law 950 = .ok (.ireturn, 1) := by decide +kernel
theorem dL_law_951 : decode cL_law 951 = .ok (.aload_n 1, 1) := by decide +kernel
theorem dL_law_952 : decode cL_law 952 = .ok (.aload_n 0, 1) := by decide +kernel
theorem dL_law_953 : decode cL_law 953 = .ok (.iload_n 3, 1) := by decide +kernel
theorem dL_law_954 : decode cL_law 954 = .ok (.iconst 1, 1) := by decide +kernel
theorem dL_law_955 : decode cL_law 955 = .ok (.iadd, 1) := by decide +kernel
theorem dL_law_956 : decode cL_law 956 = .ok (.iaload, 1) := by decide +kernel
theorem dL_law_957 : decode cL_law 957 = .ok (.invokevirtual 127, 3) := by decide +kernel
theorem dL_law_960 : decode cL_law 960 = .ok (.aload_n 2, 1) := by decide +kernel
theorem dL_law_961 : decode cL_law 961 = .ok (.aload_n 0, 1) := by decide +kernel
theorem dL_law_962 : decode cL_law 962 = .ok (.iload_n 3, 1) := by decide +kernel
theorem dL_law_963 : decode cL_law 963 = .ok (.iconst 1, 1) := by decide +kernel
theorem dL_law_964 : decode cL_law 964 = .ok (.iadd, 1) := by decide +kernel
theorem dL_law_965 : decode cL_law 965 = .ok (.iaload, 1) := by decide +kernel
theorem dL_law_966 : decode cL_law 966 = .ok (.invokevirtual 130, 3) := by decide +kernel
theorem dL_law_969 : decode cL_law 969 = .ok (.if_icmp .eq 28, 3) := by decide +kernel
theorem dL_law_972 : decode cL_law 972 = .ok (.iconst 0, 1) := by decide +kernel
theorem dL_law_973 : decode cL_law 973 = .ok (.ireturn, 1) := by decide +kernel
theorem dL_law_974 : decode cL_law 974 = .ok (.aload_n 1, 1) := by decide +kernel
theorem dL_law_975 : decode cL_law 975 = .ok (.aload_n 0, 1) := by decide +kernel
theorem dL_law_976 : decode cL_law 976 = .ok (.iload_n 3, 1) := by decide +kernel
theorem dL_law_977 : decode cL_law 977 = .ok (.iconst 1, 1) := by decide +kernel
theorem dL_law_978 : decode cL_law 978 = .ok (.iadd, 1) := by decide +kernel
theorem dL_law_979 : decode cL_law 979 = .ok (.iaload, 1) := by decide +kernel
theorem dL_law_980 : decode cL_law 980 = .ok (.invokevirtual 131, 3) := by decide +kernel
theorem dL_law_983 : decode cL_law 983 = .ok (.aload_n 2, 1) := by decide +kernel
theorem dL_law_984 : decode cL_law 984 = .ok (.aload_n 0, 1) := by decide +kernel
theorem dL_law_985 : decode cL_law 985 = .ok (.iload_n 3, 1) := by decide +kernel
theorem dL_law_986 : decode cL_law 986 = .ok (.iconst 1, 1) := by decide +kernel
theorem dL_law_987 : decode cL_law 987 = .ok (.iadd, 1) := by decide +kernel
theorem dL_law_988 : decode cL_law 988 = .ok (.iaload, 1) := by decide +kernel
theorem dL_law_989 : decode cL_law 989 = .ok (.invokevirtual 134, 3) := by decide +kernel
theorem dL_law_992 : decode cL_law 992 = .ok (.if_icmp .eq 5, 3) := by decide +kernel
theorem dL_law_995 : decode cL_law 995 = .ok (.iconst 0, 1) := by decide +kernel
theorem dL_law_996 : decode cL_law 996 = .ok (.ireturn, 1) := by decide +kernel
theorem dL_law_997 : decode cL_law 997 = .ok (.iinc 3 5, 3) := by decide +kernel
theorem dL_law_1000 : decode cL_law 1000 = .ok (.goto (-982), 3) := by decide +kernel
theorem dL_law_1003 : decode cL_law 1003 = .ok (.iconst 1, 1) := by decide +kernel
theorem dL_law_1004 : decode cL_law 1004 = .ok (.ireturn, 1) := by decide +kernel
end
section
abbrev zi (a : Int) : Prop := -2147483648 ≤ a ∧ a < 2147483648
theorem zi_if_eq {g : zt_G} {μ : zt_M} {pc : Nat} {ls : List (Option zv_A)} {st : List zv_A} {M : zm_M} {Q : Option zv_A → zm_M → Prop} {a off : Int} {tgt : Nat} (hd : decode μ.2.1 pc = .ok (.ifCond .eq off, 3)) (ht : (pc : Int) + off = (tgt : Int)) (ha : zi a) (kt : a = 0 → zc_Z g μ (tgt) ls (st) M Q) (kf : ¬ a = 0 → zc_Z g μ (pc + 3) ls (st) M Q) : zc_Z g μ (pc) ls (zv_i a :: st) M Q := by
  have e1 := zw_id ha.1 ha.2
  exact zr_if_eq hd ht (fun h => kt (by rw [e1] at h; exact h)) (fun h => kf (by rw [e1] at h; exact h))
theorem zi_icmp_eq {g : zt_G} {μ : zt_M} {pc : Nat} {ls : List (Option zv_A)} {st : List zv_A} {M : zm_M} {Q : Option zv_A → zm_M → Prop} {a b off : Int} {tgt : Nat} (hd : decode μ.2.1 pc = .ok (.if_icmp .eq off, 3)) (ht : (pc : Int) + off = (tgt : Int)) (ha : zi a) (hb : zi b) (kt : a = b → zc_Z g μ (tgt) ls (st) M Q) (kf : ¬ a = b → zc_Z g μ (pc + 3) ls (st) M Q) : zc_Z g μ (pc) ls (zv_i b :: zv_i a :: st) M Q := by
  have e1 := zw_id ha.1 ha.2
  have e2 := zw_id hb.1 hb.2
  exact zr_icmp_eq hd ht (fun h => kt (by rw [e1, e2] at h; exact h)) (fun h => kf (by rw [e1, e2] at h; exact h))
theorem zi_if_ne {g : zt_G} {μ : zt_M} {pc : Nat} {ls : List (Option zv_A)} {st : List zv_A} {M : zm_M} {Q : Option zv_A → zm_M → Prop} {a off : Int} {tgt : Nat} (hd : decode μ.2.1 pc = .ok (.ifCond .ne off, 3)) (ht : (pc : Int) + off = (tgt : Int)) (ha : zi a) (kt : ¬ a = 0 → zc_Z g μ (tgt) ls (st) M Q) (kf : a = 0 → zc_Z g μ (pc + 3) ls (st) M Q) : zc_Z g μ (pc) ls (zv_i a :: st) M Q := by
  have e1 := zw_id ha.1 ha.2
  exact zr_if_ne hd ht (fun h => kt (by rw [e1] at h; exact h)) (fun h => kf (by rw [e1] at h; exact h))
theorem zi_icmp_ne {g : zt_G} {μ : zt_M} {pc : Nat} {ls : List (Option zv_A)} {st : List zv_A} {M : zm_M} {Q : Option zv_A → zm_M → Prop} {a b off : Int} {tgt : Nat} (hd : decode μ.2.1 pc = .ok (.if_icmp .ne off, 3)) (ht : (pc : Int) + off = (tgt : Int)) (ha : zi a) (hb : zi b) (kt : ¬ a = b → zc_Z g μ (tgt) ls (st) M Q) (kf : a = b → zc_Z g μ (pc + 3) ls (st) M Q) : zc_Z g μ (pc) ls (zv_i b :: zv_i a :: st) M Q := by
  have e1 := zw_id ha.1 ha.2
  have e2 := zw_id hb.1 hb.2
  exact zr_icmp_ne hd ht (fun h => kt (by rw [e1, e2] at h; exact h)) (fun h => kf (by rw [e1, e2] at h; exact h))
theorem zi_if_lt {g : zt_G} {μ : zt_M} {pc : Nat} {ls : List (Option zv_A)} {st : List zv_A} {M : zm_M} {Q : Option zv_A → zm_M → Prop} {a off : Int} {tgt : Nat} (hd : decode μ.2.1 pc = .ok (.ifCond .lt off, 3)) (ht : (pc : Int) + off = (tgt : Int)) (ha : zi a) (kt : a < 0 → zc_Z g μ (tgt) ls (st) M Q) (kf : 0 ≤ a → zc_Z g μ (pc + 3) ls (st) M Q) : zc_Z g μ (pc) ls (zv_i a :: st) M Q := by
  have e1 := zw_id ha.1 ha.2
  exact zr_if_lt hd ht (fun h => kt (by rw [e1] at h; exact h)) (fun h => kf (by rw [e1] at h; exact h))
theorem zi_icmp_lt {g : zt_G} {μ : zt_M} {pc : Nat} {ls : List (Option zv_A)} {st : List zv_A} {M : zm_M} {Q : Option zv_A → zm_M → Prop} {a b off : Int} {tgt : Nat} (hd : decode μ.2.1 pc = .ok (.if_icmp .lt off, 3)) (ht : (pc : Int) + off = (tgt : Int)) (ha : zi a) (hb : zi b) (kt : a < b → zc_Z g μ (tgt) ls (st) M Q) (kf : b ≤ a → zc_Z g μ (pc + 3) ls (st) M Q) : zc_Z g μ (pc) ls (zv_i b :: zv_i a :: st) M Q := by
  have e1 := zw_id ha.1 ha.2
  have e2 := zw_id hb.1 hb.2
  exact zr_icmp_lt hd ht (fun h => kt (by rw [e1, e2] at h; exact h)) (fun h => kf (by rw [e1, e2] at h; exact h))
theorem zi_if_ge {g : zt_G} {μ : zt_M} {pc : Nat} {ls : List (Option zv_A)} {st : List zv_A} {M : zm_M} {Q : Option zv_A → zm_M → Prop} {a off : Int} {tgt : Nat} (hd : decode μ.2.1 pc = .ok (.ifCond .ge off, 3)) (ht : (pc : Int) + off = (tgt : Int)) (ha : zi a) (kt : 0 ≤ a → zc_Z g μ (tgt) ls (st) M Q) (kf : a < 0 → zc_Z g μ (pc + 3) ls (st) M Q) : zc_Z g μ (pc) ls (zv_i a :: st) M Q := by
  have e1 := zw_id ha.1 ha.2
  exact zr_if_ge hd ht (fun h => kt (by rw [e1] at h; exact h)) (fun h => kf (by rw [e1] at h; exact h))
theorem zi_icmp_ge {g : zt_G} {μ : zt_M} {pc : Nat} {ls : List (Option zv_A)} {st : List zv_A} {M : zm_M} {Q : Option zv_A → zm_M → Prop} {a b off : Int} {tgt : Nat} (hd : decode μ.2.1 pc = .ok (.if_icmp .ge off, 3)) (ht : (pc : Int) + off = (tgt : Int)) (ha : zi a) (hb : zi b) (kt : b ≤ a → zc_Z g μ (tgt) ls (st) M Q) (kf : a < b → zc_Z g μ (pc + 3) ls (st) M Q) : zc_Z g μ (pc) ls (zv_i b :: zv_i a :: st) M Q := by
  have e1 := zw_id ha.1 ha.2
  have e2 := zw_id hb.1 hb.2
  exact zr_icmp_ge hd ht (fun h => kt (by rw [e1, e2] at h; exact h)) (fun h => kf (by rw [e1, e2] at h; exact h))
theorem zi_if_gt {g : zt_G} {μ : zt_M} {pc : Nat} {ls : List (Option zv_A)} {st : List zv_A} {M : zm_M} {Q : Option zv_A → zm_M → Prop} {a off : Int} {tgt : Nat} (hd : decode μ.2.1 pc = .ok (.ifCond .gt off, 3)) (ht : (pc : Int) + off = (tgt : Int)) (ha : zi a) (kt : 0 < a → zc_Z g μ (tgt) ls (st) M Q) (kf : a ≤ 0 → zc_Z g μ (pc + 3) ls (st) M Q) : zc_Z g μ (pc) ls (zv_i a :: st) M Q := by
  have e1 := zw_id ha.1 ha.2
  exact zr_if_gt hd ht (fun h => kt (by rw [e1] at h; exact h)) (fun h => kf (by rw [e1] at h; exact h))
theorem zi_icmp_gt {g : zt_G} {μ : zt_M} {pc : Nat} {ls : List (Option zv_A)} {st : List zv_A} {M : zm_M} {Q : Option zv_A → zm_M → Prop} {a b off : Int} {tgt : Nat} (hd : decode μ.2.1 pc = .ok (.if_icmp .gt off, 3)) (ht : (pc : Int) + off = (tgt : Int)) (ha : zi a) (hb : zi b) (kt : b < a → zc_Z g μ (tgt) ls (st) M Q) (kf : a ≤ b → zc_Z g μ (pc + 3) ls (st) M Q) : zc_Z g μ (pc) ls (zv_i b :: zv_i a :: st) M Q := by
  have e1 := zw_id ha.1 ha.2
  have e2 := zw_id hb.1 hb.2
  exact zr_icmp_gt hd ht (fun h => kt (by rw [e1, e2] at h; exact h)) (fun h => kf (by rw [e1, e2] at h; exact h))
theorem zi_if_le {g : zt_G} {μ : zt_M} {pc : Nat} {ls : List (Option zv_A)} {st : List zv_A} {M : zm_M} {Q : Option zv_A → zm_M → Prop} {a off : Int} {tgt : Nat} (hd : decode μ.2.1 pc = .ok (.ifCond .le off, 3)) (ht : (pc : Int) + off = (tgt : Int)) (ha : zi a) (kt : a ≤ 0 → zc_Z g μ (tgt) ls (st) M Q) (kf : 0 < a → zc_Z g μ (pc + 3) ls (st) M Q) : zc_Z g μ (pc) ls (zv_i a :: st) M Q := by
  have e1 := zw_id ha.1 ha.2
  exact zr_if_le hd ht (fun h => kt (by rw [e1] at h; exact h)) (fun h => kf (by rw [e1] at h; exact h))
theorem zi_icmp_le {g : zt_G} {μ : zt_M} {pc : Nat} {ls : List (Option zv_A)} {st : List zv_A} {M : zm_M} {Q : Option zv_A → zm_M → Prop} {a b off : Int} {tgt : Nat} (hd : decode μ.2.1 pc = .ok (.if_icmp .le off, 3)) (ht : (pc : Int) + off = (tgt : Int)) (ha : zi a) (hb : zi b) (kt : a ≤ b → zc_Z g μ (tgt) ls (st) M Q) (kf : b < a → zc_Z g μ (pc + 3) ls (st) M Q) : zc_Z g μ (pc) ls (zv_i b :: zv_i a :: st) M Q := by
  have e1 := zw_id ha.1 ha.2
  have e2 := zw_id hb.1 hb.2
  exact zr_icmp_le hd ht (fun h => kt (by rw [e1, e2] at h; exact h)) (fun h => kf (by rw [e1, e2] at h; exact h))
theorem zq_eq {q : Int → zm_M → Prop} {a b : Int} {M : zm_M} (h : q a M) (e : b = a) : zq_I q (some (zv_i b)) M := by
  subst e
  exact h
theorem zq_e2 {q : Int → zm_M → Prop} {a b : Int} {M M2 : zm_M} (h : q a M) (e : b = a) (e2 : M2 = M) : zq_I q (some (zv_i b)) M2 := by
  subst e
  subst e2
  exact h
theorem zb_T {P : Prop} [Decidable P] (h : P) : 1 = zb_B P := (if_pos h).symm
theorem zb_F {P : Prop} [Decidable P] (h : ¬ P) : 0 = zb_B P := (if_neg h).symm
theorem zb_01 {P : Prop} [Decidable P] : zb_B P = 0 ∨ zb_B P = 1 := by
  unfold zb_B
  split <;> simp
theorem zb_iff {P P2 : Prop} [Decidable P] [Decidable P2] (h : P ↔ P2) : zb_B P = zb_B P2 := by
  unfold zb_B
  simp only [h]
/-- a fold over the first numbers -/
def fo {α : Type} (f : Int → α → α) (a : α) : Nat → α
  | 0 => a
  | n + 1 => f (n : Int) (fo f a n)
theorem fo_s {α : Type} {f : Int → α → α} {a : α} {i : Int} (h : 0 ≤ i) : fo f a (i + 1).toNat = f i (fo f a i.toNat) := by
  rw [show (i + 1).toNat = i.toNat + 1 by omega]
  show f (i.toNat : Int) _ = _
  rw [Int.toNat_of_nonneg h]
theorem fo_c {α : Type} {f f2 : Int → α → α} {a : α} : ∀ {n : Nat}, (∀ (i : Int) (b : α), 0 ≤ i → i < (n : Int) → f i b = f2 i b) → fo f a n = fo f2 a n
  | 0, _ => rfl
  | n + 1, h => by
    show f (n : Int) _ = f2 (n : Int) _
    rw [fo_c (n := n) (fun i b h0 h1 => h i b h0 (by omega)), h (n : Int) _ (by omega) (by omega)]
theorem fo_p {α : Type} {f : Int → α → α} {a : α} {P : α → Prop} (h0 : P a) : ∀ {n : Nat}, (∀ (i : Int) (b : α), 0 ≤ i → i < (n : Int) → P b → P (f i b)) → P (fo f a n)
  | 0, _ => h0
  | n + 1, h => h (n : Int) _ (by omega) (by omega) (fo_p h0 (n := n) (fun i b g0 g1 => h i b g0 (by omega)))
/-- bits of small numbers -/
theorem zb_and_n (a b : Nat) (ha : a < 2147483648) (hb : b < 2147483648) : zb_and (a : Int) (b : Int) = ((a &&& b : Nat) : Int) := by
  unfold zb_and
  rw [Int32.ofInt_eq_ofNat, Int32.ofInt_eq_ofNat]
  have h1 : Int32.ofNat a &&& Int32.ofNat b = Int32.ofNat (a &&& b) := by
    apply Int32.toBitVec.inj
    simp
  have h2 := Nat.and_le_left (n := a) (m := b)
  have h3 : (0 : Int) ≤ ((a &&& b : Nat) : Int) := Int.natCast_nonneg _
  have h4 : ((a &&& b : Nat) : Int) < 2147483648 := Int.ofNat_lt.mpr (Nat.lt_of_le_of_lt h2 ha)
  rw [h1, ← Int32.ofInt_eq_ofNat, zw_eq, zw_id]
  · exact Int.le_trans (by decide) h3
  · exact h4
theorem zb_or_n (a b k : Nat) (hk : k ≤ 31) (ha : a < 2 ^ k) (hb : b < 2 ^ k) : zb_or (a : Int) (b : Int) = ((a ||| b : Nat) : Int) := by
  unfold zb_or
  rw [Int32.ofInt_eq_ofNat, Int32.ofInt_eq_ofNat]
  have h1 : Int32.ofNat a ||| Int32.ofNat b = Int32.ofNat (a ||| b) := by
    apply Int32.toBitVec.inj
    simp
  have h2 := Nat.or_lt_two_pow ha hb
  have h3 : 2 ^ k ≤ 2 ^ 31 := Nat.pow_le_pow_right (by decide) hk
  have h4 : (0 : Int) ≤ ((a ||| b : Nat) : Int) := Int.natCast_nonneg _
  have h5 : ((a ||| b : Nat) : Int) < 2147483648 := Int.ofNat_lt.mpr (Nat.lt_of_lt_of_le h2 h3)
  rw [h1, ← Int32.ofInt_eq_ofNat, zw_eq, zw_id]
  · exact Int.le_trans (by decide) h4
  · exact h5
def zp_camp (c : Nat) : Prop := zl_lay[c]? = some (.inl (1, [.inr (c + 1), .inr (c + 2), .inr (c + 3), .inr (c + 4), .inl 0, .inl 0, .inl 0])) ∧ zl_lay[c + 1]? = some (.inr (0, 4)) ∧ zl_lay[c + 2]? = some (.inr (0, 4)) ∧ zl_lay[c + 3]? = some (.inr (0, 4)) ∧ zl_lay[c + 4]? = some (.inr (0, 4))
theorem zp_c8 : zp_camp 8 := ⟨rfl, rfl, rfl, rfl, rfl⟩
theorem zp_c17 : zp_camp 17 := ⟨rfl, rfl, rfl, rfl, rfl⟩
theorem zp_c22 : zp_camp 22 := ⟨rfl, rfl, rfl, rfl, rfl⟩
def zp_land (c : Nat) : Prop := zl_lay[c]? = some (.inl (3, [.inr (c + 1), .inr (c + 2), .inr (c + 3), .inl 0])) ∧ zl_lay[c + 1]? = some (.inr (0, 4)) ∧ zl_lay[c + 2]? = some (.inr (0, 4)) ∧ zl_lay[c + 3]? = some (.inr (0, 16))
theorem zp_l4 : zp_land 4 := ⟨rfl, rfl, rfl, rfl⟩
theorem zp_l13 : zp_land 13 := ⟨rfl, rfl, rfl, rfl⟩
end
section
/-! THE NUMBERS: camps, lands, nights -/
def bt (w t : Int) : Bool := decide ((w.toNat / 2 ^ t.toNat) % 2 = 1)
def msk (n : Int) (f : Int → Int) : Int → Int := fun t => if 0 ≤ t ∧ t < n then f t else 0
theorem msk_in {n : Int} {f : Int → Int} {t : Int} (h0 : 0 ≤ t) (h1 : t < n) : msk n f t = f t := if_pos ⟨h0, h1⟩
def upI (f : Int → Int) (t v : Int) : Int → Int := fun i => if i = t then v else f i
theorem upI_s (f : Int → Int) (t v : Int) : upI f t v t = v := if_pos rfl
theorem upI_n {f : Int → Int} {t v i : Int} (h : i ≠ t) : upI f t v i = f i := if_neg h
theorem msk_up {n : Int} {f : Int → Int} {t v : Int} (h0 : 0 ≤ t) (h1 : t < n) : msk n (upI f t v) = upI (msk n f) t v := by
  funext i
  unfold msk upI
  by_cases hi : i = t
  · subst hi
    simp [h0, h1]
  · simp [hi]
/-- a camp: places, kinds, what they know, how white, who walked (bits), how many, the night -/
abbrev Cm : Type := (Int → Int) × (Int → Int) × (Int → Int) × (Int → Int) × Int × Int × Int
abbrev cp (C : Cm) : Int → Int := C.1
abbrev ck (C : Cm) : Int → Int := C.2.1
abbrev cn (C : Cm) : Int → Int := C.2.2.1
abbrev ch (C : Cm) : Int → Int := C.2.2.2.1
abbrev cw (C : Cm) : Int := C.2.2.2.2.1
abbrev ct (C : Cm) : Int := C.2.2.2.2.2.1
abbrev cg (C : Cm) : Int := C.2.2.2.2.2.2
/-- a land: how many kilns, their places, depths, layers -/
abbrev Ln : Type := Int × (Int → Int) × (Int → Int) × (Int → Int → Int)
def CW (C : Cm) : Prop := (0 ≤ ct C ∧ ct C ≤ 4) ∧ (0 ≤ cw C ∧ cw C < 2 ^ (ct C).toNat) ∧ ∀ t, (0 ≤ cp C t ∧ cp C t ≤ 9) ∧ (0 ≤ ck C t ∧ ck C t ≤ 3) ∧ (0 ≤ cn C t ∧ cn C t < 64) ∧ (0 ≤ ch C t ∧ ch C t ≤ 9)
def LW (L : Ln) : Prop := (0 ≤ L.1 ∧ L.1 ≤ 4) ∧ (∀ g, (0 ≤ L.2.1 g ∧ L.2.1 g ≤ 9) ∧ (0 ≤ L.2.2.1 g ∧ L.2.2.1 g ≤ 4)) ∧ ∀ g k, 0 ≤ L.2.2.2 g k ∧ L.2.2.2 g k ≤ 5
theorem CW.w16 {C : Cm} (h : CW C) : cw C < 16 := by
  obtain ⟨⟨h1, h2⟩, ⟨h3, h4⟩, h5⟩ := h
  have : 2 ^ (ct C).toNat ≤ 2 ^ 4 := Nat.pow_le_pow_right (by decide) (by omega)
  have h6 : (2 : Int) ^ (ct C).toNat = ((2 ^ (ct C).toNat : Nat) : Int) := by simp
  rw [h6] at h4
  omega
/-- the class's camp at cell c; its land -/
def cvX (M : zm_M) (c : Nat) : Cm := (msk (M c 5) (M (c + 1)), msk (M c 5) (M (c + 2)), msk (M c 5) (M (c + 3)), msk (M c 5) (M (c + 4)), M c 4, M c 5, M c 6)
def lyX (M : zm_M) (l : Nat) : Int → Int → Int := fun g k => if (0 ≤ g ∧ g < M l 3) ∧ 0 ≤ k ∧ k < M (l + 2) g then M (l + 3) (g * 4 + k) else 0
def lvX (M : zm_M) (l : Nat) : Ln := (M l 3, msk (M l 3) (M (l + 1)), msk (M l 3) (M (l + 2)), lyX M l)
def frC (c : Nat) (M M2 : zm_M) : Prop := ∀ (k : Nat) (i : Int), (k < c ∨ c + 4 < k) → M2 k i = M k i
def frL (c : Nat) (M M2 : zm_M) : Prop := ∀ (k : Nat) (i : Int), (k < c ∨ c + 3 < k) → M2 k i = M k i
theorem frC.rf {c : Nat} {M : zm_M} : frC c M M := fun _ _ _ => rfl
theorem frC.put {c : Nat} {M M2 : zm_M} (h : frC c M M2) (k : Nat) (i v : Int) (hk : c ≤ k ∧ k ≤ c + 4) : frC c M (zm_put M2 k i v) := by
  intro k2 i2 h2
  unfold zm_put
  rw [if_neg (fun x => by omega)]
  exact h k2 i2 h2
theorem frC.tr {c : Nat} {M M2 M3 : zm_M} (h : frC c M M2) (h2 : frC c M2 M3) : frC c M M3 := fun k i hk => (h2 k i hk).trans (h k i hk)
theorem frL.rf {c : Nat} {M : zm_M} : frL c M M := fun _ _ _ => rfl
theorem frL.put {c : Nat} {M M2 : zm_M} (h : frL c M M2) (k : Nat) (i v : Int) (hk : c ≤ k ∧ k ≤ c + 3) : frL c M (zm_put M2 k i v) := by
  intro k2 i2 h2
  unfold zm_put
  rw [if_neg (fun x => by omega)]
  exact h k2 i2 h2
theorem frL.tr {c : Nat} {M M2 M3 : zm_M} (h : frL c M M2) (h2 : frL c M2 M3) : frL c M M3 := fun k i hk => (h2 k i hk).trans (h k i hk)
theorem lvX_fr {M M2 : zm_M} {l : Nat} (h : ∀ (k : Nat) (i : Int), l ≤ k → k ≤ l + 3 → M2 k i = M k i) : lvX M2 l = lvX M l := by
  unfold lvX lyX
  have e0 : ∀ i, M2 l i = M l i := fun i => h l i (by omega) (by omega)
  have e1 : M2 (l + 1) = M (l + 1) := funext fun i => h (l + 1) i (by omega) (by omega)
  have e2 : M2 (l + 2) = M (l + 2) := funext fun i => h (l + 2) i (by omega) (by omega)
  have e3 : M2 (l + 3) = M (l + 3) := funext fun i => h (l + 3) i (by omega) (by omega)
  simp only [e0, e1, e2, e3]
theorem cvX_fr {M M2 : zm_M} {c : Nat} (h : ∀ (k : Nat) (i : Int), c ≤ k → k ≤ c + 4 → M2 k i = M k i) : cvX M2 c = cvX M c := by
  unfold cvX
  have e0 : ∀ i, M2 c i = M c i := fun i => h c i (by omega) (by omega)
  have e1 : M2 (c + 1) = M (c + 1) := funext fun i => h (c + 1) i (by omega) (by omega)
  have e2 : M2 (c + 2) = M (c + 2) := funext fun i => h (c + 2) i (by omega) (by omega)
  have e3 : M2 (c + 3) = M (c + 3) := funext fun i => h (c + 3) i (by omega) (by omega)
  have e4 : M2 (c + 4) = M (c + 4) := funext fun i => h (c + 4) i (by omega) (by omega)
  simp only [e0, e1, e2, e3, e4]
theorem put_up (M : zm_M) (k : Nat) (i v : Int) : zm_put M k i v k = upI (M k) i v := by
  funext j
  unfold zm_put upI
  simp
theorem put_ne (M : zm_M) {k k2 : Nat} (i v : Int) (h : k2 ≠ k) : zm_put M k i v k2 = M k2 := by
  funext j
  unfold zm_put
  rw [if_neg (fun x => h x.1)]
theorem cvX_pl {M : zm_M} {c : Nat} {t v : Int} (h0 : 0 ≤ t) (h1 : t < M c 5) : cvX (zm_put M (c + 1) t v) c = (upI (cp (cvX M c)) t v, (cvX M c).2) := by
  unfold cvX
  rw [put_up, put_ne M t v (show c ≠ c + 1 by omega), put_ne M t v (show c + 2 ≠ c + 1 by omega), put_ne M t v (show c + 3 ≠ c + 1 by omega), put_ne M t v (show c + 4 ≠ c + 1 by omega), msk_up h0 h1]
theorem cvX_kd {M : zm_M} {c : Nat} {t v : Int} (h0 : 0 ≤ t) (h1 : t < M c 5) : cvX (zm_put M (c + 2) t v) c = (cp (cvX M c), upI (ck (cvX M c)) t v, (cvX M c).2.2) := by
  unfold cvX
  rw [put_up, put_ne M t v (show c ≠ c + 2 by omega), put_ne M t v (show c + 1 ≠ c + 2 by omega), put_ne M t v (show c + 3 ≠ c + 2 by omega), put_ne M t v (show c + 4 ≠ c + 2 by omega), msk_up h0 h1]
theorem cvX_kn {M : zm_M} {c : Nat} {t v : Int} (h0 : 0 ≤ t) (h1 : t < M c 5) : cvX (zm_put M (c + 3) t v) c = (cp (cvX M c), ck (cvX M c), upI (cn (cvX M c)) t v, (cvX M c).2.2.2) := by
  unfold cvX
  rw [put_up, put_ne M t v (show c ≠ c + 3 by omega), put_ne M t v (show c + 1 ≠ c + 3 by omega), put_ne M t v (show c + 2 ≠ c + 3 by omega), put_ne M t v (show c + 4 ≠ c + 3 by omega), msk_up h0 h1]
theorem cvX_wh {M : zm_M} {c : Nat} {t v : Int} (h0 : 0 ≤ t) (h1 : t < M c 5) : cvX (zm_put M (c + 4) t v) c = (cp (cvX M c), ck (cvX M c), cn (cvX M c), upI (ch (cvX M c)) t v, (cvX M c).2.2.2.2) := by
  unfold cvX
  rw [put_up, put_ne M t v (show c ≠ c + 4 by omega), put_ne M t v (show c + 1 ≠ c + 4 by omega), put_ne M t v (show c + 2 ≠ c + 4 by omega), put_ne M t v (show c + 3 ≠ c + 4 by omega), msk_up h0 h1]
theorem cvX_wa {M : zm_M} {c : Nat} {v : Int} : cvX (zm_put M c 4 v) c = (cp (cvX M c), ck (cvX M c), cn (cvX M c), ch (cvX M c), v, (cvX M c).2.2.2.2.2) := by
  unfold cvX
  rw [put_ne M 4 v (show c + 1 ≠ c by omega), put_ne M 4 v (show c + 2 ≠ c by omega), put_ne M 4 v (show c + 3 ≠ c by omega), put_ne M 4 v (show c + 4 ≠ c by omega), put_up]
  rfl
theorem cvX_ni {M : zm_M} {c : Nat} {v : Int} : cvX (zm_put M c 6 v) c = (cp (cvX M c), ck (cvX M c), cn (cvX M c), ch (cvX M c), cw (cvX M c), ct (cvX M c), v) := by
  unfold cvX
  rw [put_ne M 6 v (show c + 1 ≠ c by omega), put_ne M 6 v (show c + 2 ≠ c by omega), put_ne M 6 v (show c + 3 ≠ c by omega), put_ne M 6 v (show c + 4 ≠ c by omega), put_up]
  rfl
/-! what a kiln gives -/
def kat (f : Int → Int) (p : Int) : Nat → Int → Int
  | 0, _ => -9
  | n + 1, g => if f g = p then g else kat f p n (g + 1)
def kiA (L : Ln) (p : Int) : Int := kat L.2.1 p L.1.toNat 0
theorem kat_in {f : Int → Int} {p : Int} : ∀ (n : Nat) (g : Int), kat f p n g = -9 ∨ (g ≤ kat f p n g ∧ kat f p n g < g + n ∧ f (kat f p n g) = p)
  | 0, g => Or.inl rfl
  | n + 1, g => by
    unfold kat
    split
    · rename_i h
      exact Or.inr ⟨Int.le_refl _, by omega, h⟩
    · rcases kat_in (f := f) (p := p) n (g + 1) with h | ⟨h1, h2, h3⟩
      · exact Or.inl h
      · exact Or.inr ⟨by omega, by omega, h3⟩
theorem kiA_in (L : Ln) (p : Int) (h : 0 ≤ L.1) : kiA L p = -9 ∨ (0 ≤ kiA L p ∧ kiA L p < L.1 ∧ L.2.1 (kiA L p) = p) := by
  rcases kat_in (f := L.2.1) (p := p) L.1.toNat 0 with h1 | ⟨h1, h2, h3⟩
  · exact Or.inl h1
  · exact Or.inr ⟨h1, by unfold kiA; omega, h3⟩
def tkL (ly : Int → Int) : Nat → Int → Int → Int → Int
  | 0, _, _, s => s
  | n + 1, k, left, s => if 0 < left then (if bt s (ly k) = true then tkL ly n (k + 1) left s else tkL ly n (k + 1) (left - 1) (zb_or s (zb_shl 1 (ly k)))) else s
def app (kd : Int) : Int := if kd = 1 then 2 else if kd = 2 then 6 else 1
def lie (L : Ln) (g t : Int) (C : Cm) : Cm := (cp C, ck C, upI (cn C) t (tkL (L.2.2.2 g) (L.2.2.1 g).toNat 0 (app (ck C t)) (cn C t)), upI (ch C) t (if ch C t + (if ck C t = 2 then 2 else 1) < 9 then ch C t + (if ck C t = 2 then 2 else 1) else 9), C.2.2.2.2)
def n1 (L : Ln) (cold : Int) (t : Int) (C : Cm) : Cm := if kiA L (cp C t) = -9 ∨ bt cold (kiA L (cp C t)) = true ∨ 9 ≤ ch C t then C else lie L (kiA L (cp C t)) t C
def kAt (C : Cm) (p : Int) : Int := fo (fun t b => if cp C t = p then zb_or b (cn C t) else b) 0 (ct C).toNat
def n2 (t : Int) (C : Cm) : Cm := if ck C t = 3 ∧ ¬ 9 ≤ ch C t then (cp C, ck C, upI (cn C) t (zb_or (cn C t) (kAt C (cp C t))), C.2.2.2) else C
def nit (L : Ln) (cold : Int) (C : Cm) : Cm := 
  let D := fo n2 (fo (n1 L cold) C (ct C).toNat) (ct C).toNat
  (cp D, ck D, cn D, ch D, 0, ct D, cg D + 1)
def cgo (t p : Int) (C : Cm) : Cm := (upI (cp C) t p, ck C, cn C, ch C, zb_or (cw C) (zb_shl 1 t), ct C, cg C)
def cHas (C : Cm) (t : Int) : Prop := 0 ≤ t ∧ t < ct C
def cMay (C : Cm) (t p : Int) : Prop := cHas C t ∧ (0 ≤ p ∧ p < 10) ∧ ¬ 9 ≤ ch C t ∧ ¬ bt (cw C) t = true ∧ ¬ cp C t = p ∧ (if p ≤ cp C t then cp C t - p else p - cp C t) ≤ 3 - ch C t / 3
def cHear (C : Cm) (a b : Int) : Prop := cHas C a ∧ cHas C b ∧ ¬ a = b ∧ cp C a = cp C b ∧ ¬ 9 ≤ ch C b
def chr (a b : Int) (C : Cm) : Cm := (cp C, ck C, upI (cn C) b (zb_or (cn C b) (cn C a)), C.2.2.2)
def cBat (C : Cm) (t : Int) : Prop := cHas C t ∧ ¬ 9 ≤ ch C t
def cba (t : Int) (C : Cm) : Cm := (cp C, ck C, upI (cn C) t 0, upI (ch C) t 0, C.2.2.2.2)
/-! small sets, by the kernel -/
theorem bd_or6 : ∀ s : Nat, s < 64 → ∀ l : Nat, l < 6 → 0 ≤ zb_or (s : Int) (zb_shl 1 (l : Int)) ∧ zb_or (s : Int) (zb_shl 1 (l : Int)) < 64 := by decide +kernel
theorem bd_bt6 : ∀ s : Nat, s < 64 → ∀ l : Nat, l < 6 → (zb_and (s : Int) (zb_shl 1 (l : Int)) = 0 ↔ bt (s : Int) (l : Int) = false) ∧ 0 ≤ zb_and (s : Int) (zb_shl 1 (l : Int)) ∧ zb_and (s : Int) (zb_shl 1 (l : Int)) < 64 := by decide +kernel
theorem bd_oo : ∀ s : Nat, s < 64 → ∀ l : Nat, l < 64 → 0 ≤ zb_or (s : Int) (l : Int) ∧ zb_or (s : Int) (l : Int) < 64 := by
  intro s hs l hl
  rw [zb_or_n s l 6 (by decide) hs hl]
  have := Nat.or_lt_two_pow (n := 6) hs hl
  exact ⟨Int.natCast_nonneg _, Int.ofNat_lt.mpr this⟩
theorem or6 {s l : Int} (hs : 0 ≤ s ∧ s < 64) (hl : 0 ≤ l ∧ l < 6) : 0 ≤ zb_or s (zb_shl 1 l) ∧ zb_or s (zb_shl 1 l) < 64 := by
  obtain ⟨s, rfl⟩ := Int.eq_ofNat_of_zero_le hs.1
  obtain ⟨l, rfl⟩ := Int.eq_ofNat_of_zero_le hl.1
  exact bd_or6 s (by omega) l (by omega)
theorem and6 {s l : Int} (hs : 0 ≤ s ∧ s < 64) (hl : 0 ≤ l ∧ l < 6) : (zb_and s (zb_shl 1 l) = 0 ↔ bt s l = false) ∧ 0 ≤ zb_and s (zb_shl 1 l) ∧ zb_and s (zb_shl 1 l) < 64 := by
  obtain ⟨s, rfl⟩ := Int.eq_ofNat_of_zero_le hs.1
  obtain ⟨l, rfl⟩ := Int.eq_ofNat_of_zero_le hl.1
  exact bd_bt6 s (by omega) l (by omega)
theorem oo6 {s l : Int} (hs : 0 ≤ s ∧ s < 64) (hl : 0 ≤ l ∧ l < 64) : 0 ≤ zb_or s l ∧ zb_or s l < 64 := by
  obtain ⟨s, rfl⟩ := Int.eq_ofNat_of_zero_le hs.1
  obtain ⟨l, rfl⟩ := Int.eq_ofNat_of_zero_le hl.1
  exact bd_oo s (by omega) l (by omega)
theorem tkL_in {ly : Int → Int} (hl : ∀ k, 0 ≤ ly k ∧ ly k ≤ 5) : ∀ (n : Nat) (k left s : Int), 0 ≤ s ∧ s < 64 → 0 ≤ tkL ly n k left s ∧ tkL ly n k left s < 64
  | 0, k, left, s, h => h
  | n + 1, k, left, s, h => by
    unfold tkL
    have h1 := hl k
    split
    · split
      · exact tkL_in hl n (k + 1) left s h
      · exact tkL_in hl n (k + 1) (left - 1) _ (or6 h ⟨h1.1, by omega⟩)
    · exact h
theorem CW.lie {L : Ln} {g t : Int} {C : Cm} (hL : LW L) (h : CW C) : CW (lie L g t C) := by
  obtain ⟨h1, h2, h3⟩ := h
  refine ⟨h1, h2, fun i => ?_⟩
  have h4 := h3 i
  have h5 := tkL_in (ly := L.2.2.2 g) (hL.2.2 g) (L.2.2.1 g).toNat 0 (app (ck C t)) (cn C t) (h3 t).2.2.1
  have h6 := (h3 t).2.2.2
  refine ⟨h4.1, h4.2.1, ?_, ?_⟩
  · show 0 ≤ upI _ _ _ _ ∧ upI _ _ _ _ < 64
    unfold upI
    split
    · exact h5
    · exact h4.2.2.1
  · show 0 ≤ upI _ _ _ _ ∧ upI _ _ _ _ ≤ 9
    unfold upI
    split
    · split <;> split <;> omega
    · exact h4.2.2.2
theorem CW_n1 {L : Ln} {cold t : Int} {C : Cm} (hL : LW L) (h : CW C) : CW (n1 L cold t C) := by
  unfold n1
  split
  · exact h
  · exact CW.lie hL h
theorem kAt_in {C : Cm} {p : Int} (h : CW C) : 0 ≤ kAt C p ∧ kAt C p < 64 := by
  unfold kAt
  refine fo_p (P := fun b : Int => 0 ≤ b ∧ b < 64) ⟨by decide, by decide⟩ (fun i b _ _ hb => ?_)
  show 0 ≤ (if cp C i = p then zb_or b (cn C i) else b) ∧ (if cp C i = p then zb_or b (cn C i) else b) < 64
  split
  · exact oo6 hb (h.2.2 i).2.2.1
  · exact hb
theorem CW_kn {C : Cm} {t v : Int} (h : CW C) (hv : 0 ≤ v ∧ v < 64) : CW (cp C, ck C, upI (cn C) t v, C.2.2.2) := by
  obtain ⟨h1, h2, h3⟩ := h
  refine ⟨h1, h2, fun i => ?_⟩
  have h4 := h3 i
  refine ⟨h4.1, h4.2.1, ?_, h4.2.2.2⟩
  show 0 ≤ upI _ _ _ _ ∧ upI _ _ _ _ < 64
  unfold upI
  split
  · exact hv
  · exact h4.2.2.1
theorem CW_n2 {t : Int} {C : Cm} (h : CW C) : CW (n2 t C) := by
  unfold n2
  split
  · exact CW_kn h (oo6 (h.2.2 t).2.2.1 (kAt_in h))
  · exact h
theorem n1_ct {L : Ln} {cold t : Int} {C : Cm} : ct (n1 L cold t C) = ct C := by
  unfold n1
  split <;> rfl
theorem n2_ct {t : Int} {C : Cm} : ct (n2 t C) = ct C := by
  unfold n2
  split <;> rfl
theorem CW_wa {C : Cm} {v n : Int} (h : CW C) (hv : 0 ≤ v ∧ v < 2 ^ (ct C).toNat) : CW (cp C, ck C, cn C, ch C, v, ct C, n) := ⟨h.1, hv, h.2.2⟩
theorem CW_fo1 {L : Ln} {cold : Int} {C : Cm} (hL : LW L) (h : CW C) (n : Nat) : CW (fo (n1 L cold) C n) := fo_p (P := CW) h (fun _ _ _ _ hb => CW_n1 hL hb)
theorem CW_fo2 {C : Cm} (h : CW C) (n : Nat) : CW (fo n2 C n) := fo_p (P := CW) h (fun _ _ _ _ hb => CW_n2 hb)
theorem ct_fo1 {L : Ln} {cold : Int} {C : Cm} (n : Nat) : ct (fo (n1 L cold) C n) = ct C := fo_p (P := fun D => ct D = ct C) rfl (fun _ _ _ _ hb => n1_ct.trans hb)
theorem ct_fo2 {C : Cm} (n : Nat) : ct (fo n2 C n) = ct C := fo_p (P := fun D => ct D = ct C) rfl (fun _ _ _ _ hb => n2_ct.trans hb)
theorem pw_pos (n : Nat) : (0 : Int) < 2 ^ n := Int.pow_pos (by decide)
theorem CW_nit {L : Ln} {cold : Int} {C : Cm} (hL : LW L) (h : CW C) : CW (nit L cold C) := by
  have h1 := CW_fo2 (CW_fo1 (cold := cold) hL h (ct C).toNat) (ct C).toNat
  exact CW_wa h1 ⟨by decide, pw_pos _⟩
theorem nit_ct {L : Ln} {cold : Int} {C : Cm} : ct (nit L cold C) = ct C := (ct_fo2 _).trans (ct_fo1 _)
theorem bd_w : ∀ n : Nat, n ≤ 4 → ∀ w : Nat, w < 2 ^ n → ∀ t : Nat, t < n → 0 ≤ zb_or (w : Int) (zb_shl 1 (t : Int)) ∧ zb_or (w : Int) (zb_shl 1 (t : Int)) < ((2 ^ n : Nat) : Int) := by decide +kernel
theorem pw_n (n : Nat) : (2 : Int) ^ n = ((2 ^ n : Nat) : Int) := by simp
theorem CW_go {C : Cm} {t p : Int} (h : CW C) (ht : 0 ≤ t ∧ t < ct C) (hp : 0 ≤ p ∧ p ≤ 9) : CW (cgo t p C) := by
  obtain ⟨h1, h2, h3⟩ := h
  refine ⟨h1, ?_, fun i => ?_⟩
  · show 0 ≤ zb_or (cw C) (zb_shl 1 t) ∧ zb_or (cw C) (zb_shl 1 t) < 2 ^ (ct C).toNat
    obtain ⟨w, hw⟩ := Int.eq_ofNat_of_zero_le h2.1
    obtain ⟨t, rfl⟩ := Int.eq_ofNat_of_zero_le ht.1
    rw [hw] at h2 ⊢
    rw [pw_n] at h2 ⊢
    exact bd_w (ct C).toNat (by omega) w (by omega) t (by omega)
  · have h4 := h3 i
    refine ⟨?_, h4.2⟩
    show 0 ≤ upI _ _ _ _ ∧ upI _ _ _ _ ≤ 9
    unfold upI
    split
    · exact hp
    · exact h4.1
theorem CW_chr {C : Cm} {a b : Int} (h : CW C) : CW (chr a b C) := CW_kn h (oo6 (h.2.2 b).2.2.1 (h.2.2 a).2.2.1)
theorem CW_cba {C : Cm} {t : Int} (h : CW C) : CW (cba t C) := by
  obtain ⟨h1, h2, h3⟩ := h
  refine ⟨h1, h2, fun i => ?_⟩
  have h4 := h3 i
  refine ⟨h4.1, h4.2.1, ?_, ?_⟩
  · show 0 ≤ upI _ _ _ _ ∧ upI _ _ _ _ < 64
    unfold upI
    split
    · exact ⟨by decide, by decide⟩
    · exact h4.2.2.1
  · show 0 ≤ upI _ _ _ _ ∧ upI _ _ _ _ ≤ 9
    unfold upI
    split
    · exact ⟨by decide, by decide⟩
    · exact h4.2.2.2
/-! reading the class's cells through the view -/
theorem vX_t (M : zm_M) (c : Nat) : ct (cvX M c) = M c 5 := rfl
theorem vX_p {M : zm_M} {c : Nat} {t : Int} (h : 0 ≤ t ∧ t < M c 5) : cp (cvX M c) t = M (c + 1) t := msk_in h.1 h.2
theorem vX_k {M : zm_M} {c : Nat} {t : Int} (h : 0 ≤ t ∧ t < M c 5) : ck (cvX M c) t = M (c + 2) t := msk_in h.1 h.2
theorem vX_n {M : zm_M} {c : Nat} {t : Int} (h : 0 ≤ t ∧ t < M c 5) : cn (cvX M c) t = M (c + 3) t := msk_in h.1 h.2
theorem vX_h {M : zm_M} {c : Nat} {t : Int} (h : 0 ≤ t ∧ t < M c 5) : ch (cvX M c) t = M (c + 4) t := msk_in h.1 h.2
theorem wX {M : zm_M} {c : Nat} (h : CW (cvX M c)) {t : Int} (ht : 0 ≤ t ∧ t < M c 5) : (0 ≤ M (c + 1) t ∧ M (c + 1) t ≤ 9) ∧ (0 ≤ M (c + 2) t ∧ M (c + 2) t ≤ 3) ∧ (0 ≤ M (c + 3) t ∧ M (c + 3) t < 64) ∧ (0 ≤ M (c + 4) t ∧ M (c + 4) t ≤ 9) := by
  have h1 := h.2.2 t
  rw [vX_p ht, vX_k ht, vX_n ht, vX_h ht] at h1
  exact h1
theorem wXt {M : zm_M} {c : Nat} (h : CW (cvX M c)) : 0 ≤ M c 5 ∧ M c 5 ≤ 4 := h.1
theorem wXw {M : zm_M} {c : Nat} (h : CW (cvX M c)) : 0 ≤ M c 4 ∧ M c 4 < 16 := ⟨h.2.1.1, h.w16⟩
theorem lX_p {M : zm_M} {l : Nat} {g : Int} (h : 0 ≤ g ∧ g < M l 3) : (lvX M l).2.1 g = M (l + 1) g := msk_in h.1 h.2
theorem lX_d {M : zm_M} {l : Nat} {g : Int} (h : 0 ≤ g ∧ g < M l 3) : (lvX M l).2.2.1 g = M (l + 2) g := msk_in h.1 h.2
theorem lX_y {M : zm_M} {l : Nat} {g k : Int} (h : 0 ≤ g ∧ g < M l 3) (hk : 0 ≤ k ∧ k < M (l + 2) g) : (lvX M l).2.2.2 g k = M (l + 3) (g * 4 + k) := if_pos ⟨h, hk⟩
theorem yX {M : zm_M} {l : Nat} (h : LW (lvX M l)) {g : Int} (hg : 0 ≤ g ∧ g < M l 3) : (0 ≤ M (l + 1) g ∧ M (l + 1) g ≤ 9) ∧ (0 ≤ M (l + 2) g ∧ M (l + 2) g ≤ 4) := by
  have h1 := h.2.1 g
  rw [lX_p hg, lX_d hg] at h1
  exact h1
theorem yXl {M : zm_M} {l : Nat} (h : LW (lvX M l)) {g k : Int} (hg : 0 ≤ g ∧ g < M l 3) (hk : 0 ≤ k ∧ k < M (l + 2) g) : 0 ≤ M (l + 3) (g * 4 + k) ∧ M (l + 3) (g * 4 + k) ≤ 5 := by
  have h1 := h.2.2 g k
  rw [lX_y hg hk] at h1
  exact h1
theorem yXk {M : zm_M} {l : Nat} (h : LW (lvX M l)) : 0 ≤ M l 3 ∧ M l 3 ≤ 4 := h.1
end
section
def bitG (L : Ln) (g : Int) : Int := fo (fun k b => zb_or b (zb_shl 1 (L.2.2.2 g k))) 0 (L.2.2.1 g).toNat
def figG (L : Ln) (g : Int) : Int := fo (fun k v => 10 * v + L.2.2.2 g k + 1) 0 (L.2.2.1 g).toNat
def bitL (L : Ln) : Int := fo (fun g b => zb_or b (bitG L g)) 0 L.1.toNat
def wgt (L : Ln) (cold x : Int) : Int := fo (fun g w => w * (if bt cold g = true then x else 10 - x)) 1 L.1.toNat
theorem bitG_in {L : Ln} (h : LW L) (g : Int) : 0 ≤ bitG L g ∧ bitG L g < 64 := by
  unfold bitG
  refine fo_p (P := fun b : Int => 0 ≤ b ∧ b < 64) ⟨by decide, by decide⟩ (fun i b _ _ hb => ?_)
  have := h.2.2 g i
  exact or6 hb ⟨this.1, by omega⟩
theorem bitL_in {L : Ln} (h : LW L) : 0 ≤ bitL L ∧ bitL L < 64 := by
  unfold bitL
  exact fo_p (P := fun b : Int => 0 ≤ b ∧ b < 64) ⟨by decide, by decide⟩ (fun i b _ _ hb => oo6 hb (bitG_in h i))
theorem and4 {s l : Int} (hs : 0 ≤ s ∧ s < 16) (hl : 0 ≤ l ∧ l < 4) : (zb_and s (zb_shl 1 l) = 0 ↔ bt s l = false) ∧ 0 ≤ zb_and s (zb_shl 1 l) ∧ zb_and s (zb_shl 1 l) < 64 := and6 ⟨hs.1, by omega⟩ ⟨hl.1, by omega⟩
set_option maxRecDepth 100000 in
set_option maxHeartbeats 4000000 in
theorem ct_X3_has {g : zt_G} {M : zm_M} {l : Nat} {q : Int → zm_M → Prop} (hl : zp_land l) (hw : LW (lvX M l)) {t : Int} (ht : zi t) (h : q (zb_B (0 ≤ t ∧ t < M l 3)) M) : zc_K g yX3_has mX3_has [zv_r l, zv_i t] M (zq_I q) := by
  refine zc_of (ls := [some (zv_r l), some (zv_i t)]) (by decide) rfl ⟨rfl, rfl⟩ (Nat.le_of_ble_eq_true rfl) rfl ?_
  have hw1 := yXk hw
  refine zr_iload_n (pc := 0) dX3_has_0 rfl rfl ?_
  refine zi_if_lt (pc := 1) (tgt := 16) dX3_has_1 (by decide) (by omega) (fun h1 => ?_) (fun h1 => ?_)
  · refine zr_iconst (pc := 16) dX3_has_16 ?_
    exact zr_zreturn (pc := 17) dX3_has_17 rfl (by decide) (zq_eq h (zb_F (by omega)))
  · refine zr_iload_n (pc := 4) dX3_has_4 rfl rfl ?_
    refine zr_aload_n (pc := 5) dX3_has_5 rfl rfl ?_
    refine zr_getI (pc := 6) (z := 3) fX3_21 hl.1 rfl rfl rfl dX3_has_6 ?_
    refine zi_icmp_ge (pc := 9) (tgt := 16) dX3_has_9 (by decide) (by omega) (by omega) (fun h9 => ?_) (fun h9 => ?_)
    · refine zr_iconst (pc := 16) dX3_has_16 ?_
      exact zr_zreturn (pc := 17) dX3_has_17 rfl (by decide) (zq_eq h (zb_F (by omega)))
    · refine zr_iconst (pc := 12) dX3_has_12 ?_
      refine zr_goto (pc := 13) (tgt := 17) dX3_has_13 (by decide) ?_
      exact zr_zreturn (pc := 17) dX3_has_17 rfl (by decide) (zq_eq h (zb_T (by omega)))

set_option maxRecDepth 100000 in
set_option maxHeartbeats 4000000 in
theorem ct_X3_layerOf {g : zt_G} {M : zm_M} {l : Nat} {q : Int → zm_M → Prop} (hl : zp_land l) {t k : Int} (ht : 0 ≤ t ∧ t < 4) (hk : 0 ≤ k ∧ k < 4) (h : q (M (l + 3) (t * 4 + k)) M) : zc_K g yX3_layerOf mX3_layerOf [zv_r l, zv_i t, zv_i k] M (zq_I q) := by
  refine zc_of (ls := [some (zv_r l), some (zv_i t), some (zv_i k)]) (by decide) rfl ⟨rfl, rfl⟩ (Nat.le_of_ble_eq_true rfl) rfl ?_
  refine zr_aload_n (pc := 0) dX3_layerOf_0 rfl rfl ?_
  refine zr_getR (pc := 1) fX3_18 hl.1 rfl rfl dX3_layerOf_1 ?_
  refine zr_iload_n (pc := 4) dX3_layerOf_4 rfl rfl ?_
  refine zr_iconst (pc := 5) dX3_layerOf_5 ?_
  refine zr_imul (pc := 6) dX3_layerOf_6 ?_
  refine zr_iload_n (pc := 7) dX3_layerOf_7 rfl rfl ?_
  refine zr_iadd (pc := 8) dX3_layerOf_8 ?_
  refine zr_iaload (pc := 9) hl.2.2.2 (by omega) dX3_layerOf_9 ?_
  exact zr_ireturn (pc := 10) dX3_layerOf_10 rfl (zq_eq h rfl)

set_option maxRecDepth 100000 in
set_option maxHeartbeats 4000000 in
theorem lp_X3_kilnAt {g : zt_G} {M : zm_M} {l : Nat} {q : Int → zm_M → Prop} (hl : zp_land l) (hw : LW (lvX M l)) {p : Int} (hp : zi p) : ∀ (n : Nat) (t : Int), (M l 3 - t).toNat = n → 0 ≤ t → t ≤ M l 3 → q (kat (lvX M l).2.1 p (M l 3 - t).toNat t) M → zc_Z g mX3_kilnAt 2 [some (zv_r l), some (zv_i p), some (zv_i t)] [] M (zq_I q) := by
  intro n
  induction n using Nat.strongRecOn with
  | ind n ih =>
    intro t hn h0 hle h
    have hw1 := yXk hw
    refine zr_iload_n (pc := 2) dX3_kilnAt_2 rfl rfl ?_
    refine zr_aload_n (pc := 3) dX3_kilnAt_3 rfl rfl ?_
    refine zr_getI (pc := 4) (z := 3) fX3_21 hl.1 rfl rfl rfl dX3_kilnAt_4 ?_
    refine zi_icmp_ge (pc := 7) (tgt := 28) dX3_kilnAt_7 (by decide) (by omega) (by omega) (fun h7 => ?_) (fun h7 => ?_)
    · refine zr_bipush (pc := 28) dX3_kilnAt_28 (by decide) ?_
      exact zr_ireturn (pc := 30) dX3_kilnAt_30 rfl (zq_eq h (by rw [show (M l 3 - t).toNat = 0 by omega]; rfl))
    · have hw2 := yX hw ⟨h0, h7⟩
      have e1 : (M l 3 - t).toNat = (M l 3 - (t + 1)).toNat + 1 := by omega
      rw [e1] at h
      unfold kat at h
      rw [lX_p ⟨h0, h7⟩] at h
      refine zr_aload_n (pc := 10) dX3_kilnAt_10 rfl rfl ?_
      refine zr_getR (pc := 11) fX3_9 hl.1 rfl rfl dX3_kilnAt_11 ?_
      refine zr_iload_n (pc := 14) dX3_kilnAt_14 rfl rfl ?_
      refine zr_iaload (pc := 15) hl.2.1 (by omega) dX3_kilnAt_15 ?_
      refine zr_iload_n (pc := 16) dX3_kilnAt_16 rfl rfl ?_
      refine zi_icmp_ne (pc := 17) (tgt := 22) dX3_kilnAt_17 (by decide) (by omega) (by omega) (fun h17 => ?_) (fun h17 => ?_)
      · rw [if_neg h17] at h
        refine zr_iinc (pc := 22) dX3_kilnAt_22 rfl (Nat.le_of_ble_eq_true rfl) rfl ?_
        refine zr_goto (pc := 25) (tgt := 2) dX3_kilnAt_25 (by decide) ?_
        exact ih _ (by omega) _ rfl (by omega) (by omega) h
      · rw [if_pos h17] at h
        refine zr_iload_n (pc := 20) dX3_kilnAt_20 rfl rfl ?_
        exact zr_ireturn (pc := 21) dX3_kilnAt_21 rfl (zq_eq h rfl)

set_option maxRecDepth 100000 in
set_option maxHeartbeats 4000000 in
theorem ct_X3_kilnAt {g : zt_G} {M : zm_M} {l : Nat} {q : Int → zm_M → Prop} (hl : zp_land l) (hw : LW (lvX M l)) {p : Int} (hp : zi p) (h : q (kiA (lvX M l) p) M) : zc_K g yX3_kilnAt mX3_kilnAt [zv_r l, zv_i p] M (zq_I q) := by
  refine zc_of (ls := [some (zv_r l), some (zv_i p)]) (by decide) rfl ⟨rfl, rfl⟩ (Nat.le_of_ble_eq_true rfl) rfl ?_
  refine zr_iconst (pc := 0) dX3_kilnAt_0 ?_
  refine zr_istore_n (pc := 1) dX3_kilnAt_1 rfl (Nat.le_of_ble_eq_true rfl) rfl ?_
  exact lp_X3_kilnAt hl hw hp _ _ rfl (Int.le_refl 0) (yXk hw).1 (by rw [Int.sub_zero]; exact h)

set_option maxRecDepth 100000 in
set_option maxHeartbeats 4000000 in
theorem lp_X3_bitsOf {g : zt_G} {M : zm_M} {l : Nat} {q : Int → zm_M → Prop} (hl : zp_land l) (hw : LW (lvX M l)) {t : Int} (ht : 0 ≤ t ∧ t < M l 3) (h : q (bitG (lvX M l) t) M) : ∀ (n : Nat) (b k : Int), (M (l + 2) t - k).toNat = n → 0 ≤ k → k ≤ M (l + 2) t → b = fo (fun k b => zb_or b (zb_shl 1 ((lvX M l).2.2.2 t k))) 0 k.toNat → zc_Z g mX3_bitsOf 4 [some (zv_r l), some (zv_i t), some (zv_i b), some (zv_i k)] [] M (zq_I q) := by
  intro n
  induction n using Nat.strongRecOn with
  | ind n ih =>
    intro b k hn h0 h1 hb
    have hw1 := yXk hw
    have hw2 := yX hw ht
    refine zr_iload_n (pc := 4) dX3_bitsOf_4 rfl rfl ?_
    refine zr_aload_n (pc := 5) dX3_bitsOf_5 rfl rfl ?_
    refine zr_getR (pc := 6) fX3_15 hl.1 rfl rfl dX3_bitsOf_6 ?_
    refine zr_iload_n (pc := 9) dX3_bitsOf_9 rfl rfl ?_
    refine zr_iaload (pc := 10) hl.2.2.1 (by omega) dX3_bitsOf_10 ?_
    refine zi_icmp_ge (pc := 11) (tgt := 31) dX3_bitsOf_11 (by decide) (by omega) (by omega) (fun h11 => ?_) (fun h11 => ?_)
    · refine zr_iload_n (pc := 31) dX3_bitsOf_31 rfl rfl ?_
      exact zr_ireturn (pc := 32) dX3_bitsOf_32 rfl (zq_eq h (by unfold bitG; rw [hb, lX_d ht, show k = M (l + 2) t by omega]))
    · refine zr_iload_n (pc := 14) dX3_bitsOf_14 rfl rfl ?_
      refine zr_iconst (pc := 15) dX3_bitsOf_15 ?_
      refine zr_aload_n (pc := 16) dX3_bitsOf_16 rfl rfl ?_
      refine zr_iload_n (pc := 17) dX3_bitsOf_17 rfl rfl ?_
      refine zr_iload_n (pc := 18) dX3_bitsOf_18 rfl rfl ?_
      refine zr_inv2I (pc := 19) rfl sX3_39 hl.1 rfl rfl rfl dX3_bitsOf_19 ?_
      refine ct_X3_layerOf hl (by omega) (by omega) ?_
      refine zr_ishl (pc := 22) dX3_bitsOf_22 ?_
      refine zr_ior (pc := 23) dX3_bitsOf_23 ?_
      refine zr_istore_n (pc := 24) dX3_bitsOf_24 rfl (Nat.le_of_ble_eq_true rfl) rfl ?_
      refine zr_iinc (pc := 25) dX3_bitsOf_25 rfl (Nat.le_of_ble_eq_true rfl) rfl ?_
      refine zr_goto (pc := 28) (tgt := 4) dX3_bitsOf_28 (by decide) ?_
      exact ih _ (by omega) _ _ rfl (by omega) (by omega) (by rw [fo_s h0, ← hb, lX_y ht ⟨h0, by omega⟩])

set_option maxRecDepth 100000 in
set_option maxHeartbeats 4000000 in
theorem ct_X3_bitsOf {g : zt_G} {M : zm_M} {l : Nat} {q : Int → zm_M → Prop} (hl : zp_land l) (hw : LW (lvX M l)) {t : Int} (ht : 0 ≤ t ∧ t < M l 3) (h : q (bitG (lvX M l) t) M) : zc_K g yX3_bitsOf mX3_bitsOf [zv_r l, zv_i t] M (zq_I q) := by
  refine zc_of (ls := [some (zv_r l), some (zv_i t)]) (by decide) rfl ⟨rfl, rfl⟩ (Nat.le_of_ble_eq_true rfl) rfl ?_
  have hw2 := yX hw ht
  refine zr_iconst (pc := 0) dX3_bitsOf_0 ?_
  refine zr_istore_n (pc := 1) dX3_bitsOf_1 rfl (Nat.le_of_ble_eq_true rfl) rfl ?_
  refine zr_iconst (pc := 2) dX3_bitsOf_2 ?_
  refine zr_istore_n (pc := 3) dX3_bitsOf_3 rfl (Nat.le_of_ble_eq_true rfl) rfl ?_
  exact lp_X3_bitsOf hl hw ht h _ _ _ rfl (by omega) (by omega) rfl

set_option maxRecDepth 100000 in
set_option maxHeartbeats 4000000 in
theorem lp_X3_figuresOf {g : zt_G} {M : zm_M} {l : Nat} {q : Int → zm_M → Prop} (hl : zp_land l) (hw : LW (lvX M l)) {t : Int} (ht : 0 ≤ t ∧ t < M l 3) (h : q (figG (lvX M l) t) M) : ∀ (n : Nat) (b k : Int), (M (l + 2) t - k).toNat = n → 0 ≤ k → k ≤ M (l + 2) t → b = fo (fun k v => 10 * v + (lvX M l).2.2.2 t k + 1) 0 k.toNat → zc_Z g mX3_figuresOf 4 [some (zv_r l), some (zv_i t), some (zv_i b), some (zv_i k)] [] M (zq_I q) := by
  intro n
  induction n using Nat.strongRecOn with
  | ind n ih =>
    intro b k hn h0 h1 hb
    have hw1 := yXk hw
    have hw2 := yX hw ht
    refine zr_iload_n (pc := 4) dX3_figuresOf_4 rfl rfl ?_
    refine zr_aload_n (pc := 5) dX3_figuresOf_5 rfl rfl ?_
    refine zr_getR (pc := 6) fX3_15 hl.1 rfl rfl dX3_figuresOf_6 ?_
    refine zr_iload_n (pc := 9) dX3_figuresOf_9 rfl rfl ?_
    refine zr_iaload (pc := 10) hl.2.2.1 (by omega) dX3_figuresOf_10 ?_
    refine zi_icmp_ge (pc := 11) (tgt := 34) dX3_figuresOf_11 (by decide) (by omega) (by omega) (fun h11 => ?_) (fun h11 => ?_)
    · refine zr_iload_n (pc := 34) dX3_figuresOf_34 rfl rfl ?_
      exact zr_ireturn (pc := 35) dX3_figuresOf_35 rfl (zq_eq h (by unfold figG; rw [hb, lX_d ht, show k = M (l + 2) t by omega]))
    · refine zr_bipush (pc := 14) dX3_figuresOf_14 (by decide) ?_
      refine zr_iload_n (pc := 16) dX3_figuresOf_16 rfl rfl ?_
      refine zr_imul (pc := 17) dX3_figuresOf_17 ?_
      refine zr_aload_n (pc := 18) dX3_figuresOf_18 rfl rfl ?_
      refine zr_iload_n (pc := 19) dX3_figuresOf_19 rfl rfl ?_
      refine zr_iload_n (pc := 20) dX3_figuresOf_20 rfl rfl ?_
      refine zr_inv2I (pc := 21) rfl sX3_39 hl.1 rfl rfl rfl dX3_figuresOf_21 ?_
      refine ct_X3_layerOf hl (by omega) (by omega) ?_
      refine zr_iadd (pc := 24) dX3_figuresOf_24 ?_
      refine zr_iconst (pc := 25) dX3_figuresOf_25 ?_
      refine zr_iadd (pc := 26) dX3_figuresOf_26 ?_
      refine zr_istore_n (pc := 27) dX3_figuresOf_27 rfl (Nat.le_of_ble_eq_true rfl) rfl ?_
      refine zr_iinc (pc := 28) dX3_figuresOf_28 rfl (Nat.le_of_ble_eq_true rfl) rfl ?_
      refine zr_goto (pc := 31) (tgt := 4) dX3_figuresOf_31 (by decide) ?_
      exact ih _ (by omega) _ _ rfl (by omega) (by omega) (by rw [fo_s h0, ← hb, lX_y ht ⟨h0, by omega⟩])

set_option maxRecDepth 100000 in
set_option maxHeartbeats 4000000 in
theorem ct_X3_figuresOf {g : zt_G} {M : zm_M} {l : Nat} {q : Int → zm_M → Prop} (hl : zp_land l) (hw : LW (lvX M l)) {t : Int} (ht : 0 ≤ t ∧ t < M l 3) (h : q (figG (lvX M l) t) M) : zc_K g yX3_figuresOf mX3_figuresOf [zv_r l, zv_i t] M (zq_I q) := by
  refine zc_of (ls := [some (zv_r l), some (zv_i t)]) (by decide) rfl ⟨rfl, rfl⟩ (Nat.le_of_ble_eq_true rfl) rfl ?_
  have hw2 := yX hw ht
  refine zr_iconst (pc := 0) dX3_figuresOf_0 ?_
  refine zr_istore_n (pc := 1) dX3_figuresOf_1 rfl (Nat.le_of_ble_eq_true rfl) rfl ?_
  refine zr_iconst (pc := 2) dX3_figuresOf_2 ?_
  refine zr_istore_n (pc := 3) dX3_figuresOf_3 rfl (Nat.le_of_ble_eq_true rfl) rfl ?_
  exact lp_X3_figuresOf hl hw ht h _ _ _ rfl (by omega) (by omega) rfl

set_option maxRecDepth 100000 in
set_option maxHeartbeats 4000000 in
theorem lp_X3_bitsOfAll {g : zt_G} {M : zm_M} {l : Nat} {q : Int → zm_M → Prop} (hl : zp_land l) (hw : LW (lvX M l)) (h : q (bitL (lvX M l)) M) : ∀ (n : Nat) (b k : Int), (M l 3 - k).toNat = n → 0 ≤ k → k ≤ M l 3 → b = fo (fun g b => zb_or b (bitG (lvX M l) g)) 0 k.toNat → zc_Z g mX3_bitsOfAll 4 [some (zv_r l), some (zv_i b), some (zv_i k)] [] M (zq_I q) := by
  intro n
  induction n using Nat.strongRecOn with
  | ind n ih =>
    intro b k hn h0 h1 hb
    have hw1 := yXk hw
    refine zr_iload_n (pc := 4) dX3_bitsOfAll_4 rfl rfl ?_
    refine zr_aload_n (pc := 5) dX3_bitsOfAll_5 rfl rfl ?_
    refine zr_getI (pc := 6) (z := 3) fX3_21 hl.1 rfl rfl rfl dX3_bitsOfAll_6 ?_
    refine zi_icmp_ge (pc := 9) (tgt := 26) dX3_bitsOfAll_9 (by decide) (by omega) (by omega) (fun h9 => ?_) (fun h9 => ?_)
    · refine zr_iload_n (pc := 26) dX3_bitsOfAll_26 rfl rfl ?_
      exact zr_ireturn (pc := 27) dX3_bitsOfAll_27 rfl (zq_eq h (by unfold bitL; rw [hb, show k = M l 3 by omega]; rfl))
    · refine zr_iload_n (pc := 12) dX3_bitsOfAll_12 rfl rfl ?_
      refine zr_aload_n (pc := 13) dX3_bitsOfAll_13 rfl rfl ?_
      refine zr_iload_n (pc := 14) dX3_bitsOfAll_14 rfl rfl ?_
      refine zr_inv1I (pc := 15) rfl sX3_35 hl.1 rfl rfl rfl dX3_bitsOfAll_15 ?_
      refine ct_X3_bitsOf hl hw ⟨h0, by omega⟩ ?_
      refine zr_ior (pc := 18) dX3_bitsOfAll_18 ?_
      refine zr_istore_n (pc := 19) dX3_bitsOfAll_19 rfl (Nat.le_of_ble_eq_true rfl) rfl ?_
      refine zr_iinc (pc := 20) dX3_bitsOfAll_20 rfl (Nat.le_of_ble_eq_true rfl) rfl ?_
      refine zr_goto (pc := 23) (tgt := 4) dX3_bitsOfAll_23 (by decide) ?_
      exact ih _ (by omega) _ _ rfl (by omega) (by omega) (by rw [fo_s h0, ← hb])

set_option maxRecDepth 100000 in
set_option maxHeartbeats 4000000 in
theorem ct_X3_bitsOfAll {g : zt_G} {M : zm_M} {l : Nat} {q : Int → zm_M → Prop} (hl : zp_land l) (hw : LW (lvX M l)) (h : q (bitL (lvX M l)) M) : zc_K g yX3_bitsOfAll mX3_bitsOfAll [zv_r l] M (zq_I q) := by
  refine zc_of (ls := [some (zv_r l)]) (by decide) rfl ⟨rfl, rfl⟩ (Nat.le_of_ble_eq_true rfl) rfl ?_
  have hw1 := yXk hw
  refine zr_iconst (pc := 0) dX3_bitsOfAll_0 ?_
  refine zr_istore_n (pc := 1) dX3_bitsOfAll_1 rfl (Nat.le_of_ble_eq_true rfl) rfl ?_
  refine zr_iconst (pc := 2) dX3_bitsOfAll_2 ?_
  refine zr_istore_n (pc := 3) dX3_bitsOfAll_3 rfl (Nat.le_of_ble_eq_true rfl) rfl ?_
  exact lp_X3_bitsOfAll hl hw h _ _ _ rfl (by omega) (by omega) rfl

set_option maxRecDepth 100000 in
set_option maxHeartbeats 4000000 in
theorem lp_X3_weightOf {g : zt_G} {M : zm_M} {l : Nat} {q : Int → zm_M → Prop} (hl : zp_land l) (hw : LW (lvX M l)) {cd x : Int} (hcd : 0 ≤ cd ∧ cd < 16) (h : q (wgt (lvX M l) cd x) M) : ∀ (n : Nat) (b k : Int), (M l 3 - k).toNat = n → 0 ≤ k → k ≤ M l 3 → b = fo (fun g w => w * (if bt cd g = true then x else 10 - x)) 1 k.toNat → zc_Z g mX3_weightOf 5 [some (zv_r l), some (zv_i cd), some (zv_i x), some (zv_i b), some (zv_i k)] [] M (zq_I q) := by
  intro n
  induction n using Nat.strongRecOn with
  | ind n ih =>
    intro b k hn h0 h1 hb
    have hw1 := yXk hw
    refine zr_iload (pc := 5) dX3_weightOf_5 rfl ?_
    refine zr_aload_n (pc := 7) dX3_weightOf_7 rfl rfl ?_
    refine zr_getI (pc := 8) (z := 3) fX3_21 hl.1 rfl rfl rfl dX3_weightOf_8 ?_
    refine zi_icmp_ge (pc := 11) (tgt := 40) dX3_weightOf_11 (by decide) (by omega) (by omega) (fun h11 => ?_) (fun h11 => ?_)
    · refine zr_iload_n (pc := 40) dX3_weightOf_40 rfl rfl ?_
      exact zr_ireturn (pc := 41) dX3_weightOf_41 rfl (zq_eq h (by unfold wgt; rw [hb, show k = M l 3 by omega]; rfl))
    · have hb4 := and4 hcd ⟨h0, by omega⟩
      refine zr_iload_n (pc := 14) dX3_weightOf_14 rfl rfl ?_
      refine zr_iload_n (pc := 15) dX3_weightOf_15 rfl rfl ?_
      refine zr_iconst (pc := 16) dX3_weightOf_16 ?_
      refine zr_iload (pc := 17) dX3_weightOf_17 rfl ?_
      refine zr_ishl (pc := 19) dX3_weightOf_19 ?_
      refine zr_iand (pc := 20) dX3_weightOf_20 ?_
      refine zi_if_eq (pc := 21) (tgt := 28) dX3_weightOf_21 (by decide) (by omega) (fun h21 => ?_) (fun h21 => ?_)
      · have hbt : ¬ bt cd k = true := by rw [hb4.1.mp h21]; decide
        refine zr_bipush (pc := 28) dX3_weightOf_28 (by decide) ?_
        refine zr_iload_n (pc := 30) dX3_weightOf_30 rfl rfl ?_
        refine zr_isub (pc := 31) dX3_weightOf_31 ?_
        refine zr_imul (pc := 32) dX3_weightOf_32 ?_
        refine zr_istore_n (pc := 33) dX3_weightOf_33 rfl (Nat.le_of_ble_eq_true rfl) rfl ?_
        refine zr_iinc (pc := 34) dX3_weightOf_34 rfl (Nat.le_of_ble_eq_true rfl) rfl ?_
        refine zr_goto (pc := 37) (tgt := 5) dX3_weightOf_37 (by decide) ?_
        exact ih _ (by omega) _ _ rfl (by omega) (by omega) (by rw [fo_s h0, ← hb, if_neg hbt])
      · have hbt : bt cd k = true := by
          cases hx : bt cd k with
          | true => rfl
          | false => exact absurd (hb4.1.mpr hx) h21
        refine zr_iload_n (pc := 24) dX3_weightOf_24 rfl rfl ?_
        refine zr_goto (pc := 25) (tgt := 32) dX3_weightOf_25 (by decide) ?_
        refine zr_imul (pc := 32) dX3_weightOf_32 ?_
        refine zr_istore_n (pc := 33) dX3_weightOf_33 rfl (Nat.le_of_ble_eq_true rfl) rfl ?_
        refine zr_iinc (pc := 34) dX3_weightOf_34 rfl (Nat.le_of_ble_eq_true rfl) rfl ?_
        refine zr_goto (pc := 37) (tgt := 5) dX3_weightOf_37 (by decide) ?_
        exact ih _ (by omega) _ _ rfl (by omega) (by omega) (by rw [fo_s h0, ← hb, if_pos hbt])

set_option maxRecDepth 100000 in
set_option maxHeartbeats 4000000 in
theorem ct_X3_weightOf {g : zt_G} {M : zm_M} {l : Nat} {q : Int → zm_M → Prop} (hl : zp_land l) (hw : LW (lvX M l)) {cd x : Int} (hcd : 0 ≤ cd ∧ cd < 16) (h : q (wgt (lvX M l) cd x) M) : zc_K g yX3_weightOf mX3_weightOf [zv_r l, zv_i cd, zv_i x] M (zq_I q) := by
  refine zc_of (ls := [some (zv_r l), some (zv_i cd), some (zv_i x)]) (by decide) rfl ⟨rfl, rfl⟩ (Nat.le_of_ble_eq_true rfl) rfl ?_
  have hw1 := yXk hw
  refine zr_iconst (pc := 0) dX3_weightOf_0 ?_
  refine zr_istore_n (pc := 1) dX3_weightOf_1 rfl (Nat.le_of_ble_eq_true rfl) rfl ?_
  refine zr_iconst (pc := 2) dX3_weightOf_2 ?_
  refine zr_istore (pc := 3) dX3_weightOf_3 (Nat.le_of_ble_eq_true rfl) rfl ?_
  exact lp_X3_weightOf hl hw hcd h _ _ _ rfl (by omega) (by omega) rfl

set_option maxRecDepth 100000 in
set_option maxHeartbeats 4000000 in
theorem ct_X3_clear {g : zt_G} {M : zm_M} {l : Nat} {q : zm_M → Prop} (hl : zp_land l) (h : q (zm_put M l 3 0)) : zc_K g yX3_clear mX3_clear [zv_r l] M (zq_V q) := by
  refine zc_of (ls := [some (zv_r l)]) (by decide) rfl ⟨rfl, rfl⟩ (Nat.le_of_ble_eq_true rfl) rfl ?_
  refine zr_aload_n (pc := 0) dX3_clear_0 rfl rfl ?_
  refine zr_iconst (pc := 1) dX3_clear_1 ?_
  refine zr_putI (pc := 2) (z := 3) fX3_21 hl.1 rfl fwX3_3 rfl rfl dX3_clear_2 ?_
  exact zr_return (pc := 5) dX3_clear_5 rfl h

def lAdK (p : Int) (L : Ln) : Ln := (L.1 + 1, upI L.2.1 L.1 p, upI L.2.2.1 L.1 0, L.2.2.2)
def lAdL (a : Int) (L : Ln) : Ln := (L.1, L.2.1, upI L.2.2.1 (L.1 - 1) (L.2.2.1 (L.1 - 1) + 1), fun g k => if g = L.1 - 1 ∧ k = L.2.2.1 (L.1 - 1) then a else L.2.2.2 g k)
theorem msk_s {n : Int} {f : Int → Int} {v : Int} (h : 0 ≤ n) : msk (n + 1) (upI f n v) = upI (msk n f) n v := by
  funext i
  unfold msk upI
  by_cases hi : i = n
  · subst hi
    rw [if_pos ⟨h, by omega⟩]
    simp
  · by_cases h2 : 0 ≤ i ∧ i < n
    · simp only [if_neg hi, if_pos h2]
      rw [if_pos ⟨h2.1, by omega⟩]
    · simp only [if_neg hi, if_neg h2]
      rw [if_neg (by omega)]
theorem lvX_adK {M : zm_M} {l : Nat} {p : Int} (h : 0 ≤ M l 3) : lvX (zm_put (zm_put (zm_put M (l + 1) (M l 3) p) (l + 2) (M l 3) 0) l 3 (M l 3 + 1)) l = lAdK p (lvX M l) := by
  have a0 : zm_put (zm_put (zm_put M (l + 1) (M l 3) p) (l + 2) (M l 3) 0) l 3 (M l 3 + 1) l 3 = M l 3 + 1 := by simp [zm_put]
  have a1 : zm_put (zm_put (zm_put M (l + 1) (M l 3) p) (l + 2) (M l 3) 0) l 3 (M l 3 + 1) (l + 1) = upI (M (l + 1)) (M l 3) p := by
    rw [put_ne _ _ _ (show l + 1 ≠ l by omega), put_ne _ _ _ (show l + 1 ≠ l + 2 by omega), put_up]
  have a2 : zm_put (zm_put (zm_put M (l + 1) (M l 3) p) (l + 2) (M l 3) 0) l 3 (M l 3 + 1) (l + 2) = upI (M (l + 2)) (M l 3) 0 := by
    rw [put_ne _ _ _ (show l + 2 ≠ l by omega), put_up, put_ne _ _ _ (show l + 2 ≠ l + 1 by omega)]
  have a3 : zm_put (zm_put (zm_put M (l + 1) (M l 3) p) (l + 2) (M l 3) 0) l 3 (M l 3 + 1) (l + 3) = M (l + 3) := by
    rw [put_ne _ _ _ (show l + 3 ≠ l by omega), put_ne _ _ _ (show l + 3 ≠ l + 2 by omega), put_ne _ _ _ (show l + 3 ≠ l + 1 by omega)]
  unfold lvX lyX lAdK
  rw [a0, a1, a2, a3, msk_s h, msk_s h]
  refine Prod.ext rfl (Prod.ext rfl (Prod.ext rfl ?_))
  funext g k
  show (if _ then _ else _) = (if _ then _ else _)
  unfold upI
  by_cases hg : g = M l 3
  · subst hg
    rw [if_neg (by simp only [if_true]; omega), if_neg (by omega)]
  · simp only [if_neg hg]
    by_cases h2 : (0 ≤ g ∧ g < M l 3) ∧ 0 ≤ k ∧ k < M (l + 2) g
    · rw [if_pos ⟨⟨h2.1.1, by omega⟩, h2.2⟩, if_pos h2]
    · rw [if_neg (fun x => h2 ⟨⟨x.1.1, by omega⟩, x.2⟩), if_neg h2]
theorem lvX_adL {M : zm_M} {l : Nat} {a : Int} (h : 0 < M l 3 ∧ M l 3 ≤ 4) (hd : 0 ≤ M (l + 2) (M l 3 - 1) ∧ M (l + 2) (M l 3 - 1) < 4) (hdd : ∀ g, 0 ≤ g → g < M l 3 → 0 ≤ M (l + 2) g ∧ M (l + 2) g ≤ 4) : lvX (zm_put (zm_put M (l + 3) ((M l 3 - 1) * 4 + M (l + 2) (M l 3 - 1)) a) (l + 2) (M l 3 - 1) (M (l + 2) (M l 3 - 1) + 1)) l = lAdL a (lvX M l) := by
  have a0 : zm_put (zm_put M (l + 3) ((M l 3 - 1) * 4 + M (l + 2) (M l 3 - 1)) a) (l + 2) (M l 3 - 1) (M (l + 2) (M l 3 - 1) + 1) l = M l := by
    rw [put_ne _ _ _ (show l ≠ l + 2 by omega), put_ne _ _ _ (show l ≠ l + 3 by omega)]
  have a1 : zm_put (zm_put M (l + 3) ((M l 3 - 1) * 4 + M (l + 2) (M l 3 - 1)) a) (l + 2) (M l 3 - 1) (M (l + 2) (M l 3 - 1) + 1) (l + 1) = M (l + 1) := by
    rw [put_ne _ _ _ (show l + 1 ≠ l + 2 by omega), put_ne _ _ _ (show l + 1 ≠ l + 3 by omega)]
  have a2 : zm_put (zm_put M (l + 3) ((M l 3 - 1) * 4 + M (l + 2) (M l 3 - 1)) a) (l + 2) (M l 3 - 1) (M (l + 2) (M l 3 - 1) + 1) (l + 2) = upI (M (l + 2)) (M l 3 - 1) (M (l + 2) (M l 3 - 1) + 1) := by
    rw [put_up, put_ne _ _ _ (show l + 2 ≠ l + 3 by omega)]
  have a3 : zm_put (zm_put M (l + 3) ((M l 3 - 1) * 4 + M (l + 2) (M l 3 - 1)) a) (l + 2) (M l 3 - 1) (M (l + 2) (M l 3 - 1) + 1) (l + 3) = upI (M (l + 3)) ((M l 3 - 1) * 4 + M (l + 2) (M l 3 - 1)) a := by
    rw [put_ne _ _ _ (show l + 3 ≠ l + 2 by omega), put_up]
  have e1 : msk (M l 3) (M (l + 2)) (M l 3 - 1) = M (l + 2) (M l 3 - 1) := msk_in (by omega) (by omega)
  unfold lvX lyX lAdL
  rw [a0, a1, a2, a3, msk_up (by omega) (by omega)]
  simp only [e1]
  refine Prod.ext rfl (Prod.ext rfl (Prod.ext rfl ?_))
  funext g k
  show (if _ then _ else _) = (if _ then _ else _)
  unfold upI
  by_cases hg : g = M l 3 - 1
  · subst hg
    simp only [if_true, true_and]
    by_cases hk : k = M (l + 2) (M l 3 - 1)
    · subst hk
      simp only [if_true]
      rw [if_pos ⟨⟨by omega, by omega⟩, by omega, by omega⟩]
    · rw [if_neg hk]
      rw [if_neg (fun x => hk (by omega) : ¬ (M l 3 - 1) * 4 + k = (M l 3 - 1) * 4 + M (l + 2) (M l 3 - 1))]
      by_cases h2 : (0 ≤ M l 3 - 1 ∧ M l 3 - 1 < M l 3) ∧ 0 ≤ k ∧ k < M (l + 2) (M l 3 - 1)
      · rw [if_pos ⟨h2.1, h2.2.1, by omega⟩, if_pos h2]
      · rw [if_neg (fun x => h2 ⟨x.1, x.2.1, by omega⟩), if_neg h2]
  · simp only [if_neg hg, if_neg (fun x => hg x.1 : ¬ (g = M l 3 - 1 ∧ k = M (l + 2) (M l 3 - 1)))]
    by_cases h2 : (0 ≤ g ∧ g < M l 3) ∧ 0 ≤ k ∧ k < M (l + 2) g
    · have h3 := hdd g h2.1.1 h2.1.2
      rw [if_pos h2, if_pos h2, if_neg (by omega)]
    · rw [if_neg h2, if_neg h2]
theorem lvX_cpy {M M2 : zm_M} {a b : Nat} (h0 : M2 b 3 = M a 3) (h1 : ∀ i, 0 ≤ i → i < 4 → M2 (b + 1) i = M (a + 1) i) (h2 : ∀ i, 0 ≤ i → i < 4 → M2 (b + 2) i = M (a + 2) i) (h3 : ∀ i, 0 ≤ i → i < 16 → M2 (b + 3) i = M (a + 3) i) (hw : LW (lvX M a)) : lvX M2 b = lvX M a := by
  have hk := yXk hw
  unfold lvX lyX
  rw [h0]
  have e1 : msk (M a 3) (M2 (b + 1)) = msk (M a 3) (M (a + 1)) := by
    funext i
    unfold msk
    split
    · exact h1 i (by omega) (by omega)
    · rfl
  have e2 : msk (M a 3) (M2 (b + 2)) = msk (M a 3) (M (a + 2)) := by
    funext i
    unfold msk
    split
    · exact h2 i (by omega) (by omega)
    · rfl
  rw [e1, e2]
  refine Prod.ext rfl (Prod.ext rfl (Prod.ext rfl ?_))
  funext g k
  show (if _ then _ else _) = (if _ then _ else _)
  by_cases hg : 0 ≤ g ∧ g < M a 3
  · have hd := (yX hw hg).2
    rw [h2 g (by omega) (by omega)]
    by_cases h4 : (0 ≤ g ∧ g < M a 3) ∧ 0 ≤ k ∧ k < M (a + 2) g
    · rw [if_pos h4, if_pos h4, h3 _ (by omega) (by omega)]
    · rw [if_neg h4, if_neg h4]
  · rw [if_neg (fun x => hg x.1), if_neg (fun x => hg x.1)]
set_option maxRecDepth 100000 in
set_option maxHeartbeats 4000000 in
theorem ct_X3_addKiln {g : zt_G} {M : zm_M} {l : Nat} {q : zm_M → Prop} (hl : zp_land l) {p : Int} (hk : 0 ≤ M l 3 ∧ M l 3 < 4) (h : q (zm_put (zm_put (zm_put M (l + 1) (M l 3) p) (l + 2) (M l 3) 0) l 3 (M l 3 + 1))) : zc_K g yX3_addKiln mX3_addKiln [zv_r l, zv_i p] M (zq_V q) := by
  refine zc_of (ls := [some (zv_r l), some (zv_i p)]) (by decide) rfl ⟨rfl, rfl⟩ (Nat.le_of_ble_eq_true rfl) rfl ?_
  have a0 : zm_put M (l + 1) (M l 3) p l 3 = M l 3 := by rw [put_ne _ _ _ (show l ≠ l + 1 by omega)]
  have a1 : zm_put (zm_put M (l + 1) (M l 3) p) (l + 2) (M l 3) 0 l 3 = M l 3 := by rw [put_ne _ _ _ (show l ≠ l + 2 by omega), a0]
  refine zr_aload_n (pc := 0) dX3_addKiln_0 rfl rfl ?_
  refine zr_getI (pc := 1) (z := 3) fX3_21 hl.1 rfl rfl rfl dX3_addKiln_1 ?_
  refine zr_iconst (pc := 4) dX3_addKiln_4 ?_
  refine zi_icmp_ge (pc := 5) (tgt := 38) dX3_addKiln_5 (by decide) (by omega) (by omega) (fun h5 => ?_) (fun h5 => ?_)
  · exact zr_return (pc := 38) dX3_addKiln_38 rfl (absurd h5 (by omega))
  · refine zr_aload_n (pc := 8) dX3_addKiln_8 rfl rfl ?_
    refine zr_getR (pc := 9) fX3_9 hl.1 rfl rfl dX3_addKiln_9 ?_
    refine zr_aload_n (pc := 12) dX3_addKiln_12 rfl rfl ?_
    refine zr_getI (pc := 13) (z := 3) fX3_21 hl.1 rfl rfl rfl dX3_addKiln_13 ?_
    refine zr_iload_n (pc := 16) dX3_addKiln_16 rfl rfl ?_
    refine zr_iastore (pc := 17) hl.2.1 (by omega) dX3_addKiln_17 ?_
    refine zr_aload_n (pc := 18) dX3_addKiln_18 rfl rfl ?_
    refine zr_getR (pc := 19) fX3_15 hl.1 rfl rfl dX3_addKiln_19 ?_
    refine zr_aload_n (pc := 22) dX3_addKiln_22 rfl rfl ?_
    refine zr_getI (pc := 23) (z := 3) fX3_21 hl.1 rfl rfl rfl dX3_addKiln_23 ?_
    rw [a0]
    refine zr_iconst (pc := 26) dX3_addKiln_26 ?_
    refine zr_iastore (pc := 27) hl.2.2.1 (by omega) dX3_addKiln_27 ?_
    refine zr_aload_n (pc := 28) dX3_addKiln_28 rfl rfl ?_
    refine zr_dup_r (pc := 29) dX3_addKiln_29 ?_
    refine zr_getI (pc := 30) (z := 3) fX3_21 hl.1 rfl rfl rfl dX3_addKiln_30 ?_
    rw [a1]
    refine zr_iconst (pc := 33) dX3_addKiln_33 ?_
    refine zr_iadd (pc := 34) dX3_addKiln_34 ?_
    refine zr_putI (pc := 35) (z := 3) fX3_21 hl.1 rfl fwX3_3 rfl rfl dX3_addKiln_35 ?_
    exact zr_return (pc := 38) dX3_addKiln_38 rfl h

theorem bitG_c {M : zm_M} {l : Nat} : True := trivial
set_option maxRecDepth 100000 in
set_option maxHeartbeats 4000000 in
theorem ct_X3_addLayer {g : zt_G} {M : zm_M} {l : Nat} {q : Int → zm_M → Prop} (hl : zp_land l) (hw : LW (lvX M l)) {a : Int} (hk : 0 < M l 3) (ha : 0 ≤ a ∧ a < 6) (hno : (4 ≤ M (l + 2) (M l 3 - 1) ∨ bt (bitG (lvX M l) (M l 3 - 1)) a = true) → q 0 M) (hyes : ¬ (4 ≤ M (l + 2) (M l 3 - 1) ∨ bt (bitG (lvX M l) (M l 3 - 1)) a = true) → q 1 (zm_put (zm_put M (l + 3) ((M l 3 - 1) * 4 + M (l + 2) (M l 3 - 1)) a) (l + 2) (M l 3 - 1) (M (l + 2) (M l 3 - 1) + 1))) : zc_K g yX3_addLayer mX3_addLayer [zv_r l, zv_i a] M (zq_I q) := by
  refine zc_of (ls := [some (zv_r l), some (zv_i a)]) (by decide) rfl ⟨rfl, rfl⟩ (Nat.le_of_ble_eq_true rfl) rfl ?_
  have hw1 := yXk hw
  have hw2 := yX hw (g := M l 3 - 1) ⟨by omega, by omega⟩
  have hb := bitG_in hw (M l 3 - 1)
  have hba := and6 hb ha
  have a0 : zm_put M (l + 3) ((M l 3 - 1) * 4 + M (l + 2) (M l 3 - 1)) a (l + 2) (M l 3 - 1) = M (l + 2) (M l 3 - 1) := by rw [put_ne _ _ _ (show l + 2 ≠ l + 3 by omega)]
  refine zr_aload_n (pc := 0) dX3_addLayer_0 rfl rfl ?_
  refine zr_getI (pc := 1) (z := 3) fX3_21 hl.1 rfl rfl rfl dX3_addLayer_1 ?_
  refine zr_iconst (pc := 4) dX3_addLayer_4 ?_
  refine zr_isub (pc := 5) dX3_addLayer_5 ?_
  refine zr_istore_n (pc := 6) dX3_addLayer_6 rfl (Nat.le_of_ble_eq_true rfl) rfl ?_
  refine zr_aload_n (pc := 7) dX3_addLayer_7 rfl rfl ?_
  refine zr_iload_n (pc := 8) dX3_addLayer_8 rfl rfl ?_
  refine zr_inv1I (pc := 9) rfl sX3_31 hl.1 rfl rfl rfl dX3_addLayer_9 ?_
  refine ct_X3_has hl hw (by omega) ?_
  refine zr_ifb_eq (pc := 12) (tgt := 37) dX3_addLayer_12 (by decide) (fun h12 => ?_) (fun h12 => ?_)
  · refine zr_iconst (pc := 37) dX3_addLayer_37 ?_
    exact zr_zreturn (pc := 38) dX3_addLayer_38 rfl (by decide) (absurd (show 0 ≤ M l 3 - 1 ∧ M l 3 - 1 < M l 3 by omega) h12)
  · refine zr_aload_n (pc := 15) dX3_addLayer_15 rfl rfl ?_
    refine zr_getR (pc := 16) fX3_15 hl.1 rfl rfl dX3_addLayer_16 ?_
    refine zr_iload_n (pc := 19) dX3_addLayer_19 rfl rfl ?_
    refine zr_iaload (pc := 20) hl.2.2.1 (by omega) dX3_addLayer_20 ?_
    refine zr_iconst (pc := 21) dX3_addLayer_21 ?_
    refine zi_icmp_ge (pc := 22) (tgt := 37) dX3_addLayer_22 (by decide) (by omega) (by omega) (fun h22 => ?_) (fun h22 => ?_)
    · refine zr_iconst (pc := 37) dX3_addLayer_37 ?_
      exact zr_zreturn (pc := 38) dX3_addLayer_38 rfl (by decide) (hno (Or.inl h22))
    · refine zr_aload_n (pc := 25) dX3_addLayer_25 rfl rfl ?_
      refine zr_iload_n (pc := 26) dX3_addLayer_26 rfl rfl ?_
      refine zr_inv1I (pc := 27) rfl sX3_35 hl.1 rfl rfl rfl dX3_addLayer_27 ?_
      refine ct_X3_bitsOf hl hw (by omega) ?_
      refine zr_iconst (pc := 30) dX3_addLayer_30 ?_
      refine zr_iload_n (pc := 31) dX3_addLayer_31 rfl rfl ?_
      refine zr_ishl (pc := 32) dX3_addLayer_32 ?_
      refine zr_iand (pc := 33) dX3_addLayer_33 ?_
      refine zi_if_eq (pc := 34) (tgt := 39) dX3_addLayer_34 (by decide) (by omega) (fun h34 => ?_) (fun h34 => ?_)
      · refine zr_aload_n (pc := 39) dX3_addLayer_39 rfl rfl ?_
        refine zr_getR (pc := 40) fX3_18 hl.1 rfl rfl dX3_addLayer_40 ?_
        refine zr_iload_n (pc := 43) dX3_addLayer_43 rfl rfl ?_
        refine zr_iconst (pc := 44) dX3_addLayer_44 ?_
        refine zr_imul (pc := 45) dX3_addLayer_45 ?_
        refine zr_aload_n (pc := 46) dX3_addLayer_46 rfl rfl ?_
        refine zr_getR (pc := 47) fX3_15 hl.1 rfl rfl dX3_addLayer_47 ?_
        refine zr_iload_n (pc := 50) dX3_addLayer_50 rfl rfl ?_
        refine zr_iaload (pc := 51) hl.2.2.1 (by omega) dX3_addLayer_51 ?_
        refine zr_iadd (pc := 52) dX3_addLayer_52 ?_
        refine zr_iload_n (pc := 53) dX3_addLayer_53 rfl rfl ?_
        refine zr_iastore (pc := 54) hl.2.2.2 (by omega) dX3_addLayer_54 ?_
        refine zr_aload_n (pc := 55) dX3_addLayer_55 rfl rfl ?_
        refine zr_getR (pc := 56) fX3_15 hl.1 rfl rfl dX3_addLayer_56 ?_
        refine zr_iload_n (pc := 59) dX3_addLayer_59 rfl rfl ?_
        refine zr_dup2_ir (pc := 60) dX3_addLayer_60 ?_
        refine zr_iaload (pc := 61) hl.2.2.1 (by omega) dX3_addLayer_61 ?_
        rw [a0]
        refine zr_iconst (pc := 62) dX3_addLayer_62 ?_
        refine zr_iadd (pc := 63) dX3_addLayer_63 ?_
        refine zr_iastore (pc := 64) hl.2.2.1 (by omega) dX3_addLayer_64 ?_
        refine zr_iconst (pc := 65) dX3_addLayer_65 ?_
        exact zr_zreturn (pc := 66) dX3_addLayer_66 rfl (by decide) (hyes (fun x => x.elim (fun y => by omega) (fun y => by rw [hba.1.mp h34] at y; cases y)))
      · refine zr_iconst (pc := 37) dX3_addLayer_37 ?_
        exact zr_zreturn (pc := 38) dX3_addLayer_38 rfl (by decide) (hno (Or.inr (by cases hx : bt (bitG (lvX M l) (M l 3 - 1)) a with | true => rfl | false => exact absurd (hba.1.mpr hx) h34)))

set_option maxRecDepth 100000 in
set_option maxHeartbeats 4000000 in
theorem ct_X3_copyFrom {g : zt_G} {M : zm_M} {q : zm_M → Prop} (hw : LW (lvX M 4)) (h : ∀ M2, frL 13 M M2 → lvX M2 13 = lvX M 4 → q M2) : zc_K g yX3_copyFrom mX3_copyFrom [zv_r 13, zv_r 4] M (zq_V q) := by
  refine zc_of (ls := [some (zv_r 13), some (zv_r 4)]) (by decide) rfl ⟨rfl, rfl⟩ (Nat.le_of_ble_eq_true rfl) rfl ?_
  refine zr_aload_n (pc := 0) dX3_copyFrom_0 rfl rfl ?_
  refine zr_getR (pc := 1) fX3_9 lo_4 rfl rfl dX3_copyFrom_1 ?_
  refine zr_iconst (pc := 4) dX3_copyFrom_4 ?_
  refine zr_aload_n (pc := 5) dX3_copyFrom_5 rfl rfl ?_
  refine zr_getR (pc := 6) fX3_9 lo_13 rfl rfl dX3_copyFrom_6 ?_
  refine zr_iconst (pc := 9) dX3_copyFrom_9 ?_
  refine zr_iconst (pc := 10) dX3_copyFrom_10 ?_
  refine zr_copyi (pc := 11) rfl sX3_25 lo_5 lo_14 (by omega) (by omega) rfl dX3_copyFrom_11 ?_
  refine zr_aload_n (pc := 14) dX3_copyFrom_14 rfl rfl ?_
  refine zr_getR (pc := 15) fX3_15 lo_4 rfl rfl dX3_copyFrom_15 ?_
  refine zr_iconst (pc := 18) dX3_copyFrom_18 ?_
  refine zr_aload_n (pc := 19) dX3_copyFrom_19 rfl rfl ?_
  refine zr_getR (pc := 20) fX3_15 lo_13 rfl rfl dX3_copyFrom_20 ?_
  refine zr_iconst (pc := 23) dX3_copyFrom_23 ?_
  refine zr_iconst (pc := 24) dX3_copyFrom_24 ?_
  refine zr_copyi (pc := 25) rfl sX3_25 lo_6 lo_15 (by omega) (by omega) rfl dX3_copyFrom_25 ?_
  refine zr_aload_n (pc := 28) dX3_copyFrom_28 rfl rfl ?_
  refine zr_getR (pc := 29) fX3_18 lo_4 rfl rfl dX3_copyFrom_29 ?_
  refine zr_iconst (pc := 32) dX3_copyFrom_32 ?_
  refine zr_aload_n (pc := 33) dX3_copyFrom_33 rfl rfl ?_
  refine zr_getR (pc := 34) fX3_18 lo_13 rfl rfl dX3_copyFrom_34 ?_
  refine zr_iconst (pc := 37) dX3_copyFrom_37 ?_
  refine zr_bipush (pc := 38) dX3_copyFrom_38 (by decide) ?_
  refine zr_copyi (pc := 40) rfl sX3_25 lo_7 lo_16 (by omega) (by omega) rfl dX3_copyFrom_40 ?_
  refine zr_aload_n (pc := 43) dX3_copyFrom_43 rfl rfl ?_
  refine zr_aload_n (pc := 44) dX3_copyFrom_44 rfl rfl ?_
  refine zr_getI (pc := 45) (z := 3) fX3_21 lo_4 rfl rfl rfl dX3_copyFrom_45 ?_
  refine zr_putI (pc := 48) (z := 3) fX3_21 lo_13 rfl fwX3_3 rfl rfl dX3_copyFrom_48 ?_
  exact zr_return (pc := 51) dX3_copyFrom_51 rfl (h _ (fun k i hk => by
      rcases hk with hk | hk <;> simp [zm_put, zm_cpy, show k ≠ 13 by omega, show k ≠ 14 by omega, show k ≠ 15 by omega, show k ≠ 16 by omega]) (lvX_cpy (by simp [zm_put, zm_cpy]) (fun i h0 h1 => by simp [zm_put, zm_cpy, h0, h1]) (fun i h0 h1 => by simp [zm_put, zm_cpy, h0, h1]) (fun i h0 h1 => by simp [zm_put, zm_cpy, h0, h1]) hw))
end
