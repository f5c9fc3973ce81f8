section
-- ===== PART A: goes FIRST, ahead of the names: the tables' words, and 'selects' of the private methods out of them =====
/-- a private method of a class that the tables say can be made, by its rows of tables_1 -/
def lw_okq (q : MethodName × Nat) : Prop := (q.1.cls ≠ "java/lang/invoke/MethodHandle" ∧ q.1.cls ≠ "java/lang/invoke/VarHandle") ∧ Cond.instantiable q.1.cls q.2 ∈ tables_1 ∧ Cond.privateMethod q.1 ∈ tables_1 ∧ Cond.instanceMethod q.1 ∈ tables_1
theorem lw_p0 : lw_okq (⟨"RoadShut", "tapeFour", "(I)V"⟩, 14) := ⟨⟨by decide +kernel, by decide +kernel⟩, List.mem_of_getElem? (i := 21) (by decide +kernel), List.mem_of_getElem? (i := 360) (by decide +kernel), List.mem_of_getElem? (i := 361) (by decide +kernel)⟩
theorem lw_p1 : lw_okq (⟨"RoadShut$Reader", "begin", "(LRoadShut$Land;[BI)V"⟩, 12) := ⟨⟨by decide +kernel, by decide +kernel⟩, List.mem_of_getElem? (i := 29) (by decide +kernel), List.mem_of_getElem? (i := 376) (by decide +kernel), List.mem_of_getElem? (i := 377) (by decide +kernel)⟩
theorem lw_p2 : lw_okq (⟨"RoadShut$Reader", "step", "()V"⟩, 12) := ⟨⟨by decide +kernel, by decide +kernel⟩, List.mem_of_getElem? (i := 29) (by decide +kernel), List.mem_of_getElem? (i := 383) (by decide +kernel), List.mem_of_getElem? (i := 384) (by decide +kernel)⟩
theorem lw_p3 : lw_okq (⟨"RoadShut$Reader", "kindAt", "(I)I"⟩, 12) := ⟨⟨by decide +kernel, by decide +kernel⟩, List.mem_of_getElem? (i := 29) (by decide +kernel), List.mem_of_getElem? (i := 387) (by decide +kernel), List.mem_of_getElem? (i := 388) (by decide +kernel)⟩
theorem lw_p4 : lw_okq (⟨"RoadShut$Reader", "signAt", "(I)I"⟩, 12) := ⟨⟨by decide +kernel, by decide +kernel⟩, List.mem_of_getElem? (i := 29) (by decide +kernel), List.mem_of_getElem? (i := 392) (by decide +kernel), List.mem_of_getElem? (i := 393) (by decide +kernel)⟩
theorem lw_p5 : lw_okq (⟨"RoadShut$Reader", "readWinter", "()V"⟩, 12) := ⟨⟨by decide +kernel, by decide +kernel⟩, List.mem_of_getElem? (i := 29) (by decide +kernel), List.mem_of_getElem? (i := 396) (by decide +kernel), List.mem_of_getElem? (i := 397) (by decide +kernel)⟩
theorem lw_p6 : lw_okq (⟨"RoadShut$Reader", "takeWord", "(Ljava/lang/String;)V"⟩, 12) := ⟨⟨by decide +kernel, by decide +kernel⟩, List.mem_of_getElem? (i := 29) (by decide +kernel), List.mem_of_getElem? (i := 401) (by decide +kernel), List.mem_of_getElem? (i := 402) (by decide +kernel)⟩
theorem lw_p7 : lw_okq (⟨"RoadShut$Reader", "isWord", "(Ljava/lang/String;)Z"⟩, 12) := ⟨⟨by decide +kernel, by decide +kernel⟩, List.mem_of_getElem? (i := 29) (by decide +kernel), List.mem_of_getElem? (i := 405) (by decide +kernel), List.mem_of_getElem? (i := 406) (by decide +kernel)⟩
theorem lw_p8 : lw_okq (⟨"RoadShut$Reader", "refuse", "(I)V"⟩, 12) := ⟨⟨by decide +kernel, by decide +kernel⟩, List.mem_of_getElem? (i := 29) (by decide +kernel), List.mem_of_getElem? (i := 457) (by decide +kernel), List.mem_of_getElem? (i := 458) (by decide +kernel)⟩
theorem lw_p9 : lw_okq (⟨"RoadShut$Reader", "takeNamed", "(Ljava/lang/String;II)I"⟩, 12) := ⟨⟨by decide +kernel, by decide +kernel⟩, List.mem_of_getElem? (i := 29) (by decide +kernel), List.mem_of_getElem? (i := 462) (by decide +kernel), List.mem_of_getElem? (i := 463) (by decide +kernel)⟩
theorem lw_p10 : lw_okq (⟨"RoadShut$Reader", "takeNumber", "(II)I"⟩, 12) := ⟨⟨by decide +kernel, by decide +kernel⟩, List.mem_of_getElem? (i := 29) (by decide +kernel), List.mem_of_getElem? (i := 466) (by decide +kernel), List.mem_of_getElem? (i := 467) (by decide +kernel)⟩
theorem lw_p11 : lw_okq (⟨"RoadShut$Reader", "readThing", "()V"⟩, 12) := ⟨⟨by decide +kernel, by decide +kernel⟩, List.mem_of_getElem? (i := 29) (by decide +kernel), List.mem_of_getElem? (i := 474) (by decide +kernel), List.mem_of_getElem? (i := 475) (by decide +kernel)⟩
theorem lw_p12 : lw_okq (⟨"RoadShut$Reader", "readValley", "()V"⟩, 12) := ⟨⟨by decide +kernel, by decide +kernel⟩, List.mem_of_getElem? (i := 29) (by decide +kernel), List.mem_of_getElem? (i := 482) (by decide +kernel), List.mem_of_getElem? (i := 483) (by decide +kernel)⟩
theorem lw_p13 : lw_okq (⟨"RoadShut$Reader", "readLorry", "()V"⟩, 12) := ⟨⟨by decide +kernel, by decide +kernel⟩, List.mem_of_getElem? (i := 29) (by decide +kernel), List.mem_of_getElem? (i := 490) (by decide +kernel), List.mem_of_getElem? (i := 491) (by decide +kernel)⟩
theorem lw_p14 : lw_okq (⟨"RoadShut$Reader", "readPlane", "()V"⟩, 12) := ⟨⟨by decide +kernel, by decide +kernel⟩, List.mem_of_getElem? (i := 29) (by decide +kernel), List.mem_of_getElem? (i := 498) (by decide +kernel), List.mem_of_getElem? (i := 499) (by decide +kernel)⟩
theorem lw_p15 : lw_okq (⟨"RoadShut$Reader", "readMule", "()V"⟩, 12) := ⟨⟨by decide +kernel, by decide +kernel⟩, List.mem_of_getElem? (i := 29) (by decide +kernel), List.mem_of_getElem? (i := 503) (by decide +kernel), List.mem_of_getElem? (i := 504) (by decide +kernel)⟩
def lw_privs_1 : List (MethodName × Nat) := [(⟨"RoadShut", "tapeFour", "(I)V"⟩, 14), (⟨"RoadShut$Reader", "begin", "(LRoadShut$Land;[BI)V"⟩, 12), (⟨"RoadShut$Reader", "step", "()V"⟩, 12), (⟨"RoadShut$Reader", "kindAt", "(I)I"⟩, 12), (⟨"RoadShut$Reader", "signAt", "(I)I"⟩, 12), (⟨"RoadShut$Reader", "readWinter", "()V"⟩, 12), (⟨"RoadShut$Reader", "takeWord", "(Ljava/lang/String;)V"⟩, 12), (⟨"RoadShut$Reader", "isWord", "(Ljava/lang/String;)Z"⟩, 12), (⟨"RoadShut$Reader", "refuse", "(I)V"⟩, 12), (⟨"RoadShut$Reader", "takeNamed", "(Ljava/lang/String;II)I"⟩, 12), (⟨"RoadShut$Reader", "takeNumber", "(II)I"⟩, 12), (⟨"RoadShut$Reader", "readThing", "()V"⟩, 12), (⟨"RoadShut$Reader", "readValley", "()V"⟩, 12), (⟨"RoadShut$Reader", "readLorry", "()V"⟩, 12), (⟨"RoadShut$Reader", "readPlane", "()V"⟩, 12), (⟨"RoadShut$Reader", "readMule", "()V"⟩, 12)]
theorem lw_r1 : ∀ q ∈ lw_privs_1, lw_okq q := List.forall_mem_cons.mpr ⟨lw_p0, List.forall_mem_cons.mpr ⟨lw_p1, List.forall_mem_cons.mpr ⟨lw_p2, List.forall_mem_cons.mpr ⟨lw_p3, List.forall_mem_cons.mpr ⟨lw_p4, List.forall_mem_cons.mpr ⟨lw_p5, List.forall_mem_cons.mpr ⟨lw_p6, List.forall_mem_cons.mpr ⟨lw_p7, List.forall_mem_cons.mpr ⟨lw_p8, List.forall_mem_cons.mpr ⟨lw_p9, List.forall_mem_cons.mpr ⟨lw_p10, List.forall_mem_cons.mpr ⟨lw_p11, List.forall_mem_cons.mpr ⟨lw_p12, List.forall_mem_cons.mpr ⟨lw_p13, List.forall_mem_cons.mpr ⟨lw_p14, List.forall_mem_cons.mpr ⟨lw_p15, fun _ h => absurd h List.not_mem_nil⟩⟩⟩⟩⟩⟩⟩⟩⟩⟩⟩⟩⟩⟩⟩⟩
theorem lw_p16 : lw_okq (⟨"RoadShut$Reader", "readPath", "()V"⟩, 12) := ⟨⟨by decide +kernel, by decide +kernel⟩, List.mem_of_getElem? (i := 29) (by decide +kernel), List.mem_of_getElem? (i := 508) (by decide +kernel), List.mem_of_getElem? (i := 509) (by decide +kernel)⟩
theorem lw_p17 : lw_okq (⟨"RoadShut$Reader", "takeStop", "()V"⟩, 12) := ⟨⟨by decide +kernel, by decide +kernel⟩, List.mem_of_getElem? (i := 29) (by decide +kernel), List.mem_of_getElem? (i := 525) (by decide +kernel), List.mem_of_getElem? (i := 526) (by decide +kernel)⟩
theorem lw_p18 : lw_okq (⟨"RoadShut$Roads", "shutSecond", "(LRoadShut$Land;III)J"⟩, 7) := ⟨⟨by decide +kernel, by decide +kernel⟩, List.mem_of_getElem? (i := 202) (by decide +kernel), List.mem_of_getElem? (i := 585) (by decide +kernel), List.mem_of_getElem? (i := 586) (by decide +kernel)⟩
theorem lw_p19 : lw_okq (⟨"RoadShut$Roads", "skyOfTwo", "(LRoadShut$Land;II)J"⟩, 7) := ⟨⟨by decide +kernel, by decide +kernel⟩, List.mem_of_getElem? (i := 202) (by decide +kernel), List.mem_of_getElem? (i := 589) (by decide +kernel), List.mem_of_getElem? (i := 590) (by decide +kernel)⟩
theorem lw_p20 : lw_okq (⟨"RoadShut$Roads", "splitBothOpen", "(LRoadShut$Land;III)V"⟩, 7) := ⟨⟨by decide +kernel, by decide +kernel⟩, List.mem_of_getElem? (i := 202) (by decide +kernel), List.mem_of_getElem? (i := 593) (by decide +kernel), List.mem_of_getElem? (i := 594) (by decide +kernel)⟩
theorem lw_p21 : lw_okq (⟨"RoadShut$Roads", "splitFrom", "(LRoadShut$Land;IIJ)V"⟩, 7) := ⟨⟨by decide +kernel, by decide +kernel⟩, List.mem_of_getElem? (i := 202) (by decide +kernel), List.mem_of_getElem? (i := 609) (by decide +kernel), List.mem_of_getElem? (i := 610) (by decide +kernel)⟩
theorem lw_p22 : lw_okq (⟨"RoadShut$Stores", "forget", "()V"⟩, 5) := ⟨⟨by decide +kernel, by decide +kernel⟩, List.mem_of_getElem? (i := 196) (by decide +kernel), List.mem_of_getElem? (i := 675) (by decide +kernel), List.mem_of_getElem? (i := 676) (by decide +kernel)⟩
theorem lw_p23 : lw_okq (⟨"RoadShut$Stores", "gather", "(IJ)V"⟩, 5) := ⟨⟨by decide +kernel, by decide +kernel⟩, List.mem_of_getElem? (i := 196) (by decide +kernel), List.mem_of_getElem? (i := 682) (by decide +kernel), List.mem_of_getElem? (i := 683) (by decide +kernel)⟩
theorem lw_p24 : lw_okq (⟨"RoadShut$Stores", "sumUp", "(LRoadShut$Land;III)V"⟩, 5) := ⟨⟨by decide +kernel, by decide +kernel⟩, List.mem_of_getElem? (i := 196) (by decide +kernel), List.mem_of_getElem? (i := 689) (by decide +kernel), List.mem_of_getElem? (i := 690) (by decide +kernel)⟩
theorem lw_p25 : lw_okq (⟨"RoadShut$Stores", "savingMost", "(LRoadShut$Land;)I"⟩, 5) := ⟨⟨by decide +kernel, by decide +kernel⟩, List.mem_of_getElem? (i := 196) (by decide +kernel), List.mem_of_getElem? (i := 754) (by decide +kernel), List.mem_of_getElem? (i := 755) (by decide +kernel)⟩
theorem lw_p26 : lw_okq (⟨"RoadShut$Planner", "settle", "(I)V"⟩, 10) := ⟨⟨by decide +kernel, by decide +kernel⟩, List.mem_of_getElem? (i := 248) (by decide +kernel), List.mem_of_getElem? (i := 791) (by decide +kernel), List.mem_of_getElem? (i := 792) (by decide +kernel)⟩
theorem lw_p27 : lw_okq (⟨"RoadShut$Planner", "weigh", "(I)V"⟩, 10) := ⟨⟨by decide +kernel, by decide +kernel⟩, List.mem_of_getElem? (i := 248) (by decide +kernel), List.mem_of_getElem? (i := 795) (by decide +kernel), List.mem_of_getElem? (i := 796) (by decide +kernel)⟩
theorem lw_p28 : lw_okq (⟨"RoadShut$Planner", "fewestOf", "([JI)I"⟩, 10) := ⟨⟨by decide +kernel, by decide +kernel⟩, List.mem_of_getElem? (i := 248) (by decide +kernel), List.mem_of_getElem? (i := 801) (by decide +kernel), List.mem_of_getElem? (i := 802) (by decide +kernel)⟩
theorem lw_p29 : lw_okq (⟨"RoadShut", "shareState", "(IIII)I"⟩, 14) := ⟨⟨by decide +kernel, by decide +kernel⟩, List.mem_of_getElem? (i := 21) (by decide +kernel), List.mem_of_getElem? (i := 901) (by decide +kernel), List.mem_of_getElem? (i := 902) (by decide +kernel)⟩
theorem lw_p30 : lw_okq (⟨"RoadShut$Sharing", "byParts", "(II)I"⟩, 1) := ⟨⟨by decide +kernel, by decide +kernel⟩, List.mem_of_getElem? (i := 287) (by decide +kernel), List.mem_of_getElem? (i := 923) (by decide +kernel), List.mem_of_getElem? (i := 924) (by decide +kernel)⟩
theorem lw_p31 : lw_okq (⟨"RoadShut$Sharing", "sumUpTo", "(I)I"⟩, 1) := ⟨⟨by decide +kernel, by decide +kernel⟩, List.mem_of_getElem? (i := 287) (by decide +kernel), List.mem_of_getElem? (i := 927) (by decide +kernel), List.mem_of_getElem? (i := 928) (by decide +kernel)⟩
def lw_privs_2 : List (MethodName × Nat) := [(⟨"RoadShut$Reader", "readPath", "()V"⟩, 12), (⟨"RoadShut$Reader", "takeStop", "()V"⟩, 12), (⟨"RoadShut$Roads", "shutSecond", "(LRoadShut$Land;III)J"⟩, 7), (⟨"RoadShut$Roads", "skyOfTwo", "(LRoadShut$Land;II)J"⟩, 7), (⟨"RoadShut$Roads", "splitBothOpen", "(LRoadShut$Land;III)V"⟩, 7), (⟨"RoadShut$Roads", "splitFrom", "(LRoadShut$Land;IIJ)V"⟩, 7), (⟨"RoadShut$Stores", "forget", "()V"⟩, 5), (⟨"RoadShut$Stores", "gather", "(IJ)V"⟩, 5), (⟨"RoadShut$Stores", "sumUp", "(LRoadShut$Land;III)V"⟩, 5), (⟨"RoadShut$Stores", "savingMost", "(LRoadShut$Land;)I"⟩, 5), (⟨"RoadShut$Planner", "settle", "(I)V"⟩, 10), (⟨"RoadShut$Planner", "weigh", "(I)V"⟩, 10), (⟨"RoadShut$Planner", "fewestOf", "([JI)I"⟩, 10), (⟨"RoadShut", "shareState", "(IIII)I"⟩, 14), (⟨"RoadShut$Sharing", "byParts", "(II)I"⟩, 1), (⟨"RoadShut$Sharing", "sumUpTo", "(I)I"⟩, 1)]
theorem lw_r2 : ∀ q ∈ lw_privs_2, lw_okq q := List.forall_mem_cons.mpr ⟨lw_p16, List.forall_mem_cons.mpr ⟨lw_p17, List.forall_mem_cons.mpr ⟨lw_p18, List.forall_mem_cons.mpr ⟨lw_p19, List.forall_mem_cons.mpr ⟨lw_p20, List.forall_mem_cons.mpr ⟨lw_p21, List.forall_mem_cons.mpr ⟨lw_p22, List.forall_mem_cons.mpr ⟨lw_p23, List.forall_mem_cons.mpr ⟨lw_p24, List.forall_mem_cons.mpr ⟨lw_p25, List.forall_mem_cons.mpr ⟨lw_p26, List.forall_mem_cons.mpr ⟨lw_p27, List.forall_mem_cons.mpr ⟨lw_p28, List.forall_mem_cons.mpr ⟨lw_p29, List.forall_mem_cons.mpr ⟨lw_p30, List.forall_mem_cons.mpr ⟨lw_p31, fun _ h => absurd h List.not_mem_nil⟩⟩⟩⟩⟩⟩⟩⟩⟩⟩⟩⟩⟩⟩⟩⟩
theorem lw_p32 : lw_okq (⟨"RoadShut$Sharing", "level", "(I)I"⟩, 1) := ⟨⟨by decide +kernel, by decide +kernel⟩, List.mem_of_getElem? (i := 287) (by decide +kernel), List.mem_of_getElem? (i := 931) (by decide +kernel), List.mem_of_getElem? (i := 932) (by decide +kernel)⟩
theorem lw_p33 : lw_okq (⟨"RoadShut", "bestAsked", "(IIII)I"⟩, 14) := ⟨⟨by decide +kernel, by decide +kernel⟩, List.mem_of_getElem? (i := 21) (by decide +kernel), List.mem_of_getElem? (i := 940) (by decide +kernel), List.mem_of_getElem? (i := 941) (by decide +kernel)⟩
theorem lw_p34 : lw_okq (⟨"RoadShut", "lossIfAsked", "(IIIII)J"⟩, 14) := ⟨⟨by decide +kernel, by decide +kernel⟩, List.mem_of_getElem? (i := 21) (by decide +kernel), List.mem_of_getElem? (i := 944) (by decide +kernel), List.mem_of_getElem? (i := 945) (by decide +kernel)⟩
theorem lw_p35 : lw_okq (⟨"RoadShut", "costOfHeld", "(III)J"⟩, 14) := ⟨⟨by decide +kernel, by decide +kernel⟩, List.mem_of_getElem? (i := 21) (by decide +kernel), List.mem_of_getElem? (i := 965) (by decide +kernel), List.mem_of_getElem? (i := 966) (by decide +kernel)⟩
theorem lw_p36 : lw_okq (⟨"RoadShut", "costOfTwoStores", "(III)J"⟩, 14) := ⟨⟨by decide +kernel, by decide +kernel⟩, List.mem_of_getElem? (i := 21) (by decide +kernel), List.mem_of_getElem? (i := 974) (by decide +kernel), List.mem_of_getElem? (i := 975) (by decide +kernel)⟩
theorem lw_p37 : lw_okq (⟨"RoadShut$Dice", "draw", "()I"⟩, 1) := ⟨⟨by decide +kernel, by decide +kernel⟩, List.mem_of_getElem? (i := 297) (by decide +kernel), List.mem_of_getElem? (i := 996) (by decide +kernel), List.mem_of_getElem? (i := 997) (by decide +kernel)⟩
theorem lw_p38 : lw_okq (⟨"RoadShut", "slotsInUse", "()I"⟩, 14) := ⟨⟨by decide +kernel, by decide +kernel⟩, List.mem_of_getElem? (i := 21) (by decide +kernel), List.mem_of_getElem? (i := 1059) (by decide +kernel), List.mem_of_getElem? (i := 1060) (by decide +kernel)⟩
theorem lw_p39 : lw_okq (⟨"RoadShutModel", "four", "(I)V"⟩, 43) := ⟨⟨by decide +kernel, by decide +kernel⟩, List.mem_of_getElem? (i := 1121) (by decide +kernel), List.mem_of_getElem? (i := 1285) (by decide +kernel), List.mem_of_getElem? (i := 1286) (by decide +kernel)⟩
theorem lw_p40 : lw_okq (⟨"RoadShutModel", "clears", "()V"⟩, 43) := ⟨⟨by decide +kernel, by decide +kernel⟩, List.mem_of_getElem? (i := 1121) (by decide +kernel), List.mem_of_getElem? (i := 1301) (by decide +kernel), List.mem_of_getElem? (i := 1302) (by decide +kernel)⟩
theorem lw_p41 : lw_okq (⟨"RoadShutModel", "begins", "()V"⟩, 43) := ⟨⟨by decide +kernel, by decide +kernel⟩, List.mem_of_getElem? (i := 1121) (by decide +kernel), List.mem_of_getElem? (i := 1305) (by decide +kernel), List.mem_of_getElem? (i := 1306) (by decide +kernel)⟩
theorem lw_p42 : lw_okq (⟨"RoadShutModel", "next", "()V"⟩, 43) := ⟨⟨by decide +kernel, by decide +kernel⟩, List.mem_of_getElem? (i := 1121) (by decide +kernel), List.mem_of_getElem? (i := 1309) (by decide +kernel), List.mem_of_getElem? (i := 1310) (by decide +kernel)⟩
theorem lw_p43 : lw_okq (⟨"RoadShutModel", "isByte", "(III)Z"⟩, 43) := ⟨⟨by decide +kernel, by decide +kernel⟩, List.mem_of_getElem? (i := 1121) (by decide +kernel), List.mem_of_getElem? (i := 1313) (by decide +kernel), List.mem_of_getElem? (i := 1314) (by decide +kernel)⟩
theorem lw_p44 : lw_okq (⟨"RoadShutModel", "isGood", "()Z"⟩, 43) := ⟨⟨by decide +kernel, by decide +kernel⟩, List.mem_of_getElem? (i := 1121) (by decide +kernel), List.mem_of_getElem? (i := 1322) (by decide +kernel), List.mem_of_getElem? (i := 1323) (by decide +kernel)⟩
theorem lw_p45 : lw_okq (⟨"RoadShutModel", "winterLine", "()V"⟩, 43) := ⟨⟨by decide +kernel, by decide +kernel⟩, List.mem_of_getElem? (i := 1121) (by decide +kernel), List.mem_of_getElem? (i := 1326) (by decide +kernel), List.mem_of_getElem? (i := 1327) (by decide +kernel)⟩
theorem lw_p46 : lw_okq (⟨"RoadShutModel", "asks", "(J)V"⟩, 43) := ⟨⟨by decide +kernel, by decide +kernel⟩, List.mem_of_getElem? (i := 1121) (by decide +kernel), List.mem_of_getElem? (i := 1331) (by decide +kernel), List.mem_of_getElem? (i := 1332) (by decide +kernel)⟩
theorem lw_p47 : lw_okq (⟨"RoadShutModel", "takes", "(J)Z"⟩, 43) := ⟨⟨by decide +kernel, by decide +kernel⟩, List.mem_of_getElem? (i := 1121) (by decide +kernel), List.mem_of_getElem? (i := 1335) (by decide +kernel), List.mem_of_getElem? (i := 1336) (by decide +kernel)⟩
def lw_privs_3 : List (MethodName × Nat) := [(⟨"RoadShut$Sharing", "level", "(I)I"⟩, 1), (⟨"RoadShut", "bestAsked", "(IIII)I"⟩, 14), (⟨"RoadShut", "lossIfAsked", "(IIIII)J"⟩, 14), (⟨"RoadShut", "costOfHeld", "(III)J"⟩, 14), (⟨"RoadShut", "costOfTwoStores", "(III)J"⟩, 14), (⟨"RoadShut$Dice", "draw", "()I"⟩, 1), (⟨"RoadShut", "slotsInUse", "()I"⟩, 14), (⟨"RoadShutModel", "four", "(I)V"⟩, 43), (⟨"RoadShutModel", "clears", "()V"⟩, 43), (⟨"RoadShutModel", "begins", "()V"⟩, 43), (⟨"RoadShutModel", "next", "()V"⟩, 43), (⟨"RoadShutModel", "isByte", "(III)Z"⟩, 43), (⟨"RoadShutModel", "isGood", "()Z"⟩, 43), (⟨"RoadShutModel", "winterLine", "()V"⟩, 43), (⟨"RoadShutModel", "asks", "(J)V"⟩, 43), (⟨"RoadShutModel", "takes", "(J)Z"⟩, 43)]
theorem lw_r3 : ∀ q ∈ lw_privs_3, lw_okq q := List.forall_mem_cons.mpr ⟨lw_p32, List.forall_mem_cons.mpr ⟨lw_p33, List.forall_mem_cons.mpr ⟨lw_p34, List.forall_mem_cons.mpr ⟨lw_p35, List.forall_mem_cons.mpr ⟨lw_p36, List.forall_mem_cons.mpr ⟨lw_p37, List.forall_mem_cons.mpr ⟨lw_p38, List.forall_mem_cons.mpr ⟨lw_p39, List.forall_mem_cons.mpr ⟨lw_p40, List.forall_mem_cons.mpr ⟨lw_p41, List.forall_mem_cons.mpr ⟨lw_p42, List.forall_mem_cons.mpr ⟨lw_p43, List.forall_mem_cons.mpr ⟨lw_p44, List.forall_mem_cons.mpr ⟨lw_p45, List.forall_mem_cons.mpr ⟨lw_p46, List.forall_mem_cons.mpr ⟨lw_p47, fun _ h => absurd h List.not_mem_nil⟩⟩⟩⟩⟩⟩⟩⟩⟩⟩⟩⟩⟩⟩⟩⟩
theorem lw_p48 : lw_okq (⟨"RoadShutModel", "is", "(J)Z"⟩, 43) := ⟨⟨by decide +kernel, by decide +kernel⟩, List.mem_of_getElem? (i := 1121) (by decide +kernel), List.mem_of_getElem? (i := 1339) (by decide +kernel), List.mem_of_getElem? (i := 1340) (by decide +kernel)⟩
theorem lw_p49 : lw_okq (⟨"RoadShutModel", "fails", "(I)V"⟩, 43) := ⟨⟨by decide +kernel, by decide +kernel⟩, List.mem_of_getElem? (i := 1121) (by decide +kernel), List.mem_of_getElem? (i := 1343) (by decide +kernel), List.mem_of_getElem? (i := 1344) (by decide +kernel)⟩
theorem lw_p50 : lw_okq (⟨"RoadShutModel", "number", "(JII)I"⟩, 43) := ⟨⟨by decide +kernel, by decide +kernel⟩, List.mem_of_getElem? (i := 1121) (by decide +kernel), List.mem_of_getElem? (i := 1348) (by decide +kernel), List.mem_of_getElem? (i := 1349) (by decide +kernel)⟩
theorem lw_p51 : lw_okq (⟨"RoadShutModel", "number", "(II)I"⟩, 43) := ⟨⟨by decide +kernel, by decide +kernel⟩, List.mem_of_getElem? (i := 1121) (by decide +kernel), List.mem_of_getElem? (i := 1352) (by decide +kernel), List.mem_of_getElem? (i := 1353) (by decide +kernel)⟩
theorem lw_p52 : lw_okq (⟨"RoadShutModel", "line", "()V"⟩, 43) := ⟨⟨by decide +kernel, by decide +kernel⟩, List.mem_of_getElem? (i := 1121) (by decide +kernel), List.mem_of_getElem? (i := 1359) (by decide +kernel), List.mem_of_getElem? (i := 1360) (by decide +kernel)⟩
theorem lw_p53 : lw_okq (⟨"RoadShutModel", "onceLine", "(I)V"⟩, 43) := ⟨⟨by decide +kernel, by decide +kernel⟩, List.mem_of_getElem? (i := 1121) (by decide +kernel), List.mem_of_getElem? (i := 1366) (by decide +kernel), List.mem_of_getElem? (i := 1367) (by decide +kernel)⟩
theorem lw_p54 : lw_okq (⟨"RoadShutModel", "thingLine", "()V"⟩, 43) := ⟨⟨by decide +kernel, by decide +kernel⟩, List.mem_of_getElem? (i := 1121) (by decide +kernel), List.mem_of_getElem? (i := 1376) (by decide +kernel), List.mem_of_getElem? (i := 1377) (by decide +kernel)⟩
theorem lw_p55 : lw_okq (⟨"RoadShutModel", "valleyLine", "()V"⟩, 43) := ⟨⟨by decide +kernel, by decide +kernel⟩, List.mem_of_getElem? (i := 1121) (by decide +kernel), List.mem_of_getElem? (i := 1383) (by decide +kernel), List.mem_of_getElem? (i := 1384) (by decide +kernel)⟩
theorem lw_p56 : lw_okq (⟨"RoadShutModel", "pathLine", "()V"⟩, 43) := ⟨⟨by decide +kernel, by decide +kernel⟩, List.mem_of_getElem? (i := 1121) (by decide +kernel), List.mem_of_getElem? (i := 1390) (by decide +kernel), List.mem_of_getElem? (i := 1391) (by decide +kernel)⟩
theorem lw_p57 : lw_okq (⟨"RoadShutModel", "ends", "()V"⟩, 43) := ⟨⟨by decide +kernel, by decide +kernel⟩, List.mem_of_getElem? (i := 1121) (by decide +kernel), List.mem_of_getElem? (i := 1394) (by decide +kernel), List.mem_of_getElem? (i := 1395) (by decide +kernel)⟩
theorem lw_p58 : lw_okq (⟨"RoadShutModel", "isOver", "()V"⟩, 43) := ⟨⟨by decide +kernel, by decide +kernel⟩, List.mem_of_getElem? (i := 1121) (by decide +kernel), List.mem_of_getElem? (i := 1398) (by decide +kernel), List.mem_of_getElem? (i := 1399) (by decide +kernel)⟩
theorem lw_p59 : lw_okq (⟨"RoadShutModel", "copyLand", "(II)V"⟩, 43) := ⟨⟨by decide +kernel, by decide +kernel⟩, List.mem_of_getElem? (i := 1121) (by decide +kernel), List.mem_of_getElem? (i := 1402) (by decide +kernel), List.mem_of_getElem? (i := 1403) (by decide +kernel)⟩
theorem lw_p60 : lw_okq (⟨"RoadShutModel", "isValley", "(I)Z"⟩, 43) := ⟨⟨by decide +kernel, by decide +kernel⟩, List.mem_of_getElem? (i := 1121) (by decide +kernel), List.mem_of_getElem? (i := 1413) (by decide +kernel), List.mem_of_getElem? (i := 1414) (by decide +kernel)⟩
theorem lw_p61 : lw_okq (⟨"RoadShutModel", "lastDay", "()I"⟩, 43) := ⟨⟨by decide +kernel, by decide +kernel⟩, List.mem_of_getElem? (i := 1121) (by decide +kernel), List.mem_of_getElem? (i := 1417) (by decide +kernel), List.mem_of_getElem? (i := 1418) (by decide +kernel)⟩
theorem lw_p62 : lw_okq (⟨"RoadShutModel", "splits", "(I)V"⟩, 43) := ⟨⟨by decide +kernel, by decide +kernel⟩, List.mem_of_getElem? (i := 1121) (by decide +kernel), List.mem_of_getElem? (i := 1422) (by decide +kernel), List.mem_of_getElem? (i := 1423) (by decide +kernel)⟩
theorem lw_p63 : lw_okq (⟨"RoadShutModel", "chance", "(IZ)I"⟩, 43) := ⟨⟨by decide +kernel, by decide +kernel⟩, List.mem_of_getElem? (i := 1121) (by decide +kernel), List.mem_of_getElem? (i := 1427) (by decide +kernel), List.mem_of_getElem? (i := 1428) (by decide +kernel)⟩
def lw_privs_4 : List (MethodName × Nat) := [(⟨"RoadShutModel", "is", "(J)Z"⟩, 43), (⟨"RoadShutModel", "fails", "(I)V"⟩, 43), (⟨"RoadShutModel", "number", "(JII)I"⟩, 43), (⟨"RoadShutModel", "number", "(II)I"⟩, 43), (⟨"RoadShutModel", "line", "()V"⟩, 43), (⟨"RoadShutModel", "onceLine", "(I)V"⟩, 43), (⟨"RoadShutModel", "thingLine", "()V"⟩, 43), (⟨"RoadShutModel", "valleyLine", "()V"⟩, 43), (⟨"RoadShutModel", "pathLine", "()V"⟩, 43), (⟨"RoadShutModel", "ends", "()V"⟩, 43), (⟨"RoadShutModel", "isOver", "()V"⟩, 43), (⟨"RoadShutModel", "copyLand", "(II)V"⟩, 43), (⟨"RoadShutModel", "isValley", "(I)Z"⟩, 43), (⟨"RoadShutModel", "lastDay", "()I"⟩, 43), (⟨"RoadShutModel", "splits", "(I)V"⟩, 43), (⟨"RoadShutModel", "chance", "(IZ)I"⟩, 43)]
theorem lw_r4 : ∀ q ∈ lw_privs_4, lw_okq q := List.forall_mem_cons.mpr ⟨lw_p48, List.forall_mem_cons.mpr ⟨lw_p49, List.forall_mem_cons.mpr ⟨lw_p50, List.forall_mem_cons.mpr ⟨lw_p51, List.forall_mem_cons.mpr ⟨lw_p52, List.forall_mem_cons.mpr ⟨lw_p53, List.forall_mem_cons.mpr ⟨lw_p54, List.forall_mem_cons.mpr ⟨lw_p55, List.forall_mem_cons.mpr ⟨lw_p56, List.forall_mem_cons.mpr ⟨lw_p57, List.forall_mem_cons.mpr ⟨lw_p58, List.forall_mem_cons.mpr ⟨lw_p59, List.forall_mem_cons.mpr ⟨lw_p60, List.forall_mem_cons.mpr ⟨lw_p61, List.forall_mem_cons.mpr ⟨lw_p62, List.forall_mem_cons.mpr ⟨lw_p63, fun _ h => absurd h List.not_mem_nil⟩⟩⟩⟩⟩⟩⟩⟩⟩⟩⟩⟩⟩⟩⟩⟩
theorem lw_p64 : lw_okq (⟨"RoadShutModel", "shutOf", "(I)I"⟩, 43) := ⟨⟨by decide +kernel, by decide +kernel⟩, List.mem_of_getElem? (i := 1121) (by decide +kernel), List.mem_of_getElem? (i := 1435) (by decide +kernel), List.mem_of_getElem? (i := 1436) (by decide +kernel)⟩
theorem lw_p65 : lw_okq (⟨"RoadShutModel", "isDay", "(I)Z"⟩, 43) := ⟨⟨by decide +kernel, by decide +kernel⟩, List.mem_of_getElem? (i := 1121) (by decide +kernel), List.mem_of_getElem? (i := 1443) (by decide +kernel), List.mem_of_getElem? (i := 1444) (by decide +kernel)⟩
theorem lw_p66 : lw_okq (⟨"RoadShutModel", "byDay", "(I)J"⟩, 43) := ⟨⟨by decide +kernel, by decide +kernel⟩, List.mem_of_getElem? (i := 1121) (by decide +kernel), List.mem_of_getElem? (i := 1447) (by decide +kernel), List.mem_of_getElem? (i := 1448) (by decide +kernel)⟩
theorem lw_p67 : lw_okq (⟨"RoadShutModel", "areTwo", "(II)Z"⟩, 43) := ⟨⟨by decide +kernel, by decide +kernel⟩, List.mem_of_getElem? (i := 1121) (by decide +kernel), List.mem_of_getElem? (i := 1455) (by decide +kernel), List.mem_of_getElem? (i := 1456) (by decide +kernel)⟩
theorem lw_p68 : lw_okq (⟨"RoadShutModel", "splitsTwo", "(II)V"⟩, 43) := ⟨⟨by decide +kernel, by decide +kernel⟩, List.mem_of_getElem? (i := 1121) (by decide +kernel), List.mem_of_getElem? (i := 1459) (by decide +kernel), List.mem_of_getElem? (i := 1460) (by decide +kernel)⟩
theorem lw_p69 : lw_okq (⟨"RoadShutModel", "falls", "(IIIII)V"⟩, 43) := ⟨⟨by decide +kernel, by decide +kernel⟩, List.mem_of_getElem? (i := 1121) (by decide +kernel), List.mem_of_getElem? (i := 1466) (by decide +kernel), List.mem_of_getElem? (i := 1467) (by decide +kernel)⟩
theorem lw_p70 : lw_okq (⟨"RoadShutModel", "fallsOther", "(IIIIJ)V"⟩, 43) := ⟨⟨by decide +kernel, by decide +kernel⟩, List.mem_of_getElem? (i := 1121) (by decide +kernel), List.mem_of_getElem? (i := 1470) (by decide +kernel), List.mem_of_getElem? (i := 1471) (by decide +kernel)⟩
theorem lw_p71 : lw_okq (⟨"RoadShutModel", "two", "(II)J"⟩, 43) := ⟨⟨by decide +kernel, by decide +kernel⟩, List.mem_of_getElem? (i := 1121) (by decide +kernel), List.mem_of_getElem? (i := 1474) (by decide +kernel), List.mem_of_getElem? (i := 1475) (by decide +kernel)⟩
theorem lw_p72 : lw_okq (⟨"RoadShutModel", "splitsAll", "(I)V"⟩, 43) := ⟨⟨by decide +kernel, by decide +kernel⟩, List.mem_of_getElem? (i := 1121) (by decide +kernel), List.mem_of_getElem? (i := 1482) (by decide +kernel), List.mem_of_getElem? (i := 1483) (by decide +kernel)⟩
theorem lw_p73 : lw_okq (⟨"RoadShutModel", "fallsOn", "(II)V"⟩, 43) := ⟨⟨by decide +kernel, by decide +kernel⟩, List.mem_of_getElem? (i := 1121) (by decide +kernel), List.mem_of_getElem? (i := 1486) (by decide +kernel), List.mem_of_getElem? (i := 1487) (by decide +kernel)⟩
theorem lw_p74 : lw_okq (⟨"RoadShutModel", "isThing", "(I)Z"⟩, 43) := ⟨⟨by decide +kernel, by decide +kernel⟩, List.mem_of_getElem? (i := 1121) (by decide +kernel), List.mem_of_getElem? (i := 1507) (by decide +kernel), List.mem_of_getElem? (i := 1508) (by decide +kernel)⟩
theorem lw_p75 : lw_okq (⟨"RoadShutModel", "wantsOf", "(III)I"⟩, 43) := ⟨⟨by decide +kernel, by decide +kernel⟩, List.mem_of_getElem? (i := 1121) (by decide +kernel), List.mem_of_getElem? (i := 1511) (by decide +kernel), List.mem_of_getElem? (i := 1512) (by decide +kernel)⟩
theorem lw_p76 : lw_okq (⟨"RoadShutModel", "wantOf", "(II)I"⟩, 43) := ⟨⟨by decide +kernel, by decide +kernel⟩, List.mem_of_getElem? (i := 1121) (by decide +kernel), List.mem_of_getElem? (i := 1515) (by decide +kernel), List.mem_of_getElem? (i := 1516) (by decide +kernel)⟩
theorem lw_p77 : lw_okq (⟨"RoadShutModel", "isStore", "(III)Z"⟩, 43) := ⟨⟨by decide +kernel, by decide +kernel⟩, List.mem_of_getElem? (i := 1121) (by decide +kernel), List.mem_of_getElem? (i := 1523) (by decide +kernel), List.mem_of_getElem? (i := 1524) (by decide +kernel)⟩
theorem lw_p78 : lw_okq (⟨"RoadShutModel", "areSacks", "(I)Z"⟩, 43) := ⟨⟨by decide +kernel, by decide +kernel⟩, List.mem_of_getElem? (i := 1121) (by decide +kernel), List.mem_of_getElem? (i := 1527) (by decide +kernel), List.mem_of_getElem? (i := 1528) (by decide +kernel)⟩
theorem lw_p79 : lw_okq (⟨"RoadShutModel", "costOf", "(III)J"⟩, 43) := ⟨⟨by decide +kernel, by decide +kernel⟩, List.mem_of_getElem? (i := 1121) (by decide +kernel), List.mem_of_getElem? (i := 1532) (by decide +kernel), List.mem_of_getElem? (i := 1533) (by decide +kernel)⟩
def lw_privs_5 : List (MethodName × Nat) := [(⟨"RoadShutModel", "shutOf", "(I)I"⟩, 43), (⟨"RoadShutModel", "isDay", "(I)Z"⟩, 43), (⟨"RoadShutModel", "byDay", "(I)J"⟩, 43), (⟨"RoadShutModel", "areTwo", "(II)Z"⟩, 43), (⟨"RoadShutModel", "splitsTwo", "(II)V"⟩, 43), (⟨"RoadShutModel", "falls", "(IIIII)V"⟩, 43), (⟨"RoadShutModel", "fallsOther", "(IIIIJ)V"⟩, 43), (⟨"RoadShutModel", "two", "(II)J"⟩, 43), (⟨"RoadShutModel", "splitsAll", "(I)V"⟩, 43), (⟨"RoadShutModel", "fallsOn", "(II)V"⟩, 43), (⟨"RoadShutModel", "isThing", "(I)Z"⟩, 43), (⟨"RoadShutModel", "wantsOf", "(III)I"⟩, 43), (⟨"RoadShutModel", "wantOf", "(II)I"⟩, 43), (⟨"RoadShutModel", "isStore", "(III)Z"⟩, 43), (⟨"RoadShutModel", "areSacks", "(I)Z"⟩, 43), (⟨"RoadShutModel", "costOf", "(III)J"⟩, 43)]
theorem lw_r5 : ∀ q ∈ lw_privs_5, lw_okq q := List.forall_mem_cons.mpr ⟨lw_p64, List.forall_mem_cons.mpr ⟨lw_p65, List.forall_mem_cons.mpr ⟨lw_p66, List.forall_mem_cons.mpr ⟨lw_p67, List.forall_mem_cons.mpr ⟨lw_p68, List.forall_mem_cons.mpr ⟨lw_p69, List.forall_mem_cons.mpr ⟨lw_p70, List.forall_mem_cons.mpr ⟨lw_p71, List.forall_mem_cons.mpr ⟨lw_p72, List.forall_mem_cons.mpr ⟨lw_p73, List.forall_mem_cons.mpr ⟨lw_p74, List.forall_mem_cons.mpr ⟨lw_p75, List.forall_mem_cons.mpr ⟨lw_p76, List.forall_mem_cons.mpr ⟨lw_p77, List.forall_mem_cons.mpr ⟨lw_p78, List.forall_mem_cons.mpr ⟨lw_p79, fun _ h => absurd h List.not_mem_nil⟩⟩⟩⟩⟩⟩⟩⟩⟩⟩⟩⟩⟩⟩⟩⟩
theorem lw_p80 : lw_okq (⟨"RoadShutModel", "priceOf", "(I)I"⟩, 43) := ⟨⟨by decide +kernel, by decide +kernel⟩, List.mem_of_getElem? (i := 1121) (by decide +kernel), List.mem_of_getElem? (i := 1536) (by decide +kernel), List.mem_of_getElem? (i := 1537) (by decide +kernel)⟩
theorem lw_p81 : lw_okq (⟨"RoadShutModel", "outcome", "(III)J"⟩, 43) := ⟨⟨by decide +kernel, by decide +kernel⟩, List.mem_of_getElem? (i := 1121) (by decide +kernel), List.mem_of_getElem? (i := 1540) (by decide +kernel), List.mem_of_getElem? (i := 1541) (by decide +kernel)⟩
theorem lw_p82 : lw_okq (⟨"RoadShutModel", "harmOf", "(I)I"⟩, 43) := ⟨⟨by decide +kernel, by decide +kernel⟩, List.mem_of_getElem? (i := 1121) (by decide +kernel), List.mem_of_getElem? (i := 1544) (by decide +kernel), List.mem_of_getElem? (i := 1545) (by decide +kernel)⟩
theorem lw_p83 : lw_okq (⟨"RoadShutModel", "backOf", "(I)I"⟩, 43) := ⟨⟨by decide +kernel, by decide +kernel⟩, List.mem_of_getElem? (i := 1121) (by decide +kernel), List.mem_of_getElem? (i := 1548) (by decide +kernel), List.mem_of_getElem? (i := 1549) (by decide +kernel)⟩
theorem lw_p84 : lw_okq (⟨"RoadShutModel", "bestOf", "(II)I"⟩, 43) := ⟨⟨by decide +kernel, by decide +kernel⟩, List.mem_of_getElem? (i := 1121) (by decide +kernel), List.mem_of_getElem? (i := 1561) (by decide +kernel), List.mem_of_getElem? (i := 1562) (by decide +kernel)⟩
theorem lw_p85 : lw_okq (⟨"RoadShutModel", "lacking", "(III)J"⟩, 43) := ⟨⟨by decide +kernel, by decide +kernel⟩, List.mem_of_getElem? (i := 1121) (by decide +kernel), List.mem_of_getElem? (i := 1569) (by decide +kernel), List.mem_of_getElem? (i := 1570) (by decide +kernel)⟩
theorem lw_p86 : lw_okq (⟨"RoadShutModel", "packs", "(I)V"⟩, 43) := ⟨⟨by decide +kernel, by decide +kernel⟩, List.mem_of_getElem? (i := 1121) (by decide +kernel), List.mem_of_getElem? (i := 1581) (by decide +kernel), List.mem_of_getElem? (i := 1582) (by decide +kernel)⟩
theorem lw_p87 : lw_okq (⟨"RoadShutModel", "lateOf", "(II)J"⟩, 43) := ⟨⟨by decide +kernel, by decide +kernel⟩, List.mem_of_getElem? (i := 1121) (by decide +kernel), List.mem_of_getElem? (i := 1597) (by decide +kernel), List.mem_of_getElem? (i := 1598) (by decide +kernel)⟩
theorem lw_p88 : lw_okq (⟨"RoadShutModel", "comes", "(II)V"⟩, 43) := ⟨⟨by decide +kernel, by decide +kernel⟩, List.mem_of_getElem? (i := 1121) (by decide +kernel), List.mem_of_getElem? (i := 1601) (by decide +kernel), List.mem_of_getElem? (i := 1602) (by decide +kernel)⟩
theorem lw_p89 : lw_okq (⟨"RoadShutModel", "fewest", "(IIIZI)I"⟩, 43) := ⟨⟨by decide +kernel, by decide +kernel⟩, List.mem_of_getElem? (i := 1121) (by decide +kernel), List.mem_of_getElem? (i := 1608) (by decide +kernel), List.mem_of_getElem? (i := 1609) (by decide +kernel)⟩
theorem lw_p90 : lw_okq (⟨"RoadShutModel", "sends", "(IIIZII)J"⟩, 43) := ⟨⟨by decide +kernel, by decide +kernel⟩, List.mem_of_getElem? (i := 1121) (by decide +kernel), List.mem_of_getElem? (i := 1612) (by decide +kernel), List.mem_of_getElem? (i := 1613) (by decide +kernel)⟩
theorem lw_p91 : lw_okq (⟨"RoadShutModel", "canSend", "(II)Z"⟩, 43) := ⟨⟨by decide +kernel, by decide +kernel⟩, List.mem_of_getElem? (i := 1121) (by decide +kernel), List.mem_of_getElem? (i := 1616) (by decide +kernel), List.mem_of_getElem? (i := 1617) (by decide +kernel)⟩
theorem lw_p92 : lw_okq (⟨"RoadShutModel", "forks", "(III)V"⟩, 43) := ⟨⟨by decide +kernel, by decide +kernel⟩, List.mem_of_getElem? (i := 1121) (by decide +kernel), List.mem_of_getElem? (i := 1637) (by decide +kernel), List.mem_of_getElem? (i := 1638) (by decide +kernel)⟩
theorem lw_p93 : lw_okq (⟨"RoadShutModel", "forkOf", "(II)J"⟩, 43) := ⟨⟨by decide +kernel, by decide +kernel⟩, List.mem_of_getElem? (i := 1121) (by decide +kernel), List.mem_of_getElem? (i := 1641) (by decide +kernel), List.mem_of_getElem? (i := 1642) (by decide +kernel)⟩
theorem lw_p94 : lw_okq (⟨"RoadShutModel", "middleOf", "(I)I"⟩, 43) := ⟨⟨by decide +kernel, by decide +kernel⟩, List.mem_of_getElem? (i := 1121) (by decide +kernel), List.mem_of_getElem? (i := 1649) (by decide +kernel), List.mem_of_getElem? (i := 1650) (by decide +kernel)⟩
theorem lw_p95 : lw_okq (⟨"RoadShutModel", "flownOf", "(III)J"⟩, 43) := ⟨⟨by decide +kernel, by decide +kernel⟩, List.mem_of_getElem? (i := 1121) (by decide +kernel), List.mem_of_getElem? (i := 1661) (by decide +kernel), List.mem_of_getElem? (i := 1662) (by decide +kernel)⟩
def lw_privs_6 : List (MethodName × Nat) := [(⟨"RoadShutModel", "priceOf", "(I)I"⟩, 43), (⟨"RoadShutModel", "outcome", "(III)J"⟩, 43), (⟨"RoadShutModel", "harmOf", "(I)I"⟩, 43), (⟨"RoadShutModel", "backOf", "(I)I"⟩, 43), (⟨"RoadShutModel", "bestOf", "(II)I"⟩, 43), (⟨"RoadShutModel", "lacking", "(III)J"⟩, 43), (⟨"RoadShutModel", "packs", "(I)V"⟩, 43), (⟨"RoadShutModel", "lateOf", "(II)J"⟩, 43), (⟨"RoadShutModel", "comes", "(II)V"⟩, 43), (⟨"RoadShutModel", "fewest", "(IIIZI)I"⟩, 43), (⟨"RoadShutModel", "sends", "(IIIZII)J"⟩, 43), (⟨"RoadShutModel", "canSend", "(II)Z"⟩, 43), (⟨"RoadShutModel", "forks", "(III)V"⟩, 43), (⟨"RoadShutModel", "forkOf", "(II)J"⟩, 43), (⟨"RoadShutModel", "middleOf", "(I)I"⟩, 43), (⟨"RoadShutModel", "flownOf", "(III)J"⟩, 43)]
theorem lw_r6 : ∀ q ∈ lw_privs_6, lw_okq q := List.forall_mem_cons.mpr ⟨lw_p80, List.forall_mem_cons.mpr ⟨lw_p81, List.forall_mem_cons.mpr ⟨lw_p82, List.forall_mem_cons.mpr ⟨lw_p83, List.forall_mem_cons.mpr ⟨lw_p84, List.forall_mem_cons.mpr ⟨lw_p85, List.forall_mem_cons.mpr ⟨lw_p86, List.forall_mem_cons.mpr ⟨lw_p87, List.forall_mem_cons.mpr ⟨lw_p88, List.forall_mem_cons.mpr ⟨lw_p89, List.forall_mem_cons.mpr ⟨lw_p90, List.forall_mem_cons.mpr ⟨lw_p91, List.forall_mem_cons.mpr ⟨lw_p92, List.forall_mem_cons.mpr ⟨lw_p93, List.forall_mem_cons.mpr ⟨lw_p94, List.forall_mem_cons.mpr ⟨lw_p95, fun _ h => absurd h List.not_mem_nil⟩⟩⟩⟩⟩⟩⟩⟩⟩⟩⟩⟩⟩⟩⟩⟩
theorem lw_p96 : lw_okq (⟨"RoadShutModel", "byPlane", "(III)J"⟩, 43) := ⟨⟨by decide +kernel, by decide +kernel⟩, List.mem_of_getElem? (i := 1121) (by decide +kernel), List.mem_of_getElem? (i := 1665) (by decide +kernel), List.mem_of_getElem? (i := 1666) (by decide +kernel)⟩
theorem lw_p97 : lw_okq (⟨"RoadShutModel", "pathOf", "(II)I"⟩, 43) := ⟨⟨by decide +kernel, by decide +kernel⟩, List.mem_of_getElem? (i := 1121) (by decide +kernel), List.mem_of_getElem? (i := 1684) (by decide +kernel), List.mem_of_getElem? (i := 1685) (by decide +kernel)⟩
theorem lw_p98 : lw_okq (⟨"RoadShutModel", "fedBy", "(III)I"⟩, 43) := ⟨⟨by decide +kernel, by decide +kernel⟩, List.mem_of_getElem? (i := 1121) (by decide +kernel), List.mem_of_getElem? (i := 1688) (by decide +kernel), List.mem_of_getElem? (i := 1689) (by decide +kernel)⟩
theorem lw_p99 : lw_okq (⟨"RoadShutModel", "whyNot", "(IIII)I"⟩, 43) := ⟨⟨by decide +kernel, by decide +kernel⟩, List.mem_of_getElem? (i := 1121) (by decide +kernel), List.mem_of_getElem? (i := 1701) (by decide +kernel), List.mem_of_getElem? (i := 1702) (by decide +kernel)⟩
theorem lw_p100 : lw_okq (⟨"RoadShutModel", "isAsking", "(I)Z"⟩, 43) := ⟨⟨by decide +kernel, by decide +kernel⟩, List.mem_of_getElem? (i := 1121) (by decide +kernel), List.mem_of_getElem? (i := 1706) (by decide +kernel), List.mem_of_getElem? (i := 1707) (by decide +kernel)⟩
theorem lw_p101 : lw_okq (⟨"RoadShutModel", "givenBy", "(III)I"⟩, 43) := ⟨⟨by decide +kernel, by decide +kernel⟩, List.mem_of_getElem? (i := 1121) (by decide +kernel), List.mem_of_getElem? (i := 1710) (by decide +kernel), List.mem_of_getElem? (i := 1711) (by decide +kernel)⟩
theorem lw_p102 : lw_okq (⟨"RoadShutModel", "askedBy", "(I)I"⟩, 43) := ⟨⟨by decide +kernel, by decide +kernel⟩, List.mem_of_getElem? (i := 1121) (by decide +kernel), List.mem_of_getElem? (i := 1714) (by decide +kernel), List.mem_of_getElem? (i := 1715) (by decide +kernel)⟩
theorem lw_p103 : lw_okq (⟨"RoadShutModel", "bestAsk", "(IIII)I"⟩, 43) := ⟨⟨by decide +kernel, by decide +kernel⟩, List.mem_of_getElem? (i := 1121) (by decide +kernel), List.mem_of_getElem? (i := 1722) (by decide +kernel), List.mem_of_getElem? (i := 1723) (by decide +kernel)⟩
theorem lw_p104 : lw_okq (⟨"RoadShutModel", "lossOf", "(III)J"⟩, 43) := ⟨⟨by decide +kernel, by decide +kernel⟩, List.mem_of_getElem? (i := 1121) (by decide +kernel), List.mem_of_getElem? (i := 1726) (by decide +kernel), List.mem_of_getElem? (i := 1727) (by decide +kernel)⟩
theorem lw_p105 : lw_okq (⟨"RoadShutModel", "standing", "(IIII)J"⟩, 43) := ⟨⟨by decide +kernel, by decide +kernel⟩, List.mem_of_getElem? (i := 1121) (by decide +kernel), List.mem_of_getElem? (i := 1741) (by decide +kernel), List.mem_of_getElem? (i := 1742) (by decide +kernel)⟩
theorem lw_p106 : lw_okq (⟨"RoadShutModel", "spreadOf", "(IIII)J"⟩, 43) := ⟨⟨by decide +kernel, by decide +kernel⟩, List.mem_of_getElem? (i := 1121) (by decide +kernel), List.mem_of_getElem? (i := 1749) (by decide +kernel), List.mem_of_getElem? (i := 1750) (by decide +kernel)⟩
theorem lw_p107 : lw_okq (⟨"RoadShutModel", "draws", "(J)I"⟩, 43) := ⟨⟨by decide +kernel, by decide +kernel⟩, List.mem_of_getElem? (i := 1121) (by decide +kernel), List.mem_of_getElem? (i := 1766) (by decide +kernel), List.mem_of_getElem? (i := 1767) (by decide +kernel)⟩
theorem lw_p108 : lw_okq (⟨"RoadShutModel", "drawn", "()I"⟩, 43) := ⟨⟨by decide +kernel, by decide +kernel⟩, List.mem_of_getElem? (i := 1121) (by decide +kernel), List.mem_of_getElem? (i := 1770) (by decide +kernel), List.mem_of_getElem? (i := 1771) (by decide +kernel)⟩
theorem lw_p109 : lw_okq (⟨"RoadShutModel", "tellsYear", "()V"⟩, 43) := ⟨⟨by decide +kernel, by decide +kernel⟩, List.mem_of_getElem? (i := 1121) (by decide +kernel), List.mem_of_getElem? (i := 1778) (by decide +kernel), List.mem_of_getElem? (i := 1779) (by decide +kernel)⟩
theorem lw_p110 : lw_okq (⟨"RoadShutModel", "firstLack", "(IIII)I"⟩, 43) := ⟨⟨by decide +kernel, by decide +kernel⟩, List.mem_of_getElem? (i := 1121) (by decide +kernel), List.mem_of_getElem? (i := 1798) (by decide +kernel), List.mem_of_getElem? (i := 1799) (by decide +kernel)⟩
theorem lw_p111 : lw_okq (⟨"RoadShutModel", "whyNotJudged", "(II)I"⟩, 43) := ⟨⟨by decide +kernel, by decide +kernel⟩, List.mem_of_getElem? (i := 1121) (by decide +kernel), List.mem_of_getElem? (i := 1806) (by decide +kernel), List.mem_of_getElem? (i := 1807) (by decide +kernel)⟩
def lw_privs_7 : List (MethodName × Nat) := [(⟨"RoadShutModel", "byPlane", "(III)J"⟩, 43), (⟨"RoadShutModel", "pathOf", "(II)I"⟩, 43), (⟨"RoadShutModel", "fedBy", "(III)I"⟩, 43), (⟨"RoadShutModel", "whyNot", "(IIII)I"⟩, 43), (⟨"RoadShutModel", "isAsking", "(I)Z"⟩, 43), (⟨"RoadShutModel", "givenBy", "(III)I"⟩, 43), (⟨"RoadShutModel", "askedBy", "(I)I"⟩, 43), (⟨"RoadShutModel", "bestAsk", "(IIII)I"⟩, 43), (⟨"RoadShutModel", "lossOf", "(III)J"⟩, 43), (⟨"RoadShutModel", "standing", "(IIII)J"⟩, 43), (⟨"RoadShutModel", "spreadOf", "(IIII)J"⟩, 43), (⟨"RoadShutModel", "draws", "(J)I"⟩, 43), (⟨"RoadShutModel", "drawn", "()I"⟩, 43), (⟨"RoadShutModel", "tellsYear", "()V"⟩, 43), (⟨"RoadShutModel", "firstLack", "(IIII)I"⟩, 43), (⟨"RoadShutModel", "whyNotJudged", "(II)I"⟩, 43)]
theorem lw_r7 : ∀ q ∈ lw_privs_7, lw_okq q := List.forall_mem_cons.mpr ⟨lw_p96, List.forall_mem_cons.mpr ⟨lw_p97, List.forall_mem_cons.mpr ⟨lw_p98, List.forall_mem_cons.mpr ⟨lw_p99, List.forall_mem_cons.mpr ⟨lw_p100, List.forall_mem_cons.mpr ⟨lw_p101, List.forall_mem_cons.mpr ⟨lw_p102, List.forall_mem_cons.mpr ⟨lw_p103, List.forall_mem_cons.mpr ⟨lw_p104, List.forall_mem_cons.mpr ⟨lw_p105, List.forall_mem_cons.mpr ⟨lw_p106, List.forall_mem_cons.mpr ⟨lw_p107, List.forall_mem_cons.mpr ⟨lw_p108, List.forall_mem_cons.mpr ⟨lw_p109, List.forall_mem_cons.mpr ⟨lw_p110, List.forall_mem_cons.mpr ⟨lw_p111, fun _ h => absurd h List.not_mem_nil⟩⟩⟩⟩⟩⟩⟩⟩⟩⟩⟩⟩⟩⟩⟩⟩
theorem lw_p112 : lw_okq (⟨"RoadShutModel", "judged", "(II)I"⟩, 43) := ⟨⟨by decide +kernel, by decide +kernel⟩, List.mem_of_getElem? (i := 1121) (by decide +kernel), List.mem_of_getElem? (i := 1810) (by decide +kernel), List.mem_of_getElem? (i := 1811) (by decide +kernel)⟩
theorem lw_p113 : lw_okq (⟨"RoadShutModel", "copyAll", "(II)V"⟩, 43) := ⟨⟨by decide +kernel, by decide +kernel⟩, List.mem_of_getElem? (i := 1121) (by decide +kernel), List.mem_of_getElem? (i := 1830) (by decide +kernel), List.mem_of_getElem? (i := 1831) (by decide +kernel)⟩
def lw_privs_8 : List (MethodName × Nat) := [(⟨"RoadShutModel", "judged", "(II)I"⟩, 43), (⟨"RoadShutModel", "copyAll", "(II)V"⟩, 43)]
theorem lw_r8 : ∀ q ∈ lw_privs_8, lw_okq q := List.forall_mem_cons.mpr ⟨lw_p112, List.forall_mem_cons.mpr ⟨lw_p113, fun _ h => absurd h List.not_mem_nil⟩⟩
def lw_privs : List (MethodName × Nat) := lw_privs_1 ++ (lw_privs_2 ++ (lw_privs_3 ++ (lw_privs_4 ++ (lw_privs_5 ++ (lw_privs_6 ++ (lw_privs_7 ++ (lw_privs_8)))))))
def lw_tbl : List Cond := k2_sels lw_privs ++ tables_1
theorem lw_privs_ok : ∀ q ∈ lw_privs, lw_okq q := by
  show ∀ q ∈ lw_privs_1 ++ (lw_privs_2 ++ (lw_privs_3 ++ (lw_privs_4 ++ (lw_privs_5 ++ (lw_privs_6 ++ (lw_privs_7 ++ (lw_privs_8))))))), lw_okq q
  exact List.forall_mem_append.mpr ⟨lw_r1, List.forall_mem_append.mpr ⟨lw_r2, List.forall_mem_append.mpr ⟨lw_r3, List.forall_mem_append.mpr ⟨lw_r4, List.forall_mem_append.mpr ⟨lw_r5, List.forall_mem_append.mpr ⟨lw_r6, List.forall_mem_append.mpr ⟨lw_r7, lw_r8⟩⟩⟩⟩⟩⟩⟩
end
section
/-! ===== BEGIN words of one list among another's, by their places ===== -/
theorem goodIn_r {big : List Cond} (ws : List Cond) (ps : List Nat) (hp : ws = ps.filterMap (fun i => big[i]?)) (h : ws.all goodWord = true) : GoodIn big ws := by
  intro w hw
  have h1 := List.all_eq_true.mp h w hw
  rw [hp] at hw
  obtain ⟨i, -, hi⟩ := List.mem_filterMap.mp hw
  have hm : w ∈ big := by first | exact List.mem_of_getElem? hi | exact List.getElem?_mem hi
  exact ⟨hm, good_of_word h1⟩
theorem goodIn_app {big a b : List Cond} (ha : GoodIn big a) (hb : GoodIn big b) : GoodIn big (a ++ b) := fun w h => (List.mem_append.mp h).elim (ha w) (hb w)
theorem goodIn_ca {big a b : List Cond} {c : Cond} (ha : GoodIn big (c :: a)) (hb : GoodIn big b) : GoodIn big (c :: (a ++ b)) := fun w h => (List.mem_cons.mp h).elim (fun e => ha w (List.mem_cons.mpr (Or.inl e))) (fun h => (List.mem_append.mp h).elim (fun h => ha w (List.mem_cons.mpr (Or.inr h))) (hb w))
theorem goodIn_sub {big ws : List Cond} (hm : ∀ w ∈ ws, w ∈ big) (h : ws.all goodWord = true) : GoodIn big ws := fun w hw => ⟨hm w hw, good_of_word (List.all_eq_true.mp h w hw)⟩
/-! ===== END ===== -/

/-! ===== BEGIN printed: names, fields, word lists, decode rows ===== -/
def RX0 : String := "RoadShut$Dice"
def TX0 : u_T := fun k => match k with
  | _ => ("RoadShut$Dice", "x", "J", false)
def tyX0 : Nat → FieldType := fun k => match k with
  | _ => .long
abbrev wsX00 : List Cond := u_ws RX0 TX0 1
theorem nmX0 : ∀ a, a < 1 → ∀ b, b < 1 → a ≠ b → (TX0 a).2.1 ≠ (TX0 b).2.1 := by decide +kernel
theorem tyX0_ok : ∀ k, k < 1 → parseFieldDescriptor (TX0 k).2.2.1 = some (tyX0 k) := by decide +kernel
abbrev cX0_init : ByteArray := prog_2_method_1_code
def yX0_init : MethodName := ⟨RX0, "<init>", "()V"⟩
abbrev cX0_drawYear : ByteArray := prog_2_method_2_code
def yX0_drawYear : MethodName := ⟨RX0, "drawYear", "(LRoadShut$Land;I[I)V"⟩
abbrev cX0_draw : ByteArray := prog_2_method_3_code
def yX0_draw : MethodName := ⟨RX0, "draw", "()I"⟩
def RX1 : String := "RoadShut$Image"
def TX1 : u_T := fun k => match k with
  | 0 => ("RoadShut$Image", "land", "LRoadShut$Land;", true)
  | _ => ("RoadShut$Image", "year", "[I", true)
def tyX1 : Nat → FieldType := fun k => match k with
  | 0 => .object "RoadShut$Land"
  | _ => .array .int
abbrev wsX10 : List Cond := u_ws RX1 TX1 2
theorem nmX1 : ∀ a, a < 2 → ∀ b, b < 2 → a ≠ b → (TX1 a).2.1 ≠ (TX1 b).2.1 := by decide +kernel
theorem tyX1_ok : ∀ k, k < 2 → parseFieldDescriptor (TX1 k).2.2.1 = some (tyX1 k) := by decide +kernel
abbrev cX1_init : ByteArray := prog_3_method_1_code
def yX1_init : MethodName := ⟨RX1, "<init>", "(LRoadShut$Land;[I)V"⟩
def RX2 : String := "RoadShut$Land"
def TX2 : u_T := fun k => match k with
  | 0 => ("RoadShut$Land", "lines", "I", false)
  | 1 => ("RoadShut$Land", "days", "I", false)
  | 2 => ("RoadShut$Land", "first", "I", false)
  | 3 => ("RoadShut$Land", "snow", "I", false)
  | 4 => ("RoadShut$Land", "clear", "I", false)
  | 5 => ("RoadShut$Land", "things", "I", false)
  | 6 => ("RoadShut$Land", "valleys", "I", false)
  | 7 => ("RoadShut$Land", "paths", "I", false)
  | 8 => ("RoadShut$Land", "lorries", "I", false)
  | 9 => ("RoadShut$Land", "load", "I", false)
  | 10 => ("RoadShut$Land", "fare", "I", false)
  | 11 => ("RoadShut$Land", "planeLoad", "I", false)
  | 12 => ("RoadShut$Land", "planeFare", "I", false)
  | 13 => ("RoadShut$Land", "mule", "I", false)
  | 14 => ("RoadShut$Land", "price", "[I", true)
  | 15 => ("RoadShut$Land", "harm", "[I", true)
  | 16 => ("RoadShut$Land", "returning", "[I", true)
  | 17 => ("RoadShut$Land", "closing", "[I", true)
  | 18 => ("RoadShut$Land", "room", "[I", true)
  | 19 => ("RoadShut$Land", "eats", "[I", true)
  | _ => ("RoadShut$Land", "pathDays", "[I", true)
def tyX2 : Nat → FieldType := fun k => match k with
  | 0 => .int
  | 1 => .int
  | 2 => .int
  | 3 => .int
  | 4 => .int
  | 5 => .int
  | 6 => .int
  | 7 => .int
  | 8 => .int
  | 9 => .int
  | 10 => .int
  | 11 => .int
  | 12 => .int
  | 13 => .int
  | 14 => .array .int
  | 15 => .array .int
  | 16 => .array .int
  | 17 => .array .int
  | 18 => .array .int
  | 19 => .array .int
  | _ => .array .int
abbrev wsX20 : List Cond := u_ws RX2 TX2 21
theorem nmX2 : ∀ a, a < 21 → ∀ b, b < 21 → a ≠ b → (TX2 a).2.1 ≠ (TX2 b).2.1 := by decide +kernel
theorem tyX2_ok : ∀ k, k < 21 → parseFieldDescriptor (TX2 k).2.2.1 = some (tyX2 k) := by decide +kernel
abbrev cX2_init : ByteArray := prog_4_method_1_code
def yX2_init : MethodName := ⟨RX2, "<init>", "()V"⟩
abbrev cX2_hasValley : ByteArray := prog_4_method_2_code
def yX2_hasValley : MethodName := ⟨RX2, "hasValley", "(I)Z"⟩
abbrev cX2_hasTwo : ByteArray := prog_4_method_3_code
def yX2_hasTwo : MethodName := ⟨RX2, "hasTwo", "(II)Z"⟩
abbrev cX2_hasThing : ByteArray := prog_4_method_4_code
def yX2_hasThing : MethodName := ⟨RX2, "hasThing", "(I)Z"⟩
abbrev cX2_hasStore : ByteArray := prog_4_method_5_code
def yX2_hasStore : MethodName := ⟨RX2, "hasStore", "(II)Z"⟩
abbrev cX2_hasDay : ByteArray := prog_4_method_6_code
def yX2_hasDay : MethodName := ⟨RX2, "hasDay", "(I)Z"⟩
abbrev cX2_hasDayOrNever : ByteArray := prog_4_method_7_code
def yX2_hasDayOrNever : MethodName := ⟨RX2, "hasDayOrNever", "(I)Z"⟩
abbrev cX2_hasBits : ByteArray := prog_4_method_8_code
def yX2_hasBits : MethodName := ⟨RX2, "hasBits", "(I)Z"⟩
abbrev cX2_chance : ByteArray := prog_4_method_9_code
def yX2_chance : MethodName := ⟨RX2, "chance", "(IZ)I"⟩
abbrev cX2_eaten : ByteArray := prog_4_method_10_code
def yX2_eaten : MethodName := ⟨RX2, "eaten", "(II)I"⟩
abbrev cX2_wanted : ByteArray := prog_4_method_11_code
def yX2_wanted : MethodName := ⟨RX2, "wanted", "(III)I"⟩
abbrev cX2_pathBetween : ByteArray := prog_4_method_12_code
def yX2_pathBetween : MethodName := ⟨RX2, "pathBetween", "(II)I"⟩
abbrev cX2_fedDays : ByteArray := prog_4_method_13_code
def yX2_fedDays : MethodName := ⟨RX2, "fedDays", "(IIII)I"⟩
abbrev cX2_loadsOf : ByteArray := prog_4_method_14_code
def yX2_loadsOf : MethodName := ⟨RX2, "loadsOf", "(I)I"⟩
abbrev cX2_roadsShut : ByteArray := prog_4_method_15_code
def yX2_roadsShut : MethodName := ⟨RX2, "roadsShut", "([I)I"⟩
abbrev cX2_yearOf : ByteArray := prog_4_method_16_code
def yX2_yearOf : MethodName := ⟨RX2, "yearOf", "([J)[I"⟩
abbrev cX2_firstLacking : ByteArray := prog_4_method_17_code
def yX2_firstLacking : MethodName := ⟨RX2, "firstLacking", "(IIII)I"⟩
abbrev cX2_firstWrong : ByteArray := prog_4_method_18_code
def yX2_firstWrong : MethodName := ⟨RX2, "firstWrong", "([JI)I"⟩
def RX3 : String := "RoadShut$Planner"
def TX3 : u_T := fun k => match k with
  | 0 => ("RoadShut$Planner", "snowy", "[J", true)
  | 1 => ("RoadShut$Planner", "clear", "[J", true)
  | 2 => ("RoadShut$Planner", "lastSent", "[I", true)
  | 3 => ("RoadShut$Planner", "land", "LRoadShut$Land;", false)
  | 4 => ("RoadShut$Planner", "valley", "I", false)
  | 5 => ("RoadShut$Planner", "thing", "I", false)
  | 6 => ("RoadShut$Planner", "lying", "I", false)
  | 7 => ("RoadShut$Planner", "fullest", "I", false)
  | 8 => ("RoadShut$Planner", "load", "I", false)
  | _ => ("RoadShut$Planner", "fare", "J", false)
def tyX3 : Nat → FieldType := fun k => match k with
  | 0 => .array .long
  | 1 => .array .long
  | 2 => .array .int
  | 3 => .object "RoadShut$Land"
  | 4 => .int
  | 5 => .int
  | 6 => .int
  | 7 => .int
  | 8 => .int
  | _ => .long
abbrev wsX30 : List Cond := u_ws RX3 TX3 10
theorem nmX3 : ∀ a, a < 10 → ∀ b, b < 10 → a ≠ b → (TX3 a).2.1 ≠ (TX3 b).2.1 := by decide +kernel
theorem tyX3_ok : ∀ k, k < 10 → parseFieldDescriptor (TX3 k).2.2.1 = some (tyX3 k) := by decide +kernel
abbrev cX3_init : ByteArray := prog_5_method_1_code
def yX3_init : MethodName := ⟨RX3, "<init>", "()V"⟩
abbrev cX3_begin : ByteArray := prog_5_method_2_code
def yX3_begin : MethodName := ⟨RX3, "begin", "(LRoadShut$Land;III)V"⟩
abbrev cX3_leastFromFirst : ByteArray := prog_5_method_3_code
def yX3_leastFromFirst : MethodName := ⟨RX3, "leastFromFirst", "(LRoadShut$Land;II)J"⟩
abbrev cX3_lastSentInClear : ByteArray := prog_5_method_4_code
def yX3_lastSentInClear : MethodName := ⟨RX3, "lastSentInClear", "(LRoadShut$Land;II)I"⟩
abbrev cX3_sentOn : ByteArray := prog_5_method_5_code
def yX3_sentOn : MethodName := ⟨RX3, "sentOn", "(IZ)I"⟩
abbrev cX3_settle : ByteArray := prog_5_method_6_code
def yX3_settle : MethodName := ⟨RX3, "settle", "(I)V"⟩
abbrev cX3_weigh : ByteArray := prog_5_method_7_code
def yX3_weigh : MethodName := ⟨RX3, "weigh", "(I)V"⟩
abbrev cX3_fewestOf : ByteArray := prog_5_method_8_code
def yX3_fewestOf : MethodName := ⟨RX3, "fewestOf", "([JI)I"⟩
def RX4 : String := "RoadShut$Reader"
def TX4 : u_T := fun k => match k with
  | 0 => ("RoadShut$Reader", "fault", "I", false)
  | 1 => ("RoadShut$Reader", "faultPlace", "I", false)
  | 2 => ("RoadShut$Reader", "tape", "[B", false)
  | 3 => ("RoadShut$Reader", "length", "I", false)
  | 4 => ("RoadShut$Reader", "kind", "I", false)
  | 5 => ("RoadShut$Reader", "start", "I", false)
  | 6 => ("RoadShut$Reader", "stop", "I", false)
  | 7 => ("RoadShut$Reader", "number", "I", false)
  | 8 => ("RoadShut$Reader", "land", "LRoadShut$Land;", false)
  | 9 => ("RoadShut$Reader", "lorryTold", "Z", false)
  | 10 => ("RoadShut$Reader", "planeTold", "Z", false)
  | _ => ("RoadShut$Reader", "muleTold", "Z", false)
def tyX4 : Nat → FieldType := fun k => match k with
  | 0 => .int
  | 1 => .int
  | 2 => .array .byte
  | 3 => .int
  | 4 => .int
  | 5 => .int
  | 6 => .int
  | 7 => .int
  | 8 => .object "RoadShut$Land"
  | 9 => .boolean
  | 10 => .boolean
  | _ => .boolean
abbrev wsX40 : List Cond := u_ws RX4 TX4 12
theorem nmX4 : ∀ a, a < 12 → ∀ b, b < 12 → a ≠ b → (TX4 a).2.1 ≠ (TX4 b).2.1 := by decide +kernel
theorem tyX4_ok : ∀ k, k < 12 → parseFieldDescriptor (TX4 k).2.2.1 = some (tyX4 k) := by decide +kernel
abbrev cX4_init : ByteArray := prog_6_method_1_code
def yX4_init : MethodName := ⟨RX4, "<init>", "()V"⟩
abbrev cX4_readLand : ByteArray := prog_6_method_2_code
def yX4_readLand : MethodName := ⟨RX4, "readLand", "([BI)LRoadShut$Land;"⟩
abbrev cX4_begin : ByteArray := prog_6_method_3_code
def yX4_begin : MethodName := ⟨RX4, "begin", "(LRoadShut$Land;[BI)V"⟩
abbrev cX4_readWinter : ByteArray := prog_6_method_4_code
def yX4_readWinter : MethodName := ⟨RX4, "readWinter", "()V"⟩
abbrev cX4_readThing : ByteArray := prog_6_method_5_code
def yX4_readThing : MethodName := ⟨RX4, "readThing", "()V"⟩
abbrev cX4_readValley : ByteArray := prog_6_method_6_code
def yX4_readValley : MethodName := ⟨RX4, "readValley", "()V"⟩
abbrev cX4_readLorry : ByteArray := prog_6_method_7_code
def yX4_readLorry : MethodName := ⟨RX4, "readLorry", "()V"⟩
abbrev cX4_readPlane : ByteArray := prog_6_method_8_code
def yX4_readPlane : MethodName := ⟨RX4, "readPlane", "()V"⟩
abbrev cX4_readMule : ByteArray := prog_6_method_9_code
def yX4_readMule : MethodName := ⟨RX4, "readMule", "()V"⟩
abbrev cX4_readPath : ByteArray := prog_6_method_10_code
def yX4_readPath : MethodName := ⟨RX4, "readPath", "()V"⟩
abbrev cX4_takeNamed : ByteArray := prog_6_method_11_code
def yX4_takeNamed : MethodName := ⟨RX4, "takeNamed", "(Ljava/lang/String;II)I"⟩
abbrev cX4_takeWord : ByteArray := prog_6_method_12_code
def yX4_takeWord : MethodName := ⟨RX4, "takeWord", "(Ljava/lang/String;)V"⟩
abbrev cX4_takeNumber : ByteArray := prog_6_method_13_code
def yX4_takeNumber : MethodName := ⟨RX4, "takeNumber", "(II)I"⟩
abbrev cX4_takeStop : ByteArray := prog_6_method_14_code
def yX4_takeStop : MethodName := ⟨RX4, "takeStop", "()V"⟩
abbrev cX4_refuse : ByteArray := prog_6_method_15_code
def yX4_refuse : MethodName := ⟨RX4, "refuse", "(I)V"⟩
abbrev cX4_isWord : ByteArray := prog_6_method_16_code
def yX4_isWord : MethodName := ⟨RX4, "isWord", "(Ljava/lang/String;)Z"⟩
abbrev cX4_step : ByteArray := prog_6_method_17_code
def yX4_step : MethodName := ⟨RX4, "step", "()V"⟩
abbrev cX4_signAt : ByteArray := prog_6_method_18_code
def yX4_signAt : MethodName := ⟨RX4, "signAt", "(I)I"⟩
abbrev cX4_kindAt : ByteArray := prog_6_method_19_code
def yX4_kindAt : MethodName := ⟨RX4, "kindAt", "(I)I"⟩
def RX5 : String := "RoadShut$Roads"
def TX5 : u_T := fun k => match k with
  | 0 => ("RoadShut$Roads", "one", "[J", true)
  | 1 => ("RoadShut$Roads", "two", "[J", true)
  | 2 => ("RoadShut$Roads", "snowyTwo", "[J", true)
  | 3 => ("RoadShut$Roads", "clearTwo", "[J", true)
  | 4 => ("RoadShut$Roads", "snowyAll", "[J", true)
  | 5 => ("RoadShut$Roads", "clearAll", "[J", true)
  | _ => ("RoadShut$Roads", "splitAll", "[J", true)
def tyX5 : Nat → FieldType := fun k => match k with
  | 0 => .array .long
  | 1 => .array .long
  | 2 => .array .long
  | 3 => .array .long
  | 4 => .array .long
  | 5 => .array .long
  | _ => .array .long
abbrev wsX50 : List Cond := u_ws RX5 TX5 7
theorem nmX5 : ∀ a, a < 7 → ∀ b, b < 7 → a ≠ b → (TX5 a).2.1 ≠ (TX5 b).2.1 := by decide +kernel
theorem tyX5_ok : ∀ k, k < 7 → parseFieldDescriptor (TX5 k).2.2.1 = some (tyX5 k) := by decide +kernel
abbrev cX5_init : ByteArray := prog_7_method_1_code
def yX5_init : MethodName := ⟨RX5, "<init>", "()V"⟩
abbrev cX5_partsOn : ByteArray := prog_7_method_2_code
def yX5_partsOn : MethodName := ⟨RX5, "partsOn", "(I)J"⟩
abbrev cX5_partsOnTwo : ByteArray := prog_7_method_3_code
def yX5_partsOnTwo : MethodName := ⟨RX5, "partsOnTwo", "(II)J"⟩
abbrev cX5_partsOfWay : ByteArray := prog_7_method_4_code
def yX5_partsOfWay : MethodName := ⟨RX5, "partsOfWay", "(I)J"⟩
abbrev cX5_followOne : ByteArray := prog_7_method_5_code
def yX5_followOne : MethodName := ⟨RX5, "followOne", "(LRoadShut$Land;I)V"⟩
abbrev cX5_followTwo : ByteArray := prog_7_method_6_code
def yX5_followTwo : MethodName := ⟨RX5, "followTwo", "(LRoadShut$Land;II)V"⟩
abbrev cX5_shutSecond : ByteArray := prog_7_method_7_code
def yX5_shutSecond : MethodName := ⟨RX5, "shutSecond", "(LRoadShut$Land;III)J"⟩
abbrev cX5_splitBothOpen : ByteArray := prog_7_method_8_code
def yX5_splitBothOpen : MethodName := ⟨RX5, "splitBothOpen", "(LRoadShut$Land;III)V"⟩
abbrev cX5_skyOfTwo : ByteArray := prog_7_method_9_code
def yX5_skyOfTwo : MethodName := ⟨RX5, "skyOfTwo", "(LRoadShut$Land;II)J"⟩
abbrev cX5_followAll : ByteArray := prog_7_method_10_code
def yX5_followAll : MethodName := ⟨RX5, "followAll", "(LRoadShut$Land;I)V"⟩
abbrev cX5_splitFrom : ByteArray := prog_7_method_11_code
def yX5_splitFrom : MethodName := ⟨RX5, "splitFrom", "(LRoadShut$Land;IIJ)V"⟩
abbrev cX5_snowing : ByteArray := prog_7_method_12_code
def yX5_snowing : MethodName := ⟨RX5, "snowing", "(LRoadShut$Land;IJJ)J"⟩
abbrev cX5_hundredths : ByteArray := prog_7_method_13_code
def yX5_hundredths : MethodName := ⟨RX5, "hundredths", "(JI)J"⟩
def RX6 : String := "RoadShut$Row"
def TX6 : u_T := fun k => match k with
  | 0 => ("RoadShut$Row", "width", "I", true)
  | _ => ("RoadShut$Row", "numbers", "[J", true)
def tyX6 : Nat → FieldType := fun k => match k with
  | 0 => .int
  | _ => .array .long
abbrev wsX60 : List Cond := u_ws RX6 TX6 2
theorem nmX6 : ∀ a, a < 2 → ∀ b, b < 2 → a ≠ b → (TX6 a).2.1 ≠ (TX6 b).2.1 := by decide +kernel
theorem tyX6_ok : ∀ k, k < 2 → parseFieldDescriptor (TX6 k).2.2.1 = some (tyX6 k) := by decide +kernel
abbrev cX6_init : ByteArray := prog_8_method_1_code
def yX6_init : MethodName := ⟨RX6, "<init>", "(II)V"⟩
abbrev cX6_narrowed : ByteArray := prog_8_method_2_code
def yX6_narrowed : MethodName := ⟨RX6, "narrowed", "(J)J"⟩
abbrev cX6_has : ByteArray := prog_8_method_3_code
def yX6_has : MethodName := ⟨RX6, "has", "(II)Z"⟩
abbrev cX6_within : ByteArray := prog_8_method_4_code
def yX6_within : MethodName := ⟨RX6, "within", "(JJ)Z"⟩
abbrev cX6_total : ByteArray := prog_8_method_5_code
def yX6_total : MethodName := ⟨RX6, "total", "()J"⟩
def RX7 : String := "RoadShut$Sharing"
def TX7 : u_T := fun k => match k with
  | _ => ("RoadShut$Sharing", "asked", "[I", true)
def tyX7 : Nat → FieldType := fun k => match k with
  | _ => .array .int
abbrev wsX70 : List Cond := u_ws RX7 TX7 1
theorem nmX7 : ∀ a, a < 1 → ∀ b, b < 1 → a ≠ b → (TX7 a).2.1 ≠ (TX7 b).2.1 := by decide +kernel
theorem tyX7_ok : ∀ k, k < 1 → parseFieldDescriptor (TX7 k).2.2.1 = some (tyX7 k) := by decide +kernel
abbrev cX7_init : ByteArray := prog_9_method_1_code
def yX7_init : MethodName := ⟨RX7, "<init>", "()V"⟩
abbrev cX7_take : ByteArray := prog_9_method_2_code
def yX7_take : MethodName := ⟨RX7, "take", "([J)V"⟩
abbrev cX7_part : ByteArray := prog_9_method_3_code
def yX7_part : MethodName := ⟨RX7, "part", "(III)I"⟩
abbrev cX7_partIfAsked : ByteArray := prog_9_method_4_code
def yX7_partIfAsked : MethodName := ⟨RX7, "partIfAsked", "(IIII)I"⟩
abbrev cX7_byParts : ByteArray := prog_9_method_5_code
def yX7_byParts : MethodName := ⟨RX7, "byParts", "(II)I"⟩
abbrev cX7_level : ByteArray := prog_9_method_6_code
def yX7_level : MethodName := ⟨RX7, "level", "(I)I"⟩
abbrev cX7_sumUpTo : ByteArray := prog_9_method_7_code
def yX7_sumUpTo : MethodName := ⟨RX7, "sumUpTo", "(I)I"⟩
def RX8 : String := "RoadShut$Stores"
def TX8 : u_T := fun k => match k with
  | 0 => ("RoadShut$Stores", "roads", "LRoadShut$Roads;", true)
  | 1 => ("RoadShut$Stores", "parts", "[J", true)
  | 2 => ("RoadShut$Stores", "wantedMost", "I", false)
  | 3 => ("RoadShut$Stores", "wholes", "[J", true)
  | _ => ("RoadShut$Stores", "packing", "[I", true)
def tyX8 : Nat → FieldType := fun k => match k with
  | 0 => .object "RoadShut$Roads"
  | 1 => .array .long
  | 2 => .int
  | 3 => .array .long
  | _ => .array .int
abbrev wsX80 : List Cond := u_ws RX8 TX8 5
theorem nmX8 : ∀ a, a < 5 → ∀ b, b < 5 → a ≠ b → (TX8 a).2.1 ≠ (TX8 b).2.1 := by decide +kernel
theorem tyX8_ok : ∀ k, k < 5 → parseFieldDescriptor (TX8 k).2.2.1 = some (tyX8 k) := by decide +kernel
abbrev cX8_init : ByteArray := prog_10_method_1_code
def yX8_init : MethodName := ⟨RX8, "<init>", "()V"⟩
abbrev cX8_whole : ByteArray := prog_10_method_2_code
def yX8_whole : MethodName := ⟨RX8, "whole", "(II)J"⟩
abbrev cX8_thousandths : ByteArray := prog_10_method_3_code
def yX8_thousandths : MethodName := ⟨RX8, "thousandths", "(I)J"⟩
abbrev cX8_leastSacks : ByteArray := prog_10_method_4_code
def yX8_leastSacks : MethodName := ⟨RX8, "leastSacks", "(I)I"⟩
abbrev cX8_leastWhole : ByteArray := prog_10_method_5_code
def yX8_leastWhole : MethodName := ⟨RX8, "leastWhole", "(I)J"⟩
abbrev cX8_partsWanting : ByteArray := prog_10_method_6_code
def yX8_partsWanting : MethodName := ⟨RX8, "partsWanting", "(I)J"⟩
abbrev cX8_enough : ByteArray := prog_10_method_7_code
def yX8_enough : MethodName := ⟨RX8, "enough", "(I)J"⟩
abbrev cX8_packedSacks : ByteArray := prog_10_method_8_code
def yX8_packedSacks : MethodName := ⟨RX8, "packedSacks", "(I)I"⟩
abbrev cX8_layAlone : ByteArray := prog_10_method_9_code
def yX8_layAlone : MethodName := ⟨RX8, "layAlone", "(LRoadShut$Land;II)V"⟩
abbrev cX8_layFork : ByteArray := prog_10_method_10_code
def yX8_layFork : MethodName := ⟨RX8, "layFork", "(LRoadShut$Land;III)V"⟩
abbrev cX8_layPath : ByteArray := prog_10_method_11_code
def yX8_layPath : MethodName := ⟨RX8, "layPath", "(LRoadShut$Land;III)V"⟩
abbrev cX8_gatherAlone : ByteArray := prog_10_method_12_code
def yX8_gatherAlone : MethodName := ⟨RX8, "gatherAlone", "(LRoadShut$Land;II)V"⟩
abbrev cX8_forget : ByteArray := prog_10_method_13_code
def yX8_forget : MethodName := ⟨RX8, "forget", "()V"⟩
abbrev cX8_gather : ByteArray := prog_10_method_14_code
def yX8_gather : MethodName := ⟨RX8, "gather", "(IJ)V"⟩
abbrev cX8_sumUp : ByteArray := prog_10_method_15_code
def yX8_sumUp : MethodName := ⟨RX8, "sumUp", "(LRoadShut$Land;III)V"⟩
abbrev cX8_lossWhole : ByteArray := prog_10_method_16_code
def yX8_lossWhole : MethodName := ⟨RX8, "lossWhole", "(LRoadShut$Land;II)J"⟩
abbrev cX8_flownWhole : ByteArray := prog_10_method_17_code
def yX8_flownWhole : MethodName := ⟨RX8, "flownWhole", "(LRoadShut$Land;II)J"⟩
abbrev cX8_harmWithPlanes : ByteArray := prog_10_method_18_code
def yX8_harmWithPlanes : MethodName := ⟨RX8, "harmWithPlanes", "(LRoadShut$Land;JI)J"⟩
abbrev cX8_packRoom : ByteArray := prog_10_method_19_code
def yX8_packRoom : MethodName := ⟨RX8, "packRoom", "(LRoadShut$Land;I)J"⟩
abbrev cX8_savingMost : ByteArray := prog_10_method_20_code
def yX8_savingMost : MethodName := ⟨RX8, "savingMost", "(LRoadShut$Land;)I"⟩
def RX9 : String := "RoadShut"
def TX9 : u_T := fun k => match k with
  | 0 => ("RoadShut", "tape", "[B", true)
  | 1 => ("RoadShut", "reader", "LRoadShut$Reader;", true)
  | 2 => ("RoadShut", "stores", "LRoadShut$Stores;", true)
  | 3 => ("RoadShut", "planner", "LRoadShut$Planner;", true)
  | 4 => ("RoadShut", "sharing", "LRoadShut$Sharing;", true)
  | 5 => ("RoadShut", "dice", "LRoadShut$Dice;", true)
  | 6 => ("RoadShut", "drawn", "[I", true)
  | 7 => ("RoadShut", "slots", "[LRoadShut$Row;", true)
  | 8 => ("RoadShut", "images", "[LRoadShut$Image;", true)
  | 9 => ("RoadShut", "taped", "I", false)
  | 10 => ("RoadShut", "land", "LRoadShut$Land;", false)
  | 11 => ("RoadShut", "year", "[I", false)
  | 12 => ("RoadShut", "faultKind", "I", false)
  | _ => ("RoadShut", "faultPlace", "I", false)
def tyX9 : Nat → FieldType := fun k => match k with
  | 0 => .array .byte
  | 1 => .object "RoadShut$Reader"
  | 2 => .object "RoadShut$Stores"
  | 3 => .object "RoadShut$Planner"
  | 4 => .object "RoadShut$Sharing"
  | 5 => .object "RoadShut$Dice"
  | 6 => .array .int
  | 7 => .array (.object "RoadShut$Row")
  | 8 => .array (.object "RoadShut$Image")
  | 9 => .int
  | 10 => .object "RoadShut$Land"
  | 11 => .array .int
  | 12 => .int
  | _ => .int
abbrev wsX90 : List Cond := u_ws RX9 TX9 14
theorem nmX9 : ∀ a, a < 14 → ∀ b, b < 14 → a ≠ b → (TX9 a).2.1 ≠ (TX9 b).2.1 := by decide +kernel
theorem tyX9_ok : ∀ k, k < 14 → parseFieldDescriptor (TX9 k).2.2.1 = some (tyX9 k) := by decide +kernel
abbrev cX9_init : ByteArray := prog_1_method_1_code
def yX9_init : MethodName := ⟨RX9, "<init>", "()V"⟩
abbrev cX9_feed : ByteArray := prog_1_method_2_code
def yX9_feed : MethodName := ⟨RX9, "feed", "(IIIII)I"⟩
abbrev cX9_end : ByteArray := prog_1_method_3_code
def yX9_end : MethodName := ⟨RX9, "end", "(I)I"⟩
abbrev cX9_land : ByteArray := prog_1_method_4_code
def yX9_land : MethodName := ⟨RX9, "land", "()I"⟩
abbrev cX9_fault : ByteArray := prog_1_method_5_code
def yX9_fault : MethodName := ⟨RX9, "fault", "(I)I"⟩
abbrev cX9_shuts : ByteArray := prog_1_method_6_code
def yX9_shuts : MethodName := ⟨RX9, "shuts", "(II)J"⟩
abbrev cX9_by : ByteArray := prog_1_method_7_code
def yX9_by : MethodName := ⟨RX9, "by", "(II)J"⟩
abbrev cX9_both : ByteArray := prog_1_method_8_code
def yX9_both : MethodName := ⟨RX9, "both", "(IIII)J"⟩
abbrev cX9_together : ByteArray := prog_1_method_9_code
def yX9_together : MethodName := ⟨RX9, "together", "(II)J"⟩
abbrev cX9_set : ByteArray := prog_1_method_10_code
def yX9_set : MethodName := ⟨RX9, "set", "(II)J"⟩
abbrev cX9_when : ByteArray := prog_1_method_11_code
def yX9_when : MethodName := ⟨RX9, "when", "(II)I"⟩
abbrev cX9_wants : ByteArray := prog_1_method_12_code
def yX9_wants : MethodName := ⟨RX9, "wants", "(III)I"⟩
abbrev cX9_cost : ByteArray := prog_1_method_13_code
def yX9_cost : MethodName := ⟨RX9, "cost", "(III)J"⟩
abbrev cX9_worth : ByteArray := prog_1_method_14_code
def yX9_worth : MethodName := ⟨RX9, "worth", "(III)J"⟩
abbrev cX9_best : ByteArray := prog_1_method_15_code
def yX9_best : MethodName := ⟨RX9, "best", "(II)I"⟩
abbrev cX9_sure : ByteArray := prog_1_method_16_code
def yX9_sure : MethodName := ⟨RX9, "sure", "(III)J"⟩
abbrev cX9_need : ByteArray := prog_1_method_17_code
def yX9_need : MethodName := ⟨RX9, "need", "(III)I"⟩
abbrev cX9_packed : ByteArray := prog_1_method_18_code
def yX9_packed : MethodName := ⟨RX9, "packed", "(I)J"⟩
abbrev cX9_pack : ByteArray := prog_1_method_19_code
def yX9_pack : MethodName := ⟨RX9, "pack", "(II)I"⟩
abbrev cX9_gap : ByteArray := prog_1_method_20_code
def yX9_gap : MethodName := ⟨RX9, "gap", "(I)J"⟩
abbrev cX9_late : ByteArray := prog_1_method_21_code
def yX9_late : MethodName := ⟨RX9, "late", "(II)J"⟩
abbrev cX9_today : ByteArray := prog_1_method_22_code
def yX9_today : MethodName := ⟨RX9, "today", "(IIIZI)I"⟩
abbrev cX9_last : ByteArray := prog_1_method_23_code
def yX9_last : MethodName := ⟨RX9, "last", "(II)I"⟩
abbrev cX9_signs : ByteArray := prog_1_method_24_code
def yX9_signs : MethodName := ⟨RX9, "signs", "(II)J"⟩
abbrev cX9_fork : ByteArray := prog_1_method_25_code
def yX9_fork : MethodName := ⟨RX9, "fork", "(IIII)J"⟩
abbrev cX9_middle : ByteArray := prog_1_method_26_code
def yX9_middle : MethodName := ⟨RX9, "middle", "(III)I"⟩
abbrev cX9_shares : ByteArray := prog_1_method_27_code
def yX9_shares : MethodName := ⟨RX9, "shares", "(III)J"⟩
abbrev cX9_flown : ByteArray := prog_1_method_28_code
def yX9_flown : MethodName := ⟨RX9, "flown", "(III)J"⟩
abbrev cX9_plane : ByteArray := prog_1_method_29_code
def yX9_plane : MethodName := ⟨RX9, "plane", "(II)I"⟩
abbrev cX9_edge : ByteArray := prog_1_method_30_code
def yX9_edge : MethodName := ⟨RX9, "edge", "(I)I"⟩
abbrev cX9_path : ByteArray := prog_1_method_31_code
def yX9_path : MethodName := ⟨RX9, "path", "(IIII)J"⟩
abbrev cX9_fed : ByteArray := prog_1_method_32_code
def yX9_fed : MethodName := ⟨RX9, "fed", "(II)I"⟩
abbrev cX9_given : ByteArray := prog_1_method_33_code
def yX9_given : MethodName := ⟨RX9, "given", "(IIII)I"⟩
abbrev cX9_asks : ByteArray := prog_1_method_34_code
def yX9_asks : MethodName := ⟨RX9, "asks", "(IIIII)I"⟩
abbrev cX9_pays : ByteArray := prog_1_method_35_code
def yX9_pays : MethodName := ⟨RX9, "pays", "(IIIII)J"⟩
abbrev cX9_burnt : ByteArray := prog_1_method_36_code
def yX9_burnt : MethodName := ⟨RX9, "burnt", "(IIII)J"⟩
abbrev cX9_spread : ByteArray := prog_1_method_37_code
def yX9_spread : MethodName := ⟨RX9, "spread", "(IIII)J"⟩
abbrev cX9_bear : ByteArray := prog_1_method_38_code
def yX9_bear : MethodName := ⟨RX9, "bear", "(III)I"⟩
abbrev cX9_run : ByteArray := prog_1_method_39_code
def yX9_run : MethodName := ⟨RX9, "run", "(I)I"⟩
abbrev cX9_told : ByteArray := prog_1_method_40_code
def yX9_told : MethodName := ⟨RX9, "told", "(I)I"⟩
abbrev cX9_shut : ByteArray := prog_1_method_41_code
def yX9_shut : MethodName := ⟨RX9, "shut", "(I)I"⟩
abbrev cX9_lacks : ByteArray := prog_1_method_42_code
def yX9_lacks : MethodName := ⟨RX9, "lacks", "(IIII)I"⟩
abbrev cX9_judge : ByteArray := prog_1_method_43_code
def yX9_judge : MethodName := ⟨RX9, "judge", "(II)I"⟩
abbrev cX9_paid : ByteArray := prog_1_method_44_code
def yX9_paid : MethodName := ⟨RX9, "paid", "(III)J"⟩
abbrev cX9_years : ByteArray := prog_1_method_45_code
def yX9_years : MethodName := ⟨RX9, "years", "(IIIIII)I"⟩
abbrev cX9_count : ByteArray := prog_1_method_46_code
def yX9_count : MethodName := ⟨RX9, "count", "(I)I"⟩
abbrev cX9_keep : ByteArray := prog_1_method_47_code
def yX9_keep : MethodName := ⟨RX9, "keep", "(I)I"⟩
abbrev cX9_back : ByteArray := prog_1_method_48_code
def yX9_back : MethodName := ⟨RX9, "back", "(I)I"⟩
abbrev cX9_row : ByteArray := prog_1_method_49_code
def yX9_row : MethodName := ⟨RX9, "row", "(III)I"⟩
abbrev cX9_write : ByteArray := prog_1_method_50_code
def yX9_write : MethodName := ⟨RX9, "write", "(IIJ)I"⟩
abbrev cX9_paste : ByteArray := prog_1_method_51_code
def yX9_paste : MethodName := ⟨RX9, "paste", "(IIIII)I"⟩
abbrev cX9_tapeFour : ByteArray := prog_1_method_52_code
def yX9_tapeFour : MethodName := ⟨RX9, "tapeFour", "(I)V"⟩
abbrev cX9_isSacks : ByteArray := prog_1_method_53_code
def yX9_isSacks : MethodName := ⟨RX9, "isSacks", "(I)Z"⟩
abbrev cX9_isHundredth : ByteArray := prog_1_method_54_code
def yX9_isHundredth : MethodName := ⟨RX9, "isHundredth", "(I)Z"⟩
abbrev cX9_isSeed : ByteArray := prog_1_method_55_code
def yX9_isSeed : MethodName := ⟨RX9, "isSeed", "(I)Z"⟩
abbrev cX9_isSlot : ByteArray := prog_1_method_56_code
def yX9_isSlot : MethodName := ⟨RX9, "isSlot", "(I)Z"⟩
abbrev cX9_slotsInUse : ByteArray := prog_1_method_57_code
def yX9_slotsInUse : MethodName := ⟨RX9, "slotsInUse", "()I"⟩
abbrev cX9_shareState : ByteArray := prog_1_method_58_code
def yX9_shareState : MethodName := ⟨RX9, "shareState", "(IIII)I"⟩
abbrev cX9_lossIfAsked : ByteArray := prog_1_method_59_code
def yX9_lossIfAsked : MethodName := ⟨RX9, "lossIfAsked", "(IIIII)J"⟩
abbrev cX9_bestAsked : ByteArray := prog_1_method_60_code
def yX9_bestAsked : MethodName := ⟨RX9, "bestAsked", "(IIII)I"⟩
abbrev cX9_costOfHeld : ByteArray := prog_1_method_61_code
def yX9_costOfHeld : MethodName := ⟨RX9, "costOfHeld", "(III)J"⟩
abbrev cX9_costOfTwoStores : ByteArray := prog_1_method_62_code
def yX9_costOfTwoStores : MethodName := ⟨RX9, "costOfTwoStores", "(III)J"⟩
def RX10 : String := "RoadShutModel"
def TX10 : u_T := fun k => match k with
  | 0 => ("RoadShutModel", "thrown", "I", false)
  | 1 => ("RoadShutModel", "width", "[I", true)
  | 2 => ("RoadShutModel", "many", "[I", true)
  | 3 => ("RoadShutModel", "cells", "[J", true)
  | 4 => ("RoadShutModel", "moved", "[J", true)
  | 5 => ("RoadShutModel", "tape", "[B", true)
  | 6 => ("RoadShutModel", "taped", "I", false)
  | 7 => ("RoadShutModel", "at", "I", false)
  | 8 => ("RoadShutModel", "token", "I", false)
  | 9 => ("RoadShutModel", "place", "I", false)
  | 10 => ("RoadShutModel", "value", "I", false)
  | 11 => ("RoadShutModel", "word", "J", false)
  | 12 => ("RoadShutModel", "bad", "I", false)
  | 13 => ("RoadShutModel", "badPlace", "I", false)
  | 14 => ("RoadShutModel", "fault", "I", false)
  | 15 => ("RoadShutModel", "faultPlace", "I", false)
  | 16 => ("RoadShutModel", "lines", "[I", true)
  | 17 => ("RoadShutModel", "winter", "[I", true)
  | 18 => ("RoadShutModel", "things", "[I", true)
  | 19 => ("RoadShutModel", "thing", "[I", true)
  | 20 => ("RoadShutModel", "valleys", "[I", true)
  | 21 => ("RoadShutModel", "valley", "[I", true)
  | 22 => ("RoadShutModel", "paths", "[I", true)
  | 23 => ("RoadShutModel", "path", "[I", true)
  | 24 => ("RoadShutModel", "set", "[I", true)
  | 25 => ("RoadShutModel", "once", "[Z", true)
  | 26 => ("RoadShutModel", "hasYear", "[I", true)
  | 27 => ("RoadShutModel", "year", "[I", true)
  | 28 => ("RoadShutModel", "isKept", "[Z", true)
  | 29 => ("RoadShutModel", "shutOn", "[J", true)
  | 30 => ("RoadShutModel", "twoSnow", "[J", true)
  | 31 => ("RoadShutModel", "twoClear", "[J", true)
  | 32 => ("RoadShutModel", "snowing", "[J", true)
  | 33 => ("RoadShutModel", "setSnow", "[J", true)
  | 34 => ("RoadShutModel", "setClear", "[J", true)
  | 35 => ("RoadShutModel", "split", "[J", true)
  | 36 => ("RoadShutModel", "costs", "[J", true)
  | 37 => ("RoadShutModel", "leastFrom", "[J", true)
  | 38 => ("RoadShutModel", "toCome", "[J", true)
  | 39 => ("RoadShutModel", "byWants", "[J", true)
  | 40 => ("RoadShutModel", "asked", "[I", true)
  | 41 => ("RoadShutModel", "drawnYear", "[I", true)
  | _ => ("RoadShutModel", "x", "J", false)
def tyX10 : Nat → FieldType := fun k => match k with
  | 0 => .int
  | 1 => .array .int
  | 2 => .array .int
  | 3 => .array .long
  | 4 => .array .long
  | 5 => .array .byte
  | 6 => .int
  | 7 => .int
  | 8 => .int
  | 9 => .int
  | 10 => .int
  | 11 => .long
  | 12 => .int
  | 13 => .int
  | 14 => .int
  | 15 => .int
  | 16 => .array .int
  | 17 => .array .int
  | 18 => .array .int
  | 19 => .array .int
  | 20 => .array .int
  | 21 => .array .int
  | 22 => .array .int
  | 23 => .array .int
  | 24 => .array .int
  | 25 => .array .boolean
  | 26 => .array .int
  | 27 => .array .int
  | 28 => .array .boolean
  | 29 => .array .long
  | 30 => .array .long
  | 31 => .array .long
  | 32 => .array .long
  | 33 => .array .long
  | 34 => .array .long
  | 35 => .array .long
  | 36 => .array .long
  | 37 => .array .long
  | 38 => .array .long
  | 39 => .array .long
  | 40 => .array .int
  | 41 => .array .int
  | _ => .long
abbrev wsX100 : List Cond := u_ws RX10 TX10 43
theorem nmX10 : ∀ a, a < 43 → ∀ b, b < 43 → a ≠ b → (TX10 a).2.1 ≠ (TX10 b).2.1 := by decide +kernel
theorem tyX10_ok : ∀ k, k < 43 → parseFieldDescriptor (TX10 k).2.2.1 = some (tyX10 k) := by decide +kernel
abbrev cX10_init : ByteArray := prog_12_method_1_code
def yX10_init : MethodName := ⟨RX10, "<init>", "()V"⟩
abbrev cX10_in : ByteArray := prog_12_method_3_code
def yX10_in : MethodName := ⟨RX10, "in", "(JJJ)Z"⟩
abbrev cX10_isSlot : ByteArray := prog_12_method_4_code
def yX10_isSlot : MethodName := ⟨RX10, "isSlot", "(I)Z"⟩
abbrev cX10_row : ByteArray := prog_12_method_5_code
def yX10_row : MethodName := ⟨RX10, "row", "(III)I"⟩
abbrev cX10_cut : ByteArray := prog_12_method_6_code
def yX10_cut : MethodName := ⟨RX10, "cut", "(JI)J"⟩
abbrev cX10_write : ByteArray := prog_12_method_7_code
def yX10_write : MethodName := ⟨RX10, "write", "(IIJ)I"⟩
abbrev cX10_paste : ByteArray := prog_12_method_8_code
def yX10_paste : MethodName := ⟨RX10, "paste", "(IIIII)I"⟩
abbrev cX10_feed : ByteArray := prog_12_method_9_code
def yX10_feed : MethodName := ⟨RX10, "feed", "(IIIII)I"⟩
abbrev cX10_four : ByteArray := prog_12_method_10_code
def yX10_four : MethodName := ⟨RX10, "four", "(I)V"⟩
abbrev cX10_end : ByteArray := prog_12_method_11_code
def yX10_end : MethodName := ⟨RX10, "end", "(I)I"⟩
abbrev cX10_isByte : ByteArray := prog_12_method_12_code
def yX10_isByte : MethodName := ⟨RX10, "isByte", "(III)Z"⟩
abbrev cX10_next : ByteArray := prog_12_method_13_code
def yX10_next : MethodName := ⟨RX10, "next", "()V"⟩
abbrev cX10_isGood : ByteArray := prog_12_method_14_code
def yX10_isGood : MethodName := ⟨RX10, "isGood", "()Z"⟩
abbrev cX10_fails : ByteArray := prog_12_method_15_code
def yX10_fails : MethodName := ⟨RX10, "fails", "(I)V"⟩
abbrev cX10_is : ByteArray := prog_12_method_16_code
def yX10_is : MethodName := ⟨RX10, "is", "(J)Z"⟩
abbrev cX10_takes : ByteArray := prog_12_method_17_code
def yX10_takes : MethodName := ⟨RX10, "takes", "(J)Z"⟩
abbrev cX10_asks : ByteArray := prog_12_method_18_code
def yX10_asks : MethodName := ⟨RX10, "asks", "(J)V"⟩
abbrev cX10_number : ByteArray := prog_12_method_19_code
def yX10_number : MethodName := ⟨RX10, "number", "(II)I"⟩
abbrev cX10_number_ : ByteArray := prog_12_method_20_code
def yX10_number_ : MethodName := ⟨RX10, "number", "(JII)I"⟩
abbrev cX10_ends : ByteArray := prog_12_method_21_code
def yX10_ends : MethodName := ⟨RX10, "ends", "()V"⟩
abbrev cX10_begins : ByteArray := prog_12_method_22_code
def yX10_begins : MethodName := ⟨RX10, "begins", "()V"⟩
abbrev cX10_isOver : ByteArray := prog_12_method_23_code
def yX10_isOver : MethodName := ⟨RX10, "isOver", "()V"⟩
abbrev cX10_fault : ByteArray := prog_12_method_24_code
def yX10_fault : MethodName := ⟨RX10, "fault", "(I)I"⟩
abbrev cX10_winterLine : ByteArray := prog_12_method_25_code
def yX10_winterLine : MethodName := ⟨RX10, "winterLine", "()V"⟩
abbrev cX10_thingLine : ByteArray := prog_12_method_26_code
def yX10_thingLine : MethodName := ⟨RX10, "thingLine", "()V"⟩
abbrev cX10_valleyLine : ByteArray := prog_12_method_27_code
def yX10_valleyLine : MethodName := ⟨RX10, "valleyLine", "()V"⟩
abbrev cX10_pathLine : ByteArray := prog_12_method_28_code
def yX10_pathLine : MethodName := ⟨RX10, "pathLine", "()V"⟩
abbrev cX10_onceLine : ByteArray := prog_12_method_29_code
def yX10_onceLine : MethodName := ⟨RX10, "onceLine", "(I)V"⟩
abbrev cX10_line : ByteArray := prog_12_method_30_code
def yX10_line : MethodName := ⟨RX10, "line", "()V"⟩
abbrev cX10_clears : ByteArray := prog_12_method_31_code
def yX10_clears : MethodName := ⟨RX10, "clears", "()V"⟩
abbrev cX10_land : ByteArray := prog_12_method_32_code
def yX10_land : MethodName := ⟨RX10, "land", "()I"⟩
abbrev cX10_copyRow : ByteArray := prog_12_method_33_code
def yX10_copyRow : MethodName := ⟨RX10, "copyRow", "([IIII)V"⟩
abbrev cX10_copyLand : ByteArray := prog_12_method_34_code
def yX10_copyLand : MethodName := ⟨RX10, "copyLand", "(II)V"⟩
abbrev cX10_lastDay : ByteArray := prog_12_method_35_code
def yX10_lastDay : MethodName := ⟨RX10, "lastDay", "()I"⟩
abbrev cX10_isDay : ByteArray := prog_12_method_36_code
def yX10_isDay : MethodName := ⟨RX10, "isDay", "(I)Z"⟩
abbrev cX10_isValley : ByteArray := prog_12_method_37_code
def yX10_isValley : MethodName := ⟨RX10, "isValley", "(I)Z"⟩
abbrev cX10_isThing : ByteArray := prog_12_method_38_code
def yX10_isThing : MethodName := ⟨RX10, "isThing", "(I)Z"⟩
abbrev cX10_shutOf : ByteArray := prog_12_method_39_code
def yX10_shutOf : MethodName := ⟨RX10, "shutOf", "(I)I"⟩
abbrev cX10_wantOf : ByteArray := prog_12_method_40_code
def yX10_wantOf : MethodName := ⟨RX10, "wantOf", "(II)I"⟩
abbrev cX10_priceOf : ByteArray := prog_12_method_41_code
def yX10_priceOf : MethodName := ⟨RX10, "priceOf", "(I)I"⟩
abbrev cX10_harmOf : ByteArray := prog_12_method_42_code
def yX10_harmOf : MethodName := ⟨RX10, "harmOf", "(I)I"⟩
abbrev cX10_backOf : ByteArray := prog_12_method_43_code
def yX10_backOf : MethodName := ⟨RX10, "backOf", "(I)I"⟩
abbrev cX10_hundredths : ByteArray := prog_12_method_44_code
def yX10_hundredths : MethodName := ⟨RX10, "hundredths", "(JI)J"⟩
abbrev cX10_chance : ByteArray := prog_12_method_45_code
def yX10_chance : MethodName := ⟨RX10, "chance", "(IZ)I"⟩
abbrev cX10_splits : ByteArray := prog_12_method_46_code
def yX10_splits : MethodName := ⟨RX10, "splits", "(I)V"⟩
abbrev cX10_shuts : ByteArray := prog_12_method_47_code
def yX10_shuts : MethodName := ⟨RX10, "shuts", "(II)J"⟩
abbrev cX10_byDay : ByteArray := prog_12_method_48_code
def yX10_byDay : MethodName := ⟨RX10, "byDay", "(I)J"⟩
abbrev cX10_by : ByteArray := prog_12_method_49_code
def yX10_by : MethodName := ⟨RX10, "by", "(II)J"⟩
abbrev cX10_at2 : ByteArray := prog_12_method_50_code
def yX10_at2 : MethodName := ⟨RX10, "at2", "(II)I"⟩
abbrev cX10_splitsTwo : ByteArray := prog_12_method_51_code
def yX10_splitsTwo : MethodName := ⟨RX10, "splitsTwo", "(II)V"⟩
abbrev cX10_falls : ByteArray := prog_12_method_52_code
def yX10_falls : MethodName := ⟨RX10, "falls", "(IIIII)V"⟩
abbrev cX10_fallsOther : ByteArray := prog_12_method_53_code
def yX10_fallsOther : MethodName := ⟨RX10, "fallsOther", "(IIIIJ)V"⟩
abbrev cX10_two : ByteArray := prog_12_method_54_code
def yX10_two : MethodName := ⟨RX10, "two", "(II)J"⟩
abbrev cX10_areTwo : ByteArray := prog_12_method_55_code
def yX10_areTwo : MethodName := ⟨RX10, "areTwo", "(II)Z"⟩
abbrev cX10_both : ByteArray := prog_12_method_56_code
def yX10_both : MethodName := ⟨RX10, "both", "(IIII)J"⟩
abbrev cX10_splitsAll : ByteArray := prog_12_method_57_code
def yX10_splitsAll : MethodName := ⟨RX10, "splitsAll", "(I)V"⟩
abbrev cX10_fallsOn : ByteArray := prog_12_method_58_code
def yX10_fallsOn : MethodName := ⟨RX10, "fallsOn", "(II)V"⟩
abbrev cX10_sizeOf : ByteArray := prog_12_method_59_code
def yX10_sizeOf : MethodName := ⟨RX10, "sizeOf", "(I)I"⟩
abbrev cX10_together : ByteArray := prog_12_method_60_code
def yX10_together : MethodName := ⟨RX10, "together", "(II)J"⟩
abbrev cX10_set : ByteArray := prog_12_method_61_code
def yX10_set : MethodName := ⟨RX10, "set", "(II)J"⟩
abbrev cX10_when : ByteArray := prog_12_method_62_code
def yX10_when : MethodName := ⟨RX10, "when", "(II)I"⟩
abbrev cX10_wantsOf : ByteArray := prog_12_method_63_code
def yX10_wantsOf : MethodName := ⟨RX10, "wantsOf", "(III)I"⟩
abbrev cX10_wants : ByteArray := prog_12_method_64_code
def yX10_wants : MethodName := ⟨RX10, "wants", "(III)I"⟩
abbrev cX10_outcome : ByteArray := prog_12_method_65_code
def yX10_outcome : MethodName := ⟨RX10, "outcome", "(III)J"⟩
abbrev cX10_costOf : ByteArray := prog_12_method_66_code
def yX10_costOf : MethodName := ⟨RX10, "costOf", "(III)J"⟩
abbrev cX10_areSacks : ByteArray := prog_12_method_67_code
def yX10_areSacks : MethodName := ⟨RX10, "areSacks", "(I)Z"⟩
abbrev cX10_isStore : ByteArray := prog_12_method_68_code
def yX10_isStore : MethodName := ⟨RX10, "isStore", "(III)Z"⟩
abbrev cX10_cost : ByteArray := prog_12_method_69_code
def yX10_cost : MethodName := ⟨RX10, "cost", "(III)J"⟩
abbrev cX10_worth : ByteArray := prog_12_method_70_code
def yX10_worth : MethodName := ⟨RX10, "worth", "(III)J"⟩
abbrev cX10_bestOf : ByteArray := prog_12_method_71_code
def yX10_bestOf : MethodName := ⟨RX10, "bestOf", "(II)I"⟩
abbrev cX10_best : ByteArray := prog_12_method_72_code
def yX10_best : MethodName := ⟨RX10, "best", "(II)I"⟩
abbrev cX10_lacking : ByteArray := prog_12_method_73_code
def yX10_lacking : MethodName := ⟨RX10, "lacking", "(III)J"⟩
abbrev cX10_sure : ByteArray := prog_12_method_74_code
def yX10_sure : MethodName := ⟨RX10, "sure", "(III)J"⟩
abbrev cX10_need : ByteArray := prog_12_method_75_code
def yX10_need : MethodName := ⟨RX10, "need", "(III)I"⟩
abbrev cX10_packs : ByteArray := prog_12_method_76_code
def yX10_packs : MethodName := ⟨RX10, "packs", "(I)V"⟩
abbrev cX10_packed : ByteArray := prog_12_method_77_code
def yX10_packed : MethodName := ⟨RX10, "packed", "(I)J"⟩
abbrev cX10_pack : ByteArray := prog_12_method_78_code
def yX10_pack : MethodName := ⟨RX10, "pack", "(II)I"⟩
abbrev cX10_gap : ByteArray := prog_12_method_79_code
def yX10_gap : MethodName := ⟨RX10, "gap", "(I)J"⟩
abbrev cX10_at3 : ByteArray := prog_12_method_80_code
def yX10_at3 : MethodName := ⟨RX10, "at3", "(IZI)I"⟩
abbrev cX10_sends : ByteArray := prog_12_method_81_code
def yX10_sends : MethodName := ⟨RX10, "sends", "(IIIZII)J"⟩
abbrev cX10_canSend : ByteArray := prog_12_method_82_code
def yX10_canSend : MethodName := ⟨RX10, "canSend", "(II)Z"⟩
abbrev cX10_fewest : ByteArray := prog_12_method_83_code
def yX10_fewest : MethodName := ⟨RX10, "fewest", "(IIIZI)I"⟩
abbrev cX10_comes : ByteArray := prog_12_method_84_code
def yX10_comes : MethodName := ⟨RX10, "comes", "(II)V"⟩
abbrev cX10_lateOf : ByteArray := prog_12_method_85_code
def yX10_lateOf : MethodName := ⟨RX10, "lateOf", "(II)J"⟩
abbrev cX10_late : ByteArray := prog_12_method_86_code
def yX10_late : MethodName := ⟨RX10, "late", "(II)J"⟩
abbrev cX10_today : ByteArray := prog_12_method_87_code
def yX10_today : MethodName := ⟨RX10, "today", "(IIIZI)I"⟩
abbrev cX10_last : ByteArray := prog_12_method_88_code
def yX10_last : MethodName := ⟨RX10, "last", "(II)I"⟩
abbrev cX10_signs : ByteArray := prog_12_method_89_code
def yX10_signs : MethodName := ⟨RX10, "signs", "(II)J"⟩
abbrev cX10_forks : ByteArray := prog_12_method_90_code
def yX10_forks : MethodName := ⟨RX10, "forks", "(III)V"⟩
abbrev cX10_forkOf : ByteArray := prog_12_method_91_code
def yX10_forkOf : MethodName := ⟨RX10, "forkOf", "(II)J"⟩
abbrev cX10_middleOf : ByteArray := prog_12_method_92_code
def yX10_middleOf : MethodName := ⟨RX10, "middleOf", "(I)I"⟩
abbrev cX10_fork : ByteArray := prog_12_method_93_code
def yX10_fork : MethodName := ⟨RX10, "fork", "(IIII)J"⟩
abbrev cX10_middle : ByteArray := prog_12_method_94_code
def yX10_middle : MethodName := ⟨RX10, "middle", "(III)I"⟩
abbrev cX10_shares : ByteArray := prog_12_method_95_code
def yX10_shares : MethodName := ⟨RX10, "shares", "(III)J"⟩
abbrev cX10_lesser : ByteArray := prog_12_method_96_code
def yX10_lesser : MethodName := ⟨RX10, "lesser", "(JJ)J"⟩
abbrev cX10_byPlane : ByteArray := prog_12_method_97_code
def yX10_byPlane : MethodName := ⟨RX10, "byPlane", "(III)J"⟩
abbrev cX10_flownOf : ByteArray := prog_12_method_98_code
def yX10_flownOf : MethodName := ⟨RX10, "flownOf", "(III)J"⟩
abbrev cX10_flown : ByteArray := prog_12_method_99_code
def yX10_flown : MethodName := ⟨RX10, "flown", "(III)J"⟩
abbrev cX10_plane : ByteArray := prog_12_method_100_code
def yX10_plane : MethodName := ⟨RX10, "plane", "(II)I"⟩
abbrev cX10_edge : ByteArray := prog_12_method_101_code
def yX10_edge : MethodName := ⟨RX10, "edge", "(I)I"⟩
abbrev cX10_pathOf : ByteArray := prog_12_method_102_code
def yX10_pathOf : MethodName := ⟨RX10, "pathOf", "(II)I"⟩
abbrev cX10_fedBy : ByteArray := prog_12_method_103_code
def yX10_fedBy : MethodName := ⟨RX10, "fedBy", "(III)I"⟩
abbrev cX10_path : ByteArray := prog_12_method_104_code
def yX10_path : MethodName := ⟨RX10, "path", "(IIII)J"⟩
abbrev cX10_fed : ByteArray := prog_12_method_105_code
def yX10_fed : MethodName := ⟨RX10, "fed", "(II)I"⟩
abbrev cX10_isAsking : ByteArray := prog_12_method_106_code
def yX10_isAsking : MethodName := ⟨RX10, "isAsking", "(I)Z"⟩
abbrev cX10_askedBy : ByteArray := prog_12_method_107_code
def yX10_askedBy : MethodName := ⟨RX10, "askedBy", "(I)I"⟩
abbrev cX10_givenBy : ByteArray := prog_12_method_108_code
def yX10_givenBy : MethodName := ⟨RX10, "givenBy", "(III)I"⟩
abbrev cX10_whyNot : ByteArray := prog_12_method_109_code
def yX10_whyNot : MethodName := ⟨RX10, "whyNot", "(IIII)I"⟩
abbrev cX10_given : ByteArray := prog_12_method_110_code
def yX10_given : MethodName := ⟨RX10, "given", "(IIII)I"⟩
abbrev cX10_lossOf : ByteArray := prog_12_method_111_code
def yX10_lossOf : MethodName := ⟨RX10, "lossOf", "(III)J"⟩
abbrev cX10_bestAsk : ByteArray := prog_12_method_112_code
def yX10_bestAsk : MethodName := ⟨RX10, "bestAsk", "(IIII)I"⟩
abbrev cX10_asks_ : ByteArray := prog_12_method_113_code
def yX10_asks_ : MethodName := ⟨RX10, "asks", "(IIIII)I"⟩
abbrev cX10_pays : ByteArray := prog_12_method_114_code
def yX10_pays : MethodName := ⟨RX10, "pays", "(IIIII)J"⟩
abbrev cX10_standing : ByteArray := prog_12_method_115_code
def yX10_standing : MethodName := ⟨RX10, "standing", "(IIII)J"⟩
abbrev cX10_areHundredths : ByteArray := prog_12_method_116_code
def yX10_areHundredths : MethodName := ⟨RX10, "areHundredths", "(I)Z"⟩
abbrev cX10_burnt : ByteArray := prog_12_method_117_code
def yX10_burnt : MethodName := ⟨RX10, "burnt", "(IIII)J"⟩
abbrev cX10_spreadOf : ByteArray := prog_12_method_118_code
def yX10_spreadOf : MethodName := ⟨RX10, "spreadOf", "(IIII)J"⟩
abbrev cX10_spread : ByteArray := prog_12_method_119_code
def yX10_spread : MethodName := ⟨RX10, "spread", "(IIII)J"⟩
abbrev cX10_bear : ByteArray := prog_12_method_120_code
def yX10_bear : MethodName := ⟨RX10, "bear", "(III)I"⟩
abbrev cX10_drawn : ByteArray := prog_12_method_121_code
def yX10_drawn : MethodName := ⟨RX10, "drawn", "()I"⟩
abbrev cX10_draws : ByteArray := prog_12_method_122_code
def yX10_draws : MethodName := ⟨RX10, "draws", "(J)I"⟩
abbrev cX10_isSeed : ByteArray := prog_12_method_123_code
def yX10_isSeed : MethodName := ⟨RX10, "isSeed", "(I)Z"⟩
abbrev cX10_tellsYear : ByteArray := prog_12_method_124_code
def yX10_tellsYear : MethodName := ⟨RX10, "tellsYear", "()V"⟩
abbrev cX10_run : ByteArray := prog_12_method_125_code
def yX10_run : MethodName := ⟨RX10, "run", "(I)I"⟩
abbrev cX10_told : ByteArray := prog_12_method_126_code
def yX10_told : MethodName := ⟨RX10, "told", "(I)I"⟩
abbrev cX10_shut : ByteArray := prog_12_method_127_code
def yX10_shut : MethodName := ⟨RX10, "shut", "(I)I"⟩
abbrev cX10_firstLack : ByteArray := prog_12_method_128_code
def yX10_firstLack : MethodName := ⟨RX10, "firstLack", "(IIII)I"⟩
abbrev cX10_above : ByteArray := prog_12_method_129_code
def yX10_above : MethodName := ⟨RX10, "above", "(II)I"⟩
abbrev cX10_lacks : ByteArray := prog_12_method_130_code
def yX10_lacks : MethodName := ⟨RX10, "lacks", "(IIII)I"⟩
abbrev cX10_judged : ByteArray := prog_12_method_131_code
def yX10_judged : MethodName := ⟨RX10, "judged", "(II)I"⟩
abbrev cX10_whyNotJudged : ByteArray := prog_12_method_132_code
def yX10_whyNotJudged : MethodName := ⟨RX10, "whyNotJudged", "(II)I"⟩
abbrev cX10_judge : ByteArray := prog_12_method_133_code
def yX10_judge : MethodName := ⟨RX10, "judge", "(II)I"⟩
abbrev cX10_paid : ByteArray := prog_12_method_134_code
def yX10_paid : MethodName := ⟨RX10, "paid", "(III)J"⟩
abbrev cX10_years : ByteArray := prog_12_method_135_code
def yX10_years : MethodName := ⟨RX10, "years", "(IIIIII)I"⟩
abbrev cX10_count : ByteArray := prog_12_method_136_code
def yX10_count : MethodName := ⟨RX10, "count", "(I)I"⟩
abbrev cX10_copyAll : ByteArray := prog_12_method_137_code
def yX10_copyAll : MethodName := ⟨RX10, "copyAll", "(II)V"⟩
abbrev cX10_keep : ByteArray := prog_12_method_138_code
def yX10_keep : MethodName := ⟨RX10, "keep", "(I)I"⟩
abbrev cX10_back : ByteArray := prog_12_method_139_code
def yX10_back : MethodName := ⟨RX10, "back", "(I)I"⟩
def RJx145de : String := "java/io/Serializable"
def TJx145de : u_T := fun k => match k with
  | _ => ("", "", "", false)
def tyJx145de : Nat → FieldType := fun k => match k with
  | _ => .int
abbrev wsJx145de0 : List Cond := u_ws RJx145de TJx145de 0
theorem nmJx145de : ∀ a, a < 0 → ∀ b, b < 0 → a ≠ b → (TJx145de a).2.1 ≠ (TJx145de b).2.1 := by decide +kernel
theorem tyJx145de_ok : ∀ k, k < 0 → parseFieldDescriptor (TJx145de k).2.2.1 = some (tyJx145de k) := by decide +kernel
def RJx9f9b0 : String := "java/lang/CharSequence"
def TJx9f9b0 : u_T := fun k => match k with
  | _ => ("", "", "", false)
def tyJx9f9b0 : Nat → FieldType := fun k => match k with
  | _ => .int
abbrev wsJx9f9b00 : List Cond := u_ws RJx9f9b0 TJx9f9b0 0
theorem nmJx9f9b0 : ∀ a, a < 0 → ∀ b, b < 0 → a ≠ b → (TJx9f9b0 a).2.1 ≠ (TJx9f9b0 b).2.1 := by decide +kernel
theorem tyJx9f9b0_ok : ∀ k, k < 0 → parseFieldDescriptor (TJx9f9b0 k).2.2.1 = some (tyJx9f9b0 k) := by decide +kernel
def RJxb160c : String := "java/lang/Comparable"
def TJxb160c : u_T := fun k => match k with
  | _ => ("", "", "", false)
def tyJxb160c : Nat → FieldType := fun k => match k with
  | _ => .int
abbrev wsJxb160c0 : List Cond := u_ws RJxb160c TJxb160c 0
theorem nmJxb160c : ∀ a, a < 0 → ∀ b, b < 0 → a ≠ b → (TJxb160c a).2.1 ≠ (TJxb160c b).2.1 := by decide +kernel
theorem tyJxb160c_ok : ∀ k, k < 0 → parseFieldDescriptor (TJxb160c k).2.2.1 = some (tyJxb160c k) := by decide +kernel
def RJ6 : String := "java/lang/Integer"
def TJ6 : u_T := fun k => match k with
  | _ => ("", "", "", false)
def tyJ6 : Nat → FieldType := fun k => match k with
  | _ => .int
abbrev wsJ60 : List Cond := u_ws RJ6 TJ6 0
theorem nmJ6 : ∀ a, a < 0 → ∀ b, b < 0 → a ≠ b → (TJ6 a).2.1 ≠ (TJ6 b).2.1 := by decide +kernel
theorem tyJ6_ok : ∀ k, k < 0 → parseFieldDescriptor (TJ6 k).2.2.1 = some (tyJ6 k) := by decide +kernel
abbrev cJ6_bitCount_0f7a4 : ByteArray := prog_13_method_49_code
def yJ6_bitCount_0f7a4 : MethodName := ⟨RJ6, "bitCount", "(I)I"⟩
def RJ9 : String := "java/lang/Math"
def TJ9 : u_T := fun k => match k with
  | _ => ("", "", "", false)
def tyJ9 : Nat → FieldType := fun k => match k with
  | _ => .int
abbrev wsJ90 : List Cond := u_ws RJ9 TJ9 0
theorem nmJ9 : ∀ a, a < 0 → ∀ b, b < 0 → a ≠ b → (TJ9 a).2.1 ≠ (TJ9 b).2.1 := by decide +kernel
theorem tyJ9_ok : ∀ k, k < 0 → parseFieldDescriptor (TJ9 k).2.2.1 = some (tyJ9 k) := by decide +kernel
abbrev cJ9_max_7cf53 : ByteArray := prog_14_method_65_code
def yJ9_max_7cf53 : MethodName := ⟨RJ9, "max", "(II)I"⟩
abbrev cJ9_max_f86c9 : ByteArray := prog_14_method_66_code
def yJ9_max_f86c9 : MethodName := ⟨RJ9, "max", "(JJ)J"⟩
abbrev cJ9_min_7cf53 : ByteArray := prog_14_method_69_code
def yJ9_min_7cf53 : MethodName := ⟨RJ9, "min", "(II)I"⟩
abbrev cJ9_min_f86c9 : ByteArray := prog_14_method_70_code
def yJ9_min_f86c9 : MethodName := ⟨RJ9, "min", "(JJ)J"⟩
def RJ0 : String := "java/lang/String"
def TJ0 : u_T := fun k => match k with
  | _ => ("", "", "", false)
def tyJ0 : Nat → FieldType := fun k => match k with
  | _ => .int
abbrev wsJ00 : List Cond := u_ws RJ0 TJ0 0
theorem nmJ0 : ∀ a, a < 0 → ∀ b, b < 0 → a ≠ b → (TJ0 a).2.1 ≠ (TJ0 b).2.1 := by decide +kernel
theorem tyJ0_ok : ∀ k, k < 0 → parseFieldDescriptor (TJ0 k).2.2.1 = some (tyJ0 k) := by decide +kernel
abbrev cJ0_length_8abf5 : ByteArray := prog_15_method_54_code
def yJ0_length_8abf5 : MethodName := ⟨RJ0, "length", "()I"⟩
abbrev cJ0_charAt_5068e : ByteArray := prog_15_method_56_code
def yJ0_charAt_5068e : MethodName := ⟨RJ0, "charAt", "(I)C"⟩
abbrev cJ0_coder_7d493 : ByteArray := prog_15_method_152_code
def yJ0_coder_7d493 : MethodName := ⟨RJ0, "coder", "()B"⟩
abbrev cJ0_isLatin1_aae02 : ByteArray := prog_15_method_154_code
def yJ0_isLatin1_aae02 : MethodName := ⟨RJ0, "isLatin1", "()Z"⟩
abbrev cJ0_checkIndex_df160 : ByteArray := prog_15_method_155_code
def yJ0_checkIndex_df160 : MethodName := ⟨RJ0, "checkIndex", "(II)V"⟩
def RJ1 : String := "java/lang/StringLatin1"
def TJ1 : u_T := fun k => match k with
  | _ => ("", "", "", false)
def tyJ1 : Nat → FieldType := fun k => match k with
  | _ => .int
abbrev wsJ10 : List Cond := u_ws RJ1 TJ1 0
theorem nmJ1 : ∀ a, a < 0 → ∀ b, b < 0 → a ≠ b → (TJ1 a).2.1 ≠ (TJ1 b).2.1 := by decide +kernel
theorem tyJ1_ok : ∀ k, k < 0 → parseFieldDescriptor (TJ1 k).2.2.1 = some (tyJ1 k) := by decide +kernel
abbrev cJ1_charAt_3b067 : ByteArray := prog_16_method_2_code
def yJ1_charAt_3b067 : MethodName := ⟨RJ1, "charAt", "([BI)C"⟩
def RJ2 : String := "java/lang/StringUTF16"
def TJ2 : u_T := fun k => match k with
  | _ => ("", "", "", false)
def tyJ2 : Nat → FieldType := fun k => match k with
  | _ => .int
abbrev wsJ20 : List Cond := u_ws RJ2 TJ2 0
theorem nmJ2 : ∀ a, a < 0 → ∀ b, b < 0 → a ≠ b → (TJ2 a).2.1 ≠ (TJ2 b).2.1 := by decide +kernel
theorem tyJ2_ok : ∀ k, k < 0 → parseFieldDescriptor (TJ2 k).2.2.1 = some (tyJ2 k) := by decide +kernel
abbrev cJ2_getChar_3b067 : ByteArray := prog_17_method_5_code
def yJ2_getChar_3b067 : MethodName := ⟨RJ2, "getChar", "([BI)C"⟩
abbrev cJ2_length_9d52b : ByteArray := prog_17_method_6_code
def yJ2_length_9d52b : MethodName := ⟨RJ2, "length", "([B)I"⟩
abbrev cJ2_charAt_3b067 : ByteArray := prog_17_method_83_code
def yJ2_charAt_3b067 : MethodName := ⟨RJ2, "charAt", "([BI)C"⟩
abbrev cJ2_checkIndex_2214a : ByteArray := prog_17_method_91_code
def yJ2_checkIndex_2214a : MethodName := ⟨RJ2, "checkIndex", "(I[B)V"⟩
def RJ10 : String := "java/lang/System"
def TJ10 : u_T := fun k => match k with
  | _ => ("", "", "", false)
def tyJ10 : Nat → FieldType := fun k => match k with
  | _ => .int
abbrev wsJ100 : List Cond := u_ws RJ10 TJ10 0
theorem nmJ10 : ∀ a, a < 0 → ∀ b, b < 0 → a ≠ b → (TJ10 a).2.1 ≠ (TJ10 b).2.1 := by decide +kernel
theorem tyJ10_ok : ∀ k, k < 0 → parseFieldDescriptor (TJ10 k).2.2.1 = some (tyJ10 k) := by decide +kernel
def RJxfd54e : String := "java/lang/constant/Constable"
def TJxfd54e : u_T := fun k => match k with
  | _ => ("", "", "", false)
def tyJxfd54e : Nat → FieldType := fun k => match k with
  | _ => .int
abbrev wsJxfd54e0 : List Cond := u_ws RJxfd54e TJxfd54e 0
theorem nmJxfd54e : ∀ a, a < 0 → ∀ b, b < 0 → a ≠ b → (TJxfd54e a).2.1 ≠ (TJxfd54e b).2.1 := by decide +kernel
theorem tyJxfd54e_ok : ∀ k, k < 0 → parseFieldDescriptor (TJxfd54e k).2.2.1 = some (tyJxfd54e k) := by decide +kernel
def RJx3cf43 : String := "java/lang/constant/ConstantDesc"
def TJx3cf43 : u_T := fun k => match k with
  | _ => ("", "", "", false)
def tyJx3cf43 : Nat → FieldType := fun k => match k with
  | _ => .int
abbrev wsJx3cf430 : List Cond := u_ws RJx3cf43 TJx3cf43 0
theorem nmJx3cf43 : ∀ a, a < 0 → ∀ b, b < 0 → a ≠ b → (TJx3cf43 a).2.1 ≠ (TJx3cf43 b).2.1 := by decide +kernel
theorem tyJx3cf43_ok : ∀ k, k < 0 → parseFieldDescriptor (TJx3cf43 k).2.2.1 = some (tyJx3cf43 k) := by decide +kernel
def RJ7 : String := "java/util/Arrays"
def TJ7 : u_T := fun k => match k with
  | _ => ("", "", "", false)
def tyJ7 : Nat → FieldType := fun k => match k with
  | _ => .int
abbrev wsJ70 : List Cond := u_ws RJ7 TJ7 0
theorem nmJ7 : ∀ a, a < 0 → ∀ b, b < 0 → a ≠ b → (TJ7 a).2.1 ≠ (TJ7 b).2.1 := by decide +kernel
theorem tyJ7_ok : ∀ k, k < 0 → parseFieldDescriptor (TJ7 k).2.2.1 = some (tyJ7 k) := by decide +kernel
abbrev cJ7_fill_d0a16 : ByteArray := prog_19_method_101_code
def yJ7_fill_d0a16 : MethodName := ⟨RJ7, "fill", "([JJ)V"⟩
abbrev cJ7_fill_53178 : ByteArray := prog_19_method_103_code
def yJ7_fill_53178 : MethodName := ⟨RJ7, "fill", "([II)V"⟩
def RJ3 : String := "jdk/internal/util/Preconditions"
def TJ3 : u_T := fun k => match k with
  | _ => ("", "", "", false)
def tyJ3 : Nat → FieldType := fun k => match k with
  | _ => .int
abbrev wsJ30 : List Cond := u_ws RJ3 TJ3 0
theorem nmJ3 : ∀ a, a < 0 → ∀ b, b < 0 → a ≠ b → (TJ3 a).2.1 ≠ (TJ3 b).2.1 := by decide +kernel
theorem tyJ3_ok : ∀ k, k < 0 → parseFieldDescriptor (TJ3 k).2.2.1 = some (tyJ3 k) := by decide +kernel
abbrev cJ3_checkIndex_8e157 : ByteArray := prog_20_method_11_code
def yJ3_checkIndex_8e157 : MethodName := ⟨RJ3, "checkIndex", "(IILjava/util/function/BiFunction;)I"⟩
def RL : String := "RoadShutLaw"
abbrev cL_law : ByteArray := code
def yL_law : MethodName := ⟨RL, "law", "([I)Z"⟩
abbrev vwCl : List vw_C := [(RX0, TX0, 1), (RX1, TX1, 2), (RX2, TX2, 21), (RX3, TX3, 10), (RX4, TX4, 12), (RX5, TX5, 7), (RX6, TX6, 2), (RX7, TX7, 1), (RX8, TX8, 5), (RX9, TX9, 14), (RX10, TX10, 43)]
end
section
/-! ===== the words of the tables, each by its place ===== -/
def GW : List Cond := lw_tbl.filter goodWord
theorem gw_of {w : Cond} (h : w ∈ lw_tbl) (hg : goodWord w = true) : w ∈ GW := List.mem_filter.mpr ⟨h, hg⟩
theorem gw_tbl : ∀ w ∈ GW, w ∈ lw_tbl := fun _ h => (List.mem_filter.mp h).1
theorem gw_good : ∀ w ∈ GW, goodWord w = true := fun _ h => (List.mem_filter.mp h).2
theorem gw_t1 {w : Cond} (h : w ∈ tables_1_1) (hg : goodWord w = true) : w ∈ GW := gw_of (List.mem_append_right _ (show w ∈ tables_1 from (List.mem_append_left _ h))) hg
theorem gw_t2 {w : Cond} (h : w ∈ tables_1_2) (hg : goodWord w = true) : w ∈ GW := gw_of (List.mem_append_right _ (show w ∈ tables_1 from (List.mem_append_right _ (List.mem_append_left _ h)))) hg
theorem gw_t3 {w : Cond} (h : w ∈ tables_1_3) (hg : goodWord w = true) : w ∈ GW := gw_of (List.mem_append_right _ (show w ∈ tables_1 from (List.mem_append_right _ (List.mem_append_right _ (List.mem_append_left _ h))))) hg
theorem gw_t4 {w : Cond} (h : w ∈ tables_1_4) (hg : goodWord w = true) : w ∈ GW := gw_of (List.mem_append_right _ (show w ∈ tables_1 from (List.mem_append_right _ (List.mem_append_right _ (List.mem_append_right _ (List.mem_append_left _ h)))))) hg
theorem gw_t5 {w : Cond} (h : w ∈ tables_1_5) (hg : goodWord w = true) : w ∈ GW := gw_of (List.mem_append_right _ (show w ∈ tables_1 from (List.mem_append_right _ (List.mem_append_right _ (List.mem_append_right _ (List.mem_append_right _ (List.mem_append_left _ h))))))) hg
theorem gw_t6 {w : Cond} (h : w ∈ tables_1_6) (hg : goodWord w = true) : w ∈ GW := gw_of (List.mem_append_right _ (show w ∈ tables_1 from (List.mem_append_right _ (List.mem_append_right _ (List.mem_append_right _ (List.mem_append_right _ (List.mem_append_right _ (List.mem_append_left _ h)))))))) hg
theorem gw_t7 {w : Cond} (h : w ∈ tables_1_7) (hg : goodWord w = true) : w ∈ GW := gw_of (List.mem_append_right _ (show w ∈ tables_1 from (List.mem_append_right _ (List.mem_append_right _ (List.mem_append_right _ (List.mem_append_right _ (List.mem_append_right _ (List.mem_append_right _ (List.mem_append_left _ h))))))))) hg
theorem gw_t8 {w : Cond} (h : w ∈ tables_1_8) (hg : goodWord w = true) : w ∈ GW := gw_of (List.mem_append_right _ (show w ∈ tables_1 from (List.mem_append_right _ (List.mem_append_right _ (List.mem_append_right _ (List.mem_append_right _ (List.mem_append_right _ (List.mem_append_right _ (List.mem_append_right _ h))))))))) hg
theorem gw_p1 {q : MethodName × Nat} (h : q ∈ lw_privs_1) (hg : goodWord (Cond.selects q.1.cls q.1 q.1) = true) : Cond.selects q.1.cls q.1 q.1 ∈ GW := gw_of (List.mem_append_left _ (List.mem_map.mpr ⟨q, (show q ∈ lw_privs from (List.mem_append_left _ h)), rfl⟩)) hg
theorem gw_p2 {q : MethodName × Nat} (h : q ∈ lw_privs_2) (hg : goodWord (Cond.selects q.1.cls q.1 q.1) = true) : Cond.selects q.1.cls q.1 q.1 ∈ GW := gw_of (List.mem_append_left _ (List.mem_map.mpr ⟨q, (show q ∈ lw_privs from (List.mem_append_right _ (List.mem_append_left _ h))), rfl⟩)) hg
theorem gw_p3 {q : MethodName × Nat} (h : q ∈ lw_privs_3) (hg : goodWord (Cond.selects q.1.cls q.1 q.1) = true) : Cond.selects q.1.cls q.1 q.1 ∈ GW := gw_of (List.mem_append_left _ (List.mem_map.mpr ⟨q, (show q ∈ lw_privs from (List.mem_append_right _ (List.mem_append_right _ (List.mem_append_left _ h)))), rfl⟩)) hg
theorem gw_p4 {q : MethodName × Nat} (h : q ∈ lw_privs_4) (hg : goodWord (Cond.selects q.1.cls q.1 q.1) = true) : Cond.selects q.1.cls q.1 q.1 ∈ GW := gw_of (List.mem_append_left _ (List.mem_map.mpr ⟨q, (show q ∈ lw_privs from (List.mem_append_right _ (List.mem_append_right _ (List.mem_append_right _ (List.mem_append_left _ h))))), rfl⟩)) hg
theorem gw_p5 {q : MethodName × Nat} (h : q ∈ lw_privs_5) (hg : goodWord (Cond.selects q.1.cls q.1 q.1) = true) : Cond.selects q.1.cls q.1 q.1 ∈ GW := gw_of (List.mem_append_left _ (List.mem_map.mpr ⟨q, (show q ∈ lw_privs from (List.mem_append_right _ (List.mem_append_right _ (List.mem_append_right _ (List.mem_append_right _ (List.mem_append_left _ h)))))), rfl⟩)) hg
theorem gw_p6 {q : MethodName × Nat} (h : q ∈ lw_privs_6) (hg : goodWord (Cond.selects q.1.cls q.1 q.1) = true) : Cond.selects q.1.cls q.1 q.1 ∈ GW := gw_of (List.mem_append_left _ (List.mem_map.mpr ⟨q, (show q ∈ lw_privs from (List.mem_append_right _ (List.mem_append_right _ (List.mem_append_right _ (List.mem_append_right _ (List.mem_append_right _ (List.mem_append_left _ h))))))), rfl⟩)) hg
theorem gw_p7 {q : MethodName × Nat} (h : q ∈ lw_privs_7) (hg : goodWord (Cond.selects q.1.cls q.1 q.1) = true) : Cond.selects q.1.cls q.1 q.1 ∈ GW := gw_of (List.mem_append_left _ (List.mem_map.mpr ⟨q, (show q ∈ lw_privs from (List.mem_append_right _ (List.mem_append_right _ (List.mem_append_right _ (List.mem_append_right _ (List.mem_append_right _ (List.mem_append_right _ (List.mem_append_left _ h)))))))), rfl⟩)) hg
theorem gw_p8 {q : MethodName × Nat} (h : q ∈ lw_privs_8) (hg : goodWord (Cond.selects q.1.cls q.1 q.1) = true) : Cond.selects q.1.cls q.1 q.1 ∈ GW := gw_of (List.mem_append_left _ (List.mem_map.mpr ⟨q, (show q ∈ lw_privs from (List.mem_append_right _ (List.mem_append_right _ (List.mem_append_right _ (List.mem_append_right _ (List.mem_append_right _ (List.mem_append_right _ (List.mem_append_right _ h)))))))), rfl⟩)) hg
theorem ini_L : Cond.initialized RL ∈ GW := gw_t1 (List.mem_of_getElem? (i := 0) rfl) rfl
theorem ini_X9 : Cond.initialized RX9 ∈ GW := gw_t1 (List.mem_of_getElem? (i := 1) rfl) rfl
theorem ini_X4 : Cond.initialized RX4 ∈ GW := gw_t1 (List.mem_of_getElem? (i := 2) rfl) rfl
theorem ini_X2 : Cond.initialized RX2 ∈ GW := gw_t1 (List.mem_of_getElem? (i := 3) rfl) rfl
theorem ini_X8 : Cond.initialized RX8 ∈ GW := gw_t1 (List.mem_of_getElem? (i := 4) rfl) rfl
theorem ini_X5 : Cond.initialized RX5 ∈ GW := gw_t1 (List.mem_of_getElem? (i := 5) rfl) rfl
theorem ini_X3 : Cond.initialized RX3 ∈ GW := gw_t1 (List.mem_of_getElem? (i := 6) rfl) rfl
theorem ini_X7 : Cond.initialized RX7 ∈ GW := gw_t1 (List.mem_of_getElem? (i := 7) rfl) rfl
theorem ini_X0 : Cond.initialized RX0 ∈ GW := gw_t1 (List.mem_of_getElem? (i := 8) rfl) rfl
theorem ini_X10 : Cond.initialized RX10 ∈ GW := gw_t1 (List.mem_of_getElem? (i := 9) rfl) rfl
theorem ini_J9 : Cond.initialized RJ9 ∈ GW := gw_t1 (List.mem_of_getElem? (i := 10) rfl) rfl
theorem ini_J0 : Cond.initialized RJ0 ∈ GW := gw_t1 (List.mem_of_getElem? (i := 11) rfl) rfl
theorem ini_J1 : Cond.initialized RJ1 ∈ GW := gw_t1 (List.mem_of_getElem? (i := 12) rfl) rfl
theorem ini_J3 : Cond.initialized RJ3 ∈ GW := gw_t1 (List.mem_of_getElem? (i := 13) rfl) rfl
theorem ini_J2 : Cond.initialized RJ2 ∈ GW := gw_t1 (List.mem_of_getElem? (i := 14) rfl) rfl
theorem ini_J7 : Cond.initialized RJ7 ∈ GW := gw_t1 (List.mem_of_getElem? (i := 15) rfl) rfl
theorem ini_J10 : Cond.initialized RJ10 ∈ GW := gw_t1 (List.mem_of_getElem? (i := 16) rfl) rfl
theorem ini_J6 : Cond.initialized RJ6 ∈ GW := gw_t1 (List.mem_of_getElem? (i := 17) rfl) rfl
theorem ini_X1 : Cond.initialized RX1 ∈ GW := gw_t1 (List.mem_of_getElem? (i := 18) rfl) rfl
theorem ini_X6 : Cond.initialized RX6 ∈ GW := gw_t1 (List.mem_of_getElem? (i := 19) rfl) rfl
theorem cl_L_7 : Cond.classLink RL 7 RX9 ∈ GW := gw_t1 (List.mem_of_getElem? (i := 20) rfl) rfl
theorem ins_X9 : Cond.instantiable RX9 14 ∈ GW := gw_t1 (List.mem_of_getElem? (i := 21) rfl) rfl
theorem ml_L_9 : Cond.methodLink RL 9 yX9_init ∈ GW := gw_t1 (List.mem_of_getElem? (i := 22) rfl) rfl
theorem im_X9_init : Cond.instanceMethod yX9_init ∈ GW := gw_t1 (List.mem_of_getElem? (i := 23) rfl) rfl
theorem co_X9_init : Cond.code yX9_init cX9_init 1 none ∈ GW := gw_t1 (List.mem_of_getElem? (i := 24) rfl) rfl
theorem ml_X9_1 : Cond.methodLink RX9 1 ⟨"java/lang/Object", "<init>", "()V"⟩ ∈ GW := gw_t1 (List.mem_of_getElem? (i := 25) rfl) rfl
theorem cl_X9_13 : Cond.classLink RX9 13 RX4 ∈ GW := gw_t1 (List.mem_of_getElem? (i := 28) rfl) rfl
theorem ins_X4 : Cond.instantiable RX4 12 ∈ GW := gw_t1 (List.mem_of_getElem? (i := 29) rfl) rfl
theorem im_X4_init : Cond.instanceMethod yX4_init ∈ GW := gw_t1 (List.mem_of_getElem? (i := 31) rfl) rfl
theorem co_X4_init : Cond.code yX4_init cX4_init 1 none ∈ GW := gw_t1 (List.mem_of_getElem? (i := 32) rfl) rfl
theorem ml_X4_3 : Cond.methodLink RX4 3 ⟨"java/lang/Object", "<init>", "()V"⟩ ∈ GW := gw_t1 (List.mem_of_getElem? (i := 33) rfl) rfl
theorem cl_X4_19 : Cond.classLink RX4 19 RX2 ∈ GW := gw_t1 (List.mem_of_getElem? (i := 34) rfl) rfl
theorem ins_X2 : Cond.instantiable RX2 21 ∈ GW := gw_t1 (List.mem_of_getElem? (i := 35) rfl) rfl
theorem im_X2_init : Cond.instanceMethod yX2_init ∈ GW := gw_t1 (List.mem_of_getElem? (i := 37) rfl) rfl
theorem co_X2_init : Cond.code yX2_init cX2_init 1 none ∈ GW := gw_t1 (List.mem_of_getElem? (i := 38) rfl) rfl
theorem ml_X2_3 : Cond.methodLink RX2 3 ⟨"java/lang/Object", "<init>", "()V"⟩ ∈ GW := gw_t1 (List.mem_of_getElem? (i := 39) rfl) rfl
theorem fl_X4_39 : Cond.fieldLink RX4 39 "RoadShut$Land" "lines" "I" ∈ GW := gw_t1 (List.mem_of_getElem? (i := 40) rfl) rfl
theorem fl_X9_96 : Cond.fieldLink RX9 96 "RoadShut$Land" "lines" "I" ∈ GW := gw_t1 (List.mem_of_getElem? (i := 41) rfl) rfl
theorem fl_X0_19 : Cond.fieldLink RX0 19 "RoadShut$Land" "days" "I" ∈ GW := gw_t1 (List.mem_of_getElem? (i := 42) rfl) rfl
theorem fl_X3_78 : Cond.fieldLink RX3 78 "RoadShut$Land" "days" "I" ∈ GW := gw_t1 (List.mem_of_getElem? (i := 43) rfl) rfl
theorem fl_X4_120 : Cond.fieldLink RX4 120 "RoadShut$Land" "days" "I" ∈ GW := gw_t1 (List.mem_of_getElem? (i := 44) rfl) rfl
theorem fl_X5_47 : Cond.fieldLink RX5 47 "RoadShut$Land" "days" "I" ∈ GW := gw_t1 (List.mem_of_getElem? (i := 45) rfl) rfl
theorem fl_X2_53 : Cond.fieldLink RX2 53 "RoadShut$Land" "days" "I" ∈ GW := gw_t1 (List.mem_of_getElem? (i := 46) rfl) rfl
theorem fl_X8_57 : Cond.fieldLink RX8 57 "RoadShut$Land" "days" "I" ∈ GW := gw_t1 (List.mem_of_getElem? (i := 47) rfl) rfl
theorem fl_X9_155 : Cond.fieldLink RX9 155 "RoadShut$Land" "days" "I" ∈ GW := gw_t1 (List.mem_of_getElem? (i := 48) rfl) rfl
theorem fl_X4_124 : Cond.fieldLink RX4 124 "RoadShut$Land" "first" "I" ∈ GW := gw_t1 (List.mem_of_getElem? (i := 49) rfl) rfl
theorem fl_X2_56 : Cond.fieldLink RX2 56 "RoadShut$Land" "first" "I" ∈ GW := gw_t1 (List.mem_of_getElem? (i := 50) rfl) rfl
theorem fl_X4_128 : Cond.fieldLink RX4 128 "RoadShut$Land" "snow" "I" ∈ GW := gw_t1 (List.mem_of_getElem? (i := 51) rfl) rfl
theorem fl_X2_59 : Cond.fieldLink RX2 59 "RoadShut$Land" "snow" "I" ∈ GW := gw_t1 (List.mem_of_getElem? (i := 52) rfl) rfl
theorem fl_X4_132 : Cond.fieldLink RX4 132 "RoadShut$Land" "clear" "I" ∈ GW := gw_t1 (List.mem_of_getElem? (i := 53) rfl) rfl
theorem fl_X2_62 : Cond.fieldLink RX2 62 "RoadShut$Land" "clear" "I" ∈ GW := gw_t1 (List.mem_of_getElem? (i := 54) rfl) rfl
theorem fl_X2_47 : Cond.fieldLink RX2 47 "RoadShut$Land" "things" "I" ∈ GW := gw_t1 (List.mem_of_getElem? (i := 55) rfl) rfl
theorem fl_X4_134 : Cond.fieldLink RX4 134 "RoadShut$Land" "things" "I" ∈ GW := gw_t1 (List.mem_of_getElem? (i := 56) rfl) rfl
theorem fl_X8_147 : Cond.fieldLink RX8 147 "RoadShut$Land" "things" "I" ∈ GW := gw_t1 (List.mem_of_getElem? (i := 57) rfl) rfl
theorem fl_X9_202 : Cond.fieldLink RX9 202 "RoadShut$Land" "things" "I" ∈ GW := gw_t1 (List.mem_of_getElem? (i := 58) rfl) rfl
theorem fl_X2_40 : Cond.fieldLink RX2 40 "RoadShut$Land" "valleys" "I" ∈ GW := gw_t1 (List.mem_of_getElem? (i := 59) rfl) rfl
theorem fl_X0_33 : Cond.fieldLink RX0 33 "RoadShut$Land" "valleys" "I" ∈ GW := gw_t1 (List.mem_of_getElem? (i := 60) rfl) rfl
theorem fl_X4_151 : Cond.fieldLink RX4 151 "RoadShut$Land" "valleys" "I" ∈ GW := gw_t1 (List.mem_of_getElem? (i := 61) rfl) rfl
theorem fl_X9_137 : Cond.fieldLink RX9 137 "RoadShut$Land" "valleys" "I" ∈ GW := gw_t1 (List.mem_of_getElem? (i := 62) rfl) rfl
theorem fl_X5_79 : Cond.fieldLink RX5 79 "RoadShut$Land" "valleys" "I" ∈ GW := gw_t1 (List.mem_of_getElem? (i := 63) rfl) rfl
theorem fl_X4_194 : Cond.fieldLink RX4 194 "RoadShut$Land" "paths" "I" ∈ GW := gw_t1 (List.mem_of_getElem? (i := 64) rfl) rfl
theorem fl_X9_352 : Cond.fieldLink RX9 352 "RoadShut$Land" "paths" "I" ∈ GW := gw_t1 (List.mem_of_getElem? (i := 65) rfl) rfl
theorem fl_X2_9 : Cond.fieldLink RX2 9 "RoadShut$Land" "lorries" "I" ∈ GW := gw_t1 (List.mem_of_getElem? (i := 66) rfl) rfl
theorem fl_X4_173 : Cond.fieldLink RX4 173 "RoadShut$Land" "lorries" "I" ∈ GW := gw_t1 (List.mem_of_getElem? (i := 67) rfl) rfl
theorem fl_X3_108 : Cond.fieldLink RX3 108 "RoadShut$Land" "lorries" "I" ∈ GW := gw_t1 (List.mem_of_getElem? (i := 68) rfl) rfl
theorem fl_X2_15 : Cond.fieldLink RX2 15 "RoadShut$Land" "load" "I" ∈ GW := gw_t1 (List.mem_of_getElem? (i := 69) rfl) rfl
theorem fl_X3_48 : Cond.fieldLink RX3 48 "RoadShut$Land" "load" "I" ∈ GW := gw_t1 (List.mem_of_getElem? (i := 70) rfl) rfl
theorem fl_X4_178 : Cond.fieldLink RX4 178 "RoadShut$Land" "load" "I" ∈ GW := gw_t1 (List.mem_of_getElem? (i := 71) rfl) rfl
theorem fl_X9_341 : Cond.fieldLink RX9 341 "RoadShut$Land" "load" "I" ∈ GW := gw_t1 (List.mem_of_getElem? (i := 72) rfl) rfl
theorem fl_X3_62 : Cond.fieldLink RX3 62 "RoadShut$Land" "fare" "I" ∈ GW := gw_t1 (List.mem_of_getElem? (i := 73) rfl) rfl
theorem fl_X4_183 : Cond.fieldLink RX4 183 "RoadShut$Land" "fare" "I" ∈ GW := gw_t1 (List.mem_of_getElem? (i := 74) rfl) rfl
theorem fl_X9_230 : Cond.fieldLink RX9 230 "RoadShut$Land" "fare" "I" ∈ GW := gw_t1 (List.mem_of_getElem? (i := 75) rfl) rfl
theorem fl_X4_186 : Cond.fieldLink RX4 186 "RoadShut$Land" "planeLoad" "I" ∈ GW := gw_t1 (List.mem_of_getElem? (i := 76) rfl) rfl
theorem fl_X8_132 : Cond.fieldLink RX8 132 "RoadShut$Land" "planeLoad" "I" ∈ GW := gw_t1 (List.mem_of_getElem? (i := 77) rfl) rfl
theorem fl_X9_254 : Cond.fieldLink RX9 254 "RoadShut$Land" "planeLoad" "I" ∈ GW := gw_t1 (List.mem_of_getElem? (i := 78) rfl) rfl
theorem fl_X4_189 : Cond.fieldLink RX4 189 "RoadShut$Land" "planeFare" "I" ∈ GW := gw_t1 (List.mem_of_getElem? (i := 79) rfl) rfl
theorem fl_X8_135 : Cond.fieldLink RX8 135 "RoadShut$Land" "planeFare" "I" ∈ GW := gw_t1 (List.mem_of_getElem? (i := 80) rfl) rfl
theorem fl_X9_257 : Cond.fieldLink RX9 257 "RoadShut$Land" "planeFare" "I" ∈ GW := gw_t1 (List.mem_of_getElem? (i := 81) rfl) rfl
theorem fl_X4_192 : Cond.fieldLink RX4 192 "RoadShut$Land" "mule" "I" ∈ GW := gw_t1 (List.mem_of_getElem? (i := 82) rfl) rfl
theorem fl_X8_74 : Cond.fieldLink RX8 74 "RoadShut$Land" "mule" "I" ∈ GW := gw_t1 (List.mem_of_getElem? (i := 83) rfl) rfl
theorem fl_X2_18 : Cond.fieldLink RX2 18 "RoadShut$Land" "price" "[I" ∈ GW := gw_t1 (List.mem_of_getElem? (i := 84) rfl) rfl
theorem fl_X3_65 : Cond.fieldLink RX3 65 "RoadShut$Land" "price" "[I" ∈ GW := gw_t1 (List.mem_of_getElem? (i := 85) rfl) rfl
theorem fl_X4_137 : Cond.fieldLink RX4 137 "RoadShut$Land" "price" "[I" ∈ GW := gw_t1 (List.mem_of_getElem? (i := 86) rfl) rfl
theorem fl_X8_114 : Cond.fieldLink RX8 114 "RoadShut$Land" "price" "[I" ∈ GW := gw_t1 (List.mem_of_getElem? (i := 87) rfl) rfl
theorem fl_X9_346 : Cond.fieldLink RX9 346 "RoadShut$Land" "price" "[I" ∈ GW := gw_t1 (List.mem_of_getElem? (i := 88) rfl) rfl
theorem fl_X2_22 : Cond.fieldLink RX2 22 "RoadShut$Land" "harm" "[I" ∈ GW := gw_t1 (List.mem_of_getElem? (i := 89) rfl) rfl
theorem fl_X4_142 : Cond.fieldLink RX4 142 "RoadShut$Land" "harm" "[I" ∈ GW := gw_t1 (List.mem_of_getElem? (i := 90) rfl) rfl
theorem fl_X3_103 : Cond.fieldLink RX3 103 "RoadShut$Land" "harm" "[I" ∈ GW := gw_t1 (List.mem_of_getElem? (i := 91) rfl) rfl
theorem fl_X8_122 : Cond.fieldLink RX8 122 "RoadShut$Land" "harm" "[I" ∈ GW := gw_t1 (List.mem_of_getElem? (i := 92) rfl) rfl
theorem fl_X9_251 : Cond.fieldLink RX9 251 "RoadShut$Land" "harm" "[I" ∈ GW := gw_t1 (List.mem_of_getElem? (i := 93) rfl) rfl
theorem fl_X2_25 : Cond.fieldLink RX2 25 "RoadShut$Land" "returning" "[I" ∈ GW := gw_t1 (List.mem_of_getElem? (i := 94) rfl) rfl
theorem fl_X3_71 : Cond.fieldLink RX3 71 "RoadShut$Land" "returning" "[I" ∈ GW := gw_t1 (List.mem_of_getElem? (i := 95) rfl) rfl
theorem fl_X4_146 : Cond.fieldLink RX4 146 "RoadShut$Land" "returning" "[I" ∈ GW := gw_t1 (List.mem_of_getElem? (i := 96) rfl) rfl
theorem fl_X8_119 : Cond.fieldLink RX8 119 "RoadShut$Land" "returning" "[I" ∈ GW := gw_t1 (List.mem_of_getElem? (i := 97) rfl) rfl
theorem fl_X9_349 : Cond.fieldLink RX9 349 "RoadShut$Land" "returning" "[I" ∈ GW := gw_t1 (List.mem_of_getElem? (i := 98) rfl) rfl
theorem fl_X2_28 : Cond.fieldLink RX2 28 "RoadShut$Land" "closing" "[I" ∈ GW := gw_t1 (List.mem_of_getElem? (i := 99) rfl) rfl
theorem fl_X0_36 : Cond.fieldLink RX0 36 "RoadShut$Land" "closing" "[I" ∈ GW := gw_t1 (List.mem_of_getElem? (i := 100) rfl) rfl
theorem fl_X5_55 : Cond.fieldLink RX5 55 "RoadShut$Land" "closing" "[I" ∈ GW := gw_t1 (List.mem_of_getElem? (i := 101) rfl) rfl
theorem fl_X4_154 : Cond.fieldLink RX4 154 "RoadShut$Land" "closing" "[I" ∈ GW := gw_t1 (List.mem_of_getElem? (i := 102) rfl) rfl
theorem fl_X3_96 : Cond.fieldLink RX3 96 "RoadShut$Land" "closing" "[I" ∈ GW := gw_t1 (List.mem_of_getElem? (i := 103) rfl) rfl
theorem fl_X2_31 : Cond.fieldLink RX2 31 "RoadShut$Land" "room" "[I" ∈ GW := gw_t1 (List.mem_of_getElem? (i := 104) rfl) rfl
theorem fl_X4_159 : Cond.fieldLink RX4 159 "RoadShut$Land" "room" "[I" ∈ GW := gw_t1 (List.mem_of_getElem? (i := 105) rfl) rfl
theorem fl_X8_150 : Cond.fieldLink RX8 150 "RoadShut$Land" "room" "[I" ∈ GW := gw_t1 (List.mem_of_getElem? (i := 106) rfl) rfl
theorem fl_X2_34 : Cond.fieldLink RX2 34 "RoadShut$Land" "eats" "[I" ∈ GW := gw_t1 (List.mem_of_getElem? (i := 107) rfl) rfl
theorem fl_X4_165 : Cond.fieldLink RX4 165 "RoadShut$Land" "eats" "[I" ∈ GW := gw_t1 (List.mem_of_getElem? (i := 108) rfl) rfl
theorem fl_X2_37 : Cond.fieldLink RX2 37 "RoadShut$Land" "pathDays" "[I" ∈ GW := gw_t1 (List.mem_of_getElem? (i := 109) rfl) rfl
theorem fl_X4_207 : Cond.fieldLink RX4 207 "RoadShut$Land" "pathDays" "[I" ∈ GW := gw_t1 (List.mem_of_getElem? (i := 110) rfl) rfl
theorem ly_X2_lines : Cond.lays RX2 "RoadShut$Land" "lines" "I" ∈ GW := gw_t1 (List.mem_of_getElem? (i := 111) rfl) rfl
theorem ly_X2_days : Cond.lays RX2 "RoadShut$Land" "days" "I" ∈ GW := gw_t1 (List.mem_of_getElem? (i := 113) rfl) rfl
theorem ly_X2_first : Cond.lays RX2 "RoadShut$Land" "first" "I" ∈ GW := gw_t1 (List.mem_of_getElem? (i := 115) rfl) rfl
theorem ly_X2_snow : Cond.lays RX2 "RoadShut$Land" "snow" "I" ∈ GW := gw_t1 (List.mem_of_getElem? (i := 117) rfl) rfl
theorem ly_X2_clear : Cond.lays RX2 "RoadShut$Land" "clear" "I" ∈ GW := gw_t1 (List.mem_of_getElem? (i := 119) rfl) rfl
theorem ly_X2_things : Cond.lays RX2 "RoadShut$Land" "things" "I" ∈ GW := gw_t1 (List.mem_of_getElem? (i := 121) rfl) rfl
theorem ly_X2_valleys : Cond.lays RX2 "RoadShut$Land" "valleys" "I" ∈ GW := gw_t1 (List.mem_of_getElem? (i := 123) rfl) rfl
theorem ly_X2_paths : Cond.lays RX2 "RoadShut$Land" "paths" "I" ∈ GW := gw_t1 (List.mem_of_getElem? (i := 125) rfl) rfl
theorem ly_X2_lorries : Cond.lays RX2 "RoadShut$Land" "lorries" "I" ∈ GW := gw_t1 (List.mem_of_getElem? (i := 127) rfl) rfl
theorem ly_X2_load : Cond.lays RX2 "RoadShut$Land" "load" "I" ∈ GW := gw_t1 (List.mem_of_getElem? (i := 129) rfl) rfl
theorem ly_X2_fare : Cond.lays RX2 "RoadShut$Land" "fare" "I" ∈ GW := gw_t1 (List.mem_of_getElem? (i := 131) rfl) rfl
theorem ly_X2_planeLoad : Cond.lays RX2 "RoadShut$Land" "planeLoad" "I" ∈ GW := gw_t1 (List.mem_of_getElem? (i := 133) rfl) rfl
theorem ly_X2_planeFare : Cond.lays RX2 "RoadShut$Land" "planeFare" "I" ∈ GW := gw_t1 (List.mem_of_getElem? (i := 135) rfl) rfl
theorem ly_X2_mule : Cond.lays RX2 "RoadShut$Land" "mule" "I" ∈ GW := gw_t1 (List.mem_of_getElem? (i := 137) rfl) rfl
theorem ly_X2_price : Cond.laysFinal RX2 "RoadShut$Land" "price" "[I" ∈ GW := gw_t1 (List.mem_of_getElem? (i := 139) rfl) rfl
theorem ly_X2_harm : Cond.laysFinal RX2 "RoadShut$Land" "harm" "[I" ∈ GW := gw_t1 (List.mem_of_getElem? (i := 141) rfl) rfl
theorem ly_X2_returning : Cond.laysFinal RX2 "RoadShut$Land" "returning" "[I" ∈ GW := gw_t1 (List.mem_of_getElem? (i := 143) rfl) rfl
theorem ly_X2_closing : Cond.laysFinal RX2 "RoadShut$Land" "closing" "[I" ∈ GW := gw_t1 (List.mem_of_getElem? (i := 145) rfl) rfl
theorem ly_X2_room : Cond.laysFinal RX2 "RoadShut$Land" "room" "[I" ∈ GW := gw_t1 (List.mem_of_getElem? (i := 147) rfl) rfl
theorem ly_X2_eats : Cond.laysFinal RX2 "RoadShut$Land" "eats" "[I" ∈ GW := gw_t1 (List.mem_of_getElem? (i := 149) rfl) rfl
theorem ly_X2_pathDays : Cond.laysFinal RX2 "RoadShut$Land" "pathDays" "[I" ∈ GW := gw_t1 (List.mem_of_getElem? (i := 151) rfl) rfl
theorem ac_byte : Cond.arrayClass .byte ∈ GW := gw_t1 (List.mem_of_getElem? (i := 154) rfl) rfl
theorem ac_int : Cond.arrayClass .int ∈ GW := gw_t1 (List.mem_of_getElem? (i := 155) rfl) rfl
theorem fl_X4_36 : Cond.fieldLink RX4 36 "RoadShut$Reader" "fault" "I" ∈ GW := gw_t1 (List.mem_of_getElem? (i := 156) rfl) rfl
theorem fl_X9_86 : Cond.fieldLink RX9 86 "RoadShut$Reader" "fault" "I" ∈ GW := gw_t1 (List.mem_of_getElem? (i := 157) rfl) rfl
theorem fl_X4_9 : Cond.fieldLink RX4 9 "RoadShut$Reader" "faultPlace" "I" ∈ GW := gw_t1 (List.mem_of_getElem? (i := 158) rfl) rfl
theorem fl_X9_92 : Cond.fieldLink RX9 92 "RoadShut$Reader" "faultPlace" "I" ∈ GW := gw_t1 (List.mem_of_getElem? (i := 159) rfl) rfl
theorem fl_X4_15 : Cond.fieldLink RX4 15 "RoadShut$Reader" "tape" "[B" ∈ GW := gw_t1 (List.mem_of_getElem? (i := 160) rfl) rfl
theorem fl_X4_30 : Cond.fieldLink RX4 30 "RoadShut$Reader" "length" "I" ∈ GW := gw_t1 (List.mem_of_getElem? (i := 161) rfl) rfl
theorem fl_X4_33 : Cond.fieldLink RX4 33 "RoadShut$Reader" "kind" "I" ∈ GW := gw_t1 (List.mem_of_getElem? (i := 162) rfl) rfl
theorem fl_X4_210 : Cond.fieldLink RX4 210 "RoadShut$Reader" "start" "I" ∈ GW := gw_t1 (List.mem_of_getElem? (i := 163) rfl) rfl
theorem fl_X4_92 : Cond.fieldLink RX4 92 "RoadShut$Reader" "stop" "I" ∈ GW := gw_t1 (List.mem_of_getElem? (i := 164) rfl) rfl
theorem fl_X4_197 : Cond.fieldLink RX4 197 "RoadShut$Reader" "number" "I" ∈ GW := gw_t1 (List.mem_of_getElem? (i := 165) rfl) rfl
theorem fl_X4_22 : Cond.fieldLink RX4 22 "RoadShut$Reader" "land" "LRoadShut$Land;" ∈ GW := gw_t1 (List.mem_of_getElem? (i := 166) rfl) rfl
theorem fl_X4_95 : Cond.fieldLink RX4 95 "RoadShut$Reader" "lorryTold" "Z" ∈ GW := gw_t1 (List.mem_of_getElem? (i := 167) rfl) rfl
theorem fl_X4_99 : Cond.fieldLink RX4 99 "RoadShut$Reader" "planeTold" "Z" ∈ GW := gw_t1 (List.mem_of_getElem? (i := 168) rfl) rfl
theorem fl_X4_102 : Cond.fieldLink RX4 102 "RoadShut$Reader" "muleTold" "Z" ∈ GW := gw_t1 (List.mem_of_getElem? (i := 169) rfl) rfl
theorem ly_X4_fault : Cond.lays RX4 "RoadShut$Reader" "fault" "I" ∈ GW := gw_t1 (List.mem_of_getElem? (i := 170) rfl) rfl
theorem ly_X4_faultPlace : Cond.lays RX4 "RoadShut$Reader" "faultPlace" "I" ∈ GW := gw_t1 (List.mem_of_getElem? (i := 172) rfl) rfl
theorem ly_X4_tape : Cond.lays RX4 "RoadShut$Reader" "tape" "[B" ∈ GW := gw_t1 (List.mem_of_getElem? (i := 174) rfl) rfl
theorem ly_X4_length : Cond.lays RX4 "RoadShut$Reader" "length" "I" ∈ GW := gw_t1 (List.mem_of_getElem? (i := 176) rfl) rfl
theorem ly_X4_kind : Cond.lays RX4 "RoadShut$Reader" "kind" "I" ∈ GW := gw_t1 (List.mem_of_getElem? (i := 178) rfl) rfl
theorem ly_X4_start : Cond.lays RX4 "RoadShut$Reader" "start" "I" ∈ GW := gw_t1 (List.mem_of_getElem? (i := 180) rfl) rfl
theorem ly_X4_stop : Cond.lays RX4 "RoadShut$Reader" "stop" "I" ∈ GW := gw_t1 (List.mem_of_getElem? (i := 182) rfl) rfl
theorem ly_X4_number : Cond.lays RX4 "RoadShut$Reader" "number" "I" ∈ GW := gw_t1 (List.mem_of_getElem? (i := 184) rfl) rfl
theorem ly_X4_land : Cond.lays RX4 "RoadShut$Reader" "land" "LRoadShut$Land;" ∈ GW := gw_t1 (List.mem_of_getElem? (i := 186) rfl) rfl
theorem ly_X4_lorryTold : Cond.lays RX4 "RoadShut$Reader" "lorryTold" "Z" ∈ GW := gw_t1 (List.mem_of_getElem? (i := 188) rfl) rfl
theorem ly_X4_planeTold : Cond.lays RX4 "RoadShut$Reader" "planeTold" "Z" ∈ GW := gw_t1 (List.mem_of_getElem? (i := 190) rfl) rfl
theorem ly_X4_muleTold : Cond.lays RX4 "RoadShut$Reader" "muleTold" "Z" ∈ GW := gw_t1 (List.mem_of_getElem? (i := 192) rfl) rfl
theorem cl_X9_20 : Cond.classLink RX9 20 RX8 ∈ GW := gw_t1 (List.mem_of_getElem? (i := 195) rfl) rfl
theorem ins_X8 : Cond.instantiable RX8 5 ∈ GW := gw_t1 (List.mem_of_getElem? (i := 196) rfl) rfl
theorem im_X8_init : Cond.instanceMethod yX8_init ∈ GW := gw_t1 (List.mem_of_getElem? (i := 198) rfl) rfl
theorem co_X8_init : Cond.code yX8_init cX8_init 1 none ∈ GW := gw_t1 (List.mem_of_getElem? (i := 199) rfl) rfl
theorem ml_X8_3 : Cond.methodLink RX8 3 ⟨"java/lang/Object", "<init>", "()V"⟩ ∈ GW := gw_t1 (List.mem_of_getElem? (i := 200) rfl) rfl
theorem cl_X8_9 : Cond.classLink RX8 9 RX5 ∈ GW := gw_t1 (List.mem_of_getElem? (i := 201) rfl) rfl
theorem ins_X5 : Cond.instantiable RX5 7 ∈ GW := gw_t1 (List.mem_of_getElem? (i := 202) rfl) rfl
theorem im_X5_init : Cond.instanceMethod yX5_init ∈ GW := gw_t1 (List.mem_of_getElem? (i := 204) rfl) rfl
theorem co_X5_init : Cond.code yX5_init cX5_init 1 none ∈ GW := gw_t1 (List.mem_of_getElem? (i := 205) rfl) rfl
theorem ml_X5_3 : Cond.methodLink RX5 3 ⟨"java/lang/Object", "<init>", "()V"⟩ ∈ GW := gw_t1 (List.mem_of_getElem? (i := 206) rfl) rfl
theorem fl_X5_11 : Cond.fieldLink RX5 11 "RoadShut$Roads" "one" "[J" ∈ GW := gw_t1 (List.mem_of_getElem? (i := 207) rfl) rfl
theorem fl_X5_15 : Cond.fieldLink RX5 15 "RoadShut$Roads" "two" "[J" ∈ GW := gw_t1 (List.mem_of_getElem? (i := 208) rfl) rfl
theorem fl_X5_18 : Cond.fieldLink RX5 18 "RoadShut$Roads" "snowyTwo" "[J" ∈ GW := gw_t1 (List.mem_of_getElem? (i := 209) rfl) rfl
theorem fl_X5_21 : Cond.fieldLink RX5 21 "RoadShut$Roads" "clearTwo" "[J" ∈ GW := gw_t1 (List.mem_of_getElem? (i := 210) rfl) rfl
theorem fl_X5_24 : Cond.fieldLink RX5 24 "RoadShut$Roads" "snowyAll" "[J" ∈ GW := gw_t1 (List.mem_of_getElem? (i := 211) rfl) rfl
theorem fl_X5_27 : Cond.fieldLink RX5 27 "RoadShut$Roads" "clearAll" "[J" ∈ GW := gw_t1 (List.mem_of_getElem? (i := 212) rfl) rfl
theorem fl_X5_30 : Cond.fieldLink RX5 30 "RoadShut$Roads" "splitAll" "[J" ∈ GW := gw_t1 (List.mem_of_getElem? (i := 213) rfl) rfl
theorem ly_X5_one : Cond.laysFinal RX5 "RoadShut$Roads" "one" "[J" ∈ GW := gw_t1 (List.mem_of_getElem? (i := 214) rfl) rfl
theorem ly_X5_two : Cond.laysFinal RX5 "RoadShut$Roads" "two" "[J" ∈ GW := gw_t1 (List.mem_of_getElem? (i := 216) rfl) rfl
theorem ly_X5_snowyTwo : Cond.laysFinal RX5 "RoadShut$Roads" "snowyTwo" "[J" ∈ GW := gw_t1 (List.mem_of_getElem? (i := 218) rfl) rfl
theorem ly_X5_clearTwo : Cond.laysFinal RX5 "RoadShut$Roads" "clearTwo" "[J" ∈ GW := gw_t1 (List.mem_of_getElem? (i := 220) rfl) rfl
theorem ly_X5_snowyAll : Cond.laysFinal RX5 "RoadShut$Roads" "snowyAll" "[J" ∈ GW := gw_t1 (List.mem_of_getElem? (i := 222) rfl) rfl
theorem ly_X5_clearAll : Cond.laysFinal RX5 "RoadShut$Roads" "clearAll" "[J" ∈ GW := gw_t1 (List.mem_of_getElem? (i := 224) rfl) rfl
theorem ly_X5_splitAll : Cond.laysFinal RX5 "RoadShut$Roads" "splitAll" "[J" ∈ GW := gw_t1 (List.mem_of_getElem? (i := 226) rfl) rfl
theorem ac_long : Cond.arrayClass .long ∈ GW := gw_t1 (List.mem_of_getElem? (i := 229) rfl) rfl
theorem fl_X8_12 : Cond.fieldLink RX8 12 "RoadShut$Stores" "roads" "LRoadShut$Roads;" ∈ GW := gw_t1 (List.mem_of_getElem? (i := 230) rfl) rfl
theorem fl_X9_108 : Cond.fieldLink RX9 108 "RoadShut$Stores" "roads" "LRoadShut$Roads;" ∈ GW := gw_t1 (List.mem_of_getElem? (i := 231) rfl) rfl
theorem fl_X8_18 : Cond.fieldLink RX8 18 "RoadShut$Stores" "parts" "[J" ∈ GW := gw_t1 (List.mem_of_getElem? (i := 232) rfl) rfl
theorem fl_X8_98 : Cond.fieldLink RX8 98 "RoadShut$Stores" "wantedMost" "I" ∈ GW := gw_t1 (List.mem_of_getElem? (i := 233) rfl) rfl
theorem fl_X8_22 : Cond.fieldLink RX8 22 "RoadShut$Stores" "wholes" "[J" ∈ GW := gw_t1 (List.mem_of_getElem? (i := 234) rfl) rfl
theorem fl_X8_25 : Cond.fieldLink RX8 25 "RoadShut$Stores" "packing" "[I" ∈ GW := gw_t1 (List.mem_of_getElem? (i := 235) rfl) rfl
theorem ly_X8_roads : Cond.laysFinal RX8 "RoadShut$Stores" "roads" "LRoadShut$Roads;" ∈ GW := gw_t1 (List.mem_of_getElem? (i := 236) rfl) rfl
theorem ly_X8_parts : Cond.laysFinal RX8 "RoadShut$Stores" "parts" "[J" ∈ GW := gw_t1 (List.mem_of_getElem? (i := 238) rfl) rfl
theorem ly_X8_wantedMost : Cond.lays RX8 "RoadShut$Stores" "wantedMost" "I" ∈ GW := gw_t2 (List.mem_of_getElem? (i := 0) rfl) rfl
theorem ly_X8_wholes : Cond.laysFinal RX8 "RoadShut$Stores" "wholes" "[J" ∈ GW := gw_t2 (List.mem_of_getElem? (i := 2) rfl) rfl
theorem ly_X8_packing : Cond.laysFinal RX8 "RoadShut$Stores" "packing" "[I" ∈ GW := gw_t2 (List.mem_of_getElem? (i := 4) rfl) rfl
theorem cl_X9_27 : Cond.classLink RX9 27 RX3 ∈ GW := gw_t2 (List.mem_of_getElem? (i := 7) rfl) rfl
theorem ins_X3 : Cond.instantiable RX3 10 ∈ GW := gw_t2 (List.mem_of_getElem? (i := 8) rfl) rfl
theorem im_X3_init : Cond.instanceMethod yX3_init ∈ GW := gw_t2 (List.mem_of_getElem? (i := 10) rfl) rfl
theorem co_X3_init : Cond.code yX3_init cX3_init 1 none ∈ GW := gw_t2 (List.mem_of_getElem? (i := 11) rfl) rfl
theorem ml_X3_3 : Cond.methodLink RX3 3 ⟨"java/lang/Object", "<init>", "()V"⟩ ∈ GW := gw_t2 (List.mem_of_getElem? (i := 12) rfl) rfl
theorem cl_X3_22 : Cond.classLink RX3 22 RX2 ∈ GW := gw_t2 (List.mem_of_getElem? (i := 13) rfl) rfl
theorem fl_X3_9 : Cond.fieldLink RX3 9 "RoadShut$Planner" "snowy" "[J" ∈ GW := gw_t2 (List.mem_of_getElem? (i := 15) rfl) rfl
theorem fl_X3_15 : Cond.fieldLink RX3 15 "RoadShut$Planner" "clear" "[J" ∈ GW := gw_t2 (List.mem_of_getElem? (i := 16) rfl) rfl
theorem fl_X3_18 : Cond.fieldLink RX3 18 "RoadShut$Planner" "lastSent" "[I" ∈ GW := gw_t2 (List.mem_of_getElem? (i := 17) rfl) rfl
theorem fl_X3_25 : Cond.fieldLink RX3 25 "RoadShut$Planner" "land" "LRoadShut$Land;" ∈ GW := gw_t2 (List.mem_of_getElem? (i := 18) rfl) rfl
theorem fl_X3_33 : Cond.fieldLink RX3 33 "RoadShut$Planner" "valley" "I" ∈ GW := gw_t2 (List.mem_of_getElem? (i := 19) rfl) rfl
theorem fl_X3_36 : Cond.fieldLink RX3 36 "RoadShut$Planner" "thing" "I" ∈ GW := gw_t2 (List.mem_of_getElem? (i := 20) rfl) rfl
theorem fl_X3_45 : Cond.fieldLink RX3 45 "RoadShut$Planner" "lying" "I" ∈ GW := gw_t2 (List.mem_of_getElem? (i := 21) rfl) rfl
theorem fl_X3_49 : Cond.fieldLink RX3 49 "RoadShut$Planner" "fullest" "I" ∈ GW := gw_t2 (List.mem_of_getElem? (i := 22) rfl) rfl
theorem fl_X3_29 : Cond.fieldLink RX3 29 "RoadShut$Planner" "load" "I" ∈ GW := gw_t2 (List.mem_of_getElem? (i := 23) rfl) rfl
theorem fl_X3_68 : Cond.fieldLink RX3 68 "RoadShut$Planner" "fare" "J" ∈ GW := gw_t2 (List.mem_of_getElem? (i := 24) rfl) rfl
theorem ly_X3_snowy : Cond.laysFinal RX3 "RoadShut$Planner" "snowy" "[J" ∈ GW := gw_t2 (List.mem_of_getElem? (i := 25) rfl) rfl
theorem ly_X3_clear : Cond.laysFinal RX3 "RoadShut$Planner" "clear" "[J" ∈ GW := gw_t2 (List.mem_of_getElem? (i := 27) rfl) rfl
theorem ly_X3_lastSent : Cond.laysFinal RX3 "RoadShut$Planner" "lastSent" "[I" ∈ GW := gw_t2 (List.mem_of_getElem? (i := 29) rfl) rfl
theorem ly_X3_land : Cond.lays RX3 "RoadShut$Planner" "land" "LRoadShut$Land;" ∈ GW := gw_t2 (List.mem_of_getElem? (i := 31) rfl) rfl
theorem ly_X3_valley : Cond.lays RX3 "RoadShut$Planner" "valley" "I" ∈ GW := gw_t2 (List.mem_of_getElem? (i := 33) rfl) rfl
theorem ly_X3_thing : Cond.lays RX3 "RoadShut$Planner" "thing" "I" ∈ GW := gw_t2 (List.mem_of_getElem? (i := 35) rfl) rfl
theorem ly_X3_lying : Cond.lays RX3 "RoadShut$Planner" "lying" "I" ∈ GW := gw_t2 (List.mem_of_getElem? (i := 37) rfl) rfl
theorem ly_X3_fullest : Cond.lays RX3 "RoadShut$Planner" "fullest" "I" ∈ GW := gw_t2 (List.mem_of_getElem? (i := 39) rfl) rfl
theorem ly_X3_load : Cond.lays RX3 "RoadShut$Planner" "load" "I" ∈ GW := gw_t2 (List.mem_of_getElem? (i := 41) rfl) rfl
theorem ly_X3_fare : Cond.lays RX3 "RoadShut$Planner" "fare" "J" ∈ GW := gw_t2 (List.mem_of_getElem? (i := 43) rfl) rfl
theorem cl_X9_34 : Cond.classLink RX9 34 RX7 ∈ GW := gw_t2 (List.mem_of_getElem? (i := 46) rfl) rfl
theorem ins_X7 : Cond.instantiable RX7 1 ∈ GW := gw_t2 (List.mem_of_getElem? (i := 47) rfl) rfl
theorem im_X7_init : Cond.instanceMethod yX7_init ∈ GW := gw_t2 (List.mem_of_getElem? (i := 49) rfl) rfl
theorem co_X7_init : Cond.code yX7_init cX7_init 1 none ∈ GW := gw_t2 (List.mem_of_getElem? (i := 50) rfl) rfl
theorem ml_X7_3 : Cond.methodLink RX7 3 ⟨"java/lang/Object", "<init>", "()V"⟩ ∈ GW := gw_t2 (List.mem_of_getElem? (i := 51) rfl) rfl
theorem fl_X7_9 : Cond.fieldLink RX7 9 "RoadShut$Sharing" "asked" "[I" ∈ GW := gw_t2 (List.mem_of_getElem? (i := 52) rfl) rfl
theorem ly_X7_asked : Cond.laysFinal RX7 "RoadShut$Sharing" "asked" "[I" ∈ GW := gw_t2 (List.mem_of_getElem? (i := 53) rfl) rfl
theorem cl_X9_41 : Cond.classLink RX9 41 RX0 ∈ GW := gw_t2 (List.mem_of_getElem? (i := 56) rfl) rfl
theorem ins_X0 : Cond.instantiable RX0 1 ∈ GW := gw_t2 (List.mem_of_getElem? (i := 57) rfl) rfl
theorem im_X0_init : Cond.instanceMethod yX0_init ∈ GW := gw_t2 (List.mem_of_getElem? (i := 59) rfl) rfl
theorem co_X0_init : Cond.code yX0_init cX0_init 1 none ∈ GW := gw_t2 (List.mem_of_getElem? (i := 60) rfl) rfl
theorem ml_X0_1 : Cond.methodLink RX0 1 ⟨"java/lang/Object", "<init>", "()V"⟩ ∈ GW := gw_t2 (List.mem_of_getElem? (i := 61) rfl) rfl
theorem fl_X0_13 : Cond.fieldLink RX0 13 "RoadShut$Dice" "x" "J" ∈ GW := gw_t2 (List.mem_of_getElem? (i := 62) rfl) rfl
theorem ly_X0_x : Cond.lays RX0 "RoadShut$Dice" "x" "J" ∈ GW := gw_t2 (List.mem_of_getElem? (i := 63) rfl) rfl
theorem cl_X9_52 : Cond.classLink RX9 52 RX6 ∈ GW := gw_t2 (List.mem_of_getElem? (i := 66) rfl) rfl
theorem cl_X9_58 : Cond.classLink RX9 58 RX1 ∈ GW := gw_t2 (List.mem_of_getElem? (i := 68) rfl) rfl
theorem cl_X9_64 : Cond.classLink RX9 64 RX2 ∈ GW := gw_t2 (List.mem_of_getElem? (i := 70) rfl) rfl
theorem fl_X9_9 : Cond.fieldLink RX9 9 "RoadShut" "tape" "[B" ∈ GW := gw_t2 (List.mem_of_getElem? (i := 72) rfl) rfl
theorem fl_X9_16 : Cond.fieldLink RX9 16 "RoadShut" "reader" "LRoadShut$Reader;" ∈ GW := gw_t2 (List.mem_of_getElem? (i := 73) rfl) rfl
theorem fl_X9_23 : Cond.fieldLink RX9 23 "RoadShut" "stores" "LRoadShut$Stores;" ∈ GW := gw_t2 (List.mem_of_getElem? (i := 74) rfl) rfl
theorem fl_X9_30 : Cond.fieldLink RX9 30 "RoadShut" "planner" "LRoadShut$Planner;" ∈ GW := gw_t2 (List.mem_of_getElem? (i := 75) rfl) rfl
theorem fl_X9_37 : Cond.fieldLink RX9 37 "RoadShut" "sharing" "LRoadShut$Sharing;" ∈ GW := gw_t2 (List.mem_of_getElem? (i := 76) rfl) rfl
theorem fl_X9_44 : Cond.fieldLink RX9 44 "RoadShut" "dice" "LRoadShut$Dice;" ∈ GW := gw_t2 (List.mem_of_getElem? (i := 77) rfl) rfl
theorem fl_X9_48 : Cond.fieldLink RX9 48 "RoadShut" "drawn" "[I" ∈ GW := gw_t2 (List.mem_of_getElem? (i := 78) rfl) rfl
theorem fl_X9_54 : Cond.fieldLink RX9 54 "RoadShut" "slots" "[LRoadShut$Row;" ∈ GW := gw_t2 (List.mem_of_getElem? (i := 79) rfl) rfl
theorem fl_X9_60 : Cond.fieldLink RX9 60 "RoadShut" "images" "[LRoadShut$Image;" ∈ GW := gw_t2 (List.mem_of_getElem? (i := 80) rfl) rfl
theorem fl_X9_75 : Cond.fieldLink RX9 75 "RoadShut" "taped" "I" ∈ GW := gw_t2 (List.mem_of_getElem? (i := 81) rfl) rfl
theorem fl_X9_67 : Cond.fieldLink RX9 67 "RoadShut" "land" "LRoadShut$Land;" ∈ GW := gw_t2 (List.mem_of_getElem? (i := 82) rfl) rfl
theorem fl_X9_93 : Cond.fieldLink RX9 93 "RoadShut" "year" "[I" ∈ GW := gw_t2 (List.mem_of_getElem? (i := 83) rfl) rfl
theorem fl_X9_89 : Cond.fieldLink RX9 89 "RoadShut" "faultKind" "I" ∈ GW := gw_t2 (List.mem_of_getElem? (i := 84) rfl) rfl
theorem fl_X9_71 : Cond.fieldLink RX9 71 "RoadShut" "faultPlace" "I" ∈ GW := gw_t2 (List.mem_of_getElem? (i := 85) rfl) rfl
theorem ly_X9_tape : Cond.laysFinal RX9 "RoadShut" "tape" "[B" ∈ GW := gw_t2 (List.mem_of_getElem? (i := 86) rfl) rfl
theorem ly_X9_reader : Cond.laysFinal RX9 "RoadShut" "reader" "LRoadShut$Reader;" ∈ GW := gw_t2 (List.mem_of_getElem? (i := 88) rfl) rfl
theorem ly_X9_stores : Cond.laysFinal RX9 "RoadShut" "stores" "LRoadShut$Stores;" ∈ GW := gw_t2 (List.mem_of_getElem? (i := 90) rfl) rfl
theorem ly_X9_planner : Cond.laysFinal RX9 "RoadShut" "planner" "LRoadShut$Planner;" ∈ GW := gw_t2 (List.mem_of_getElem? (i := 92) rfl) rfl
theorem ly_X9_sharing : Cond.laysFinal RX9 "RoadShut" "sharing" "LRoadShut$Sharing;" ∈ GW := gw_t2 (List.mem_of_getElem? (i := 94) rfl) rfl
theorem ly_X9_dice : Cond.laysFinal RX9 "RoadShut" "dice" "LRoadShut$Dice;" ∈ GW := gw_t2 (List.mem_of_getElem? (i := 96) rfl) rfl
theorem ly_X9_drawn : Cond.laysFinal RX9 "RoadShut" "drawn" "[I" ∈ GW := gw_t2 (List.mem_of_getElem? (i := 98) rfl) rfl
theorem ly_X9_slots : Cond.laysFinal RX9 "RoadShut" "slots" "[LRoadShut$Row;" ∈ GW := gw_t2 (List.mem_of_getElem? (i := 100) rfl) rfl
theorem ly_X9_images : Cond.laysFinal RX9 "RoadShut" "images" "[LRoadShut$Image;" ∈ GW := gw_t2 (List.mem_of_getElem? (i := 102) rfl) rfl
theorem ly_X9_taped : Cond.lays RX9 "RoadShut" "taped" "I" ∈ GW := gw_t2 (List.mem_of_getElem? (i := 104) rfl) rfl
theorem ly_X9_land : Cond.lays RX9 "RoadShut" "land" "LRoadShut$Land;" ∈ GW := gw_t2 (List.mem_of_getElem? (i := 106) rfl) rfl
theorem ly_X9_year : Cond.lays RX9 "RoadShut" "year" "[I" ∈ GW := gw_t2 (List.mem_of_getElem? (i := 108) rfl) rfl
theorem ly_X9_faultKind : Cond.lays RX9 "RoadShut" "faultKind" "I" ∈ GW := gw_t2 (List.mem_of_getElem? (i := 110) rfl) rfl
theorem ly_X9_faultPlace : Cond.lays RX9 "RoadShut" "faultPlace" "I" ∈ GW := gw_t2 (List.mem_of_getElem? (i := 112) rfl) rfl
theorem ml_L_13 : Cond.methodLink RL 13 yX9_feed ∈ GW := gw_t2 (List.mem_of_getElem? (i := 115) rfl) rfl
theorem im_X9_feed : Cond.instanceMethod yX9_feed ∈ GW := gw_t2 (List.mem_of_getElem? (i := 116) rfl) rfl
theorem se_X9_feed : Cond.selects RX9 yX9_feed yX9_feed ∈ GW := gw_t2 (List.mem_of_getElem? (i := 117) rfl) rfl
theorem co_X9_feed : Cond.code yX9_feed cX9_feed 6 (some .int) ∈ GW := gw_t2 (List.mem_of_getElem? (i := 118) rfl) rfl
theorem ml_X9_78 : Cond.methodLink RX9 78 yX9_tapeFour ∈ GW := gw_t2 (List.mem_of_getElem? (i := 119) rfl) rfl
theorem im_X9_tapeFour : Cond.instanceMethod yX9_tapeFour ∈ GW := gw_t2 (List.mem_of_getElem? (i := 121) rfl) rfl
theorem co_X9_tapeFour : Cond.code yX9_tapeFour cX9_tapeFour 3 none ∈ GW := gw_t2 (List.mem_of_getElem? (i := 122) rfl) rfl
theorem ml_L_18 : Cond.methodLink RL 18 yX9_end ∈ GW := gw_t2 (List.mem_of_getElem? (i := 123) rfl) rfl
theorem im_X9_end : Cond.instanceMethod yX9_end ∈ GW := gw_t2 (List.mem_of_getElem? (i := 124) rfl) rfl
theorem se_X9_end : Cond.selects RX9 yX9_end yX9_end ∈ GW := gw_t2 (List.mem_of_getElem? (i := 125) rfl) rfl
theorem co_X9_end : Cond.code yX9_end cX9_end 2 (some .int) ∈ GW := gw_t2 (List.mem_of_getElem? (i := 126) rfl) rfl
theorem ml_L_23 : Cond.methodLink RL 23 yX9_land ∈ GW := gw_t2 (List.mem_of_getElem? (i := 127) rfl) rfl
theorem im_X9_land : Cond.instanceMethod yX9_land ∈ GW := gw_t2 (List.mem_of_getElem? (i := 128) rfl) rfl
theorem se_X9_land : Cond.selects RX9 yX9_land yX9_land ∈ GW := gw_t2 (List.mem_of_getElem? (i := 129) rfl) rfl
theorem co_X9_land : Cond.code yX9_land cX9_land 2 (some .int) ∈ GW := gw_t2 (List.mem_of_getElem? (i := 130) rfl) rfl
theorem ml_X9_82 : Cond.methodLink RX9 82 yX4_readLand ∈ GW := gw_t2 (List.mem_of_getElem? (i := 131) rfl) rfl
theorem im_X4_readLand : Cond.instanceMethod yX4_readLand ∈ GW := gw_t2 (List.mem_of_getElem? (i := 132) rfl) rfl
theorem se_X4_readLand : Cond.selects RX4 yX4_readLand yX4_readLand ∈ GW := gw_t2 (List.mem_of_getElem? (i := 133) rfl) rfl
theorem co_X4_readLand : Cond.code yX4_readLand cX4_readLand 5 (some (.object "RoadShut$Land")) ∈ GW := gw_t2 (List.mem_of_getElem? (i := 134) rfl) rfl
theorem ml_X4_26 : Cond.methodLink RX4 26 yX4_begin ∈ GW := gw_t2 (List.mem_of_getElem? (i := 135) rfl) rfl
theorem im_X4_begin : Cond.instanceMethod yX4_begin ∈ GW := gw_t2 (List.mem_of_getElem? (i := 137) rfl) rfl
theorem co_X4_begin : Cond.code yX4_begin cX4_begin 4 none ∈ GW := gw_t2 (List.mem_of_getElem? (i := 138) rfl) rfl
theorem ml_X4_86 : Cond.methodLink RX4 86 yJ9_min_7cf53 ∈ GW := gw_t2 (List.mem_of_getElem? (i := 139) rfl) rfl
theorem st_J9_min_7cf53 : Cond.static yJ9_min_7cf53 ∈ GW := gw_t2 (List.mem_of_getElem? (i := 140) rfl) rfl
theorem co_J9_min_7cf53 : Cond.code yJ9_min_7cf53 cJ9_min_7cf53 2 (some .int) ∈ GW := gw_t2 (List.mem_of_getElem? (i := 141) rfl) rfl
theorem ml_X4_105 : Cond.methodLink RX4 105 yX4_step ∈ GW := gw_t2 (List.mem_of_getElem? (i := 142) rfl) rfl
theorem im_X4_step : Cond.instanceMethod yX4_step ∈ GW := gw_t2 (List.mem_of_getElem? (i := 144) rfl) rfl
theorem co_X4_step : Cond.code yX4_step cX4_step 2 none ∈ GW := gw_t2 (List.mem_of_getElem? (i := 145) rfl) rfl
theorem ml_X4_226 : Cond.methodLink RX4 226 yX4_kindAt ∈ GW := gw_t2 (List.mem_of_getElem? (i := 146) rfl) rfl
theorem im_X4_kindAt : Cond.instanceMethod yX4_kindAt ∈ GW := gw_t2 (List.mem_of_getElem? (i := 148) rfl) rfl
theorem co_X4_kindAt : Cond.code yX4_kindAt cX4_kindAt 3 (some .int) ∈ GW := gw_t2 (List.mem_of_getElem? (i := 149) rfl) rfl
theorem ki_X4_229 : Cond.constant RX4 229 (99999) ∈ GW := gw_t2 (List.mem_of_getElem? (i := 150) rfl) rfl
theorem ml_X4_218 : Cond.methodLink RX4 218 yX4_signAt ∈ GW := gw_t2 (List.mem_of_getElem? (i := 151) rfl) rfl
theorem im_X4_signAt : Cond.instanceMethod yX4_signAt ∈ GW := gw_t2 (List.mem_of_getElem? (i := 153) rfl) rfl
theorem co_X4_signAt : Cond.code yX4_signAt cX4_signAt 2 (some .int) ∈ GW := gw_t2 (List.mem_of_getElem? (i := 154) rfl) rfl
theorem ml_X4_42 : Cond.methodLink RX4 42 yX4_readWinter ∈ GW := gw_t2 (List.mem_of_getElem? (i := 155) rfl) rfl
theorem im_X4_readWinter : Cond.instanceMethod yX4_readWinter ∈ GW := gw_t2 (List.mem_of_getElem? (i := 157) rfl) rfl
theorem co_X4_readWinter : Cond.code yX4_readWinter cX4_readWinter 1 none ∈ GW := gw_t2 (List.mem_of_getElem? (i := 158) rfl) rfl
theorem ml_X4_110 : Cond.methodLink RX4 110 yX4_takeWord ∈ GW := gw_t2 (List.mem_of_getElem? (i := 160) rfl) rfl
theorem im_X4_takeWord : Cond.instanceMethod yX4_takeWord ∈ GW := gw_t2 (List.mem_of_getElem? (i := 162) rfl) rfl
theorem co_X4_takeWord : Cond.code yX4_takeWord cX4_takeWord 2 none ∈ GW := gw_t2 (List.mem_of_getElem? (i := 163) rfl) rfl
theorem ml_X4_47 : Cond.methodLink RX4 47 yX4_isWord ∈ GW := gw_t2 (List.mem_of_getElem? (i := 164) rfl) rfl
theorem im_X4_isWord : Cond.instanceMethod yX4_isWord ∈ GW := gw_t2 (List.mem_of_getElem? (i := 166) rfl) rfl
theorem co_X4_isWord : Cond.code yX4_isWord cX4_isWord 3 (some .boolean) ∈ GW := gw_t2 (List.mem_of_getElem? (i := 167) rfl) rfl
theorem ml_X4_213 : Cond.methodLink RX4 213 yJ0_length_8abf5 ∈ GW := gw_t2 (List.mem_of_getElem? (i := 168) rfl) rfl
theorem im_J0_length_8abf5 : Cond.instanceMethod yJ0_length_8abf5 ∈ GW := gw_t2 (List.mem_of_getElem? (i := 169) rfl) rfl
theorem se_J0_length_8abf5 : Cond.selects RJ0 yJ0_length_8abf5 yJ0_length_8abf5 ∈ GW := gw_t2 (List.mem_of_getElem? (i := 170) rfl) rfl
theorem co_J0_length_8abf5 : Cond.code yJ0_length_8abf5 cJ0_length_8abf5 1 (some .int) ∈ GW := gw_t2 (List.mem_of_getElem? (i := 171) rfl) rfl
theorem ml_J0_335 : Cond.methodLink RJ0 335 yJ0_coder_7d493 ∈ GW := gw_t2 (List.mem_of_getElem? (i := 172) rfl) rfl
theorem im_J0_coder_7d493 : Cond.instanceMethod yJ0_coder_7d493 ∈ GW := gw_t2 (List.mem_of_getElem? (i := 173) rfl) rfl
theorem se_J0_coder_7d493 : Cond.selects RJ0 yJ0_coder_7d493 yJ0_coder_7d493 ∈ GW := gw_t2 (List.mem_of_getElem? (i := 174) rfl) rfl
theorem co_J0_coder_7d493 : Cond.code yJ0_coder_7d493 cJ0_coder_7d493 1 (some .byte) ∈ GW := gw_t2 (List.mem_of_getElem? (i := 175) rfl) rfl
theorem fl_J0_38 : Cond.fieldLink RJ0 38 "java/lang/String" "COMPACT_STRINGS" "Z" ∈ GW := gw_t2 (List.mem_of_getElem? (i := 176) rfl) rfl
theorem ml_X4_222 : Cond.methodLink RX4 222 yJ0_charAt_5068e ∈ GW := gw_t2 (List.mem_of_getElem? (i := 178) rfl) rfl
theorem im_J0_charAt_5068e : Cond.instanceMethod yJ0_charAt_5068e ∈ GW := gw_t2 (List.mem_of_getElem? (i := 179) rfl) rfl
theorem se_J0_charAt_5068e : Cond.selects RJ0 yJ0_charAt_5068e yJ0_charAt_5068e ∈ GW := gw_t2 (List.mem_of_getElem? (i := 180) rfl) rfl
theorem co_J0_charAt_5068e : Cond.code yJ0_charAt_5068e cJ0_charAt_5068e 2 (some .char) ∈ GW := gw_t2 (List.mem_of_getElem? (i := 181) rfl) rfl
theorem ml_J0_492 : Cond.methodLink RJ0 492 yJ0_isLatin1_aae02 ∈ GW := gw_t2 (List.mem_of_getElem? (i := 182) rfl) rfl
theorem im_J0_isLatin1_aae02 : Cond.instanceMethod yJ0_isLatin1_aae02 ∈ GW := gw_t2 (List.mem_of_getElem? (i := 183) rfl) rfl
theorem se_J0_isLatin1_aae02 : Cond.selects RJ0 yJ0_isLatin1_aae02 yJ0_isLatin1_aae02 ∈ GW := gw_t2 (List.mem_of_getElem? (i := 184) rfl) rfl
theorem co_J0_isLatin1_aae02 : Cond.code yJ0_isLatin1_aae02 cJ0_isLatin1_aae02 1 (some .boolean) ∈ GW := gw_t2 (List.mem_of_getElem? (i := 185) rfl) rfl
theorem ml_J0_495 : Cond.methodLink RJ0 495 yJ1_charAt_3b067 ∈ GW := gw_t2 (List.mem_of_getElem? (i := 186) rfl) rfl
theorem st_J1_charAt_3b067 : Cond.static yJ1_charAt_3b067 ∈ GW := gw_t2 (List.mem_of_getElem? (i := 187) rfl) rfl
theorem co_J1_charAt_3b067 : Cond.code yJ1_charAt_3b067 cJ1_charAt_3b067 2 (some .char) ∈ GW := gw_t2 (List.mem_of_getElem? (i := 188) rfl) rfl
theorem ml_J1_9 : Cond.methodLink RJ1 9 yJ0_checkIndex_df160 ∈ GW := gw_t2 (List.mem_of_getElem? (i := 189) rfl) rfl
theorem st_J0_checkIndex_df160 : Cond.static yJ0_checkIndex_df160 ∈ GW := gw_t2 (List.mem_of_getElem? (i := 190) rfl) rfl
theorem co_J0_checkIndex_df160 : Cond.code yJ0_checkIndex_df160 cJ0_checkIndex_df160 2 none ∈ GW := gw_t2 (List.mem_of_getElem? (i := 191) rfl) rfl
theorem fl_J0_1053 : Cond.fieldLink RJ0 1053 "jdk/internal/util/Preconditions" "SIOOBE_FORMATTER" "Ljava/util/function/BiFunction;" ∈ GW := gw_t2 (List.mem_of_getElem? (i := 192) rfl) rfl
theorem ml_J0_1059 : Cond.methodLink RJ0 1059 yJ3_checkIndex_8e157 ∈ GW := gw_t2 (List.mem_of_getElem? (i := 194) rfl) rfl
theorem st_J3_checkIndex_8e157 : Cond.static yJ3_checkIndex_8e157 ∈ GW := gw_t2 (List.mem_of_getElem? (i := 195) rfl) rfl
theorem co_J3_checkIndex_8e157 : Cond.code yJ3_checkIndex_8e157 cJ3_checkIndex_8e157 3 (some .int) ∈ GW := gw_t2 (List.mem_of_getElem? (i := 196) rfl) rfl
theorem ml_J0_498 : Cond.methodLink RJ0 498 yJ2_charAt_3b067 ∈ GW := gw_t2 (List.mem_of_getElem? (i := 197) rfl) rfl
theorem st_J2_charAt_3b067 : Cond.static yJ2_charAt_3b067 ∈ GW := gw_t2 (List.mem_of_getElem? (i := 198) rfl) rfl
theorem co_J2_charAt_3b067 : Cond.code yJ2_charAt_3b067 cJ2_charAt_3b067 2 (some .char) ∈ GW := gw_t2 (List.mem_of_getElem? (i := 199) rfl) rfl
theorem ml_J2_67 : Cond.methodLink RJ2 67 yJ2_checkIndex_2214a ∈ GW := gw_t2 (List.mem_of_getElem? (i := 200) rfl) rfl
theorem st_J2_checkIndex_2214a : Cond.static yJ2_checkIndex_2214a ∈ GW := gw_t2 (List.mem_of_getElem? (i := 201) rfl) rfl
theorem co_J2_checkIndex_2214a : Cond.code yJ2_checkIndex_2214a cJ2_checkIndex_2214a 2 none ∈ GW := gw_t2 (List.mem_of_getElem? (i := 202) rfl) rfl
theorem ml_J2_48 : Cond.methodLink RJ2 48 yJ2_length_9d52b ∈ GW := gw_t2 (List.mem_of_getElem? (i := 203) rfl) rfl
theorem st_J2_length_9d52b : Cond.static yJ2_length_9d52b ∈ GW := gw_t2 (List.mem_of_getElem? (i := 204) rfl) rfl
theorem co_J2_length_9d52b : Cond.code yJ2_length_9d52b cJ2_length_9d52b 1 (some .int) ∈ GW := gw_t2 (List.mem_of_getElem? (i := 205) rfl) rfl
theorem ml_J2_414 : Cond.methodLink RJ2 414 yJ0_checkIndex_df160 ∈ GW := gw_t2 (List.mem_of_getElem? (i := 206) rfl) rfl
theorem ml_J2_71 : Cond.methodLink RJ2 71 yJ2_getChar_3b067 ∈ GW := gw_t2 (List.mem_of_getElem? (i := 207) rfl) rfl
theorem st_J2_getChar_3b067 : Cond.static yJ2_getChar_3b067 ∈ GW := gw_t2 (List.mem_of_getElem? (i := 208) rfl) rfl
theorem co_J2_getChar_3b067 : Cond.code yJ2_getChar_3b067 cJ2_getChar_3b067 2 (some .char) ∈ GW := gw_t2 (List.mem_of_getElem? (i := 209) rfl) rfl
theorem fl_J2_44 : Cond.fieldLink RJ2 44 "java/lang/StringUTF16" "$assertionsDisabled" "Z" ∈ GW := gw_t2 (List.mem_of_getElem? (i := 210) rfl) rfl
theorem fl_J2_59 : Cond.fieldLink RJ2 59 "java/lang/StringUTF16" "HI_BYTE_SHIFT" "I" ∈ GW := gw_t2 (List.mem_of_getElem? (i := 212) rfl) rfl
theorem fl_J2_63 : Cond.fieldLink RJ2 63 "java/lang/StringUTF16" "LO_BYTE_SHIFT" "I" ∈ GW := gw_t2 (List.mem_of_getElem? (i := 214) rfl) rfl
theorem ml_X4_79 : Cond.methodLink RX4 79 yX4_refuse ∈ GW := gw_t2 (List.mem_of_getElem? (i := 216) rfl) rfl
theorem im_X4_refuse : Cond.instanceMethod yX4_refuse ∈ GW := gw_t2 (List.mem_of_getElem? (i := 218) rfl) rfl
theorem co_X4_refuse : Cond.code yX4_refuse cX4_refuse 2 none ∈ GW := gw_t2 (List.mem_of_getElem? (i := 219) rfl) rfl
theorem ml_X4_116 : Cond.methodLink RX4 116 yX4_takeNamed ∈ GW := gw_t2 (List.mem_of_getElem? (i := 221) rfl) rfl
theorem im_X4_takeNamed : Cond.instanceMethod yX4_takeNamed ∈ GW := gw_t2 (List.mem_of_getElem? (i := 223) rfl) rfl
theorem co_X4_takeNamed : Cond.code yX4_takeNamed cX4_takeNamed 4 (some .int) ∈ GW := gw_t2 (List.mem_of_getElem? (i := 224) rfl) rfl
theorem ml_X4_168 : Cond.methodLink RX4 168 yX4_takeNumber ∈ GW := gw_t2 (List.mem_of_getElem? (i := 225) rfl) rfl
theorem im_X4_takeNumber : Cond.instanceMethod yX4_takeNumber ∈ GW := gw_t2 (List.mem_of_getElem? (i := 227) rfl) rfl
theorem co_X4_takeNumber : Cond.code yX4_takeNumber cX4_takeNumber 4 (some .int) ∈ GW := gw_t2 (List.mem_of_getElem? (i := 228) rfl) rfl
theorem ml_X4_51 : Cond.methodLink RX4 51 yX4_readThing ∈ GW := gw_t2 (List.mem_of_getElem? (i := 233) rfl) rfl
theorem im_X4_readThing : Cond.instanceMethod yX4_readThing ∈ GW := gw_t2 (List.mem_of_getElem? (i := 235) rfl) rfl
theorem co_X4_readThing : Cond.code yX4_readThing cX4_readThing 2 none ∈ GW := gw_t2 (List.mem_of_getElem? (i := 236) rfl) rfl
theorem ml_X4_56 : Cond.methodLink RX4 56 yX4_readValley ∈ GW := gw_t3 (List.mem_of_getElem? (i := 1) rfl) rfl
theorem im_X4_readValley : Cond.instanceMethod yX4_readValley ∈ GW := gw_t3 (List.mem_of_getElem? (i := 3) rfl) rfl
theorem co_X4_readValley : Cond.code yX4_readValley cX4_readValley 3 none ∈ GW := gw_t3 (List.mem_of_getElem? (i := 4) rfl) rfl
theorem ml_X4_61 : Cond.methodLink RX4 61 yX4_readLorry ∈ GW := gw_t3 (List.mem_of_getElem? (i := 9) rfl) rfl
theorem im_X4_readLorry : Cond.instanceMethod yX4_readLorry ∈ GW := gw_t3 (List.mem_of_getElem? (i := 11) rfl) rfl
theorem co_X4_readLorry : Cond.code yX4_readLorry cX4_readLorry 1 none ∈ GW := gw_t3 (List.mem_of_getElem? (i := 12) rfl) rfl
theorem ml_X4_66 : Cond.methodLink RX4 66 yX4_readPlane ∈ GW := gw_t3 (List.mem_of_getElem? (i := 17) rfl) rfl
theorem im_X4_readPlane : Cond.instanceMethod yX4_readPlane ∈ GW := gw_t3 (List.mem_of_getElem? (i := 19) rfl) rfl
theorem co_X4_readPlane : Cond.code yX4_readPlane cX4_readPlane 1 none ∈ GW := gw_t3 (List.mem_of_getElem? (i := 20) rfl) rfl
theorem ml_X4_71 : Cond.methodLink RX4 71 yX4_readMule ∈ GW := gw_t3 (List.mem_of_getElem? (i := 22) rfl) rfl
theorem im_X4_readMule : Cond.instanceMethod yX4_readMule ∈ GW := gw_t3 (List.mem_of_getElem? (i := 24) rfl) rfl
theorem co_X4_readMule : Cond.code yX4_readMule cX4_readMule 1 none ∈ GW := gw_t3 (List.mem_of_getElem? (i := 25) rfl) rfl
theorem ml_X4_76 : Cond.methodLink RX4 76 yX4_readPath ∈ GW := gw_t3 (List.mem_of_getElem? (i := 27) rfl) rfl
theorem im_X4_readPath : Cond.instanceMethod yX4_readPath ∈ GW := gw_t3 (List.mem_of_getElem? (i := 29) rfl) rfl
theorem co_X4_readPath : Cond.code yX4_readPath cX4_readPath 4 none ∈ GW := gw_t3 (List.mem_of_getElem? (i := 30) rfl) rfl
theorem ml_X4_200 : Cond.methodLink RX4 200 yX2_pathBetween ∈ GW := gw_t3 (List.mem_of_getElem? (i := 31) rfl) rfl
theorem im_X2_pathBetween : Cond.instanceMethod yX2_pathBetween ∈ GW := gw_t3 (List.mem_of_getElem? (i := 32) rfl) rfl
theorem se_X2_pathBetween : Cond.selects RX2 yX2_pathBetween yX2_pathBetween ∈ GW := gw_t3 (List.mem_of_getElem? (i := 33) rfl) rfl
theorem co_X2_pathBetween : Cond.code yX2_pathBetween cX2_pathBetween 3 (some .int) ∈ GW := gw_t3 (List.mem_of_getElem? (i := 34) rfl) rfl
theorem ml_X2_69 : Cond.methodLink RX2 69 yX2_hasTwo ∈ GW := gw_t3 (List.mem_of_getElem? (i := 35) rfl) rfl
theorem im_X2_hasTwo : Cond.instanceMethod yX2_hasTwo ∈ GW := gw_t3 (List.mem_of_getElem? (i := 36) rfl) rfl
theorem se_X2_hasTwo : Cond.selects RX2 yX2_hasTwo yX2_hasTwo ∈ GW := gw_t3 (List.mem_of_getElem? (i := 37) rfl) rfl
theorem co_X2_hasTwo : Cond.code yX2_hasTwo cX2_hasTwo 3 (some .boolean) ∈ GW := gw_t3 (List.mem_of_getElem? (i := 38) rfl) rfl
theorem ml_X2_43 : Cond.methodLink RX2 43 yX2_hasValley ∈ GW := gw_t3 (List.mem_of_getElem? (i := 39) rfl) rfl
theorem im_X2_hasValley : Cond.instanceMethod yX2_hasValley ∈ GW := gw_t3 (List.mem_of_getElem? (i := 40) rfl) rfl
theorem se_X2_hasValley : Cond.selects RX2 yX2_hasValley yX2_hasValley ∈ GW := gw_t3 (List.mem_of_getElem? (i := 41) rfl) rfl
theorem co_X2_hasValley : Cond.code yX2_hasValley cX2_hasValley 2 (some .boolean) ∈ GW := gw_t3 (List.mem_of_getElem? (i := 42) rfl) rfl
theorem ml_X4_203 : Cond.methodLink RX4 203 yX2_hasTwo ∈ GW := gw_t3 (List.mem_of_getElem? (i := 43) rfl) rfl
theorem ml_X4_83 : Cond.methodLink RX4 83 yX4_takeStop ∈ GW := gw_t3 (List.mem_of_getElem? (i := 44) rfl) rfl
theorem im_X4_takeStop : Cond.instanceMethod yX4_takeStop ∈ GW := gw_t3 (List.mem_of_getElem? (i := 46) rfl) rfl
theorem co_X4_takeStop : Cond.code yX4_takeStop cX4_takeStop 1 none ∈ GW := gw_t3 (List.mem_of_getElem? (i := 47) rfl) rfl
theorem ml_L_28 : Cond.methodLink RL 28 yX9_fault ∈ GW := gw_t3 (List.mem_of_getElem? (i := 48) rfl) rfl
theorem im_X9_fault : Cond.instanceMethod yX9_fault ∈ GW := gw_t3 (List.mem_of_getElem? (i := 49) rfl) rfl
theorem se_X9_fault : Cond.selects RX9 yX9_fault yX9_fault ∈ GW := gw_t3 (List.mem_of_getElem? (i := 50) rfl) rfl
theorem co_X9_fault : Cond.code yX9_fault cX9_fault 2 (some .int) ∈ GW := gw_t3 (List.mem_of_getElem? (i := 51) rfl) rfl
theorem ml_L_32 : Cond.methodLink RL 32 yX9_shuts ∈ GW := gw_t3 (List.mem_of_getElem? (i := 52) rfl) rfl
theorem im_X9_shuts : Cond.instanceMethod yX9_shuts ∈ GW := gw_t3 (List.mem_of_getElem? (i := 53) rfl) rfl
theorem se_X9_shuts : Cond.selects RX9 yX9_shuts yX9_shuts ∈ GW := gw_t3 (List.mem_of_getElem? (i := 54) rfl) rfl
theorem co_X9_shuts : Cond.code yX9_shuts cX9_shuts 3 (some .long) ∈ GW := gw_t3 (List.mem_of_getElem? (i := 55) rfl) rfl
theorem ml_X9_99 : Cond.methodLink RX9 99 yX2_hasValley ∈ GW := gw_t3 (List.mem_of_getElem? (i := 56) rfl) rfl
theorem ml_X9_103 : Cond.methodLink RX9 103 yX2_hasDayOrNever ∈ GW := gw_t3 (List.mem_of_getElem? (i := 57) rfl) rfl
theorem im_X2_hasDayOrNever : Cond.instanceMethod yX2_hasDayOrNever ∈ GW := gw_t3 (List.mem_of_getElem? (i := 58) rfl) rfl
theorem se_X2_hasDayOrNever : Cond.selects RX2 yX2_hasDayOrNever yX2_hasDayOrNever ∈ GW := gw_t3 (List.mem_of_getElem? (i := 59) rfl) rfl
theorem co_X2_hasDayOrNever : Cond.code yX2_hasDayOrNever cX2_hasDayOrNever 2 (some .boolean) ∈ GW := gw_t3 (List.mem_of_getElem? (i := 60) rfl) rfl
theorem kl_X9_106 : Cond.constantLong RX9 106 (-2) ∈ GW := gw_t3 (List.mem_of_getElem? (i := 61) rfl) rfl
theorem ml_X9_112 : Cond.methodLink RX9 112 yX5_followOne ∈ GW := gw_t3 (List.mem_of_getElem? (i := 62) rfl) rfl
theorem im_X5_followOne : Cond.instanceMethod yX5_followOne ∈ GW := gw_t3 (List.mem_of_getElem? (i := 63) rfl) rfl
theorem se_X5_followOne : Cond.selects RX5 yX5_followOne yX5_followOne ∈ GW := gw_t3 (List.mem_of_getElem? (i := 64) rfl) rfl
theorem co_X5_followOne : Cond.code yX5_followOne cX5_followOne 10 none ∈ GW := gw_t3 (List.mem_of_getElem? (i := 65) rfl) rfl
theorem ml_X5_33 : Cond.methodLink RX5 33 yJ7_fill_d0a16 ∈ GW := gw_t3 (List.mem_of_getElem? (i := 66) rfl) rfl
theorem st_J7_fill_d0a16 : Cond.static yJ7_fill_d0a16 ∈ GW := gw_t3 (List.mem_of_getElem? (i := 67) rfl) rfl
theorem co_J7_fill_d0a16 : Cond.code yJ7_fill_d0a16 cJ7_fill_d0a16 5 none ∈ GW := gw_t3 (List.mem_of_getElem? (i := 68) rfl) rfl
theorem ml_X5_39 : Cond.methodLink RX5 39 yX2_hasValley ∈ GW := gw_t3 (List.mem_of_getElem? (i := 69) rfl) rfl
theorem kl_X5_45 : Cond.constantLong RX5 45 (1000000000000) ∈ GW := gw_t3 (List.mem_of_getElem? (i := 70) rfl) rfl
theorem ml_X5_51 : Cond.methodLink RX5 51 yX5_snowing ∈ GW := gw_t3 (List.mem_of_getElem? (i := 71) rfl) rfl
theorem st_X5_snowing : Cond.static yX5_snowing ∈ GW := gw_t3 (List.mem_of_getElem? (i := 72) rfl) rfl
theorem co_X5_snowing : Cond.code yX5_snowing cX5_snowing 6 (some .long) ∈ GW := gw_t3 (List.mem_of_getElem? (i := 73) rfl) rfl
theorem ml_X5_92 : Cond.methodLink RX5 92 yX2_chance ∈ GW := gw_t3 (List.mem_of_getElem? (i := 74) rfl) rfl
theorem im_X2_chance : Cond.instanceMethod yX2_chance ∈ GW := gw_t3 (List.mem_of_getElem? (i := 75) rfl) rfl
theorem se_X2_chance : Cond.selects RX2 yX2_chance yX2_chance ∈ GW := gw_t3 (List.mem_of_getElem? (i := 76) rfl) rfl
theorem co_X2_chance : Cond.code yX2_chance cX2_chance 3 (some .int) ∈ GW := gw_t3 (List.mem_of_getElem? (i := 77) rfl) rfl
theorem ml_X5_59 : Cond.methodLink RX5 59 yX5_hundredths ∈ GW := gw_t3 (List.mem_of_getElem? (i := 78) rfl) rfl
theorem st_X5_hundredths : Cond.static yX5_hundredths ∈ GW := gw_t3 (List.mem_of_getElem? (i := 79) rfl) rfl
theorem co_X5_hundredths : Cond.code yX5_hundredths cX5_hundredths 3 (some .long) ∈ GW := gw_t3 (List.mem_of_getElem? (i := 80) rfl) rfl
theorem kl_X5_96 : Cond.constantLong RX5 96 (100) ∈ GW := gw_t3 (List.mem_of_getElem? (i := 81) rfl) rfl
theorem ml_X9_118 : Cond.methodLink RX9 118 yX5_partsOn ∈ GW := gw_t3 (List.mem_of_getElem? (i := 82) rfl) rfl
theorem im_X5_partsOn : Cond.instanceMethod yX5_partsOn ∈ GW := gw_t3 (List.mem_of_getElem? (i := 83) rfl) rfl
theorem se_X5_partsOn : Cond.selects RX5 yX5_partsOn yX5_partsOn ∈ GW := gw_t3 (List.mem_of_getElem? (i := 84) rfl) rfl
theorem co_X5_partsOn : Cond.code yX5_partsOn cX5_partsOn 2 (some .long) ∈ GW := gw_t3 (List.mem_of_getElem? (i := 85) rfl) rfl
theorem ml_L_37 : Cond.methodLink RL 37 yX9_by ∈ GW := gw_t3 (List.mem_of_getElem? (i := 86) rfl) rfl
theorem im_X9_by : Cond.instanceMethod yX9_by ∈ GW := gw_t3 (List.mem_of_getElem? (i := 87) rfl) rfl
theorem se_X9_by : Cond.selects RX9 yX9_by yX9_by ∈ GW := gw_t3 (List.mem_of_getElem? (i := 88) rfl) rfl
theorem co_X9_by : Cond.code yX9_by cX9_by 6 (some .long) ∈ GW := gw_t3 (List.mem_of_getElem? (i := 89) rfl) rfl
theorem ml_X9_122 : Cond.methodLink RX9 122 yX2_hasDay ∈ GW := gw_t3 (List.mem_of_getElem? (i := 90) rfl) rfl
theorem im_X2_hasDay : Cond.instanceMethod yX2_hasDay ∈ GW := gw_t3 (List.mem_of_getElem? (i := 91) rfl) rfl
theorem se_X2_hasDay : Cond.selects RX2 yX2_hasDay yX2_hasDay ∈ GW := gw_t3 (List.mem_of_getElem? (i := 92) rfl) rfl
theorem co_X2_hasDay : Cond.code yX2_hasDay cX2_hasDay 2 (some .boolean) ∈ GW := gw_t3 (List.mem_of_getElem? (i := 93) rfl) rfl
theorem ml_L_41 : Cond.methodLink RL 41 yX9_both ∈ GW := gw_t3 (List.mem_of_getElem? (i := 94) rfl) rfl
theorem im_X9_both : Cond.instanceMethod yX9_both ∈ GW := gw_t3 (List.mem_of_getElem? (i := 95) rfl) rfl
theorem se_X9_both : Cond.selects RX9 yX9_both yX9_both ∈ GW := gw_t3 (List.mem_of_getElem? (i := 96) rfl) rfl
theorem co_X9_both : Cond.code yX9_both cX9_both 5 (some .long) ∈ GW := gw_t3 (List.mem_of_getElem? (i := 97) rfl) rfl
theorem ml_X9_125 : Cond.methodLink RX9 125 yX2_hasTwo ∈ GW := gw_t3 (List.mem_of_getElem? (i := 98) rfl) rfl
theorem ml_X9_129 : Cond.methodLink RX9 129 yX5_followTwo ∈ GW := gw_t3 (List.mem_of_getElem? (i := 99) rfl) rfl
theorem im_X5_followTwo : Cond.instanceMethod yX5_followTwo ∈ GW := gw_t3 (List.mem_of_getElem? (i := 100) rfl) rfl
theorem se_X5_followTwo : Cond.selects RX5 yX5_followTwo yX5_followTwo ∈ GW := gw_t3 (List.mem_of_getElem? (i := 101) rfl) rfl
theorem co_X5_followTwo : Cond.code yX5_followTwo cX5_followTwo 8 none ∈ GW := gw_t3 (List.mem_of_getElem? (i := 102) rfl) rfl
theorem ml_X5_63 : Cond.methodLink RX5 63 yX2_hasTwo ∈ GW := gw_t3 (List.mem_of_getElem? (i := 103) rfl) rfl
theorem ml_X5_67 : Cond.methodLink RX5 67 yX5_shutSecond ∈ GW := gw_t3 (List.mem_of_getElem? (i := 104) rfl) rfl
theorem im_X5_shutSecond : Cond.instanceMethod yX5_shutSecond ∈ GW := gw_t3 (List.mem_of_getElem? (i := 106) rfl) rfl
theorem co_X5_shutSecond : Cond.code yX5_shutSecond cX5_shutSecond 9 (some .long) ∈ GW := gw_t3 (List.mem_of_getElem? (i := 107) rfl) rfl
theorem ml_X5_75 : Cond.methodLink RX5 75 yX5_skyOfTwo ∈ GW := gw_t3 (List.mem_of_getElem? (i := 108) rfl) rfl
theorem im_X5_skyOfTwo : Cond.instanceMethod yX5_skyOfTwo ∈ GW := gw_t3 (List.mem_of_getElem? (i := 110) rfl) rfl
theorem co_X5_skyOfTwo : Cond.code yX5_skyOfTwo cX5_skyOfTwo 6 (some .long) ∈ GW := gw_t3 (List.mem_of_getElem? (i := 111) rfl) rfl
theorem ml_X5_71 : Cond.methodLink RX5 71 yX5_splitBothOpen ∈ GW := gw_t3 (List.mem_of_getElem? (i := 112) rfl) rfl
theorem im_X5_splitBothOpen : Cond.instanceMethod yX5_splitBothOpen ∈ GW := gw_t3 (List.mem_of_getElem? (i := 114) rfl) rfl
theorem co_X5_splitBothOpen : Cond.code yX5_splitBothOpen cX5_splitBothOpen 15 none ∈ GW := gw_t3 (List.mem_of_getElem? (i := 115) rfl) rfl
theorem ml_X9_133 : Cond.methodLink RX9 133 yX5_partsOnTwo ∈ GW := gw_t3 (List.mem_of_getElem? (i := 116) rfl) rfl
theorem im_X5_partsOnTwo : Cond.instanceMethod yX5_partsOnTwo ∈ GW := gw_t3 (List.mem_of_getElem? (i := 117) rfl) rfl
theorem se_X5_partsOnTwo : Cond.selects RX5 yX5_partsOnTwo yX5_partsOnTwo ∈ GW := gw_t3 (List.mem_of_getElem? (i := 118) rfl) rfl
theorem co_X5_partsOnTwo : Cond.code yX5_partsOnTwo cX5_partsOnTwo 4 (some .long) ∈ GW := gw_t3 (List.mem_of_getElem? (i := 119) rfl) rfl
theorem ml_L_46 : Cond.methodLink RL 46 yX9_together ∈ GW := gw_t3 (List.mem_of_getElem? (i := 120) rfl) rfl
theorem im_X9_together : Cond.instanceMethod yX9_together ∈ GW := gw_t3 (List.mem_of_getElem? (i := 121) rfl) rfl
theorem se_X9_together : Cond.selects RX9 yX9_together yX9_together ∈ GW := gw_t3 (List.mem_of_getElem? (i := 122) rfl) rfl
theorem co_X9_together : Cond.code yX9_together cX9_together 6 (some .long) ∈ GW := gw_t3 (List.mem_of_getElem? (i := 123) rfl) rfl
theorem ml_X9_140 : Cond.methodLink RX9 140 yX5_followAll ∈ GW := gw_t3 (List.mem_of_getElem? (i := 124) rfl) rfl
theorem im_X5_followAll : Cond.instanceMethod yX5_followAll ∈ GW := gw_t3 (List.mem_of_getElem? (i := 125) rfl) rfl
theorem se_X5_followAll : Cond.selects RX5 yX5_followAll yX5_followAll ∈ GW := gw_t3 (List.mem_of_getElem? (i := 126) rfl) rfl
theorem co_X5_followAll : Cond.code yX5_followAll cX5_followAll 7 none ∈ GW := gw_t3 (List.mem_of_getElem? (i := 127) rfl) rfl
theorem ml_X5_82 : Cond.methodLink RX5 82 yX5_splitFrom ∈ GW := gw_t3 (List.mem_of_getElem? (i := 128) rfl) rfl
theorem im_X5_splitFrom : Cond.instanceMethod yX5_splitFrom ∈ GW := gw_t3 (List.mem_of_getElem? (i := 130) rfl) rfl
theorem co_X5_splitFrom : Cond.code yX5_splitFrom cX5_splitFrom 9 none ∈ GW := gw_t3 (List.mem_of_getElem? (i := 131) rfl) rfl
theorem ml_X5_86 : Cond.methodLink RX5 86 ⟨"java/lang/System", "arraycopy", "(Ljava/lang/Object;ILjava/lang/Object;II)V"⟩ ∈ GW := gw_t3 (List.mem_of_getElem? (i := 132) rfl) rfl
theorem ml_X9_143 : Cond.methodLink RX9 143 yJ6_bitCount_0f7a4 ∈ GW := gw_t3 (List.mem_of_getElem? (i := 135) rfl) rfl
theorem st_J6_bitCount_0f7a4 : Cond.static yJ6_bitCount_0f7a4 ∈ GW := gw_t3 (List.mem_of_getElem? (i := 136) rfl) rfl
theorem co_J6_bitCount_0f7a4 : Cond.code yJ6_bitCount_0f7a4 cJ6_bitCount_0f7a4 1 (some .int) ∈ GW := gw_t3 (List.mem_of_getElem? (i := 137) rfl) rfl
theorem ki_J6_265 : Cond.constant RJ6 265 (1431655765) ∈ GW := gw_t3 (List.mem_of_getElem? (i := 138) rfl) rfl
theorem ki_J6_266 : Cond.constant RJ6 266 (858993459) ∈ GW := gw_t3 (List.mem_of_getElem? (i := 139) rfl) rfl
theorem ki_J6_267 : Cond.constant RJ6 267 (252645135) ∈ GW := gw_t3 (List.mem_of_getElem? (i := 140) rfl) rfl
theorem ml_X9_149 : Cond.methodLink RX9 149 yX5_partsOfWay ∈ GW := gw_t3 (List.mem_of_getElem? (i := 141) rfl) rfl
theorem im_X5_partsOfWay : Cond.instanceMethod yX5_partsOfWay ∈ GW := gw_t3 (List.mem_of_getElem? (i := 142) rfl) rfl
theorem se_X5_partsOfWay : Cond.selects RX5 yX5_partsOfWay yX5_partsOfWay ∈ GW := gw_t3 (List.mem_of_getElem? (i := 143) rfl) rfl
theorem co_X5_partsOfWay : Cond.code yX5_partsOfWay cX5_partsOfWay 2 (some .long) ∈ GW := gw_t3 (List.mem_of_getElem? (i := 144) rfl) rfl
theorem ml_L_50 : Cond.methodLink RL 50 yX9_set ∈ GW := gw_t3 (List.mem_of_getElem? (i := 145) rfl) rfl
theorem im_X9_set : Cond.instanceMethod yX9_set ∈ GW := gw_t3 (List.mem_of_getElem? (i := 146) rfl) rfl
theorem se_X9_set : Cond.selects RX9 yX9_set yX9_set ∈ GW := gw_t3 (List.mem_of_getElem? (i := 147) rfl) rfl
theorem co_X9_set : Cond.code yX9_set cX9_set 3 (some .long) ∈ GW := gw_t3 (List.mem_of_getElem? (i := 148) rfl) rfl
theorem ml_X9_152 : Cond.methodLink RX9 152 yX2_hasBits ∈ GW := gw_t3 (List.mem_of_getElem? (i := 149) rfl) rfl
theorem im_X2_hasBits : Cond.instanceMethod yX2_hasBits ∈ GW := gw_t3 (List.mem_of_getElem? (i := 150) rfl) rfl
theorem se_X2_hasBits : Cond.selects RX2 yX2_hasBits yX2_hasBits ∈ GW := gw_t3 (List.mem_of_getElem? (i := 151) rfl) rfl
theorem co_X2_hasBits : Cond.code yX2_hasBits cX2_hasBits 2 (some .boolean) ∈ GW := gw_t3 (List.mem_of_getElem? (i := 152) rfl) rfl
theorem ml_L_54 : Cond.methodLink RL 54 yX9_when ∈ GW := gw_t3 (List.mem_of_getElem? (i := 153) rfl) rfl
theorem im_X9_when : Cond.instanceMethod yX9_when ∈ GW := gw_t3 (List.mem_of_getElem? (i := 154) rfl) rfl
theorem se_X9_when : Cond.selects RX9 yX9_when yX9_when ∈ GW := gw_t3 (List.mem_of_getElem? (i := 155) rfl) rfl
theorem co_X9_when : Cond.code yX9_when cX9_when 6 (some .int) ∈ GW := gw_t3 (List.mem_of_getElem? (i := 156) rfl) rfl
theorem kl_X9_158 : Cond.constantLong RX9 158 (1000000000) ∈ GW := gw_t3 (List.mem_of_getElem? (i := 157) rfl) rfl
theorem ml_L_59 : Cond.methodLink RL 59 yX9_wants ∈ GW := gw_t3 (List.mem_of_getElem? (i := 158) rfl) rfl
theorem im_X9_wants : Cond.instanceMethod yX9_wants ∈ GW := gw_t3 (List.mem_of_getElem? (i := 159) rfl) rfl
theorem se_X9_wants : Cond.selects RX9 yX9_wants yX9_wants ∈ GW := gw_t3 (List.mem_of_getElem? (i := 160) rfl) rfl
theorem co_X9_wants : Cond.code yX9_wants cX9_wants 4 (some .int) ∈ GW := gw_t3 (List.mem_of_getElem? (i := 161) rfl) rfl
theorem ml_X9_160 : Cond.methodLink RX9 160 yX2_hasStore ∈ GW := gw_t3 (List.mem_of_getElem? (i := 162) rfl) rfl
theorem im_X2_hasStore : Cond.instanceMethod yX2_hasStore ∈ GW := gw_t3 (List.mem_of_getElem? (i := 163) rfl) rfl
theorem se_X2_hasStore : Cond.selects RX2 yX2_hasStore yX2_hasStore ∈ GW := gw_t3 (List.mem_of_getElem? (i := 164) rfl) rfl
theorem co_X2_hasStore : Cond.code yX2_hasStore cX2_hasStore 3 (some .boolean) ∈ GW := gw_t3 (List.mem_of_getElem? (i := 165) rfl) rfl
theorem ml_X2_50 : Cond.methodLink RX2 50 yX2_hasThing ∈ GW := gw_t3 (List.mem_of_getElem? (i := 166) rfl) rfl
theorem im_X2_hasThing : Cond.instanceMethod yX2_hasThing ∈ GW := gw_t3 (List.mem_of_getElem? (i := 167) rfl) rfl
theorem se_X2_hasThing : Cond.selects RX2 yX2_hasThing yX2_hasThing ∈ GW := gw_t3 (List.mem_of_getElem? (i := 168) rfl) rfl
theorem co_X2_hasThing : Cond.code yX2_hasThing cX2_hasThing 2 (some .boolean) ∈ GW := gw_t3 (List.mem_of_getElem? (i := 169) rfl) rfl
theorem ml_X9_163 : Cond.methodLink RX9 163 yX2_wanted ∈ GW := gw_t3 (List.mem_of_getElem? (i := 170) rfl) rfl
theorem im_X2_wanted : Cond.instanceMethod yX2_wanted ∈ GW := gw_t3 (List.mem_of_getElem? (i := 171) rfl) rfl
theorem se_X2_wanted : Cond.selects RX2 yX2_wanted yX2_wanted ∈ GW := gw_t3 (List.mem_of_getElem? (i := 172) rfl) rfl
theorem co_X2_wanted : Cond.code yX2_wanted cX2_wanted 4 (some .int) ∈ GW := gw_t3 (List.mem_of_getElem? (i := 173) rfl) rfl
theorem ml_X2_65 : Cond.methodLink RX2 65 yX2_eaten ∈ GW := gw_t3 (List.mem_of_getElem? (i := 174) rfl) rfl
theorem im_X2_eaten : Cond.instanceMethod yX2_eaten ∈ GW := gw_t3 (List.mem_of_getElem? (i := 175) rfl) rfl
theorem se_X2_eaten : Cond.selects RX2 yX2_eaten yX2_eaten ∈ GW := gw_t3 (List.mem_of_getElem? (i := 176) rfl) rfl
theorem co_X2_eaten : Cond.code yX2_eaten cX2_eaten 4 (some .int) ∈ GW := gw_t3 (List.mem_of_getElem? (i := 177) rfl) rfl
theorem ml_L_64 : Cond.methodLink RL 64 yX9_cost ∈ GW := gw_t3 (List.mem_of_getElem? (i := 178) rfl) rfl
theorem im_X9_cost : Cond.instanceMethod yX9_cost ∈ GW := gw_t3 (List.mem_of_getElem? (i := 179) rfl) rfl
theorem se_X9_cost : Cond.selects RX9 yX9_cost yX9_cost ∈ GW := gw_t3 (List.mem_of_getElem? (i := 180) rfl) rfl
theorem co_X9_cost : Cond.code yX9_cost cX9_cost 4 (some .long) ∈ GW := gw_t3 (List.mem_of_getElem? (i := 181) rfl) rfl
theorem ml_X9_167 : Cond.methodLink RX9 167 yX9_isSacks ∈ GW := gw_t3 (List.mem_of_getElem? (i := 182) rfl) rfl
theorem st_X9_isSacks : Cond.static yX9_isSacks ∈ GW := gw_t3 (List.mem_of_getElem? (i := 183) rfl) rfl
theorem co_X9_isSacks : Cond.code yX9_isSacks cX9_isSacks 1 (some .boolean) ∈ GW := gw_t3 (List.mem_of_getElem? (i := 184) rfl) rfl
theorem ml_X9_170 : Cond.methodLink RX9 170 yX8_layAlone ∈ GW := gw_t3 (List.mem_of_getElem? (i := 185) rfl) rfl
theorem im_X8_layAlone : Cond.instanceMethod yX8_layAlone ∈ GW := gw_t3 (List.mem_of_getElem? (i := 186) rfl) rfl
theorem se_X8_layAlone : Cond.selects RX8 yX8_layAlone yX8_layAlone ∈ GW := gw_t3 (List.mem_of_getElem? (i := 187) rfl) rfl
theorem co_X8_layAlone : Cond.code yX8_layAlone cX8_layAlone 4 none ∈ GW := gw_t3 (List.mem_of_getElem? (i := 188) rfl) rfl
theorem ml_X8_43 : Cond.methodLink RX8 43 yX8_gatherAlone ∈ GW := gw_t3 (List.mem_of_getElem? (i := 189) rfl) rfl
theorem im_X8_gatherAlone : Cond.instanceMethod yX8_gatherAlone ∈ GW := gw_t3 (List.mem_of_getElem? (i := 190) rfl) rfl
theorem se_X8_gatherAlone : Cond.selects RX8 yX8_gatherAlone yX8_gatherAlone ∈ GW := gw_t3 (List.mem_of_getElem? (i := 191) rfl) rfl
theorem co_X8_gatherAlone : Cond.code yX8_gatherAlone cX8_gatherAlone 5 none ∈ GW := gw_t3 (List.mem_of_getElem? (i := 192) rfl) rfl
theorem ml_X8_85 : Cond.methodLink RX8 85 yX5_followOne ∈ GW := gw_t3 (List.mem_of_getElem? (i := 193) rfl) rfl
theorem ml_X8_54 : Cond.methodLink RX8 54 yX8_forget ∈ GW := gw_t3 (List.mem_of_getElem? (i := 194) rfl) rfl
theorem im_X8_forget : Cond.instanceMethod yX8_forget ∈ GW := gw_t3 (List.mem_of_getElem? (i := 196) rfl) rfl
theorem co_X8_forget : Cond.code yX8_forget cX8_forget 1 none ∈ GW := gw_t3 (List.mem_of_getElem? (i := 197) rfl) rfl
theorem ml_X8_92 : Cond.methodLink RX8 92 yJ7_fill_d0a16 ∈ GW := gw_t3 (List.mem_of_getElem? (i := 198) rfl) rfl
theorem ml_X8_63 : Cond.methodLink RX8 63 yX2_wanted ∈ GW := gw_t3 (List.mem_of_getElem? (i := 199) rfl) rfl
theorem ml_X8_89 : Cond.methodLink RX8 89 yX5_partsOn ∈ GW := gw_t3 (List.mem_of_getElem? (i := 200) rfl) rfl
theorem ml_X8_70 : Cond.methodLink RX8 70 yX8_gather ∈ GW := gw_t3 (List.mem_of_getElem? (i := 201) rfl) rfl
theorem im_X8_gather : Cond.instanceMethod yX8_gather ∈ GW := gw_t3 (List.mem_of_getElem? (i := 203) rfl) rfl
theorem co_X8_gather : Cond.code yX8_gather cX8_gather 4 none ∈ GW := gw_t3 (List.mem_of_getElem? (i := 204) rfl) rfl
theorem ml_X8_101 : Cond.methodLink RX8 101 yJ9_max_7cf53 ∈ GW := gw_t3 (List.mem_of_getElem? (i := 205) rfl) rfl
theorem st_J9_max_7cf53 : Cond.static yJ9_max_7cf53 ∈ GW := gw_t3 (List.mem_of_getElem? (i := 206) rfl) rfl
theorem co_J9_max_7cf53 : Cond.code yJ9_max_7cf53 cJ9_max_7cf53 2 (some .int) ∈ GW := gw_t3 (List.mem_of_getElem? (i := 207) rfl) rfl
theorem ml_X8_47 : Cond.methodLink RX8 47 yX8_sumUp ∈ GW := gw_t3 (List.mem_of_getElem? (i := 208) rfl) rfl
theorem im_X8_sumUp : Cond.instanceMethod yX8_sumUp ∈ GW := gw_t3 (List.mem_of_getElem? (i := 210) rfl) rfl
theorem co_X8_sumUp : Cond.code yX8_sumUp cX8_sumUp 10 none ∈ GW := gw_t3 (List.mem_of_getElem? (i := 211) rfl) rfl
theorem ml_X8_106 : Cond.methodLink RX8 106 yX2_hasThing ∈ GW := gw_t3 (List.mem_of_getElem? (i := 212) rfl) rfl
theorem ml_X8_110 : Cond.methodLink RX8 110 yX8_lossWhole ∈ GW := gw_t3 (List.mem_of_getElem? (i := 213) rfl) rfl
theorem im_X8_lossWhole : Cond.instanceMethod yX8_lossWhole ∈ GW := gw_t3 (List.mem_of_getElem? (i := 214) rfl) rfl
theorem se_X8_lossWhole : Cond.selects RX8 yX8_lossWhole yX8_lossWhole ∈ GW := gw_t3 (List.mem_of_getElem? (i := 215) rfl) rfl
theorem co_X8_lossWhole : Cond.code yX8_lossWhole cX8_lossWhole 8 (some .long) ∈ GW := gw_t3 (List.mem_of_getElem? (i := 216) rfl) rfl
theorem ml_X8_125 : Cond.methodLink RX8 125 yJ9_min_7cf53 ∈ GW := gw_t3 (List.mem_of_getElem? (i := 217) rfl) rfl
theorem ml_X8_39 : Cond.methodLink RX8 39 yX8_partsWanting ∈ GW := gw_t3 (List.mem_of_getElem? (i := 218) rfl) rfl
theorem im_X8_partsWanting : Cond.instanceMethod yX8_partsWanting ∈ GW := gw_t3 (List.mem_of_getElem? (i := 219) rfl) rfl
theorem se_X8_partsWanting : Cond.selects RX8 yX8_partsWanting yX8_partsWanting ∈ GW := gw_t3 (List.mem_of_getElem? (i := 220) rfl) rfl
theorem co_X8_partsWanting : Cond.code yX8_partsWanting cX8_partsWanting 2 (some .long) ∈ GW := gw_t3 (List.mem_of_getElem? (i := 221) rfl) rfl
theorem kl_X8_117 : Cond.constantLong RX8 117 (1000000000000) ∈ GW := gw_t3 (List.mem_of_getElem? (i := 222) rfl) rfl
theorem ml_X9_173 : Cond.methodLink RX9 173 yX8_thousandths ∈ GW := gw_t3 (List.mem_of_getElem? (i := 223) rfl) rfl
theorem im_X8_thousandths : Cond.instanceMethod yX8_thousandths ∈ GW := gw_t3 (List.mem_of_getElem? (i := 224) rfl) rfl
theorem se_X8_thousandths : Cond.selects RX8 yX8_thousandths yX8_thousandths ∈ GW := gw_t3 (List.mem_of_getElem? (i := 225) rfl) rfl
theorem co_X8_thousandths : Cond.code yX8_thousandths cX8_thousandths 2 (some .long) ∈ GW := gw_t3 (List.mem_of_getElem? (i := 226) rfl) rfl
theorem ml_X8_29 : Cond.methodLink RX8 29 yX8_whole ∈ GW := gw_t3 (List.mem_of_getElem? (i := 227) rfl) rfl
theorem im_X8_whole : Cond.instanceMethod yX8_whole ∈ GW := gw_t3 (List.mem_of_getElem? (i := 228) rfl) rfl
theorem se_X8_whole : Cond.selects RX8 yX8_whole yX8_whole ∈ GW := gw_t3 (List.mem_of_getElem? (i := 229) rfl) rfl
theorem co_X8_whole : Cond.code yX8_whole cX8_whole 4 (some .long) ∈ GW := gw_t3 (List.mem_of_getElem? (i := 230) rfl) rfl
theorem kl_X8_33 : Cond.constantLong RX8 33 (1000000000) ∈ GW := gw_t3 (List.mem_of_getElem? (i := 231) rfl) rfl
theorem ml_L_69 : Cond.methodLink RL 69 yX9_worth ∈ GW := gw_t3 (List.mem_of_getElem? (i := 232) rfl) rfl
theorem im_X9_worth : Cond.instanceMethod yX9_worth ∈ GW := gw_t3 (List.mem_of_getElem? (i := 233) rfl) rfl
theorem se_X9_worth : Cond.selects RX9 yX9_worth yX9_worth ∈ GW := gw_t3 (List.mem_of_getElem? (i := 234) rfl) rfl
theorem co_X9_worth : Cond.code yX9_worth cX9_worth 4 (some .long) ∈ GW := gw_t3 (List.mem_of_getElem? (i := 235) rfl) rfl
theorem kl_X9_176 : Cond.constantLong RX9 176 (-1000000000000) ∈ GW := gw_t3 (List.mem_of_getElem? (i := 236) rfl) rfl
theorem ml_X9_178 : Cond.methodLink RX9 178 yX8_whole ∈ GW := gw_t3 (List.mem_of_getElem? (i := 237) rfl) rfl
theorem ml_L_73 : Cond.methodLink RL 73 yX9_best ∈ GW := gw_t3 (List.mem_of_getElem? (i := 238) rfl) rfl
theorem im_X9_best : Cond.instanceMethod yX9_best ∈ GW := gw_t3 (List.mem_of_getElem? (i := 239) rfl) rfl
theorem se_X9_best : Cond.selects RX9 yX9_best yX9_best ∈ GW := gw_t4 (List.mem_of_getElem? (i := 0) rfl) rfl
theorem co_X9_best : Cond.code yX9_best cX9_best 3 (some .int) ∈ GW := gw_t4 (List.mem_of_getElem? (i := 1) rfl) rfl
theorem ml_X9_181 : Cond.methodLink RX9 181 yX8_leastSacks ∈ GW := gw_t4 (List.mem_of_getElem? (i := 2) rfl) rfl
theorem im_X8_leastSacks : Cond.instanceMethod yX8_leastSacks ∈ GW := gw_t4 (List.mem_of_getElem? (i := 3) rfl) rfl
theorem se_X8_leastSacks : Cond.selects RX8 yX8_leastSacks yX8_leastSacks ∈ GW := gw_t4 (List.mem_of_getElem? (i := 4) rfl) rfl
theorem co_X8_leastSacks : Cond.code yX8_leastSacks cX8_leastSacks 4 (some .int) ∈ GW := gw_t4 (List.mem_of_getElem? (i := 5) rfl) rfl
theorem ml_L_77 : Cond.methodLink RL 77 yX9_sure ∈ GW := gw_t4 (List.mem_of_getElem? (i := 6) rfl) rfl
theorem im_X9_sure : Cond.instanceMethod yX9_sure ∈ GW := gw_t4 (List.mem_of_getElem? (i := 7) rfl) rfl
theorem se_X9_sure : Cond.selects RX9 yX9_sure yX9_sure ∈ GW := gw_t4 (List.mem_of_getElem? (i := 8) rfl) rfl
theorem co_X9_sure : Cond.code yX9_sure cX9_sure 4 (some .long) ∈ GW := gw_t4 (List.mem_of_getElem? (i := 9) rfl) rfl
theorem ml_X9_184 : Cond.methodLink RX9 184 yX8_gatherAlone ∈ GW := gw_t4 (List.mem_of_getElem? (i := 10) rfl) rfl
theorem ml_X9_187 : Cond.methodLink RX9 187 yX8_enough ∈ GW := gw_t4 (List.mem_of_getElem? (i := 11) rfl) rfl
theorem im_X8_enough : Cond.instanceMethod yX8_enough ∈ GW := gw_t4 (List.mem_of_getElem? (i := 12) rfl) rfl
theorem se_X8_enough : Cond.selects RX8 yX8_enough yX8_enough ∈ GW := gw_t4 (List.mem_of_getElem? (i := 13) rfl) rfl
theorem co_X8_enough : Cond.code yX8_enough cX8_enough 5 (some .long) ∈ GW := gw_t4 (List.mem_of_getElem? (i := 14) rfl) rfl
theorem ml_L_81 : Cond.methodLink RL 81 yX9_need ∈ GW := gw_t4 (List.mem_of_getElem? (i := 15) rfl) rfl
theorem im_X9_need : Cond.instanceMethod yX9_need ∈ GW := gw_t4 (List.mem_of_getElem? (i := 16) rfl) rfl
theorem se_X9_need : Cond.selects RX9 yX9_need yX9_need ∈ GW := gw_t4 (List.mem_of_getElem? (i := 17) rfl) rfl
theorem co_X9_need : Cond.code yX9_need cX9_need 7 (some .int) ∈ GW := gw_t4 (List.mem_of_getElem? (i := 18) rfl) rfl
theorem kl_X9_190 : Cond.constantLong RX9 190 (1000000000000) ∈ GW := gw_t4 (List.mem_of_getElem? (i := 19) rfl) rfl
theorem ml_X9_192 : Cond.methodLink RX9 192 yX8_partsWanting ∈ GW := gw_t4 (List.mem_of_getElem? (i := 20) rfl) rfl
theorem ml_L_85 : Cond.methodLink RL 85 yX9_packed ∈ GW := gw_t4 (List.mem_of_getElem? (i := 21) rfl) rfl
theorem im_X9_packed : Cond.instanceMethod yX9_packed ∈ GW := gw_t4 (List.mem_of_getElem? (i := 22) rfl) rfl
theorem se_X9_packed : Cond.selects RX9 yX9_packed yX9_packed ∈ GW := gw_t4 (List.mem_of_getElem? (i := 23) rfl) rfl
theorem co_X9_packed : Cond.code yX9_packed cX9_packed 2 (some .long) ∈ GW := gw_t4 (List.mem_of_getElem? (i := 24) rfl) rfl
theorem ml_X9_195 : Cond.methodLink RX9 195 yX8_packRoom ∈ GW := gw_t4 (List.mem_of_getElem? (i := 25) rfl) rfl
theorem im_X8_packRoom : Cond.instanceMethod yX8_packRoom ∈ GW := gw_t4 (List.mem_of_getElem? (i := 26) rfl) rfl
theorem se_X8_packRoom : Cond.selects RX8 yX8_packRoom yX8_packRoom ∈ GW := gw_t4 (List.mem_of_getElem? (i := 27) rfl) rfl
theorem co_X8_packRoom : Cond.code yX8_packRoom cX8_packRoom 6 (some .long) ∈ GW := gw_t4 (List.mem_of_getElem? (i := 28) rfl) rfl
theorem ml_X8_141 : Cond.methodLink RX8 141 yX2_hasValley ∈ GW := gw_t4 (List.mem_of_getElem? (i := 29) rfl) rfl
theorem ml_X8_144 : Cond.methodLink RX8 144 yJ7_fill_53178 ∈ GW := gw_t4 (List.mem_of_getElem? (i := 30) rfl) rfl
theorem st_J7_fill_53178 : Cond.static yJ7_fill_53178 ∈ GW := gw_t4 (List.mem_of_getElem? (i := 31) rfl) rfl
theorem co_J7_fill_53178 : Cond.code yJ7_fill_53178 cJ7_fill_53178 4 none ∈ GW := gw_t4 (List.mem_of_getElem? (i := 32) rfl) rfl
theorem ml_X8_153 : Cond.methodLink RX8 153 yX8_savingMost ∈ GW := gw_t4 (List.mem_of_getElem? (i := 33) rfl) rfl
theorem im_X8_savingMost : Cond.instanceMethod yX8_savingMost ∈ GW := gw_t4 (List.mem_of_getElem? (i := 35) rfl) rfl
theorem co_X8_savingMost : Cond.code yX8_savingMost cX8_savingMost 9 (some .int) ∈ GW := gw_t4 (List.mem_of_getElem? (i := 36) rfl) rfl
theorem ml_L_90 : Cond.methodLink RL 90 yX9_pack ∈ GW := gw_t4 (List.mem_of_getElem? (i := 37) rfl) rfl
theorem im_X9_pack : Cond.instanceMethod yX9_pack ∈ GW := gw_t4 (List.mem_of_getElem? (i := 38) rfl) rfl
theorem se_X9_pack : Cond.selects RX9 yX9_pack yX9_pack ∈ GW := gw_t4 (List.mem_of_getElem? (i := 39) rfl) rfl
theorem co_X9_pack : Cond.code yX9_pack cX9_pack 3 (some .int) ∈ GW := gw_t4 (List.mem_of_getElem? (i := 40) rfl) rfl
theorem ml_X9_199 : Cond.methodLink RX9 199 yX8_packedSacks ∈ GW := gw_t4 (List.mem_of_getElem? (i := 41) rfl) rfl
theorem im_X8_packedSacks : Cond.instanceMethod yX8_packedSacks ∈ GW := gw_t4 (List.mem_of_getElem? (i := 42) rfl) rfl
theorem se_X8_packedSacks : Cond.selects RX8 yX8_packedSacks yX8_packedSacks ∈ GW := gw_t4 (List.mem_of_getElem? (i := 43) rfl) rfl
theorem co_X8_packedSacks : Cond.code yX8_packedSacks cX8_packedSacks 2 (some .int) ∈ GW := gw_t4 (List.mem_of_getElem? (i := 44) rfl) rfl
theorem ml_L_94 : Cond.methodLink RL 94 yX9_gap ∈ GW := gw_t4 (List.mem_of_getElem? (i := 45) rfl) rfl
theorem im_X9_gap : Cond.instanceMethod yX9_gap ∈ GW := gw_t4 (List.mem_of_getElem? (i := 46) rfl) rfl
theorem se_X9_gap : Cond.selects RX9 yX9_gap yX9_gap ∈ GW := gw_t4 (List.mem_of_getElem? (i := 47) rfl) rfl
theorem co_X9_gap : Cond.code yX9_gap cX9_gap 7 (some .long) ∈ GW := gw_t4 (List.mem_of_getElem? (i := 48) rfl) rfl
theorem ml_X9_205 : Cond.methodLink RX9 205 yX8_leastWhole ∈ GW := gw_t4 (List.mem_of_getElem? (i := 49) rfl) rfl
theorem im_X8_leastWhole : Cond.instanceMethod yX8_leastWhole ∈ GW := gw_t4 (List.mem_of_getElem? (i := 50) rfl) rfl
theorem se_X8_leastWhole : Cond.selects RX8 yX8_leastWhole yX8_leastWhole ∈ GW := gw_t4 (List.mem_of_getElem? (i := 51) rfl) rfl
theorem co_X8_leastWhole : Cond.code yX8_leastWhole cX8_leastWhole 2 (some .long) ∈ GW := gw_t4 (List.mem_of_getElem? (i := 52) rfl) rfl
theorem ml_X8_35 : Cond.methodLink RX8 35 yX8_leastSacks ∈ GW := gw_t4 (List.mem_of_getElem? (i := 53) rfl) rfl
theorem ml_L_98 : Cond.methodLink RL 98 yX9_late ∈ GW := gw_t4 (List.mem_of_getElem? (i := 54) rfl) rfl
theorem im_X9_late : Cond.instanceMethod yX9_late ∈ GW := gw_t4 (List.mem_of_getElem? (i := 55) rfl) rfl
theorem se_X9_late : Cond.selects RX9 yX9_late yX9_late ∈ GW := gw_t4 (List.mem_of_getElem? (i := 56) rfl) rfl
theorem co_X9_late : Cond.code yX9_late cX9_late 3 (some .long) ∈ GW := gw_t4 (List.mem_of_getElem? (i := 57) rfl) rfl
theorem ml_X9_208 : Cond.methodLink RX9 208 yX3_leastFromFirst ∈ GW := gw_t4 (List.mem_of_getElem? (i := 58) rfl) rfl
theorem im_X3_leastFromFirst : Cond.instanceMethod yX3_leastFromFirst ∈ GW := gw_t4 (List.mem_of_getElem? (i := 59) rfl) rfl
theorem se_X3_leastFromFirst : Cond.selects RX3 yX3_leastFromFirst yX3_leastFromFirst ∈ GW := gw_t4 (List.mem_of_getElem? (i := 60) rfl) rfl
theorem co_X3_leastFromFirst : Cond.code yX3_leastFromFirst cX3_leastFromFirst 5 (some .long) ∈ GW := gw_t4 (List.mem_of_getElem? (i := 61) rfl) rfl
theorem ml_X3_74 : Cond.methodLink RX3 74 yX3_begin ∈ GW := gw_t4 (List.mem_of_getElem? (i := 62) rfl) rfl
theorem im_X3_begin : Cond.instanceMethod yX3_begin ∈ GW := gw_t4 (List.mem_of_getElem? (i := 63) rfl) rfl
theorem se_X3_begin : Cond.selects RX3 yX3_begin yX3_begin ∈ GW := gw_t4 (List.mem_of_getElem? (i := 64) rfl) rfl
theorem co_X3_begin : Cond.code yX3_begin cX3_begin 7 none ∈ GW := gw_t4 (List.mem_of_getElem? (i := 65) rfl) rfl
theorem ml_X3_39 : Cond.methodLink RX3 39 yJ9_max_7cf53 ∈ GW := gw_t4 (List.mem_of_getElem? (i := 66) rfl) rfl
theorem ml_X3_52 : Cond.methodLink RX3 52 yX2_hasStore ∈ GW := gw_t4 (List.mem_of_getElem? (i := 67) rfl) rfl
theorem ml_X3_56 : Cond.methodLink RX3 56 yX2_wanted ∈ GW := gw_t4 (List.mem_of_getElem? (i := 68) rfl) rfl
theorem kl_X3_60 : Cond.constantLong RX3 60 (1000) ∈ GW := gw_t4 (List.mem_of_getElem? (i := 69) rfl) rfl
theorem ml_X3_81 : Cond.methodLink RX3 81 yX3_settle ∈ GW := gw_t4 (List.mem_of_getElem? (i := 70) rfl) rfl
theorem im_X3_settle : Cond.instanceMethod yX3_settle ∈ GW := gw_t4 (List.mem_of_getElem? (i := 72) rfl) rfl
theorem co_X3_settle : Cond.code yX3_settle cX3_settle 5 none ∈ GW := gw_t4 (List.mem_of_getElem? (i := 73) rfl) rfl
theorem ml_X3_89 : Cond.methodLink RX3 89 yX3_weigh ∈ GW := gw_t4 (List.mem_of_getElem? (i := 74) rfl) rfl
theorem im_X3_weigh : Cond.instanceMethod yX3_weigh ∈ GW := gw_t4 (List.mem_of_getElem? (i := 76) rfl) rfl
theorem co_X3_weigh : Cond.code yX3_weigh cX3_weigh 17 none ∈ GW := gw_t4 (List.mem_of_getElem? (i := 77) rfl) rfl
theorem ml_X3_99 : Cond.methodLink RX3 99 yX2_chance ∈ GW := gw_t4 (List.mem_of_getElem? (i := 78) rfl) rfl
theorem kl_X3_106 : Cond.constantLong RX3 106 (100) ∈ GW := gw_t4 (List.mem_of_getElem? (i := 79) rfl) rfl
theorem ml_X3_92 : Cond.methodLink RX3 92 yX3_fewestOf ∈ GW := gw_t4 (List.mem_of_getElem? (i := 80) rfl) rfl
theorem im_X3_fewestOf : Cond.instanceMethod yX3_fewestOf ∈ GW := gw_t4 (List.mem_of_getElem? (i := 82) rfl) rfl
theorem co_X3_fewestOf : Cond.code yX3_fewestOf cX3_fewestOf 8 (some .int) ∈ GW := gw_t4 (List.mem_of_getElem? (i := 83) rfl) rfl
theorem ml_L_102 : Cond.methodLink RL 102 yX9_today ∈ GW := gw_t4 (List.mem_of_getElem? (i := 84) rfl) rfl
theorem im_X9_today : Cond.instanceMethod yX9_today ∈ GW := gw_t4 (List.mem_of_getElem? (i := 85) rfl) rfl
theorem se_X9_today : Cond.selects RX9 yX9_today yX9_today ∈ GW := gw_t4 (List.mem_of_getElem? (i := 86) rfl) rfl
theorem co_X9_today : Cond.code yX9_today cX9_today 6 (some .int) ∈ GW := gw_t4 (List.mem_of_getElem? (i := 87) rfl) rfl
theorem ml_X9_212 : Cond.methodLink RX9 212 yX3_begin ∈ GW := gw_t4 (List.mem_of_getElem? (i := 88) rfl) rfl
theorem ml_X9_216 : Cond.methodLink RX9 216 yX3_sentOn ∈ GW := gw_t4 (List.mem_of_getElem? (i := 89) rfl) rfl
theorem im_X3_sentOn : Cond.instanceMethod yX3_sentOn ∈ GW := gw_t4 (List.mem_of_getElem? (i := 90) rfl) rfl
theorem se_X3_sentOn : Cond.selects RX3 yX3_sentOn yX3_sentOn ∈ GW := gw_t4 (List.mem_of_getElem? (i := 91) rfl) rfl
theorem co_X3_sentOn : Cond.code yX3_sentOn cX3_sentOn 4 (some .int) ∈ GW := gw_t4 (List.mem_of_getElem? (i := 92) rfl) rfl
theorem ml_L_107 : Cond.methodLink RL 107 yX9_last ∈ GW := gw_t4 (List.mem_of_getElem? (i := 93) rfl) rfl
theorem im_X9_last : Cond.instanceMethod yX9_last ∈ GW := gw_t4 (List.mem_of_getElem? (i := 94) rfl) rfl
theorem se_X9_last : Cond.selects RX9 yX9_last yX9_last ∈ GW := gw_t4 (List.mem_of_getElem? (i := 95) rfl) rfl
theorem co_X9_last : Cond.code yX9_last cX9_last 3 (some .int) ∈ GW := gw_t4 (List.mem_of_getElem? (i := 96) rfl) rfl
theorem ml_X9_220 : Cond.methodLink RX9 220 yX3_lastSentInClear ∈ GW := gw_t4 (List.mem_of_getElem? (i := 97) rfl) rfl
theorem im_X3_lastSentInClear : Cond.instanceMethod yX3_lastSentInClear ∈ GW := gw_t4 (List.mem_of_getElem? (i := 98) rfl) rfl
theorem se_X3_lastSentInClear : Cond.selects RX3 yX3_lastSentInClear yX3_lastSentInClear ∈ GW := gw_t4 (List.mem_of_getElem? (i := 99) rfl) rfl
theorem co_X3_lastSentInClear : Cond.code yX3_lastSentInClear cX3_lastSentInClear 4 (some .int) ∈ GW := gw_t4 (List.mem_of_getElem? (i := 100) rfl) rfl
theorem ml_X3_85 : Cond.methodLink RX3 85 yX3_leastFromFirst ∈ GW := gw_t4 (List.mem_of_getElem? (i := 101) rfl) rfl
theorem ml_L_111 : Cond.methodLink RL 111 yX9_signs ∈ GW := gw_t4 (List.mem_of_getElem? (i := 102) rfl) rfl
theorem im_X9_signs : Cond.instanceMethod yX9_signs ∈ GW := gw_t4 (List.mem_of_getElem? (i := 103) rfl) rfl
theorem se_X9_signs : Cond.selects RX9 yX9_signs yX9_signs ∈ GW := gw_t4 (List.mem_of_getElem? (i := 104) rfl) rfl
theorem co_X9_signs : Cond.code yX9_signs cX9_signs 8 (some .long) ∈ GW := gw_t4 (List.mem_of_getElem? (i := 105) rfl) rfl
theorem kl_X9_226 : Cond.constantLong RX9 226 (9223372036854775807) ∈ GW := gw_t4 (List.mem_of_getElem? (i := 106) rfl) rfl
theorem kl_X9_228 : Cond.constantLong RX9 228 (1000) ∈ GW := gw_t4 (List.mem_of_getElem? (i := 107) rfl) rfl
theorem ml_X9_233 : Cond.methodLink RX9 233 yX2_loadsOf ∈ GW := gw_t4 (List.mem_of_getElem? (i := 108) rfl) rfl
theorem im_X2_loadsOf : Cond.instanceMethod yX2_loadsOf ∈ GW := gw_t4 (List.mem_of_getElem? (i := 109) rfl) rfl
theorem se_X2_loadsOf : Cond.selects RX2 yX2_loadsOf yX2_loadsOf ∈ GW := gw_t4 (List.mem_of_getElem? (i := 110) rfl) rfl
theorem co_X2_loadsOf : Cond.code yX2_loadsOf cX2_loadsOf 2 (some .int) ∈ GW := gw_t4 (List.mem_of_getElem? (i := 111) rfl) rfl
theorem ml_X9_236 : Cond.methodLink RX9 236 yJ9_min_f86c9 ∈ GW := gw_t4 (List.mem_of_getElem? (i := 112) rfl) rfl
theorem st_J9_min_f86c9 : Cond.static yJ9_min_f86c9 ∈ GW := gw_t4 (List.mem_of_getElem? (i := 113) rfl) rfl
theorem co_J9_min_f86c9 : Cond.code yJ9_min_f86c9 cJ9_min_f86c9 4 (some .long) ∈ GW := gw_t4 (List.mem_of_getElem? (i := 114) rfl) rfl
theorem ml_L_115 : Cond.methodLink RL 115 yX9_fork ∈ GW := gw_t4 (List.mem_of_getElem? (i := 115) rfl) rfl
theorem im_X9_fork : Cond.instanceMethod yX9_fork ∈ GW := gw_t4 (List.mem_of_getElem? (i := 116) rfl) rfl
theorem se_X9_fork : Cond.selects RX9 yX9_fork yX9_fork ∈ GW := gw_t4 (List.mem_of_getElem? (i := 117) rfl) rfl
theorem co_X9_fork : Cond.code yX9_fork cX9_fork 5 (some .long) ∈ GW := gw_t4 (List.mem_of_getElem? (i := 118) rfl) rfl
theorem ml_X9_242 : Cond.methodLink RX9 242 yX2_hasThing ∈ GW := gw_t4 (List.mem_of_getElem? (i := 119) rfl) rfl
theorem ml_X9_245 : Cond.methodLink RX9 245 yX8_layFork ∈ GW := gw_t4 (List.mem_of_getElem? (i := 120) rfl) rfl
theorem im_X8_layFork : Cond.instanceMethod yX8_layFork ∈ GW := gw_t4 (List.mem_of_getElem? (i := 121) rfl) rfl
theorem se_X8_layFork : Cond.selects RX8 yX8_layFork yX8_layFork ∈ GW := gw_t4 (List.mem_of_getElem? (i := 122) rfl) rfl
theorem co_X8_layFork : Cond.code yX8_layFork cX8_layFork 8 none ∈ GW := gw_t4 (List.mem_of_getElem? (i := 123) rfl) rfl
theorem ml_X8_51 : Cond.methodLink RX8 51 yX5_followTwo ∈ GW := gw_t4 (List.mem_of_getElem? (i := 124) rfl) rfl
theorem ml_X8_67 : Cond.methodLink RX8 67 yX5_partsOnTwo ∈ GW := gw_t4 (List.mem_of_getElem? (i := 125) rfl) rfl
theorem ml_L_119 : Cond.methodLink RL 119 yX9_middle ∈ GW := gw_t4 (List.mem_of_getElem? (i := 126) rfl) rfl
theorem im_X9_middle : Cond.instanceMethod yX9_middle ∈ GW := gw_t4 (List.mem_of_getElem? (i := 127) rfl) rfl
theorem se_X9_middle : Cond.selects RX9 yX9_middle yX9_middle ∈ GW := gw_t4 (List.mem_of_getElem? (i := 128) rfl) rfl
theorem co_X9_middle : Cond.code yX9_middle cX9_middle 4 (some .int) ∈ GW := gw_t4 (List.mem_of_getElem? (i := 129) rfl) rfl
theorem ml_L_123 : Cond.methodLink RL 123 yX9_shares ∈ GW := gw_t4 (List.mem_of_getElem? (i := 130) rfl) rfl
theorem im_X9_shares : Cond.instanceMethod yX9_shares ∈ GW := gw_t4 (List.mem_of_getElem? (i := 131) rfl) rfl
theorem se_X9_shares : Cond.selects RX9 yX9_shares yX9_shares ∈ GW := gw_t4 (List.mem_of_getElem? (i := 132) rfl) rfl
theorem co_X9_shares : Cond.code yX9_shares cX9_shares 6 (some .long) ∈ GW := gw_t4 (List.mem_of_getElem? (i := 133) rfl) rfl
theorem ml_L_127 : Cond.methodLink RL 127 yX9_flown ∈ GW := gw_t4 (List.mem_of_getElem? (i := 134) rfl) rfl
theorem im_X9_flown : Cond.instanceMethod yX9_flown ∈ GW := gw_t4 (List.mem_of_getElem? (i := 135) rfl) rfl
theorem se_X9_flown : Cond.selects RX9 yX9_flown yX9_flown ∈ GW := gw_t4 (List.mem_of_getElem? (i := 136) rfl) rfl
theorem co_X9_flown : Cond.code yX9_flown cX9_flown 4 (some .long) ∈ GW := gw_t4 (List.mem_of_getElem? (i := 137) rfl) rfl
theorem ml_X9_248 : Cond.methodLink RX9 248 yX8_flownWhole ∈ GW := gw_t4 (List.mem_of_getElem? (i := 138) rfl) rfl
theorem im_X8_flownWhole : Cond.instanceMethod yX8_flownWhole ∈ GW := gw_t4 (List.mem_of_getElem? (i := 139) rfl) rfl
theorem se_X8_flownWhole : Cond.selects RX8 yX8_flownWhole yX8_flownWhole ∈ GW := gw_t4 (List.mem_of_getElem? (i := 140) rfl) rfl
theorem co_X8_flownWhole : Cond.code yX8_flownWhole cX8_flownWhole 11 (some .long) ∈ GW := gw_t4 (List.mem_of_getElem? (i := 141) rfl) rfl
theorem ml_X8_128 : Cond.methodLink RX8 128 yX8_harmWithPlanes ∈ GW := gw_t4 (List.mem_of_getElem? (i := 142) rfl) rfl
theorem st_X8_harmWithPlanes : Cond.static yX8_harmWithPlanes ∈ GW := gw_t4 (List.mem_of_getElem? (i := 143) rfl) rfl
theorem co_X8_harmWithPlanes : Cond.code yX8_harmWithPlanes cX8_harmWithPlanes 9 (some .long) ∈ GW := gw_t4 (List.mem_of_getElem? (i := 144) rfl) rfl
theorem ml_X8_138 : Cond.methodLink RX8 138 yJ9_min_f86c9 ∈ GW := gw_t4 (List.mem_of_getElem? (i := 145) rfl) rfl
theorem ml_L_131 : Cond.methodLink RL 131 yX9_plane ∈ GW := gw_t4 (List.mem_of_getElem? (i := 146) rfl) rfl
theorem im_X9_plane : Cond.instanceMethod yX9_plane ∈ GW := gw_t4 (List.mem_of_getElem? (i := 147) rfl) rfl
theorem se_X9_plane : Cond.selects RX9 yX9_plane yX9_plane ∈ GW := gw_t4 (List.mem_of_getElem? (i := 148) rfl) rfl
theorem co_X9_plane : Cond.code yX9_plane cX9_plane 9 (some .int) ∈ GW := gw_t4 (List.mem_of_getElem? (i := 149) rfl) rfl
theorem ml_L_135 : Cond.methodLink RL 135 yX9_edge ∈ GW := gw_t4 (List.mem_of_getElem? (i := 150) rfl) rfl
theorem im_X9_edge : Cond.instanceMethod yX9_edge ∈ GW := gw_t4 (List.mem_of_getElem? (i := 151) rfl) rfl
theorem se_X9_edge : Cond.selects RX9 yX9_edge yX9_edge ∈ GW := gw_t4 (List.mem_of_getElem? (i := 152) rfl) rfl
theorem co_X9_edge : Cond.code yX9_edge cX9_edge 4 (some .int) ∈ GW := gw_t4 (List.mem_of_getElem? (i := 153) rfl) rfl
theorem ml_L_139 : Cond.methodLink RL 139 yX9_path ∈ GW := gw_t4 (List.mem_of_getElem? (i := 154) rfl) rfl
theorem im_X9_path : Cond.instanceMethod yX9_path ∈ GW := gw_t4 (List.mem_of_getElem? (i := 155) rfl) rfl
theorem se_X9_path : Cond.selects RX9 yX9_path yX9_path ∈ GW := gw_t4 (List.mem_of_getElem? (i := 156) rfl) rfl
theorem co_X9_path : Cond.code yX9_path cX9_path 5 (some .long) ∈ GW := gw_t4 (List.mem_of_getElem? (i := 157) rfl) rfl
theorem ml_X9_260 : Cond.methodLink RX9 260 yX2_pathBetween ∈ GW := gw_t4 (List.mem_of_getElem? (i := 158) rfl) rfl
theorem ml_X9_264 : Cond.methodLink RX9 264 yX8_layPath ∈ GW := gw_t4 (List.mem_of_getElem? (i := 159) rfl) rfl
theorem im_X8_layPath : Cond.instanceMethod yX8_layPath ∈ GW := gw_t4 (List.mem_of_getElem? (i := 160) rfl) rfl
theorem se_X8_layPath : Cond.selects RX8 yX8_layPath yX8_layPath ∈ GW := gw_t4 (List.mem_of_getElem? (i := 161) rfl) rfl
theorem co_X8_layPath : Cond.code yX8_layPath cX8_layPath 9 none ∈ GW := gw_t4 (List.mem_of_getElem? (i := 162) rfl) rfl
theorem ml_X8_77 : Cond.methodLink RX8 77 yX2_eaten ∈ GW := gw_t4 (List.mem_of_getElem? (i := 163) rfl) rfl
theorem ml_X8_81 : Cond.methodLink RX8 81 yX2_fedDays ∈ GW := gw_t4 (List.mem_of_getElem? (i := 164) rfl) rfl
theorem im_X2_fedDays : Cond.instanceMethod yX2_fedDays ∈ GW := gw_t4 (List.mem_of_getElem? (i := 165) rfl) rfl
theorem se_X2_fedDays : Cond.selects RX2 yX2_fedDays yX2_fedDays ∈ GW := gw_t4 (List.mem_of_getElem? (i := 166) rfl) rfl
theorem co_X2_fedDays : Cond.code yX2_fedDays cX2_fedDays 6 (some .int) ∈ GW := gw_t4 (List.mem_of_getElem? (i := 167) rfl) rfl
theorem ml_X2_73 : Cond.methodLink RX2 73 yX2_pathBetween ∈ GW := gw_t4 (List.mem_of_getElem? (i := 168) rfl) rfl
theorem ml_X2_76 : Cond.methodLink RX2 76 yJ9_min_7cf53 ∈ GW := gw_t4 (List.mem_of_getElem? (i := 169) rfl) rfl
theorem ml_L_143 : Cond.methodLink RL 143 yX9_fed ∈ GW := gw_t4 (List.mem_of_getElem? (i := 170) rfl) rfl
theorem im_X9_fed : Cond.instanceMethod yX9_fed ∈ GW := gw_t4 (List.mem_of_getElem? (i := 171) rfl) rfl
theorem se_X9_fed : Cond.selects RX9 yX9_fed yX9_fed ∈ GW := gw_t4 (List.mem_of_getElem? (i := 172) rfl) rfl
theorem co_X9_fed : Cond.code yX9_fed cX9_fed 7 (some .int) ∈ GW := gw_t4 (List.mem_of_getElem? (i := 173) rfl) rfl
theorem ml_X9_267 : Cond.methodLink RX9 267 yX2_fedDays ∈ GW := gw_t4 (List.mem_of_getElem? (i := 174) rfl) rfl
theorem kl_X9_271 : Cond.constantLong RX9 271 (10000000000) ∈ GW := gw_t4 (List.mem_of_getElem? (i := 175) rfl) rfl
theorem ml_L_147 : Cond.methodLink RL 147 yX9_given ∈ GW := gw_t4 (List.mem_of_getElem? (i := 176) rfl) rfl
theorem im_X9_given : Cond.instanceMethod yX9_given ∈ GW := gw_t4 (List.mem_of_getElem? (i := 177) rfl) rfl
theorem se_X9_given : Cond.selects RX9 yX9_given yX9_given ∈ GW := gw_t4 (List.mem_of_getElem? (i := 178) rfl) rfl
theorem co_X9_given : Cond.code yX9_given cX9_given 6 (some .int) ∈ GW := gw_t4 (List.mem_of_getElem? (i := 179) rfl) rfl
theorem ml_X9_273 : Cond.methodLink RX9 273 yX9_shareState ∈ GW := gw_t4 (List.mem_of_getElem? (i := 180) rfl) rfl
theorem im_X9_shareState : Cond.instanceMethod yX9_shareState ∈ GW := gw_t4 (List.mem_of_getElem? (i := 182) rfl) rfl
theorem co_X9_shareState : Cond.code yX9_shareState cX9_shareState 6 (some .int) ∈ GW := gw_t4 (List.mem_of_getElem? (i := 183) rfl) rfl
theorem ml_X9_312 : Cond.methodLink RX9 312 yX9_isSlot ∈ GW := gw_t4 (List.mem_of_getElem? (i := 184) rfl) rfl
theorem st_X9_isSlot : Cond.static yX9_isSlot ∈ GW := gw_t4 (List.mem_of_getElem? (i := 185) rfl) rfl
theorem co_X9_isSlot : Cond.code yX9_isSlot cX9_isSlot 1 (some .boolean) ∈ GW := gw_t4 (List.mem_of_getElem? (i := 186) rfl) rfl
theorem ki_X9_384 : Cond.constant RX9 384 (99999) ∈ GW := gw_t4 (List.mem_of_getElem? (i := 187) rfl) rfl
theorem kl_X9_385 : Cond.constantLong RX9 385 (999) ∈ GW := gw_t4 (List.mem_of_getElem? (i := 188) rfl) rfl
theorem ml_X9_319 : Cond.methodLink RX9 319 yX6_within ∈ GW := gw_t4 (List.mem_of_getElem? (i := 189) rfl) rfl
theorem im_X6_within : Cond.instanceMethod yX6_within ∈ GW := gw_t4 (List.mem_of_getElem? (i := 190) rfl) rfl
theorem se_X6_within : Cond.selects RX6 yX6_within yX6_within ∈ GW := gw_t4 (List.mem_of_getElem? (i := 191) rfl) rfl
theorem co_X6_within : Cond.code yX6_within cX6_within 6 (some .boolean) ∈ GW := gw_t4 (List.mem_of_getElem? (i := 192) rfl) rfl
theorem ml_X9_387 : Cond.methodLink RX9 387 yX7_take ∈ GW := gw_t4 (List.mem_of_getElem? (i := 193) rfl) rfl
theorem im_X7_take : Cond.instanceMethod yX7_take ∈ GW := gw_t4 (List.mem_of_getElem? (i := 194) rfl) rfl
theorem se_X7_take : Cond.selects RX7 yX7_take yX7_take ∈ GW := gw_t4 (List.mem_of_getElem? (i := 195) rfl) rfl
theorem co_X7_take : Cond.code yX7_take cX7_take 3 none ∈ GW := gw_t4 (List.mem_of_getElem? (i := 196) rfl) rfl
theorem ml_X7_15 : Cond.methodLink RX7 15 yJ7_fill_53178 ∈ GW := gw_t4 (List.mem_of_getElem? (i := 197) rfl) rfl
theorem ml_X9_276 : Cond.methodLink RX9 276 yX7_part ∈ GW := gw_t4 (List.mem_of_getElem? (i := 198) rfl) rfl
theorem im_X7_part : Cond.instanceMethod yX7_part ∈ GW := gw_t4 (List.mem_of_getElem? (i := 199) rfl) rfl
theorem se_X7_part : Cond.selects RX7 yX7_part yX7_part ∈ GW := gw_t4 (List.mem_of_getElem? (i := 200) rfl) rfl
theorem co_X7_part : Cond.code yX7_part cX7_part 4 (some .int) ∈ GW := gw_t4 (List.mem_of_getElem? (i := 201) rfl) rfl
theorem ml_X7_21 : Cond.methodLink RX7 21 yX7_byParts ∈ GW := gw_t4 (List.mem_of_getElem? (i := 202) rfl) rfl
theorem im_X7_byParts : Cond.instanceMethod yX7_byParts ∈ GW := gw_t4 (List.mem_of_getElem? (i := 204) rfl) rfl
theorem co_X7_byParts : Cond.code yX7_byParts cX7_byParts 4 (some .int) ∈ GW := gw_t4 (List.mem_of_getElem? (i := 205) rfl) rfl
theorem ml_X7_38 : Cond.methodLink RX7 38 yX7_sumUpTo ∈ GW := gw_t4 (List.mem_of_getElem? (i := 206) rfl) rfl
theorem im_X7_sumUpTo : Cond.instanceMethod yX7_sumUpTo ∈ GW := gw_t4 (List.mem_of_getElem? (i := 208) rfl) rfl
theorem co_X7_sumUpTo : Cond.code yX7_sumUpTo cX7_sumUpTo 4 (some .int) ∈ GW := gw_t4 (List.mem_of_getElem? (i := 209) rfl) rfl
theorem ml_X7_25 : Cond.methodLink RX7 25 yX7_level ∈ GW := gw_t4 (List.mem_of_getElem? (i := 210) rfl) rfl
theorem im_X7_level : Cond.instanceMethod yX7_level ∈ GW := gw_t4 (List.mem_of_getElem? (i := 212) rfl) rfl
theorem co_X7_level : Cond.code yX7_level cX7_level 6 (some .int) ∈ GW := gw_t4 (List.mem_of_getElem? (i := 213) rfl) rfl
theorem ml_X7_29 : Cond.methodLink RX7 29 yJ9_min_7cf53 ∈ GW := gw_t4 (List.mem_of_getElem? (i := 214) rfl) rfl
theorem ml_L_152 : Cond.methodLink RL 152 yX9_asks ∈ GW := gw_t4 (List.mem_of_getElem? (i := 215) rfl) rfl
theorem im_X9_asks : Cond.instanceMethod yX9_asks ∈ GW := gw_t4 (List.mem_of_getElem? (i := 216) rfl) rfl
theorem se_X9_asks : Cond.selects RX9 yX9_asks yX9_asks ∈ GW := gw_t4 (List.mem_of_getElem? (i := 217) rfl) rfl
theorem co_X9_asks : Cond.code yX9_asks cX9_asks 7 (some .int) ∈ GW := gw_t4 (List.mem_of_getElem? (i := 218) rfl) rfl
theorem ml_X9_279 : Cond.methodLink RX9 279 yX9_bestAsked ∈ GW := gw_t4 (List.mem_of_getElem? (i := 219) rfl) rfl
theorem im_X9_bestAsked : Cond.instanceMethod yX9_bestAsked ∈ GW := gw_t4 (List.mem_of_getElem? (i := 221) rfl) rfl
theorem co_X9_bestAsked : Cond.code yX9_bestAsked cX9_bestAsked 11 (some .int) ∈ GW := gw_t4 (List.mem_of_getElem? (i := 222) rfl) rfl
theorem ml_X9_285 : Cond.methodLink RX9 285 yX9_lossIfAsked ∈ GW := gw_t4 (List.mem_of_getElem? (i := 223) rfl) rfl
theorem im_X9_lossIfAsked : Cond.instanceMethod yX9_lossIfAsked ∈ GW := gw_t4 (List.mem_of_getElem? (i := 225) rfl) rfl
theorem co_X9_lossIfAsked : Cond.code yX9_lossIfAsked cX9_lossIfAsked 6 (some .long) ∈ GW := gw_t4 (List.mem_of_getElem? (i := 226) rfl) rfl
theorem ml_X9_391 : Cond.methodLink RX9 391 yX7_partIfAsked ∈ GW := gw_t4 (List.mem_of_getElem? (i := 227) rfl) rfl
theorem im_X7_partIfAsked : Cond.instanceMethod yX7_partIfAsked ∈ GW := gw_t4 (List.mem_of_getElem? (i := 228) rfl) rfl
theorem se_X7_partIfAsked : Cond.selects RX7 yX7_partIfAsked yX7_partIfAsked ∈ GW := gw_t4 (List.mem_of_getElem? (i := 229) rfl) rfl
theorem co_X7_partIfAsked : Cond.code yX7_partIfAsked cX7_partIfAsked 7 (some .int) ∈ GW := gw_t4 (List.mem_of_getElem? (i := 230) rfl) rfl
theorem ml_X7_34 : Cond.methodLink RX7 34 yX7_part ∈ GW := gw_t4 (List.mem_of_getElem? (i := 231) rfl) rfl
theorem ml_X9_282 : Cond.methodLink RX9 282 yX8_lossWhole ∈ GW := gw_t4 (List.mem_of_getElem? (i := 232) rfl) rfl
theorem ml_L_156 : Cond.methodLink RL 156 yX9_pays ∈ GW := gw_t4 (List.mem_of_getElem? (i := 233) rfl) rfl
theorem im_X9_pays : Cond.instanceMethod yX9_pays ∈ GW := gw_t4 (List.mem_of_getElem? (i := 234) rfl) rfl
theorem se_X9_pays : Cond.selects RX9 yX9_pays yX9_pays ∈ GW := gw_t4 (List.mem_of_getElem? (i := 235) rfl) rfl
theorem co_X9_pays : Cond.code yX9_pays cX9_pays 9 (some .long) ∈ GW := gw_t4 (List.mem_of_getElem? (i := 236) rfl) rfl
theorem ml_L_161 : Cond.methodLink RL 161 yX9_burnt ∈ GW := gw_t4 (List.mem_of_getElem? (i := 237) rfl) rfl
theorem im_X9_burnt : Cond.instanceMethod yX9_burnt ∈ GW := gw_t4 (List.mem_of_getElem? (i := 238) rfl) rfl
theorem se_X9_burnt : Cond.selects RX9 yX9_burnt yX9_burnt ∈ GW := gw_t4 (List.mem_of_getElem? (i := 239) rfl) rfl
theorem co_X9_burnt : Cond.code yX9_burnt cX9_burnt 5 (some .long) ∈ GW := gw_t5 (List.mem_of_getElem? (i := 0) rfl) rfl
theorem ml_X9_289 : Cond.methodLink RX9 289 yX9_isHundredth ∈ GW := gw_t5 (List.mem_of_getElem? (i := 1) rfl) rfl
theorem st_X9_isHundredth : Cond.static yX9_isHundredth ∈ GW := gw_t5 (List.mem_of_getElem? (i := 2) rfl) rfl
theorem co_X9_isHundredth : Cond.code yX9_isHundredth cX9_isHundredth 1 (some .boolean) ∈ GW := gw_t5 (List.mem_of_getElem? (i := 3) rfl) rfl
theorem ml_X9_292 : Cond.methodLink RX9 292 yX9_costOfHeld ∈ GW := gw_t5 (List.mem_of_getElem? (i := 4) rfl) rfl
theorem im_X9_costOfHeld : Cond.instanceMethod yX9_costOfHeld ∈ GW := gw_t5 (List.mem_of_getElem? (i := 6) rfl) rfl
theorem co_X9_costOfHeld : Cond.code yX9_costOfHeld cX9_costOfHeld 4 (some .long) ∈ GW := gw_t5 (List.mem_of_getElem? (i := 7) rfl) rfl
theorem kl_X9_296 : Cond.constantLong RX9 296 (100) ∈ GW := gw_t5 (List.mem_of_getElem? (i := 8) rfl) rfl
theorem ml_L_165 : Cond.methodLink RL 165 yX9_spread ∈ GW := gw_t5 (List.mem_of_getElem? (i := 9) rfl) rfl
theorem im_X9_spread : Cond.instanceMethod yX9_spread ∈ GW := gw_t5 (List.mem_of_getElem? (i := 10) rfl) rfl
theorem se_X9_spread : Cond.selects RX9 yX9_spread yX9_spread ∈ GW := gw_t5 (List.mem_of_getElem? (i := 11) rfl) rfl
theorem co_X9_spread : Cond.code yX9_spread cX9_spread 5 (some .long) ∈ GW := gw_t5 (List.mem_of_getElem? (i := 12) rfl) rfl
theorem ml_X9_298 : Cond.methodLink RX9 298 yX9_costOfTwoStores ∈ GW := gw_t5 (List.mem_of_getElem? (i := 13) rfl) rfl
theorem im_X9_costOfTwoStores : Cond.instanceMethod yX9_costOfTwoStores ∈ GW := gw_t5 (List.mem_of_getElem? (i := 15) rfl) rfl
theorem co_X9_costOfTwoStores : Cond.code yX9_costOfTwoStores cX9_costOfTwoStores 7 (some .long) ∈ GW := gw_t5 (List.mem_of_getElem? (i := 16) rfl) rfl
theorem kl_X9_394 : Cond.constantLong RX9 394 (10000) ∈ GW := gw_t5 (List.mem_of_getElem? (i := 17) rfl) rfl
theorem ml_L_169 : Cond.methodLink RL 169 yX9_bear ∈ GW := gw_t5 (List.mem_of_getElem? (i := 18) rfl) rfl
theorem im_X9_bear : Cond.instanceMethod yX9_bear ∈ GW := gw_t5 (List.mem_of_getElem? (i := 19) rfl) rfl
theorem se_X9_bear : Cond.selects RX9 yX9_bear yX9_bear ∈ GW := gw_t5 (List.mem_of_getElem? (i := 20) rfl) rfl
theorem co_X9_bear : Cond.code yX9_bear cX9_bear 10 (some .int) ∈ GW := gw_t5 (List.mem_of_getElem? (i := 21) rfl) rfl
theorem ml_L_173 : Cond.methodLink RL 173 yX9_run ∈ GW := gw_t5 (List.mem_of_getElem? (i := 22) rfl) rfl
theorem im_X9_run : Cond.instanceMethod yX9_run ∈ GW := gw_t5 (List.mem_of_getElem? (i := 23) rfl) rfl
theorem se_X9_run : Cond.selects RX9 yX9_run yX9_run ∈ GW := gw_t5 (List.mem_of_getElem? (i := 24) rfl) rfl
theorem co_X9_run : Cond.code yX9_run cX9_run 3 (some .int) ∈ GW := gw_t5 (List.mem_of_getElem? (i := 25) rfl) rfl
theorem ml_X9_301 : Cond.methodLink RX9 301 yX9_isSeed ∈ GW := gw_t5 (List.mem_of_getElem? (i := 26) rfl) rfl
theorem st_X9_isSeed : Cond.static yX9_isSeed ∈ GW := gw_t5 (List.mem_of_getElem? (i := 27) rfl) rfl
theorem co_X9_isSeed : Cond.code yX9_isSeed cX9_isSeed 1 (some .boolean) ∈ GW := gw_t5 (List.mem_of_getElem? (i := 28) rfl) rfl
theorem ki_X9_383 : Cond.constant RX9 383 (2000000000) ∈ GW := gw_t5 (List.mem_of_getElem? (i := 29) rfl) rfl
theorem ml_X9_304 : Cond.methodLink RX9 304 yX0_drawYear ∈ GW := gw_t5 (List.mem_of_getElem? (i := 30) rfl) rfl
theorem im_X0_drawYear : Cond.instanceMethod yX0_drawYear ∈ GW := gw_t5 (List.mem_of_getElem? (i := 31) rfl) rfl
theorem se_X0_drawYear : Cond.selects RX0 yX0_drawYear yX0_drawYear ∈ GW := gw_t5 (List.mem_of_getElem? (i := 32) rfl) rfl
theorem co_X0_drawYear : Cond.code yX0_drawYear cX0_drawYear 7 none ∈ GW := gw_t5 (List.mem_of_getElem? (i := 33) rfl) rfl
theorem ml_X0_7 : Cond.methodLink RX0 7 yJ7_fill_53178 ∈ GW := gw_t5 (List.mem_of_getElem? (i := 34) rfl) rfl
theorem ml_X0_25 : Cond.methodLink RX0 25 yX0_draw ∈ GW := gw_t5 (List.mem_of_getElem? (i := 35) rfl) rfl
theorem im_X0_draw : Cond.instanceMethod yX0_draw ∈ GW := gw_t5 (List.mem_of_getElem? (i := 37) rfl) rfl
theorem co_X0_draw : Cond.code yX0_draw cX0_draw 1 (some .int) ∈ GW := gw_t5 (List.mem_of_getElem? (i := 38) rfl) rfl
theorem kl_X0_40 : Cond.constantLong RX0 40 (1103515245) ∈ GW := gw_t5 (List.mem_of_getElem? (i := 39) rfl) rfl
theorem kl_X0_42 : Cond.constantLong RX0 42 (12345) ∈ GW := gw_t5 (List.mem_of_getElem? (i := 40) rfl) rfl
theorem kl_X0_44 : Cond.constantLong RX0 44 (2147483648) ∈ GW := gw_t5 (List.mem_of_getElem? (i := 41) rfl) rfl
theorem kl_X0_46 : Cond.constantLong RX0 46 (65536) ∈ GW := gw_t5 (List.mem_of_getElem? (i := 42) rfl) rfl
theorem kl_X0_48 : Cond.constantLong RX0 48 (100) ∈ GW := gw_t5 (List.mem_of_getElem? (i := 43) rfl) rfl
theorem ml_X0_29 : Cond.methodLink RX0 29 yX2_chance ∈ GW := gw_t5 (List.mem_of_getElem? (i := 44) rfl) rfl
theorem ml_X9_308 : Cond.methodLink RX9 308 yX2_roadsShut ∈ GW := gw_t5 (List.mem_of_getElem? (i := 45) rfl) rfl
theorem im_X2_roadsShut : Cond.instanceMethod yX2_roadsShut ∈ GW := gw_t5 (List.mem_of_getElem? (i := 46) rfl) rfl
theorem se_X2_roadsShut : Cond.selects RX2 yX2_roadsShut yX2_roadsShut ∈ GW := gw_t5 (List.mem_of_getElem? (i := 47) rfl) rfl
theorem co_X2_roadsShut : Cond.code yX2_roadsShut cX2_roadsShut 4 (some .int) ∈ GW := gw_t5 (List.mem_of_getElem? (i := 48) rfl) rfl
theorem ml_L_177 : Cond.methodLink RL 177 yX9_told ∈ GW := gw_t5 (List.mem_of_getElem? (i := 49) rfl) rfl
theorem im_X9_told : Cond.instanceMethod yX9_told ∈ GW := gw_t5 (List.mem_of_getElem? (i := 50) rfl) rfl
theorem se_X9_told : Cond.selects RX9 yX9_told yX9_told ∈ GW := gw_t5 (List.mem_of_getElem? (i := 51) rfl) rfl
theorem co_X9_told : Cond.code yX9_told cX9_told 3 (some .int) ∈ GW := gw_t5 (List.mem_of_getElem? (i := 52) rfl) rfl
theorem ml_X9_323 : Cond.methodLink RX9 323 yX2_yearOf ∈ GW := gw_t5 (List.mem_of_getElem? (i := 53) rfl) rfl
theorem im_X2_yearOf : Cond.instanceMethod yX2_yearOf ∈ GW := gw_t5 (List.mem_of_getElem? (i := 54) rfl) rfl
theorem se_X2_yearOf : Cond.selects RX2 yX2_yearOf yX2_yearOf ∈ GW := gw_t5 (List.mem_of_getElem? (i := 55) rfl) rfl
theorem co_X2_yearOf : Cond.code yX2_yearOf cX2_yearOf 5 (some (.array .int)) ∈ GW := gw_t5 (List.mem_of_getElem? (i := 56) rfl) rfl
theorem ml_L_181 : Cond.methodLink RL 181 yX9_shut ∈ GW := gw_t5 (List.mem_of_getElem? (i := 57) rfl) rfl
theorem im_X9_shut : Cond.instanceMethod yX9_shut ∈ GW := gw_t5 (List.mem_of_getElem? (i := 58) rfl) rfl
theorem se_X9_shut : Cond.selects RX9 yX9_shut yX9_shut ∈ GW := gw_t5 (List.mem_of_getElem? (i := 59) rfl) rfl
theorem co_X9_shut : Cond.code yX9_shut cX9_shut 2 (some .int) ∈ GW := gw_t5 (List.mem_of_getElem? (i := 60) rfl) rfl
theorem ml_L_185 : Cond.methodLink RL 185 yX9_lacks ∈ GW := gw_t5 (List.mem_of_getElem? (i := 61) rfl) rfl
theorem im_X9_lacks : Cond.instanceMethod yX9_lacks ∈ GW := gw_t5 (List.mem_of_getElem? (i := 62) rfl) rfl
theorem se_X9_lacks : Cond.selects RX9 yX9_lacks yX9_lacks ∈ GW := gw_t5 (List.mem_of_getElem? (i := 63) rfl) rfl
theorem co_X9_lacks : Cond.code yX9_lacks cX9_lacks 7 (some .int) ∈ GW := gw_t5 (List.mem_of_getElem? (i := 64) rfl) rfl
theorem ml_X9_327 : Cond.methodLink RX9 327 yJ9_max_7cf53 ∈ GW := gw_t5 (List.mem_of_getElem? (i := 65) rfl) rfl
theorem ml_X9_330 : Cond.methodLink RX9 330 yX2_firstLacking ∈ GW := gw_t5 (List.mem_of_getElem? (i := 66) rfl) rfl
theorem im_X2_firstLacking : Cond.instanceMethod yX2_firstLacking ∈ GW := gw_t5 (List.mem_of_getElem? (i := 67) rfl) rfl
theorem se_X2_firstLacking : Cond.selects RX2 yX2_firstLacking yX2_firstLacking ∈ GW := gw_t5 (List.mem_of_getElem? (i := 68) rfl) rfl
theorem co_X2_firstLacking : Cond.code yX2_firstLacking cX2_firstLacking 6 (some .int) ∈ GW := gw_t5 (List.mem_of_getElem? (i := 69) rfl) rfl
theorem ml_X2_81 : Cond.methodLink RX2 81 yX2_wanted ∈ GW := gw_t5 (List.mem_of_getElem? (i := 70) rfl) rfl
theorem ml_L_189 : Cond.methodLink RL 189 yX9_judge ∈ GW := gw_t5 (List.mem_of_getElem? (i := 71) rfl) rfl
theorem im_X9_judge : Cond.instanceMethod yX9_judge ∈ GW := gw_t5 (List.mem_of_getElem? (i := 72) rfl) rfl
theorem se_X9_judge : Cond.selects RX9 yX9_judge yX9_judge ∈ GW := gw_t5 (List.mem_of_getElem? (i := 73) rfl) rfl
theorem co_X9_judge : Cond.code yX9_judge cX9_judge 4 (some .int) ∈ GW := gw_t5 (List.mem_of_getElem? (i := 74) rfl) rfl
theorem ml_X9_333 : Cond.methodLink RX9 333 yX2_firstWrong ∈ GW := gw_t5 (List.mem_of_getElem? (i := 75) rfl) rfl
theorem im_X2_firstWrong : Cond.instanceMethod yX2_firstWrong ∈ GW := gw_t5 (List.mem_of_getElem? (i := 76) rfl) rfl
theorem se_X2_firstWrong : Cond.selects RX2 yX2_firstWrong yX2_firstWrong ∈ GW := gw_t5 (List.mem_of_getElem? (i := 77) rfl) rfl
theorem co_X2_firstWrong : Cond.code yX2_firstWrong cX2_firstWrong 5 (some .int) ∈ GW := gw_t5 (List.mem_of_getElem? (i := 78) rfl) rfl
theorem ml_L_193 : Cond.methodLink RL 193 yX9_paid ∈ GW := gw_t5 (List.mem_of_getElem? (i := 79) rfl) rfl
theorem im_X9_paid : Cond.instanceMethod yX9_paid ∈ GW := gw_t5 (List.mem_of_getElem? (i := 80) rfl) rfl
theorem se_X9_paid : Cond.selects RX9 yX9_paid yX9_paid ∈ GW := gw_t5 (List.mem_of_getElem? (i := 81) rfl) rfl
theorem co_X9_paid : Cond.code yX9_paid cX9_paid 15 (some .long) ∈ GW := gw_t5 (List.mem_of_getElem? (i := 82) rfl) rfl
theorem ml_X9_337 : Cond.methodLink RX9 337 yX6_total ∈ GW := gw_t5 (List.mem_of_getElem? (i := 83) rfl) rfl
theorem im_X6_total : Cond.instanceMethod yX6_total ∈ GW := gw_t5 (List.mem_of_getElem? (i := 84) rfl) rfl
theorem se_X6_total : Cond.selects RX6 yX6_total yX6_total ∈ GW := gw_t5 (List.mem_of_getElem? (i := 85) rfl) rfl
theorem co_X6_total : Cond.code yX6_total cX6_total 4 (some .long) ∈ GW := gw_t5 (List.mem_of_getElem? (i := 86) rfl) rfl
theorem ml_X9_344 : Cond.methodLink RX9 344 yJ9_max_f86c9 ∈ GW := gw_t5 (List.mem_of_getElem? (i := 87) rfl) rfl
theorem st_J9_max_f86c9 : Cond.static yJ9_max_f86c9 ∈ GW := gw_t5 (List.mem_of_getElem? (i := 88) rfl) rfl
theorem co_J9_max_f86c9 : Cond.code yJ9_max_f86c9 cJ9_max_f86c9 4 (some .long) ∈ GW := gw_t5 (List.mem_of_getElem? (i := 89) rfl) rfl
theorem ml_L_197 : Cond.methodLink RL 197 yX9_years ∈ GW := gw_t5 (List.mem_of_getElem? (i := 90) rfl) rfl
theorem im_X9_years : Cond.instanceMethod yX9_years ∈ GW := gw_t5 (List.mem_of_getElem? (i := 91) rfl) rfl
theorem se_X9_years : Cond.selects RX9 yX9_years yX9_years ∈ GW := gw_t5 (List.mem_of_getElem? (i := 92) rfl) rfl
theorem co_X9_years : Cond.code yX9_years cX9_years 11 (some .int) ∈ GW := gw_t5 (List.mem_of_getElem? (i := 93) rfl) rfl
theorem ml_L_202 : Cond.methodLink RL 202 yX9_count ∈ GW := gw_t5 (List.mem_of_getElem? (i := 94) rfl) rfl
theorem im_X9_count : Cond.instanceMethod yX9_count ∈ GW := gw_t5 (List.mem_of_getElem? (i := 95) rfl) rfl
theorem se_X9_count : Cond.selects RX9 yX9_count yX9_count ∈ GW := gw_t5 (List.mem_of_getElem? (i := 96) rfl) rfl
theorem co_X9_count : Cond.code yX9_count cX9_count 2 (some .int) ∈ GW := gw_t5 (List.mem_of_getElem? (i := 97) rfl) rfl
theorem ml_X9_355 : Cond.methodLink RX9 355 yX9_slotsInUse ∈ GW := gw_t5 (List.mem_of_getElem? (i := 98) rfl) rfl
theorem im_X9_slotsInUse : Cond.instanceMethod yX9_slotsInUse ∈ GW := gw_t5 (List.mem_of_getElem? (i := 100) rfl) rfl
theorem co_X9_slotsInUse : Cond.code yX9_slotsInUse cX9_slotsInUse 3 (some .int) ∈ GW := gw_t5 (List.mem_of_getElem? (i := 101) rfl) rfl
theorem ml_L_206 : Cond.methodLink RL 206 yX9_keep ∈ GW := gw_t5 (List.mem_of_getElem? (i := 102) rfl) rfl
theorem im_X9_keep : Cond.instanceMethod yX9_keep ∈ GW := gw_t5 (List.mem_of_getElem? (i := 103) rfl) rfl
theorem se_X9_keep : Cond.selects RX9 yX9_keep yX9_keep ∈ GW := gw_t5 (List.mem_of_getElem? (i := 104) rfl) rfl
theorem co_X9_keep : Cond.code yX9_keep cX9_keep 2 (some .int) ∈ GW := gw_t5 (List.mem_of_getElem? (i := 105) rfl) rfl
theorem ins_X1 : Cond.instantiable RX1 2 ∈ GW := gw_t5 (List.mem_of_getElem? (i := 106) rfl) rfl
theorem ml_X9_359 : Cond.methodLink RX9 359 yX1_init ∈ GW := gw_t5 (List.mem_of_getElem? (i := 107) rfl) rfl
theorem im_X1_init : Cond.instanceMethod yX1_init ∈ GW := gw_t5 (List.mem_of_getElem? (i := 108) rfl) rfl
theorem co_X1_init : Cond.code yX1_init cX1_init 3 none ∈ GW := gw_t5 (List.mem_of_getElem? (i := 109) rfl) rfl
theorem ml_X1_1 : Cond.methodLink RX1 1 ⟨"java/lang/Object", "<init>", "()V"⟩ ∈ GW := gw_t5 (List.mem_of_getElem? (i := 110) rfl) rfl
theorem fl_X1_7 : Cond.fieldLink RX1 7 "RoadShut$Image" "land" "LRoadShut$Land;" ∈ GW := gw_t5 (List.mem_of_getElem? (i := 111) rfl) rfl
theorem fl_X9_362 : Cond.fieldLink RX9 362 "RoadShut$Image" "land" "LRoadShut$Land;" ∈ GW := gw_t5 (List.mem_of_getElem? (i := 112) rfl) rfl
theorem fl_X1_13 : Cond.fieldLink RX1 13 "RoadShut$Image" "year" "[I" ∈ GW := gw_t5 (List.mem_of_getElem? (i := 113) rfl) rfl
theorem fl_X9_363 : Cond.fieldLink RX9 363 "RoadShut$Image" "year" "[I" ∈ GW := gw_t5 (List.mem_of_getElem? (i := 114) rfl) rfl
theorem ly_X1_land : Cond.laysFinal RX1 "RoadShut$Image" "land" "LRoadShut$Land;" ∈ GW := gw_t5 (List.mem_of_getElem? (i := 115) rfl) rfl
theorem ly_X1_year : Cond.laysFinal RX1 "RoadShut$Image" "year" "[I" ∈ GW := gw_t5 (List.mem_of_getElem? (i := 117) rfl) rfl
theorem ml_L_210 : Cond.methodLink RL 210 yX9_back ∈ GW := gw_t5 (List.mem_of_getElem? (i := 120) rfl) rfl
theorem im_X9_back : Cond.instanceMethod yX9_back ∈ GW := gw_t5 (List.mem_of_getElem? (i := 121) rfl) rfl
theorem se_X9_back : Cond.selects RX9 yX9_back yX9_back ∈ GW := gw_t5 (List.mem_of_getElem? (i := 122) rfl) rfl
theorem co_X9_back : Cond.code yX9_back cX9_back 3 (some .int) ∈ GW := gw_t5 (List.mem_of_getElem? (i := 123) rfl) rfl
theorem ml_L_214 : Cond.methodLink RL 214 yX9_row ∈ GW := gw_t5 (List.mem_of_getElem? (i := 124) rfl) rfl
theorem im_X9_row : Cond.instanceMethod yX9_row ∈ GW := gw_t5 (List.mem_of_getElem? (i := 125) rfl) rfl
theorem se_X9_row : Cond.selects RX9 yX9_row yX9_row ∈ GW := gw_t5 (List.mem_of_getElem? (i := 126) rfl) rfl
theorem co_X9_row : Cond.code yX9_row cX9_row 4 (some .int) ∈ GW := gw_t5 (List.mem_of_getElem? (i := 127) rfl) rfl
theorem ins_X6 : Cond.instantiable RX6 2 ∈ GW := gw_t5 (List.mem_of_getElem? (i := 128) rfl) rfl
theorem ml_X9_364 : Cond.methodLink RX9 364 yX6_init ∈ GW := gw_t5 (List.mem_of_getElem? (i := 129) rfl) rfl
theorem im_X6_init : Cond.instanceMethod yX6_init ∈ GW := gw_t5 (List.mem_of_getElem? (i := 130) rfl) rfl
theorem co_X6_init : Cond.code yX6_init cX6_init 3 none ∈ GW := gw_t5 (List.mem_of_getElem? (i := 131) rfl) rfl
theorem ml_X6_1 : Cond.methodLink RX6 1 ⟨"java/lang/Object", "<init>", "()V"⟩ ∈ GW := gw_t5 (List.mem_of_getElem? (i := 132) rfl) rfl
theorem ml_X6_13 : Cond.methodLink RX6 13 yJ9_max_7cf53 ∈ GW := gw_t5 (List.mem_of_getElem? (i := 133) rfl) rfl
theorem fl_X6_7 : Cond.fieldLink RX6 7 "RoadShut$Row" "width" "I" ∈ GW := gw_t5 (List.mem_of_getElem? (i := 134) rfl) rfl
theorem fl_X9_371 : Cond.fieldLink RX9 371 "RoadShut$Row" "width" "I" ∈ GW := gw_t5 (List.mem_of_getElem? (i := 135) rfl) rfl
theorem fl_X6_19 : Cond.fieldLink RX6 19 "RoadShut$Row" "numbers" "[J" ∈ GW := gw_t5 (List.mem_of_getElem? (i := 136) rfl) rfl
theorem fl_X9_315 : Cond.fieldLink RX9 315 "RoadShut$Row" "numbers" "[J" ∈ GW := gw_t5 (List.mem_of_getElem? (i := 137) rfl) rfl
theorem ly_X6_width : Cond.laysFinal RX6 "RoadShut$Row" "width" "I" ∈ GW := gw_t5 (List.mem_of_getElem? (i := 138) rfl) rfl
theorem ly_X6_numbers : Cond.laysFinal RX6 "RoadShut$Row" "numbers" "[J" ∈ GW := gw_t5 (List.mem_of_getElem? (i := 140) rfl) rfl
theorem ml_L_220 : Cond.methodLink RL 220 yX9_write ∈ GW := gw_t5 (List.mem_of_getElem? (i := 143) rfl) rfl
theorem im_X9_write : Cond.instanceMethod yX9_write ∈ GW := gw_t5 (List.mem_of_getElem? (i := 144) rfl) rfl
theorem se_X9_write : Cond.selects RX9 yX9_write yX9_write ∈ GW := gw_t5 (List.mem_of_getElem? (i := 145) rfl) rfl
theorem co_X9_write : Cond.code yX9_write cX9_write 6 (some .int) ∈ GW := gw_t5 (List.mem_of_getElem? (i := 146) rfl) rfl
theorem ml_X9_367 : Cond.methodLink RX9 367 yX6_narrowed ∈ GW := gw_t5 (List.mem_of_getElem? (i := 147) rfl) rfl
theorem im_X6_narrowed : Cond.instanceMethod yX6_narrowed ∈ GW := gw_t5 (List.mem_of_getElem? (i := 148) rfl) rfl
theorem se_X6_narrowed : Cond.selects RX6 yX6_narrowed yX6_narrowed ∈ GW := gw_t5 (List.mem_of_getElem? (i := 149) rfl) rfl
theorem co_X6_narrowed : Cond.code yX6_narrowed cX6_narrowed 3 (some .long) ∈ GW := gw_t5 (List.mem_of_getElem? (i := 150) rfl) rfl
theorem ml_L_225 : Cond.methodLink RL 225 yX9_paste ∈ GW := gw_t5 (List.mem_of_getElem? (i := 151) rfl) rfl
theorem im_X9_paste : Cond.instanceMethod yX9_paste ∈ GW := gw_t5 (List.mem_of_getElem? (i := 152) rfl) rfl
theorem se_X9_paste : Cond.selects RX9 yX9_paste yX9_paste ∈ GW := gw_t5 (List.mem_of_getElem? (i := 153) rfl) rfl
theorem co_X9_paste : Cond.code yX9_paste cX9_paste 8 (some .int) ∈ GW := gw_t5 (List.mem_of_getElem? (i := 154) rfl) rfl
theorem ml_X9_374 : Cond.methodLink RX9 374 yX6_has ∈ GW := gw_t5 (List.mem_of_getElem? (i := 155) rfl) rfl
theorem im_X6_has : Cond.instanceMethod yX6_has ∈ GW := gw_t5 (List.mem_of_getElem? (i := 156) rfl) rfl
theorem se_X6_has : Cond.selects RX6 yX6_has yX6_has ∈ GW := gw_t5 (List.mem_of_getElem? (i := 157) rfl) rfl
theorem co_X6_has : Cond.code yX6_has cX6_has 3 (some .boolean) ∈ GW := gw_t5 (List.mem_of_getElem? (i := 158) rfl) rfl
theorem ml_X9_377 : Cond.methodLink RX9 377 ⟨"java/lang/System", "arraycopy", "(Ljava/lang/Object;ILjava/lang/Object;II)V"⟩ ∈ GW := gw_t5 (List.mem_of_getElem? (i := 159) rfl) rfl
theorem cl_L_10 : Cond.classLink RL 10 RX10 ∈ GW := gw_t5 (List.mem_of_getElem? (i := 160) rfl) rfl
theorem ins_X10 : Cond.instantiable RX10 43 ∈ GW := gw_t5 (List.mem_of_getElem? (i := 161) rfl) rfl
theorem ml_L_12 : Cond.methodLink RL 12 yX10_init ∈ GW := gw_t5 (List.mem_of_getElem? (i := 162) rfl) rfl
theorem im_X10_init : Cond.instanceMethod yX10_init ∈ GW := gw_t5 (List.mem_of_getElem? (i := 163) rfl) rfl
theorem co_X10_init : Cond.code yX10_init cX10_init 2 none ∈ GW := gw_t5 (List.mem_of_getElem? (i := 164) rfl) rfl
theorem ml_X10_1 : Cond.methodLink RX10 1 ⟨"java/lang/Object", "<init>", "()V"⟩ ∈ GW := gw_t5 (List.mem_of_getElem? (i := 165) rfl) rfl
theorem ki_X10_98 : Cond.constant RX10 98 (75000) ∈ GW := gw_t5 (List.mem_of_getElem? (i := 166) rfl) rfl
theorem fl_X10_111 : Cond.fieldLink RX10 111 "RoadShutModel" "thrown" "I" ∈ GW := gw_t5 (List.mem_of_getElem? (i := 167) rfl) rfl
theorem fl_X10_7 : Cond.fieldLink RX10 7 "RoadShutModel" "width" "[I" ∈ GW := gw_t5 (List.mem_of_getElem? (i := 168) rfl) rfl
theorem fl_X10_13 : Cond.fieldLink RX10 13 "RoadShutModel" "many" "[I" ∈ GW := gw_t5 (List.mem_of_getElem? (i := 169) rfl) rfl
theorem fl_X10_16 : Cond.fieldLink RX10 16 "RoadShutModel" "cells" "[J" ∈ GW := gw_t5 (List.mem_of_getElem? (i := 170) rfl) rfl
theorem fl_X10_20 : Cond.fieldLink RX10 20 "RoadShutModel" "moved" "[J" ∈ GW := gw_t5 (List.mem_of_getElem? (i := 171) rfl) rfl
theorem fl_X10_23 : Cond.fieldLink RX10 23 "RoadShutModel" "tape" "[B" ∈ GW := gw_t5 (List.mem_of_getElem? (i := 172) rfl) rfl
theorem fl_X10_128 : Cond.fieldLink RX10 128 "RoadShutModel" "taped" "I" ∈ GW := gw_t5 (List.mem_of_getElem? (i := 173) rfl) rfl
theorem fl_X10_135 : Cond.fieldLink RX10 135 "RoadShutModel" "at" "I" ∈ GW := gw_t5 (List.mem_of_getElem? (i := 174) rfl) rfl
theorem fl_X10_152 : Cond.fieldLink RX10 152 "RoadShutModel" "token" "I" ∈ GW := gw_t5 (List.mem_of_getElem? (i := 175) rfl) rfl
theorem fl_X10_142 : Cond.fieldLink RX10 142 "RoadShutModel" "place" "I" ∈ GW := gw_t5 (List.mem_of_getElem? (i := 176) rfl) rfl
theorem fl_X10_145 : Cond.fieldLink RX10 145 "RoadShutModel" "value" "I" ∈ GW := gw_t5 (List.mem_of_getElem? (i := 177) rfl) rfl
theorem fl_X10_148 : Cond.fieldLink RX10 148 "RoadShutModel" "word" "J" ∈ GW := gw_t5 (List.mem_of_getElem? (i := 178) rfl) rfl
theorem fl_X10_163 : Cond.fieldLink RX10 163 "RoadShutModel" "bad" "I" ∈ GW := gw_t5 (List.mem_of_getElem? (i := 179) rfl) rfl
theorem fl_X10_166 : Cond.fieldLink RX10 166 "RoadShutModel" "badPlace" "I" ∈ GW := gw_t5 (List.mem_of_getElem? (i := 180) rfl) rfl
theorem fl_X10_190 : Cond.fieldLink RX10 190 "RoadShutModel" "fault" "I" ∈ GW := gw_t5 (List.mem_of_getElem? (i := 181) rfl) rfl
theorem fl_X10_27 : Cond.fieldLink RX10 27 "RoadShutModel" "faultPlace" "I" ∈ GW := gw_t5 (List.mem_of_getElem? (i := 182) rfl) rfl
theorem fl_X10_31 : Cond.fieldLink RX10 31 "RoadShutModel" "lines" "[I" ∈ GW := gw_t5 (List.mem_of_getElem? (i := 183) rfl) rfl
theorem fl_X10_34 : Cond.fieldLink RX10 34 "RoadShutModel" "winter" "[I" ∈ GW := gw_t5 (List.mem_of_getElem? (i := 184) rfl) rfl
theorem fl_X10_37 : Cond.fieldLink RX10 37 "RoadShutModel" "things" "[I" ∈ GW := gw_t5 (List.mem_of_getElem? (i := 185) rfl) rfl
theorem fl_X10_40 : Cond.fieldLink RX10 40 "RoadShutModel" "thing" "[I" ∈ GW := gw_t5 (List.mem_of_getElem? (i := 186) rfl) rfl
theorem fl_X10_43 : Cond.fieldLink RX10 43 "RoadShutModel" "valleys" "[I" ∈ GW := gw_t5 (List.mem_of_getElem? (i := 187) rfl) rfl
theorem fl_X10_46 : Cond.fieldLink RX10 46 "RoadShutModel" "valley" "[I" ∈ GW := gw_t5 (List.mem_of_getElem? (i := 188) rfl) rfl
theorem fl_X10_49 : Cond.fieldLink RX10 49 "RoadShutModel" "paths" "[I" ∈ GW := gw_t5 (List.mem_of_getElem? (i := 189) rfl) rfl
theorem fl_X10_52 : Cond.fieldLink RX10 52 "RoadShutModel" "path" "[I" ∈ GW := gw_t5 (List.mem_of_getElem? (i := 190) rfl) rfl
theorem fl_X10_55 : Cond.fieldLink RX10 55 "RoadShutModel" "set" "[I" ∈ GW := gw_t5 (List.mem_of_getElem? (i := 191) rfl) rfl
theorem fl_X10_58 : Cond.fieldLink RX10 58 "RoadShutModel" "once" "[Z" ∈ GW := gw_t5 (List.mem_of_getElem? (i := 192) rfl) rfl
theorem fl_X10_62 : Cond.fieldLink RX10 62 "RoadShutModel" "hasYear" "[I" ∈ GW := gw_t5 (List.mem_of_getElem? (i := 193) rfl) rfl
theorem fl_X10_65 : Cond.fieldLink RX10 65 "RoadShutModel" "year" "[I" ∈ GW := gw_t5 (List.mem_of_getElem? (i := 194) rfl) rfl
theorem fl_X10_68 : Cond.fieldLink RX10 68 "RoadShutModel" "isKept" "[Z" ∈ GW := gw_t5 (List.mem_of_getElem? (i := 195) rfl) rfl
theorem fl_X10_71 : Cond.fieldLink RX10 71 "RoadShutModel" "shutOn" "[J" ∈ GW := gw_t5 (List.mem_of_getElem? (i := 196) rfl) rfl
theorem fl_X10_74 : Cond.fieldLink RX10 74 "RoadShutModel" "twoSnow" "[J" ∈ GW := gw_t5 (List.mem_of_getElem? (i := 197) rfl) rfl
theorem fl_X10_77 : Cond.fieldLink RX10 77 "RoadShutModel" "twoClear" "[J" ∈ GW := gw_t5 (List.mem_of_getElem? (i := 198) rfl) rfl
theorem fl_X10_80 : Cond.fieldLink RX10 80 "RoadShutModel" "snowing" "[J" ∈ GW := gw_t5 (List.mem_of_getElem? (i := 199) rfl) rfl
theorem fl_X10_83 : Cond.fieldLink RX10 83 "RoadShutModel" "setSnow" "[J" ∈ GW := gw_t5 (List.mem_of_getElem? (i := 200) rfl) rfl
theorem fl_X10_86 : Cond.fieldLink RX10 86 "RoadShutModel" "setClear" "[J" ∈ GW := gw_t5 (List.mem_of_getElem? (i := 201) rfl) rfl
theorem fl_X10_89 : Cond.fieldLink RX10 89 "RoadShutModel" "split" "[J" ∈ GW := gw_t5 (List.mem_of_getElem? (i := 202) rfl) rfl
theorem fl_X10_92 : Cond.fieldLink RX10 92 "RoadShutModel" "costs" "[J" ∈ GW := gw_t5 (List.mem_of_getElem? (i := 203) rfl) rfl
theorem fl_X10_95 : Cond.fieldLink RX10 95 "RoadShutModel" "leastFrom" "[J" ∈ GW := gw_t5 (List.mem_of_getElem? (i := 204) rfl) rfl
theorem fl_X10_99 : Cond.fieldLink RX10 99 "RoadShutModel" "toCome" "[J" ∈ GW := gw_t5 (List.mem_of_getElem? (i := 205) rfl) rfl
theorem fl_X10_102 : Cond.fieldLink RX10 102 "RoadShutModel" "byWants" "[J" ∈ GW := gw_t5 (List.mem_of_getElem? (i := 206) rfl) rfl
theorem fl_X10_105 : Cond.fieldLink RX10 105 "RoadShutModel" "asked" "[I" ∈ GW := gw_t5 (List.mem_of_getElem? (i := 207) rfl) rfl
theorem fl_X10_108 : Cond.fieldLink RX10 108 "RoadShutModel" "drawnYear" "[I" ∈ GW := gw_t5 (List.mem_of_getElem? (i := 208) rfl) rfl
theorem fl_X10_478 : Cond.fieldLink RX10 478 "RoadShutModel" "x" "J" ∈ GW := gw_t5 (List.mem_of_getElem? (i := 209) rfl) rfl
theorem ly_X10_thrown : Cond.lays RX10 "RoadShutModel" "thrown" "I" ∈ GW := gw_t5 (List.mem_of_getElem? (i := 210) rfl) rfl
theorem ly_X10_width : Cond.laysFinal RX10 "RoadShutModel" "width" "[I" ∈ GW := gw_t5 (List.mem_of_getElem? (i := 212) rfl) rfl
theorem ly_X10_many : Cond.laysFinal RX10 "RoadShutModel" "many" "[I" ∈ GW := gw_t5 (List.mem_of_getElem? (i := 214) rfl) rfl
theorem ly_X10_cells : Cond.laysFinal RX10 "RoadShutModel" "cells" "[J" ∈ GW := gw_t5 (List.mem_of_getElem? (i := 216) rfl) rfl
theorem ly_X10_moved : Cond.laysFinal RX10 "RoadShutModel" "moved" "[J" ∈ GW := gw_t5 (List.mem_of_getElem? (i := 218) rfl) rfl
theorem ly_X10_tape : Cond.laysFinal RX10 "RoadShutModel" "tape" "[B" ∈ GW := gw_t5 (List.mem_of_getElem? (i := 220) rfl) rfl
theorem ly_X10_taped : Cond.lays RX10 "RoadShutModel" "taped" "I" ∈ GW := gw_t5 (List.mem_of_getElem? (i := 222) rfl) rfl
theorem ly_X10_at : Cond.lays RX10 "RoadShutModel" "at" "I" ∈ GW := gw_t5 (List.mem_of_getElem? (i := 224) rfl) rfl
theorem ly_X10_token : Cond.lays RX10 "RoadShutModel" "token" "I" ∈ GW := gw_t5 (List.mem_of_getElem? (i := 226) rfl) rfl
theorem ly_X10_place : Cond.lays RX10 "RoadShutModel" "place" "I" ∈ GW := gw_t5 (List.mem_of_getElem? (i := 228) rfl) rfl
theorem ly_X10_value : Cond.lays RX10 "RoadShutModel" "value" "I" ∈ GW := gw_t5 (List.mem_of_getElem? (i := 230) rfl) rfl
theorem ly_X10_word : Cond.lays RX10 "RoadShutModel" "word" "J" ∈ GW := gw_t5 (List.mem_of_getElem? (i := 232) rfl) rfl
theorem ly_X10_bad : Cond.lays RX10 "RoadShutModel" "bad" "I" ∈ GW := gw_t5 (List.mem_of_getElem? (i := 234) rfl) rfl
theorem ly_X10_badPlace : Cond.lays RX10 "RoadShutModel" "badPlace" "I" ∈ GW := gw_t5 (List.mem_of_getElem? (i := 236) rfl) rfl
theorem ly_X10_fault : Cond.lays RX10 "RoadShutModel" "fault" "I" ∈ GW := gw_t5 (List.mem_of_getElem? (i := 238) rfl) rfl
theorem ly_X10_faultPlace : Cond.lays RX10 "RoadShutModel" "faultPlace" "I" ∈ GW := gw_t6 (List.mem_of_getElem? (i := 0) rfl) rfl
theorem ly_X10_lines : Cond.laysFinal RX10 "RoadShutModel" "lines" "[I" ∈ GW := gw_t6 (List.mem_of_getElem? (i := 2) rfl) rfl
theorem ly_X10_winter : Cond.laysFinal RX10 "RoadShutModel" "winter" "[I" ∈ GW := gw_t6 (List.mem_of_getElem? (i := 4) rfl) rfl
theorem ly_X10_things : Cond.laysFinal RX10 "RoadShutModel" "things" "[I" ∈ GW := gw_t6 (List.mem_of_getElem? (i := 6) rfl) rfl
theorem ly_X10_thing : Cond.laysFinal RX10 "RoadShutModel" "thing" "[I" ∈ GW := gw_t6 (List.mem_of_getElem? (i := 8) rfl) rfl
theorem ly_X10_valleys : Cond.laysFinal RX10 "RoadShutModel" "valleys" "[I" ∈ GW := gw_t6 (List.mem_of_getElem? (i := 10) rfl) rfl
theorem ly_X10_valley : Cond.laysFinal RX10 "RoadShutModel" "valley" "[I" ∈ GW := gw_t6 (List.mem_of_getElem? (i := 12) rfl) rfl
theorem ly_X10_paths : Cond.laysFinal RX10 "RoadShutModel" "paths" "[I" ∈ GW := gw_t6 (List.mem_of_getElem? (i := 14) rfl) rfl
theorem ly_X10_path : Cond.laysFinal RX10 "RoadShutModel" "path" "[I" ∈ GW := gw_t6 (List.mem_of_getElem? (i := 16) rfl) rfl
theorem ly_X10_set : Cond.laysFinal RX10 "RoadShutModel" "set" "[I" ∈ GW := gw_t6 (List.mem_of_getElem? (i := 18) rfl) rfl
theorem ly_X10_once : Cond.laysFinal RX10 "RoadShutModel" "once" "[Z" ∈ GW := gw_t6 (List.mem_of_getElem? (i := 20) rfl) rfl
theorem ly_X10_hasYear : Cond.laysFinal RX10 "RoadShutModel" "hasYear" "[I" ∈ GW := gw_t6 (List.mem_of_getElem? (i := 22) rfl) rfl
theorem ly_X10_year : Cond.laysFinal RX10 "RoadShutModel" "year" "[I" ∈ GW := gw_t6 (List.mem_of_getElem? (i := 24) rfl) rfl
theorem ly_X10_isKept : Cond.laysFinal RX10 "RoadShutModel" "isKept" "[Z" ∈ GW := gw_t6 (List.mem_of_getElem? (i := 26) rfl) rfl
theorem ly_X10_shutOn : Cond.laysFinal RX10 "RoadShutModel" "shutOn" "[J" ∈ GW := gw_t6 (List.mem_of_getElem? (i := 28) rfl) rfl
theorem ly_X10_twoSnow : Cond.laysFinal RX10 "RoadShutModel" "twoSnow" "[J" ∈ GW := gw_t6 (List.mem_of_getElem? (i := 30) rfl) rfl
theorem ly_X10_twoClear : Cond.laysFinal RX10 "RoadShutModel" "twoClear" "[J" ∈ GW := gw_t6 (List.mem_of_getElem? (i := 32) rfl) rfl
theorem ly_X10_snowing : Cond.laysFinal RX10 "RoadShutModel" "snowing" "[J" ∈ GW := gw_t6 (List.mem_of_getElem? (i := 34) rfl) rfl
theorem ly_X10_setSnow : Cond.laysFinal RX10 "RoadShutModel" "setSnow" "[J" ∈ GW := gw_t6 (List.mem_of_getElem? (i := 36) rfl) rfl
theorem ly_X10_setClear : Cond.laysFinal RX10 "RoadShutModel" "setClear" "[J" ∈ GW := gw_t6 (List.mem_of_getElem? (i := 38) rfl) rfl
theorem ly_X10_split : Cond.laysFinal RX10 "RoadShutModel" "split" "[J" ∈ GW := gw_t6 (List.mem_of_getElem? (i := 40) rfl) rfl
theorem ly_X10_costs : Cond.laysFinal RX10 "RoadShutModel" "costs" "[J" ∈ GW := gw_t6 (List.mem_of_getElem? (i := 42) rfl) rfl
theorem ly_X10_leastFrom : Cond.laysFinal RX10 "RoadShutModel" "leastFrom" "[J" ∈ GW := gw_t6 (List.mem_of_getElem? (i := 44) rfl) rfl
theorem ly_X10_toCome : Cond.laysFinal RX10 "RoadShutModel" "toCome" "[J" ∈ GW := gw_t6 (List.mem_of_getElem? (i := 46) rfl) rfl
theorem ly_X10_byWants : Cond.laysFinal RX10 "RoadShutModel" "byWants" "[J" ∈ GW := gw_t6 (List.mem_of_getElem? (i := 48) rfl) rfl
theorem ly_X10_asked : Cond.laysFinal RX10 "RoadShutModel" "asked" "[I" ∈ GW := gw_t6 (List.mem_of_getElem? (i := 50) rfl) rfl
theorem ly_X10_drawnYear : Cond.laysFinal RX10 "RoadShutModel" "drawnYear" "[I" ∈ GW := gw_t6 (List.mem_of_getElem? (i := 52) rfl) rfl
theorem ly_X10_x : Cond.lays RX10 "RoadShutModel" "x" "J" ∈ GW := gw_t6 (List.mem_of_getElem? (i := 54) rfl) rfl
theorem ac_boolean : Cond.arrayClass .boolean ∈ GW := gw_t6 (List.mem_of_getElem? (i := 57) rfl) rfl
theorem ml_L_217 : Cond.methodLink RL 217 yX10_row ∈ GW := gw_t6 (List.mem_of_getElem? (i := 58) rfl) rfl
theorem im_X10_row : Cond.instanceMethod yX10_row ∈ GW := gw_t6 (List.mem_of_getElem? (i := 59) rfl) rfl
theorem se_X10_row : Cond.selects RX10 yX10_row yX10_row ∈ GW := gw_t6 (List.mem_of_getElem? (i := 60) rfl) rfl
theorem co_X10_row : Cond.code yX10_row cX10_row 5 (some .int) ∈ GW := gw_t6 (List.mem_of_getElem? (i := 61) rfl) rfl
theorem ml_X10_120 : Cond.methodLink RX10 120 yX10_isSlot ∈ GW := gw_t6 (List.mem_of_getElem? (i := 62) rfl) rfl
theorem st_X10_isSlot : Cond.static yX10_isSlot ∈ GW := gw_t6 (List.mem_of_getElem? (i := 63) rfl) rfl
theorem co_X10_isSlot : Cond.code yX10_isSlot cX10_isSlot 1 (some .boolean) ∈ GW := gw_t6 (List.mem_of_getElem? (i := 64) rfl) rfl
theorem kl_X10_114 : Cond.constantLong RX10 114 (3) ∈ GW := gw_t6 (List.mem_of_getElem? (i := 65) rfl) rfl
theorem ml_X10_116 : Cond.methodLink RX10 116 yX10_in ∈ GW := gw_t6 (List.mem_of_getElem? (i := 66) rfl) rfl
theorem st_X10_in : Cond.static yX10_in ∈ GW := gw_t6 (List.mem_of_getElem? (i := 67) rfl) rfl
theorem co_X10_in : Cond.code yX10_in cX10_in 6 (some .boolean) ∈ GW := gw_t6 (List.mem_of_getElem? (i := 68) rfl) rfl
theorem ml_L_224 : Cond.methodLink RL 224 yX10_write ∈ GW := gw_t6 (List.mem_of_getElem? (i := 69) rfl) rfl
theorem im_X10_write : Cond.instanceMethod yX10_write ∈ GW := gw_t6 (List.mem_of_getElem? (i := 70) rfl) rfl
theorem se_X10_write : Cond.selects RX10 yX10_write yX10_write ∈ GW := gw_t6 (List.mem_of_getElem? (i := 71) rfl) rfl
theorem co_X10_write : Cond.code yX10_write cX10_write 5 (some .int) ∈ GW := gw_t6 (List.mem_of_getElem? (i := 72) rfl) rfl
theorem ml_X10_124 : Cond.methodLink RX10 124 yX10_cut ∈ GW := gw_t6 (List.mem_of_getElem? (i := 73) rfl) rfl
theorem st_X10_cut : Cond.static yX10_cut ∈ GW := gw_t6 (List.mem_of_getElem? (i := 74) rfl) rfl
theorem co_X10_cut : Cond.code yX10_cut cX10_cut 3 (some .long) ∈ GW := gw_t6 (List.mem_of_getElem? (i := 75) rfl) rfl
theorem ml_L_228 : Cond.methodLink RL 228 yX10_paste ∈ GW := gw_t6 (List.mem_of_getElem? (i := 76) rfl) rfl
theorem im_X10_paste : Cond.instanceMethod yX10_paste ∈ GW := gw_t6 (List.mem_of_getElem? (i := 77) rfl) rfl
theorem se_X10_paste : Cond.selects RX10 yX10_paste yX10_paste ∈ GW := gw_t6 (List.mem_of_getElem? (i := 78) rfl) rfl
theorem co_X10_paste : Cond.code yX10_paste cX10_paste 7 (some .int) ∈ GW := gw_t6 (List.mem_of_getElem? (i := 79) rfl) rfl
theorem ml_L_17 : Cond.methodLink RL 17 yX10_feed ∈ GW := gw_t6 (List.mem_of_getElem? (i := 80) rfl) rfl
theorem im_X10_feed : Cond.instanceMethod yX10_feed ∈ GW := gw_t6 (List.mem_of_getElem? (i := 81) rfl) rfl
theorem se_X10_feed : Cond.selects RX10 yX10_feed yX10_feed ∈ GW := gw_t6 (List.mem_of_getElem? (i := 82) rfl) rfl
theorem co_X10_feed : Cond.code yX10_feed cX10_feed 6 (some .int) ∈ GW := gw_t6 (List.mem_of_getElem? (i := 83) rfl) rfl
theorem ml_X10_131 : Cond.methodLink RX10 131 yX10_four ∈ GW := gw_t6 (List.mem_of_getElem? (i := 84) rfl) rfl
theorem im_X10_four : Cond.instanceMethod yX10_four ∈ GW := gw_t6 (List.mem_of_getElem? (i := 86) rfl) rfl
theorem co_X10_four : Cond.code yX10_four cX10_four 3 none ∈ GW := gw_t6 (List.mem_of_getElem? (i := 87) rfl) rfl
theorem ml_L_22 : Cond.methodLink RL 22 yX10_end ∈ GW := gw_t6 (List.mem_of_getElem? (i := 88) rfl) rfl
theorem im_X10_end : Cond.instanceMethod yX10_end ∈ GW := gw_t6 (List.mem_of_getElem? (i := 89) rfl) rfl
theorem se_X10_end : Cond.selects RX10 yX10_end yX10_end ∈ GW := gw_t6 (List.mem_of_getElem? (i := 90) rfl) rfl
theorem co_X10_end : Cond.code yX10_end cX10_end 2 (some .int) ∈ GW := gw_t6 (List.mem_of_getElem? (i := 91) rfl) rfl
theorem ml_L_31 : Cond.methodLink RL 31 yX10_fault ∈ GW := gw_t6 (List.mem_of_getElem? (i := 92) rfl) rfl
theorem im_X10_fault : Cond.instanceMethod yX10_fault ∈ GW := gw_t6 (List.mem_of_getElem? (i := 93) rfl) rfl
theorem se_X10_fault : Cond.selects RX10 yX10_fault yX10_fault ∈ GW := gw_t6 (List.mem_of_getElem? (i := 94) rfl) rfl
theorem co_X10_fault : Cond.code yX10_fault cX10_fault 2 (some .int) ∈ GW := gw_t6 (List.mem_of_getElem? (i := 95) rfl) rfl
theorem ml_L_27 : Cond.methodLink RL 27 yX10_land ∈ GW := gw_t6 (List.mem_of_getElem? (i := 96) rfl) rfl
theorem im_X10_land : Cond.instanceMethod yX10_land ∈ GW := gw_t6 (List.mem_of_getElem? (i := 97) rfl) rfl
theorem se_X10_land : Cond.selects RX10 yX10_land yX10_land ∈ GW := gw_t6 (List.mem_of_getElem? (i := 98) rfl) rfl
theorem co_X10_land : Cond.code yX10_land cX10_land 1 (some .int) ∈ GW := gw_t6 (List.mem_of_getElem? (i := 99) rfl) rfl
theorem ml_X10_248 : Cond.methodLink RX10 248 yX10_clears ∈ GW := gw_t6 (List.mem_of_getElem? (i := 100) rfl) rfl
theorem im_X10_clears : Cond.instanceMethod yX10_clears ∈ GW := gw_t6 (List.mem_of_getElem? (i := 102) rfl) rfl
theorem co_X10_clears : Cond.code yX10_clears cX10_clears 2 none ∈ GW := gw_t6 (List.mem_of_getElem? (i := 103) rfl) rfl
theorem ml_X10_251 : Cond.methodLink RX10 251 yX10_begins ∈ GW := gw_t6 (List.mem_of_getElem? (i := 104) rfl) rfl
theorem im_X10_begins : Cond.instanceMethod yX10_begins ∈ GW := gw_t6 (List.mem_of_getElem? (i := 106) rfl) rfl
theorem co_X10_begins : Cond.code yX10_begins cX10_begins 1 none ∈ GW := gw_t6 (List.mem_of_getElem? (i := 107) rfl) rfl
theorem ml_X10_173 : Cond.methodLink RX10 173 yX10_next ∈ GW := gw_t6 (List.mem_of_getElem? (i := 108) rfl) rfl
theorem im_X10_next : Cond.instanceMethod yX10_next ∈ GW := gw_t6 (List.mem_of_getElem? (i := 110) rfl) rfl
theorem co_X10_next : Cond.code yX10_next cX10_next 2 none ∈ GW := gw_t6 (List.mem_of_getElem? (i := 111) rfl) rfl
theorem ml_X10_138 : Cond.methodLink RX10 138 yX10_isByte ∈ GW := gw_t6 (List.mem_of_getElem? (i := 112) rfl) rfl
theorem im_X10_isByte : Cond.instanceMethod yX10_isByte ∈ GW := gw_t6 (List.mem_of_getElem? (i := 114) rfl) rfl
theorem co_X10_isByte : Cond.code yX10_isByte cX10_isByte 4 (some .boolean) ∈ GW := gw_t6 (List.mem_of_getElem? (i := 115) rfl) rfl
theorem kl_X10_155 : Cond.constantLong RX10 155 (-1) ∈ GW := gw_t6 (List.mem_of_getElem? (i := 116) rfl) rfl
theorem kl_X10_157 : Cond.constantLong RX10 157 (27) ∈ GW := gw_t6 (List.mem_of_getElem? (i := 117) rfl) rfl
theorem kl_X10_159 : Cond.constantLong RX10 159 (96) ∈ GW := gw_t6 (List.mem_of_getElem? (i := 118) rfl) rfl
theorem ki_X10_161 : Cond.constant RX10 161 (100000) ∈ GW := gw_t6 (List.mem_of_getElem? (i := 119) rfl) rfl
theorem ki_X10_162 : Cond.constant RX10 162 (1000000) ∈ GW := gw_t6 (List.mem_of_getElem? (i := 120) rfl) rfl
theorem ml_X10_254 : Cond.methodLink RX10 254 yX10_isGood ∈ GW := gw_t6 (List.mem_of_getElem? (i := 121) rfl) rfl
theorem im_X10_isGood : Cond.instanceMethod yX10_isGood ∈ GW := gw_t6 (List.mem_of_getElem? (i := 123) rfl) rfl
theorem co_X10_isGood : Cond.code yX10_isGood cX10_isGood 1 (some .boolean) ∈ GW := gw_t6 (List.mem_of_getElem? (i := 124) rfl) rfl
theorem ml_X10_258 : Cond.methodLink RX10 258 yX10_winterLine ∈ GW := gw_t6 (List.mem_of_getElem? (i := 125) rfl) rfl
theorem im_X10_winterLine : Cond.instanceMethod yX10_winterLine ∈ GW := gw_t6 (List.mem_of_getElem? (i := 127) rfl) rfl
theorem co_X10_winterLine : Cond.code yX10_winterLine cX10_winterLine 2 none ∈ GW := gw_t6 (List.mem_of_getElem? (i := 128) rfl) rfl
theorem kl_X10_193 : Cond.constantLong RX10 193 (335098125) ∈ GW := gw_t6 (List.mem_of_getElem? (i := 129) rfl) rfl
theorem ml_X10_182 : Cond.methodLink RX10 182 yX10_asks ∈ GW := gw_t6 (List.mem_of_getElem? (i := 130) rfl) rfl
theorem im_X10_asks : Cond.instanceMethod yX10_asks ∈ GW := gw_t6 (List.mem_of_getElem? (i := 132) rfl) rfl
theorem co_X10_asks : Cond.code yX10_asks cX10_asks 3 none ∈ GW := gw_t6 (List.mem_of_getElem? (i := 133) rfl) rfl
theorem ml_X10_176 : Cond.methodLink RX10 176 yX10_takes ∈ GW := gw_t6 (List.mem_of_getElem? (i := 134) rfl) rfl
theorem im_X10_takes : Cond.instanceMethod yX10_takes ∈ GW := gw_t6 (List.mem_of_getElem? (i := 136) rfl) rfl
theorem co_X10_takes : Cond.code yX10_takes cX10_takes 3 (some .boolean) ∈ GW := gw_t6 (List.mem_of_getElem? (i := 137) rfl) rfl
theorem ml_X10_169 : Cond.methodLink RX10 169 yX10_is ∈ GW := gw_t6 (List.mem_of_getElem? (i := 138) rfl) rfl
theorem im_X10_is : Cond.instanceMethod yX10_is ∈ GW := gw_t6 (List.mem_of_getElem? (i := 140) rfl) rfl
theorem co_X10_is : Cond.code yX10_is cX10_is 3 (some .boolean) ∈ GW := gw_t6 (List.mem_of_getElem? (i := 141) rfl) rfl
theorem ml_X10_179 : Cond.methodLink RX10 179 yX10_fails ∈ GW := gw_t6 (List.mem_of_getElem? (i := 142) rfl) rfl
theorem im_X10_fails : Cond.instanceMethod yX10_fails ∈ GW := gw_t6 (List.mem_of_getElem? (i := 144) rfl) rfl
theorem co_X10_fails : Cond.code yX10_fails cX10_fails 2 none ∈ GW := gw_t6 (List.mem_of_getElem? (i := 145) rfl) rfl
theorem kl_X10_195 : Cond.constantLong RX10 195 (80155) ∈ GW := gw_t6 (List.mem_of_getElem? (i := 146) rfl) rfl
theorem ml_X10_197 : Cond.methodLink RX10 197 yX10_number_ ∈ GW := gw_t6 (List.mem_of_getElem? (i := 147) rfl) rfl
theorem im_X10_number_ : Cond.instanceMethod yX10_number_ ∈ GW := gw_t6 (List.mem_of_getElem? (i := 149) rfl) rfl
theorem co_X10_number_ : Cond.code yX10_number_ cX10_number_ 5 (some .int) ∈ GW := gw_t6 (List.mem_of_getElem? (i := 150) rfl) rfl
theorem ml_X10_186 : Cond.methodLink RX10 186 yX10_number ∈ GW := gw_t6 (List.mem_of_getElem? (i := 151) rfl) rfl
theorem im_X10_number : Cond.instanceMethod yX10_number ∈ GW := gw_t6 (List.mem_of_getElem? (i := 153) rfl) rfl
theorem co_X10_number : Cond.code yX10_number cX10_number 4 (some .int) ∈ GW := gw_t6 (List.mem_of_getElem? (i := 154) rfl) rfl
theorem kl_X10_200 : Cond.constantLong RX10 200 (3379448) ∈ GW := gw_t6 (List.mem_of_getElem? (i := 155) rfl) rfl
theorem kl_X10_202 : Cond.constantLong RX10 202 (384611) ∈ GW := gw_t6 (List.mem_of_getElem? (i := 156) rfl) rfl
theorem kl_X10_204 : Cond.constantLong RX10 204 (1834209) ∈ GW := gw_t6 (List.mem_of_getElem? (i := 157) rfl) rfl
theorem ml_X10_261 : Cond.methodLink RX10 261 yX10_line ∈ GW := gw_t6 (List.mem_of_getElem? (i := 158) rfl) rfl
theorem im_X10_line : Cond.instanceMethod yX10_line ∈ GW := gw_t6 (List.mem_of_getElem? (i := 160) rfl) rfl
theorem co_X10_line : Cond.code yX10_line cX10_line 4 none ∈ GW := gw_t6 (List.mem_of_getElem? (i := 161) rfl) rfl
theorem kl_X10_224 : Cond.constantLong RX10 224 (6686170) ∈ GW := gw_t6 (List.mem_of_getElem? (i := 162) rfl) rfl
theorem kl_X10_226 : Cond.constantLong RX10 226 (8740364) ∈ GW := gw_t6 (List.mem_of_getElem? (i := 163) rfl) rfl
theorem kl_X10_228 : Cond.constantLong RX10 228 (271517) ∈ GW := gw_t6 (List.mem_of_getElem? (i := 164) rfl) rfl
theorem ml_X10_230 : Cond.methodLink RX10 230 yX10_onceLine ∈ GW := gw_t6 (List.mem_of_getElem? (i := 165) rfl) rfl
theorem im_X10_onceLine : Cond.instanceMethod yX10_onceLine ∈ GW := gw_t6 (List.mem_of_getElem? (i := 167) rfl) rfl
theorem co_X10_onceLine : Cond.code yX10_onceLine cX10_onceLine 3 none ∈ GW := gw_t6 (List.mem_of_getElem? (i := 168) rfl) rfl
theorem kl_X10_218 : Cond.constantLong RX10 218 (257011) ∈ GW := gw_t6 (List.mem_of_getElem? (i := 169) rfl) rfl
theorem kl_X10_220 : Cond.constantLong RX10 220 (1627639) ∈ GW := gw_t6 (List.mem_of_getElem? (i := 170) rfl) rfl
theorem kl_X10_222 : Cond.constantLong RX10 222 (70517) ∈ GW := gw_t6 (List.mem_of_getElem? (i := 171) rfl) rfl
theorem kl_X10_233 : Cond.constantLong RX10 233 (10793230) ∈ GW := gw_t6 (List.mem_of_getElem? (i := 172) rfl) rfl
theorem kl_X10_235 : Cond.constantLong RX10 235 (316452499) ∈ GW := gw_t6 (List.mem_of_getElem? (i := 173) rfl) rfl
theorem kl_X10_237 : Cond.constantLong RX10 237 (316205) ∈ GW := gw_t6 (List.mem_of_getElem? (i := 174) rfl) rfl
theorem ml_X10_239 : Cond.methodLink RX10 239 yX10_thingLine ∈ GW := gw_t6 (List.mem_of_getElem? (i := 175) rfl) rfl
theorem im_X10_thingLine : Cond.instanceMethod yX10_thingLine ∈ GW := gw_t6 (List.mem_of_getElem? (i := 177) rfl) rfl
theorem co_X10_thingLine : Cond.code yX10_thingLine cX10_thingLine 2 none ∈ GW := gw_t6 (List.mem_of_getElem? (i := 178) rfl) rfl
theorem kl_X10_206 : Cond.constantLong RX10 206 (8863997) ∈ GW := gw_t6 (List.mem_of_getElem? (i := 179) rfl) rfl
theorem kl_X10_208 : Cond.constantLong RX10 208 (158692) ∈ GW := gw_t6 (List.mem_of_getElem? (i := 180) rfl) rfl
theorem kl_X10_210 : Cond.constantLong RX10 210 (40187) ∈ GW := gw_t6 (List.mem_of_getElem? (i := 181) rfl) rfl
theorem ml_X10_242 : Cond.methodLink RX10 242 yX10_valleyLine ∈ GW := gw_t6 (List.mem_of_getElem? (i := 182) rfl) rfl
theorem im_X10_valleyLine : Cond.instanceMethod yX10_valleyLine ∈ GW := gw_t6 (List.mem_of_getElem? (i := 184) rfl) rfl
theorem co_X10_valleyLine : Cond.code yX10_valleyLine cX10_valleyLine 3 none ∈ GW := gw_t6 (List.mem_of_getElem? (i := 185) rfl) rfl
theorem kl_X10_212 : Cond.constantLong RX10 212 (380396) ∈ GW := gw_t6 (List.mem_of_getElem? (i := 186) rfl) rfl
theorem kl_X10_214 : Cond.constantLong RX10 214 (365647) ∈ GW := gw_t6 (List.mem_of_getElem? (i := 187) rfl) rfl
theorem kl_X10_216 : Cond.constantLong RX10 216 (12253591) ∈ GW := gw_t6 (List.mem_of_getElem? (i := 188) rfl) rfl
theorem ml_X10_245 : Cond.methodLink RX10 245 yX10_pathLine ∈ GW := gw_t6 (List.mem_of_getElem? (i := 189) rfl) rfl
theorem im_X10_pathLine : Cond.instanceMethod yX10_pathLine ∈ GW := gw_t6 (List.mem_of_getElem? (i := 191) rfl) rfl
theorem co_X10_pathLine : Cond.code yX10_pathLine cX10_pathLine 6 none ∈ GW := gw_t6 (List.mem_of_getElem? (i := 192) rfl) rfl
theorem ml_X10_264 : Cond.methodLink RX10 264 yX10_ends ∈ GW := gw_t6 (List.mem_of_getElem? (i := 193) rfl) rfl
theorem im_X10_ends : Cond.instanceMethod yX10_ends ∈ GW := gw_t6 (List.mem_of_getElem? (i := 195) rfl) rfl
theorem co_X10_ends : Cond.code yX10_ends cX10_ends 1 none ∈ GW := gw_t6 (List.mem_of_getElem? (i := 196) rfl) rfl
theorem ml_X10_267 : Cond.methodLink RX10 267 yX10_isOver ∈ GW := gw_t6 (List.mem_of_getElem? (i := 197) rfl) rfl
theorem im_X10_isOver : Cond.instanceMethod yX10_isOver ∈ GW := gw_t6 (List.mem_of_getElem? (i := 199) rfl) rfl
theorem co_X10_isOver : Cond.code yX10_isOver cX10_isOver 1 none ∈ GW := gw_t6 (List.mem_of_getElem? (i := 200) rfl) rfl
theorem ml_X10_270 : Cond.methodLink RX10 270 yX10_copyLand ∈ GW := gw_t6 (List.mem_of_getElem? (i := 201) rfl) rfl
theorem im_X10_copyLand : Cond.instanceMethod yX10_copyLand ∈ GW := gw_t6 (List.mem_of_getElem? (i := 203) rfl) rfl
theorem co_X10_copyLand : Cond.code yX10_copyLand cX10_copyLand 3 none ∈ GW := gw_t6 (List.mem_of_getElem? (i := 204) rfl) rfl
theorem ml_X10_274 : Cond.methodLink RX10 274 yX10_copyRow ∈ GW := gw_t6 (List.mem_of_getElem? (i := 205) rfl) rfl
theorem st_X10_copyRow : Cond.static yX10_copyRow ∈ GW := gw_t6 (List.mem_of_getElem? (i := 206) rfl) rfl
theorem co_X10_copyRow : Cond.code yX10_copyRow cX10_copyRow 5 none ∈ GW := gw_t6 (List.mem_of_getElem? (i := 207) rfl) rfl
theorem ml_L_36 : Cond.methodLink RL 36 yX10_shuts ∈ GW := gw_t6 (List.mem_of_getElem? (i := 208) rfl) rfl
theorem im_X10_shuts : Cond.instanceMethod yX10_shuts ∈ GW := gw_t6 (List.mem_of_getElem? (i := 209) rfl) rfl
theorem se_X10_shuts : Cond.selects RX10 yX10_shuts yX10_shuts ∈ GW := gw_t6 (List.mem_of_getElem? (i := 210) rfl) rfl
theorem co_X10_shuts : Cond.code yX10_shuts cX10_shuts 3 (some .long) ∈ GW := gw_t6 (List.mem_of_getElem? (i := 211) rfl) rfl
theorem ml_X10_297 : Cond.methodLink RX10 297 yX10_isValley ∈ GW := gw_t6 (List.mem_of_getElem? (i := 212) rfl) rfl
theorem im_X10_isValley : Cond.instanceMethod yX10_isValley ∈ GW := gw_t6 (List.mem_of_getElem? (i := 214) rfl) rfl
theorem co_X10_isValley : Cond.code yX10_isValley cX10_isValley 2 (some .boolean) ∈ GW := gw_t6 (List.mem_of_getElem? (i := 215) rfl) rfl
theorem ml_X10_278 : Cond.methodLink RX10 278 yX10_lastDay ∈ GW := gw_t6 (List.mem_of_getElem? (i := 216) rfl) rfl
theorem im_X10_lastDay : Cond.instanceMethod yX10_lastDay ∈ GW := gw_t6 (List.mem_of_getElem? (i := 218) rfl) rfl
theorem co_X10_lastDay : Cond.code yX10_lastDay cX10_lastDay 1 (some .int) ∈ GW := gw_t6 (List.mem_of_getElem? (i := 219) rfl) rfl
theorem kl_X10_300 : Cond.constantLong RX10 300 (-2) ∈ GW := gw_t6 (List.mem_of_getElem? (i := 220) rfl) rfl
theorem ml_X10_302 : Cond.methodLink RX10 302 yX10_splits ∈ GW := gw_t6 (List.mem_of_getElem? (i := 221) rfl) rfl
theorem im_X10_splits : Cond.instanceMethod yX10_splits ∈ GW := gw_t6 (List.mem_of_getElem? (i := 223) rfl) rfl
theorem co_X10_splits : Cond.code yX10_splits cX10_splits 11 none ∈ GW := gw_t6 (List.mem_of_getElem? (i := 224) rfl) rfl
theorem kl_X10_284 : Cond.constantLong RX10 284 (1000000000000) ∈ GW := gw_t6 (List.mem_of_getElem? (i := 225) rfl) rfl
theorem ml_X10_286 : Cond.methodLink RX10 286 yX10_chance ∈ GW := gw_t6 (List.mem_of_getElem? (i := 226) rfl) rfl
theorem im_X10_chance : Cond.instanceMethod yX10_chance ∈ GW := gw_t6 (List.mem_of_getElem? (i := 228) rfl) rfl
theorem co_X10_chance : Cond.code yX10_chance cX10_chance 3 (some .int) ∈ GW := gw_t6 (List.mem_of_getElem? (i := 229) rfl) rfl
theorem ml_X10_290 : Cond.methodLink RX10 290 yX10_hundredths ∈ GW := gw_t6 (List.mem_of_getElem? (i := 230) rfl) rfl
theorem st_X10_hundredths : Cond.static yX10_hundredths ∈ GW := gw_t6 (List.mem_of_getElem? (i := 231) rfl) rfl
theorem co_X10_hundredths : Cond.code yX10_hundredths cX10_hundredths 3 (some .long) ∈ GW := gw_t6 (List.mem_of_getElem? (i := 232) rfl) rfl
theorem kl_X10_282 : Cond.constantLong RX10 282 (100) ∈ GW := gw_t6 (List.mem_of_getElem? (i := 233) rfl) rfl
theorem ml_X10_293 : Cond.methodLink RX10 293 yX10_shutOf ∈ GW := gw_t6 (List.mem_of_getElem? (i := 234) rfl) rfl
theorem im_X10_shutOf : Cond.instanceMethod yX10_shutOf ∈ GW := gw_t6 (List.mem_of_getElem? (i := 236) rfl) rfl
theorem co_X10_shutOf : Cond.code yX10_shutOf cX10_shutOf 2 (some .int) ∈ GW := gw_t6 (List.mem_of_getElem? (i := 237) rfl) rfl
theorem ml_L_40 : Cond.methodLink RL 40 yX10_by ∈ GW := gw_t6 (List.mem_of_getElem? (i := 238) rfl) rfl
theorem im_X10_by : Cond.instanceMethod yX10_by ∈ GW := gw_t6 (List.mem_of_getElem? (i := 239) rfl) rfl
theorem se_X10_by : Cond.selects RX10 yX10_by yX10_by ∈ GW := gw_t7 (List.mem_of_getElem? (i := 0) rfl) rfl
theorem co_X10_by : Cond.code yX10_by cX10_by 3 (some .long) ∈ GW := gw_t7 (List.mem_of_getElem? (i := 1) rfl) rfl
theorem ml_X10_305 : Cond.methodLink RX10 305 yX10_isDay ∈ GW := gw_t7 (List.mem_of_getElem? (i := 2) rfl) rfl
theorem im_X10_isDay : Cond.instanceMethod yX10_isDay ∈ GW := gw_t7 (List.mem_of_getElem? (i := 4) rfl) rfl
theorem co_X10_isDay : Cond.code yX10_isDay cX10_isDay 2 (some .boolean) ∈ GW := gw_t7 (List.mem_of_getElem? (i := 5) rfl) rfl
theorem ml_X10_308 : Cond.methodLink RX10 308 yX10_byDay ∈ GW := gw_t7 (List.mem_of_getElem? (i := 6) rfl) rfl
theorem im_X10_byDay : Cond.instanceMethod yX10_byDay ∈ GW := gw_t7 (List.mem_of_getElem? (i := 8) rfl) rfl
theorem co_X10_byDay : Cond.code yX10_byDay cX10_byDay 5 (some .long) ∈ GW := gw_t7 (List.mem_of_getElem? (i := 9) rfl) rfl
theorem ml_L_45 : Cond.methodLink RL 45 yX10_both ∈ GW := gw_t7 (List.mem_of_getElem? (i := 10) rfl) rfl
theorem im_X10_both : Cond.instanceMethod yX10_both ∈ GW := gw_t7 (List.mem_of_getElem? (i := 11) rfl) rfl
theorem se_X10_both : Cond.selects RX10 yX10_both yX10_both ∈ GW := gw_t7 (List.mem_of_getElem? (i := 12) rfl) rfl
theorem co_X10_both : Cond.code yX10_both cX10_both 5 (some .long) ∈ GW := gw_t7 (List.mem_of_getElem? (i := 13) rfl) rfl
theorem ml_X10_323 : Cond.methodLink RX10 323 yX10_areTwo ∈ GW := gw_t7 (List.mem_of_getElem? (i := 14) rfl) rfl
theorem im_X10_areTwo : Cond.instanceMethod yX10_areTwo ∈ GW := gw_t7 (List.mem_of_getElem? (i := 16) rfl) rfl
theorem co_X10_areTwo : Cond.code yX10_areTwo cX10_areTwo 3 (some .boolean) ∈ GW := gw_t7 (List.mem_of_getElem? (i := 17) rfl) rfl
theorem ml_X10_327 : Cond.methodLink RX10 327 yX10_splitsTwo ∈ GW := gw_t7 (List.mem_of_getElem? (i := 18) rfl) rfl
theorem im_X10_splitsTwo : Cond.instanceMethod yX10_splitsTwo ∈ GW := gw_t7 (List.mem_of_getElem? (i := 20) rfl) rfl
theorem co_X10_splitsTwo : Cond.code yX10_splitsTwo cX10_splitsTwo 11 none ∈ GW := gw_t7 (List.mem_of_getElem? (i := 21) rfl) rfl
theorem ml_X10_312 : Cond.methodLink RX10 312 yX10_at2 ∈ GW := gw_t7 (List.mem_of_getElem? (i := 22) rfl) rfl
theorem st_X10_at2 : Cond.static yX10_at2 ∈ GW := gw_t7 (List.mem_of_getElem? (i := 23) rfl) rfl
theorem co_X10_at2 : Cond.code yX10_at2 cX10_at2 2 (some .int) ∈ GW := gw_t7 (List.mem_of_getElem? (i := 24) rfl) rfl
theorem ml_X10_315 : Cond.methodLink RX10 315 yX10_falls ∈ GW := gw_t7 (List.mem_of_getElem? (i := 25) rfl) rfl
theorem im_X10_falls : Cond.instanceMethod yX10_falls ∈ GW := gw_t7 (List.mem_of_getElem? (i := 27) rfl) rfl
theorem co_X10_falls : Cond.code yX10_falls cX10_falls 10 none ∈ GW := gw_t7 (List.mem_of_getElem? (i := 28) rfl) rfl
theorem ml_X10_319 : Cond.methodLink RX10 319 yX10_fallsOther ∈ GW := gw_t7 (List.mem_of_getElem? (i := 29) rfl) rfl
theorem im_X10_fallsOther : Cond.instanceMethod yX10_fallsOther ∈ GW := gw_t7 (List.mem_of_getElem? (i := 31) rfl) rfl
theorem co_X10_fallsOther : Cond.code yX10_fallsOther cX10_fallsOther 9 none ∈ GW := gw_t7 (List.mem_of_getElem? (i := 32) rfl) rfl
theorem ml_X10_330 : Cond.methodLink RX10 330 yX10_two ∈ GW := gw_t7 (List.mem_of_getElem? (i := 33) rfl) rfl
theorem im_X10_two : Cond.instanceMethod yX10_two ∈ GW := gw_t7 (List.mem_of_getElem? (i := 35) rfl) rfl
theorem co_X10_two : Cond.code yX10_two cX10_two 3 (some .long) ∈ GW := gw_t7 (List.mem_of_getElem? (i := 36) rfl) rfl
theorem ml_L_49 : Cond.methodLink RL 49 yX10_together ∈ GW := gw_t7 (List.mem_of_getElem? (i := 37) rfl) rfl
theorem im_X10_together : Cond.instanceMethod yX10_together ∈ GW := gw_t7 (List.mem_of_getElem? (i := 38) rfl) rfl
theorem se_X10_together : Cond.selects RX10 yX10_together yX10_together ∈ GW := gw_t7 (List.mem_of_getElem? (i := 39) rfl) rfl
theorem co_X10_together : Cond.code yX10_together cX10_together 6 (some .long) ∈ GW := gw_t7 (List.mem_of_getElem? (i := 40) rfl) rfl
theorem ml_X10_337 : Cond.methodLink RX10 337 yX10_splitsAll ∈ GW := gw_t7 (List.mem_of_getElem? (i := 41) rfl) rfl
theorem im_X10_splitsAll : Cond.instanceMethod yX10_splitsAll ∈ GW := gw_t7 (List.mem_of_getElem? (i := 43) rfl) rfl
theorem co_X10_splitsAll : Cond.code yX10_splitsAll cX10_splitsAll 9 none ∈ GW := gw_t7 (List.mem_of_getElem? (i := 44) rfl) rfl
theorem ml_X10_334 : Cond.methodLink RX10 334 yX10_fallsOn ∈ GW := gw_t7 (List.mem_of_getElem? (i := 45) rfl) rfl
theorem im_X10_fallsOn : Cond.instanceMethod yX10_fallsOn ∈ GW := gw_t7 (List.mem_of_getElem? (i := 47) rfl) rfl
theorem co_X10_fallsOn : Cond.code yX10_fallsOn cX10_fallsOn 7 none ∈ GW := gw_t7 (List.mem_of_getElem? (i := 48) rfl) rfl
theorem ml_X10_340 : Cond.methodLink RX10 340 yX10_sizeOf ∈ GW := gw_t7 (List.mem_of_getElem? (i := 49) rfl) rfl
theorem st_X10_sizeOf : Cond.static yX10_sizeOf ∈ GW := gw_t7 (List.mem_of_getElem? (i := 50) rfl) rfl
theorem co_X10_sizeOf : Cond.code yX10_sizeOf cX10_sizeOf 3 (some .int) ∈ GW := gw_t7 (List.mem_of_getElem? (i := 51) rfl) rfl
theorem ml_L_53 : Cond.methodLink RL 53 yX10_set ∈ GW := gw_t7 (List.mem_of_getElem? (i := 52) rfl) rfl
theorem im_X10_set : Cond.instanceMethod yX10_set ∈ GW := gw_t7 (List.mem_of_getElem? (i := 53) rfl) rfl
theorem se_X10_set : Cond.selects RX10 yX10_set yX10_set ∈ GW := gw_t7 (List.mem_of_getElem? (i := 54) rfl) rfl
theorem co_X10_set : Cond.code yX10_set cX10_set 3 (some .long) ∈ GW := gw_t7 (List.mem_of_getElem? (i := 55) rfl) rfl
theorem ml_L_58 : Cond.methodLink RL 58 yX10_when ∈ GW := gw_t7 (List.mem_of_getElem? (i := 56) rfl) rfl
theorem im_X10_when : Cond.instanceMethod yX10_when ∈ GW := gw_t7 (List.mem_of_getElem? (i := 57) rfl) rfl
theorem se_X10_when : Cond.selects RX10 yX10_when yX10_when ∈ GW := gw_t7 (List.mem_of_getElem? (i := 58) rfl) rfl
theorem co_X10_when : Cond.code yX10_when cX10_when 4 (some .int) ∈ GW := gw_t7 (List.mem_of_getElem? (i := 59) rfl) rfl
theorem kl_X10_343 : Cond.constantLong RX10 343 (1000) ∈ GW := gw_t7 (List.mem_of_getElem? (i := 60) rfl) rfl
theorem kl_X10_345 : Cond.constantLong RX10 345 (1000000000) ∈ GW := gw_t7 (List.mem_of_getElem? (i := 61) rfl) rfl
theorem ml_L_63 : Cond.methodLink RL 63 yX10_wants ∈ GW := gw_t7 (List.mem_of_getElem? (i := 62) rfl) rfl
theorem im_X10_wants : Cond.instanceMethod yX10_wants ∈ GW := gw_t7 (List.mem_of_getElem? (i := 63) rfl) rfl
theorem se_X10_wants : Cond.selects RX10 yX10_wants yX10_wants ∈ GW := gw_t7 (List.mem_of_getElem? (i := 64) rfl) rfl
theorem co_X10_wants : Cond.code yX10_wants cX10_wants 4 (some .int) ∈ GW := gw_t7 (List.mem_of_getElem? (i := 65) rfl) rfl
theorem ml_X10_350 : Cond.methodLink RX10 350 yX10_isThing ∈ GW := gw_t7 (List.mem_of_getElem? (i := 66) rfl) rfl
theorem im_X10_isThing : Cond.instanceMethod yX10_isThing ∈ GW := gw_t7 (List.mem_of_getElem? (i := 68) rfl) rfl
theorem co_X10_isThing : Cond.code yX10_isThing cX10_isThing 2 (some .boolean) ∈ GW := gw_t7 (List.mem_of_getElem? (i := 69) rfl) rfl
theorem ml_X10_353 : Cond.methodLink RX10 353 yX10_wantsOf ∈ GW := gw_t7 (List.mem_of_getElem? (i := 70) rfl) rfl
theorem im_X10_wantsOf : Cond.instanceMethod yX10_wantsOf ∈ GW := gw_t7 (List.mem_of_getElem? (i := 72) rfl) rfl
theorem co_X10_wantsOf : Cond.code yX10_wantsOf cX10_wantsOf 4 (some .int) ∈ GW := gw_t7 (List.mem_of_getElem? (i := 73) rfl) rfl
theorem ml_X10_347 : Cond.methodLink RX10 347 yX10_wantOf ∈ GW := gw_t7 (List.mem_of_getElem? (i := 74) rfl) rfl
theorem im_X10_wantOf : Cond.instanceMethod yX10_wantOf ∈ GW := gw_t7 (List.mem_of_getElem? (i := 76) rfl) rfl
theorem co_X10_wantOf : Cond.code yX10_wantOf cX10_wantOf 3 (some .int) ∈ GW := gw_t7 (List.mem_of_getElem? (i := 77) rfl) rfl
theorem ml_L_68 : Cond.methodLink RL 68 yX10_cost ∈ GW := gw_t7 (List.mem_of_getElem? (i := 78) rfl) rfl
theorem im_X10_cost : Cond.instanceMethod yX10_cost ∈ GW := gw_t7 (List.mem_of_getElem? (i := 79) rfl) rfl
theorem se_X10_cost : Cond.selects RX10 yX10_cost yX10_cost ∈ GW := gw_t7 (List.mem_of_getElem? (i := 80) rfl) rfl
theorem co_X10_cost : Cond.code yX10_cost cX10_cost 4 (some .long) ∈ GW := gw_t7 (List.mem_of_getElem? (i := 81) rfl) rfl
theorem ml_X10_375 : Cond.methodLink RX10 375 yX10_isStore ∈ GW := gw_t7 (List.mem_of_getElem? (i := 82) rfl) rfl
theorem im_X10_isStore : Cond.instanceMethod yX10_isStore ∈ GW := gw_t7 (List.mem_of_getElem? (i := 84) rfl) rfl
theorem co_X10_isStore : Cond.code yX10_isStore cX10_isStore 4 (some .boolean) ∈ GW := gw_t7 (List.mem_of_getElem? (i := 85) rfl) rfl
theorem ml_X10_372 : Cond.methodLink RX10 372 yX10_areSacks ∈ GW := gw_t7 (List.mem_of_getElem? (i := 86) rfl) rfl
theorem im_X10_areSacks : Cond.instanceMethod yX10_areSacks ∈ GW := gw_t7 (List.mem_of_getElem? (i := 88) rfl) rfl
theorem co_X10_areSacks : Cond.code yX10_areSacks cX10_areSacks 2 (some .boolean) ∈ GW := gw_t7 (List.mem_of_getElem? (i := 89) rfl) rfl
theorem kl_X10_370 : Cond.constantLong RX10 370 (999) ∈ GW := gw_t7 (List.mem_of_getElem? (i := 90) rfl) rfl
theorem ml_X10_378 : Cond.methodLink RX10 378 yX10_costOf ∈ GW := gw_t7 (List.mem_of_getElem? (i := 91) rfl) rfl
theorem im_X10_costOf : Cond.instanceMethod yX10_costOf ∈ GW := gw_t7 (List.mem_of_getElem? (i := 93) rfl) rfl
theorem co_X10_costOf : Cond.code yX10_costOf cX10_costOf 7 (some .long) ∈ GW := gw_t7 (List.mem_of_getElem? (i := 94) rfl) rfl
theorem ml_X10_363 : Cond.methodLink RX10 363 yX10_priceOf ∈ GW := gw_t7 (List.mem_of_getElem? (i := 95) rfl) rfl
theorem im_X10_priceOf : Cond.instanceMethod yX10_priceOf ∈ GW := gw_t7 (List.mem_of_getElem? (i := 97) rfl) rfl
theorem co_X10_priceOf : Cond.code yX10_priceOf cX10_priceOf 2 (some .int) ∈ GW := gw_t7 (List.mem_of_getElem? (i := 98) rfl) rfl
theorem ml_X10_366 : Cond.methodLink RX10 366 yX10_outcome ∈ GW := gw_t7 (List.mem_of_getElem? (i := 99) rfl) rfl
theorem im_X10_outcome : Cond.instanceMethod yX10_outcome ∈ GW := gw_t7 (List.mem_of_getElem? (i := 101) rfl) rfl
theorem co_X10_outcome : Cond.code yX10_outcome cX10_outcome 4 (some .long) ∈ GW := gw_t7 (List.mem_of_getElem? (i := 102) rfl) rfl
theorem ml_X10_357 : Cond.methodLink RX10 357 yX10_harmOf ∈ GW := gw_t7 (List.mem_of_getElem? (i := 103) rfl) rfl
theorem im_X10_harmOf : Cond.instanceMethod yX10_harmOf ∈ GW := gw_t7 (List.mem_of_getElem? (i := 105) rfl) rfl
theorem co_X10_harmOf : Cond.code yX10_harmOf cX10_harmOf 2 (some .int) ∈ GW := gw_t7 (List.mem_of_getElem? (i := 106) rfl) rfl
theorem ml_X10_360 : Cond.methodLink RX10 360 yX10_backOf ∈ GW := gw_t7 (List.mem_of_getElem? (i := 107) rfl) rfl
theorem im_X10_backOf : Cond.instanceMethod yX10_backOf ∈ GW := gw_t7 (List.mem_of_getElem? (i := 109) rfl) rfl
theorem co_X10_backOf : Cond.code yX10_backOf cX10_backOf 2 (some .int) ∈ GW := gw_t7 (List.mem_of_getElem? (i := 110) rfl) rfl
theorem ml_L_72 : Cond.methodLink RL 72 yX10_worth ∈ GW := gw_t7 (List.mem_of_getElem? (i := 111) rfl) rfl
theorem im_X10_worth : Cond.instanceMethod yX10_worth ∈ GW := gw_t7 (List.mem_of_getElem? (i := 112) rfl) rfl
theorem se_X10_worth : Cond.selects RX10 yX10_worth yX10_worth ∈ GW := gw_t7 (List.mem_of_getElem? (i := 113) rfl) rfl
theorem co_X10_worth : Cond.code yX10_worth cX10_worth 4 (some .long) ∈ GW := gw_t7 (List.mem_of_getElem? (i := 114) rfl) rfl
theorem kl_X10_381 : Cond.constantLong RX10 381 (-1000000000000) ∈ GW := gw_t7 (List.mem_of_getElem? (i := 115) rfl) rfl
theorem ml_L_76 : Cond.methodLink RL 76 yX10_best ∈ GW := gw_t7 (List.mem_of_getElem? (i := 116) rfl) rfl
theorem im_X10_best : Cond.instanceMethod yX10_best ∈ GW := gw_t7 (List.mem_of_getElem? (i := 117) rfl) rfl
theorem se_X10_best : Cond.selects RX10 yX10_best yX10_best ∈ GW := gw_t7 (List.mem_of_getElem? (i := 118) rfl) rfl
theorem co_X10_best : Cond.code yX10_best cX10_best 3 (some .int) ∈ GW := gw_t7 (List.mem_of_getElem? (i := 119) rfl) rfl
theorem ml_X10_383 : Cond.methodLink RX10 383 yX10_bestOf ∈ GW := gw_t7 (List.mem_of_getElem? (i := 120) rfl) rfl
theorem im_X10_bestOf : Cond.instanceMethod yX10_bestOf ∈ GW := gw_t7 (List.mem_of_getElem? (i := 122) rfl) rfl
theorem co_X10_bestOf : Cond.code yX10_bestOf cX10_bestOf 9 (some .int) ∈ GW := gw_t7 (List.mem_of_getElem? (i := 123) rfl) rfl
theorem ml_L_80 : Cond.methodLink RL 80 yX10_sure ∈ GW := gw_t7 (List.mem_of_getElem? (i := 124) rfl) rfl
theorem im_X10_sure : Cond.instanceMethod yX10_sure ∈ GW := gw_t7 (List.mem_of_getElem? (i := 125) rfl) rfl
theorem se_X10_sure : Cond.selects RX10 yX10_sure yX10_sure ∈ GW := gw_t7 (List.mem_of_getElem? (i := 126) rfl) rfl
theorem co_X10_sure : Cond.code yX10_sure cX10_sure 4 (some .long) ∈ GW := gw_t7 (List.mem_of_getElem? (i := 127) rfl) rfl
theorem ml_X10_386 : Cond.methodLink RX10 386 yX10_lacking ∈ GW := gw_t7 (List.mem_of_getElem? (i := 128) rfl) rfl
theorem im_X10_lacking : Cond.instanceMethod yX10_lacking ∈ GW := gw_t7 (List.mem_of_getElem? (i := 130) rfl) rfl
theorem co_X10_lacking : Cond.code yX10_lacking cX10_lacking 7 (some .long) ∈ GW := gw_t7 (List.mem_of_getElem? (i := 131) rfl) rfl
theorem ml_L_84 : Cond.methodLink RL 84 yX10_need ∈ GW := gw_t7 (List.mem_of_getElem? (i := 132) rfl) rfl
theorem im_X10_need : Cond.instanceMethod yX10_need ∈ GW := gw_t7 (List.mem_of_getElem? (i := 133) rfl) rfl
theorem se_X10_need : Cond.selects RX10 yX10_need yX10_need ∈ GW := gw_t7 (List.mem_of_getElem? (i := 134) rfl) rfl
theorem co_X10_need : Cond.code yX10_need cX10_need 5 (some .int) ∈ GW := gw_t7 (List.mem_of_getElem? (i := 135) rfl) rfl
theorem ml_L_89 : Cond.methodLink RL 89 yX10_packed ∈ GW := gw_t7 (List.mem_of_getElem? (i := 136) rfl) rfl
theorem im_X10_packed : Cond.instanceMethod yX10_packed ∈ GW := gw_t7 (List.mem_of_getElem? (i := 137) rfl) rfl
theorem se_X10_packed : Cond.selects RX10 yX10_packed yX10_packed ∈ GW := gw_t7 (List.mem_of_getElem? (i := 138) rfl) rfl
theorem co_X10_packed : Cond.code yX10_packed cX10_packed 2 (some .long) ∈ GW := gw_t7 (List.mem_of_getElem? (i := 139) rfl) rfl
theorem ml_X10_389 : Cond.methodLink RX10 389 yX10_packs ∈ GW := gw_t7 (List.mem_of_getElem? (i := 140) rfl) rfl
theorem im_X10_packs : Cond.instanceMethod yX10_packs ∈ GW := gw_t7 (List.mem_of_getElem? (i := 142) rfl) rfl
theorem co_X10_packs : Cond.code yX10_packs cX10_packs 10 none ∈ GW := gw_t7 (List.mem_of_getElem? (i := 143) rfl) rfl
theorem ml_L_93 : Cond.methodLink RL 93 yX10_pack ∈ GW := gw_t7 (List.mem_of_getElem? (i := 144) rfl) rfl
theorem im_X10_pack : Cond.instanceMethod yX10_pack ∈ GW := gw_t7 (List.mem_of_getElem? (i := 145) rfl) rfl
theorem se_X10_pack : Cond.selects RX10 yX10_pack yX10_pack ∈ GW := gw_t7 (List.mem_of_getElem? (i := 146) rfl) rfl
theorem co_X10_pack : Cond.code yX10_pack cX10_pack 6 (some .int) ∈ GW := gw_t7 (List.mem_of_getElem? (i := 147) rfl) rfl
theorem ml_L_97 : Cond.methodLink RL 97 yX10_gap ∈ GW := gw_t7 (List.mem_of_getElem? (i := 148) rfl) rfl
theorem im_X10_gap : Cond.instanceMethod yX10_gap ∈ GW := gw_t7 (List.mem_of_getElem? (i := 149) rfl) rfl
theorem se_X10_gap : Cond.selects RX10 yX10_gap yX10_gap ∈ GW := gw_t7 (List.mem_of_getElem? (i := 150) rfl) rfl
theorem co_X10_gap : Cond.code yX10_gap cX10_gap 5 (some .long) ∈ GW := gw_t7 (List.mem_of_getElem? (i := 151) rfl) rfl
theorem ml_L_101 : Cond.methodLink RL 101 yX10_late ∈ GW := gw_t7 (List.mem_of_getElem? (i := 152) rfl) rfl
theorem im_X10_late : Cond.instanceMethod yX10_late ∈ GW := gw_t7 (List.mem_of_getElem? (i := 153) rfl) rfl
theorem se_X10_late : Cond.selects RX10 yX10_late yX10_late ∈ GW := gw_t7 (List.mem_of_getElem? (i := 154) rfl) rfl
theorem co_X10_late : Cond.code yX10_late cX10_late 3 (some .long) ∈ GW := gw_t7 (List.mem_of_getElem? (i := 155) rfl) rfl
theorem ml_X10_410 : Cond.methodLink RX10 410 yX10_lateOf ∈ GW := gw_t7 (List.mem_of_getElem? (i := 156) rfl) rfl
theorem im_X10_lateOf : Cond.instanceMethod yX10_lateOf ∈ GW := gw_t7 (List.mem_of_getElem? (i := 158) rfl) rfl
theorem co_X10_lateOf : Cond.code yX10_lateOf cX10_lateOf 3 (some .long) ∈ GW := gw_t7 (List.mem_of_getElem? (i := 159) rfl) rfl
theorem ml_X10_407 : Cond.methodLink RX10 407 yX10_comes ∈ GW := gw_t7 (List.mem_of_getElem? (i := 160) rfl) rfl
theorem im_X10_comes : Cond.instanceMethod yX10_comes ∈ GW := gw_t7 (List.mem_of_getElem? (i := 162) rfl) rfl
theorem co_X10_comes : Cond.code yX10_comes cX10_comes 6 none ∈ GW := gw_t7 (List.mem_of_getElem? (i := 163) rfl) rfl
theorem ml_X10_392 : Cond.methodLink RX10 392 yX10_at3 ∈ GW := gw_t7 (List.mem_of_getElem? (i := 164) rfl) rfl
theorem st_X10_at3 : Cond.static yX10_at3 ∈ GW := gw_t7 (List.mem_of_getElem? (i := 165) rfl) rfl
theorem co_X10_at3 : Cond.code yX10_at3 cX10_at3 3 (some .int) ∈ GW := gw_t7 (List.mem_of_getElem? (i := 166) rfl) rfl
theorem ml_X10_403 : Cond.methodLink RX10 403 yX10_fewest ∈ GW := gw_t7 (List.mem_of_getElem? (i := 167) rfl) rfl
theorem im_X10_fewest : Cond.instanceMethod yX10_fewest ∈ GW := gw_t7 (List.mem_of_getElem? (i := 169) rfl) rfl
theorem co_X10_fewest : Cond.code yX10_fewest cX10_fewest 12 (some .int) ∈ GW := gw_t7 (List.mem_of_getElem? (i := 170) rfl) rfl
theorem ml_X10_396 : Cond.methodLink RX10 396 yX10_sends ∈ GW := gw_t7 (List.mem_of_getElem? (i := 171) rfl) rfl
theorem im_X10_sends : Cond.instanceMethod yX10_sends ∈ GW := gw_t7 (List.mem_of_getElem? (i := 173) rfl) rfl
theorem co_X10_sends : Cond.code yX10_sends cX10_sends 15 (some .long) ∈ GW := gw_t7 (List.mem_of_getElem? (i := 174) rfl) rfl
theorem ml_X10_400 : Cond.methodLink RX10 400 yX10_canSend ∈ GW := gw_t7 (List.mem_of_getElem? (i := 175) rfl) rfl
theorem im_X10_canSend : Cond.instanceMethod yX10_canSend ∈ GW := gw_t7 (List.mem_of_getElem? (i := 177) rfl) rfl
theorem co_X10_canSend : Cond.code yX10_canSend cX10_canSend 3 (some .boolean) ∈ GW := gw_t7 (List.mem_of_getElem? (i := 178) rfl) rfl
theorem ml_L_106 : Cond.methodLink RL 106 yX10_today ∈ GW := gw_t7 (List.mem_of_getElem? (i := 179) rfl) rfl
theorem im_X10_today : Cond.instanceMethod yX10_today ∈ GW := gw_t7 (List.mem_of_getElem? (i := 180) rfl) rfl
theorem se_X10_today : Cond.selects RX10 yX10_today yX10_today ∈ GW := gw_t7 (List.mem_of_getElem? (i := 181) rfl) rfl
theorem co_X10_today : Cond.code yX10_today cX10_today 6 (some .int) ∈ GW := gw_t7 (List.mem_of_getElem? (i := 182) rfl) rfl
theorem kl_X10_413 : Cond.constantLong RX10 413 (600) ∈ GW := gw_t7 (List.mem_of_getElem? (i := 183) rfl) rfl
theorem ml_L_110 : Cond.methodLink RL 110 yX10_last ∈ GW := gw_t7 (List.mem_of_getElem? (i := 184) rfl) rfl
theorem im_X10_last : Cond.instanceMethod yX10_last ∈ GW := gw_t7 (List.mem_of_getElem? (i := 185) rfl) rfl
theorem se_X10_last : Cond.selects RX10 yX10_last yX10_last ∈ GW := gw_t7 (List.mem_of_getElem? (i := 186) rfl) rfl
theorem co_X10_last : Cond.code yX10_last cX10_last 7 (some .int) ∈ GW := gw_t7 (List.mem_of_getElem? (i := 187) rfl) rfl
theorem ml_L_114 : Cond.methodLink RL 114 yX10_signs ∈ GW := gw_t7 (List.mem_of_getElem? (i := 188) rfl) rfl
theorem im_X10_signs : Cond.instanceMethod yX10_signs ∈ GW := gw_t7 (List.mem_of_getElem? (i := 189) rfl) rfl
theorem se_X10_signs : Cond.selects RX10 yX10_signs yX10_signs ∈ GW := gw_t7 (List.mem_of_getElem? (i := 190) rfl) rfl
theorem co_X10_signs : Cond.code yX10_signs cX10_signs 8 (some .long) ∈ GW := gw_t7 (List.mem_of_getElem? (i := 191) rfl) rfl
theorem ml_L_118 : Cond.methodLink RL 118 yX10_fork ∈ GW := gw_t7 (List.mem_of_getElem? (i := 192) rfl) rfl
theorem im_X10_fork : Cond.instanceMethod yX10_fork ∈ GW := gw_t7 (List.mem_of_getElem? (i := 193) rfl) rfl
theorem se_X10_fork : Cond.selects RX10 yX10_fork yX10_fork ∈ GW := gw_t7 (List.mem_of_getElem? (i := 194) rfl) rfl
theorem co_X10_fork : Cond.code yX10_fork cX10_fork 5 (some .long) ∈ GW := gw_t7 (List.mem_of_getElem? (i := 195) rfl) rfl
theorem ml_X10_418 : Cond.methodLink RX10 418 yX10_forks ∈ GW := gw_t7 (List.mem_of_getElem? (i := 196) rfl) rfl
theorem im_X10_forks : Cond.instanceMethod yX10_forks ∈ GW := gw_t7 (List.mem_of_getElem? (i := 198) rfl) rfl
theorem co_X10_forks : Cond.code yX10_forks cX10_forks 6 none ∈ GW := gw_t7 (List.mem_of_getElem? (i := 199) rfl) rfl
theorem ml_X10_415 : Cond.methodLink RX10 415 yX10_forkOf ∈ GW := gw_t7 (List.mem_of_getElem? (i := 200) rfl) rfl
theorem im_X10_forkOf : Cond.instanceMethod yX10_forkOf ∈ GW := gw_t7 (List.mem_of_getElem? (i := 202) rfl) rfl
theorem co_X10_forkOf : Cond.code yX10_forkOf cX10_forkOf 6 (some .long) ∈ GW := gw_t7 (List.mem_of_getElem? (i := 203) rfl) rfl
theorem ml_L_122 : Cond.methodLink RL 122 yX10_middle ∈ GW := gw_t7 (List.mem_of_getElem? (i := 204) rfl) rfl
theorem im_X10_middle : Cond.instanceMethod yX10_middle ∈ GW := gw_t7 (List.mem_of_getElem? (i := 205) rfl) rfl
theorem se_X10_middle : Cond.selects RX10 yX10_middle yX10_middle ∈ GW := gw_t7 (List.mem_of_getElem? (i := 206) rfl) rfl
theorem co_X10_middle : Cond.code yX10_middle cX10_middle 4 (some .int) ∈ GW := gw_t7 (List.mem_of_getElem? (i := 207) rfl) rfl
theorem ml_X10_422 : Cond.methodLink RX10 422 yX10_middleOf ∈ GW := gw_t7 (List.mem_of_getElem? (i := 208) rfl) rfl
theorem im_X10_middleOf : Cond.instanceMethod yX10_middleOf ∈ GW := gw_t7 (List.mem_of_getElem? (i := 210) rfl) rfl
theorem co_X10_middleOf : Cond.code yX10_middleOf cX10_middleOf 8 (some .int) ∈ GW := gw_t7 (List.mem_of_getElem? (i := 211) rfl) rfl
theorem ml_L_126 : Cond.methodLink RL 126 yX10_shares ∈ GW := gw_t7 (List.mem_of_getElem? (i := 212) rfl) rfl
theorem im_X10_shares : Cond.instanceMethod yX10_shares ∈ GW := gw_t7 (List.mem_of_getElem? (i := 213) rfl) rfl
theorem se_X10_shares : Cond.selects RX10 yX10_shares yX10_shares ∈ GW := gw_t7 (List.mem_of_getElem? (i := 214) rfl) rfl
theorem co_X10_shares : Cond.code yX10_shares cX10_shares 6 (some .long) ∈ GW := gw_t7 (List.mem_of_getElem? (i := 215) rfl) rfl
theorem ml_L_130 : Cond.methodLink RL 130 yX10_flown ∈ GW := gw_t7 (List.mem_of_getElem? (i := 216) rfl) rfl
theorem im_X10_flown : Cond.instanceMethod yX10_flown ∈ GW := gw_t7 (List.mem_of_getElem? (i := 217) rfl) rfl
theorem se_X10_flown : Cond.selects RX10 yX10_flown yX10_flown ∈ GW := gw_t7 (List.mem_of_getElem? (i := 218) rfl) rfl
theorem co_X10_flown : Cond.code yX10_flown cX10_flown 4 (some .long) ∈ GW := gw_t7 (List.mem_of_getElem? (i := 219) rfl) rfl
theorem ml_X10_432 : Cond.methodLink RX10 432 yX10_flownOf ∈ GW := gw_t7 (List.mem_of_getElem? (i := 220) rfl) rfl
theorem im_X10_flownOf : Cond.instanceMethod yX10_flownOf ∈ GW := gw_t7 (List.mem_of_getElem? (i := 222) rfl) rfl
theorem co_X10_flownOf : Cond.code yX10_flownOf cX10_flownOf 7 (some .long) ∈ GW := gw_t7 (List.mem_of_getElem? (i := 223) rfl) rfl
theorem ml_X10_429 : Cond.methodLink RX10 429 yX10_byPlane ∈ GW := gw_t7 (List.mem_of_getElem? (i := 224) rfl) rfl
theorem im_X10_byPlane : Cond.instanceMethod yX10_byPlane ∈ GW := gw_t7 (List.mem_of_getElem? (i := 226) rfl) rfl
theorem co_X10_byPlane : Cond.code yX10_byPlane cX10_byPlane 5 (some .long) ∈ GW := gw_t7 (List.mem_of_getElem? (i := 227) rfl) rfl
theorem ml_X10_425 : Cond.methodLink RX10 425 yX10_lesser ∈ GW := gw_t7 (List.mem_of_getElem? (i := 228) rfl) rfl
theorem st_X10_lesser : Cond.static yX10_lesser ∈ GW := gw_t7 (List.mem_of_getElem? (i := 229) rfl) rfl
theorem co_X10_lesser : Cond.code yX10_lesser cX10_lesser 4 (some .long) ∈ GW := gw_t7 (List.mem_of_getElem? (i := 230) rfl) rfl
theorem ml_L_134 : Cond.methodLink RL 134 yX10_plane ∈ GW := gw_t7 (List.mem_of_getElem? (i := 231) rfl) rfl
theorem im_X10_plane : Cond.instanceMethod yX10_plane ∈ GW := gw_t7 (List.mem_of_getElem? (i := 232) rfl) rfl
theorem se_X10_plane : Cond.selects RX10 yX10_plane yX10_plane ∈ GW := gw_t7 (List.mem_of_getElem? (i := 233) rfl) rfl
theorem co_X10_plane : Cond.code yX10_plane cX10_plane 9 (some .int) ∈ GW := gw_t7 (List.mem_of_getElem? (i := 234) rfl) rfl
theorem ml_L_138 : Cond.methodLink RL 138 yX10_edge ∈ GW := gw_t7 (List.mem_of_getElem? (i := 235) rfl) rfl
theorem im_X10_edge : Cond.instanceMethod yX10_edge ∈ GW := gw_t7 (List.mem_of_getElem? (i := 236) rfl) rfl
theorem se_X10_edge : Cond.selects RX10 yX10_edge yX10_edge ∈ GW := gw_t7 (List.mem_of_getElem? (i := 237) rfl) rfl
theorem co_X10_edge : Cond.code yX10_edge cX10_edge 3 (some .int) ∈ GW := gw_t7 (List.mem_of_getElem? (i := 238) rfl) rfl
theorem ml_L_142 : Cond.methodLink RL 142 yX10_path ∈ GW := gw_t7 (List.mem_of_getElem? (i := 239) rfl) rfl
theorem im_X10_path : Cond.instanceMethod yX10_path ∈ GW := gw_t8 (List.mem_of_getElem? (i := 0) rfl) rfl
theorem se_X10_path : Cond.selects RX10 yX10_path yX10_path ∈ GW := gw_t8 (List.mem_of_getElem? (i := 1) rfl) rfl
theorem co_X10_path : Cond.code yX10_path cX10_path 10 (some .long) ∈ GW := gw_t8 (List.mem_of_getElem? (i := 2) rfl) rfl
theorem ml_X10_435 : Cond.methodLink RX10 435 yX10_pathOf ∈ GW := gw_t8 (List.mem_of_getElem? (i := 3) rfl) rfl
theorem im_X10_pathOf : Cond.instanceMethod yX10_pathOf ∈ GW := gw_t8 (List.mem_of_getElem? (i := 5) rfl) rfl
theorem co_X10_pathOf : Cond.code yX10_pathOf cX10_pathOf 4 (some .int) ∈ GW := gw_t8 (List.mem_of_getElem? (i := 6) rfl) rfl
theorem ml_X10_438 : Cond.methodLink RX10 438 yX10_fedBy ∈ GW := gw_t8 (List.mem_of_getElem? (i := 7) rfl) rfl
theorem im_X10_fedBy : Cond.instanceMethod yX10_fedBy ∈ GW := gw_t8 (List.mem_of_getElem? (i := 9) rfl) rfl
theorem co_X10_fedBy : Cond.code yX10_fedBy cX10_fedBy 5 (some .int) ∈ GW := gw_t8 (List.mem_of_getElem? (i := 10) rfl) rfl
theorem ml_L_146 : Cond.methodLink RL 146 yX10_fed ∈ GW := gw_t8 (List.mem_of_getElem? (i := 11) rfl) rfl
theorem im_X10_fed : Cond.instanceMethod yX10_fed ∈ GW := gw_t8 (List.mem_of_getElem? (i := 12) rfl) rfl
theorem se_X10_fed : Cond.selects RX10 yX10_fed yX10_fed ∈ GW := gw_t8 (List.mem_of_getElem? (i := 13) rfl) rfl
theorem co_X10_fed : Cond.code yX10_fed cX10_fed 8 (some .int) ∈ GW := gw_t8 (List.mem_of_getElem? (i := 14) rfl) rfl
theorem kl_X10_441 : Cond.constantLong RX10 441 (10000000000) ∈ GW := gw_t8 (List.mem_of_getElem? (i := 15) rfl) rfl
theorem ml_L_151 : Cond.methodLink RL 151 yX10_given ∈ GW := gw_t8 (List.mem_of_getElem? (i := 16) rfl) rfl
theorem im_X10_given : Cond.instanceMethod yX10_given ∈ GW := gw_t8 (List.mem_of_getElem? (i := 17) rfl) rfl
theorem se_X10_given : Cond.selects RX10 yX10_given yX10_given ∈ GW := gw_t8 (List.mem_of_getElem? (i := 18) rfl) rfl
theorem co_X10_given : Cond.code yX10_given cX10_given 6 (some .int) ∈ GW := gw_t8 (List.mem_of_getElem? (i := 19) rfl) rfl
theorem ml_X10_451 : Cond.methodLink RX10 451 yX10_whyNot ∈ GW := gw_t8 (List.mem_of_getElem? (i := 20) rfl) rfl
theorem im_X10_whyNot : Cond.instanceMethod yX10_whyNot ∈ GW := gw_t8 (List.mem_of_getElem? (i := 22) rfl) rfl
theorem co_X10_whyNot : Cond.code yX10_whyNot cX10_whyNot 5 (some .int) ∈ GW := gw_t8 (List.mem_of_getElem? (i := 23) rfl) rfl
theorem kl_X10_446 : Cond.constantLong RX10 446 (99999) ∈ GW := gw_t8 (List.mem_of_getElem? (i := 24) rfl) rfl
theorem ml_X10_448 : Cond.methodLink RX10 448 yX10_isAsking ∈ GW := gw_t8 (List.mem_of_getElem? (i := 25) rfl) rfl
theorem im_X10_isAsking : Cond.instanceMethod yX10_isAsking ∈ GW := gw_t8 (List.mem_of_getElem? (i := 27) rfl) rfl
theorem co_X10_isAsking : Cond.code yX10_isAsking cX10_isAsking 3 (some .boolean) ∈ GW := gw_t8 (List.mem_of_getElem? (i := 28) rfl) rfl
theorem ml_X10_455 : Cond.methodLink RX10 455 yX10_givenBy ∈ GW := gw_t8 (List.mem_of_getElem? (i := 29) rfl) rfl
theorem im_X10_givenBy : Cond.instanceMethod yX10_givenBy ∈ GW := gw_t8 (List.mem_of_getElem? (i := 31) rfl) rfl
theorem co_X10_givenBy : Cond.code yX10_givenBy cX10_givenBy 5 (some .int) ∈ GW := gw_t8 (List.mem_of_getElem? (i := 32) rfl) rfl
theorem ml_X10_443 : Cond.methodLink RX10 443 yX10_askedBy ∈ GW := gw_t8 (List.mem_of_getElem? (i := 33) rfl) rfl
theorem im_X10_askedBy : Cond.instanceMethod yX10_askedBy ∈ GW := gw_t8 (List.mem_of_getElem? (i := 35) rfl) rfl
theorem co_X10_askedBy : Cond.code yX10_askedBy cX10_askedBy 4 (some .int) ∈ GW := gw_t8 (List.mem_of_getElem? (i := 36) rfl) rfl
theorem ml_L_155 : Cond.methodLink RL 155 yX10_asks_ ∈ GW := gw_t8 (List.mem_of_getElem? (i := 37) rfl) rfl
theorem im_X10_asks_ : Cond.instanceMethod yX10_asks_ ∈ GW := gw_t8 (List.mem_of_getElem? (i := 38) rfl) rfl
theorem se_X10_asks_ : Cond.selects RX10 yX10_asks_ yX10_asks_ ∈ GW := gw_t8 (List.mem_of_getElem? (i := 39) rfl) rfl
theorem co_X10_asks_ : Cond.code yX10_asks_ cX10_asks_ 7 (some .int) ∈ GW := gw_t8 (List.mem_of_getElem? (i := 40) rfl) rfl
theorem ml_X10_461 : Cond.methodLink RX10 461 yX10_bestAsk ∈ GW := gw_t8 (List.mem_of_getElem? (i := 41) rfl) rfl
theorem im_X10_bestAsk : Cond.instanceMethod yX10_bestAsk ∈ GW := gw_t8 (List.mem_of_getElem? (i := 43) rfl) rfl
theorem co_X10_bestAsk : Cond.code yX10_bestAsk cX10_bestAsk 11 (some .int) ∈ GW := gw_t8 (List.mem_of_getElem? (i := 44) rfl) rfl
theorem ml_X10_458 : Cond.methodLink RX10 458 yX10_lossOf ∈ GW := gw_t8 (List.mem_of_getElem? (i := 45) rfl) rfl
theorem im_X10_lossOf : Cond.instanceMethod yX10_lossOf ∈ GW := gw_t8 (List.mem_of_getElem? (i := 47) rfl) rfl
theorem co_X10_lossOf : Cond.code yX10_lossOf cX10_lossOf 8 (some .long) ∈ GW := gw_t8 (List.mem_of_getElem? (i := 48) rfl) rfl
theorem ml_L_160 : Cond.methodLink RL 160 yX10_pays ∈ GW := gw_t8 (List.mem_of_getElem? (i := 49) rfl) rfl
theorem im_X10_pays : Cond.instanceMethod yX10_pays ∈ GW := gw_t8 (List.mem_of_getElem? (i := 50) rfl) rfl
theorem se_X10_pays : Cond.selects RX10 yX10_pays yX10_pays ∈ GW := gw_t8 (List.mem_of_getElem? (i := 51) rfl) rfl
theorem co_X10_pays : Cond.code yX10_pays cX10_pays 9 (some .long) ∈ GW := gw_t8 (List.mem_of_getElem? (i := 52) rfl) rfl
theorem ml_L_164 : Cond.methodLink RL 164 yX10_burnt ∈ GW := gw_t8 (List.mem_of_getElem? (i := 53) rfl) rfl
theorem im_X10_burnt : Cond.instanceMethod yX10_burnt ∈ GW := gw_t8 (List.mem_of_getElem? (i := 54) rfl) rfl
theorem se_X10_burnt : Cond.selects RX10 yX10_burnt yX10_burnt ∈ GW := gw_t8 (List.mem_of_getElem? (i := 55) rfl) rfl
theorem co_X10_burnt : Cond.code yX10_burnt cX10_burnt 5 (some .long) ∈ GW := gw_t8 (List.mem_of_getElem? (i := 56) rfl) rfl
theorem ml_X10_464 : Cond.methodLink RX10 464 yX10_areHundredths ∈ GW := gw_t8 (List.mem_of_getElem? (i := 57) rfl) rfl
theorem st_X10_areHundredths : Cond.static yX10_areHundredths ∈ GW := gw_t8 (List.mem_of_getElem? (i := 58) rfl) rfl
theorem co_X10_areHundredths : Cond.code yX10_areHundredths cX10_areHundredths 1 (some .boolean) ∈ GW := gw_t8 (List.mem_of_getElem? (i := 59) rfl) rfl
theorem ml_X10_467 : Cond.methodLink RX10 467 yX10_standing ∈ GW := gw_t8 (List.mem_of_getElem? (i := 60) rfl) rfl
theorem im_X10_standing : Cond.instanceMethod yX10_standing ∈ GW := gw_t8 (List.mem_of_getElem? (i := 62) rfl) rfl
theorem co_X10_standing : Cond.code yX10_standing cX10_standing 5 (some .long) ∈ GW := gw_t8 (List.mem_of_getElem? (i := 63) rfl) rfl
theorem ml_L_168 : Cond.methodLink RL 168 yX10_spread ∈ GW := gw_t8 (List.mem_of_getElem? (i := 64) rfl) rfl
theorem im_X10_spread : Cond.instanceMethod yX10_spread ∈ GW := gw_t8 (List.mem_of_getElem? (i := 65) rfl) rfl
theorem se_X10_spread : Cond.selects RX10 yX10_spread yX10_spread ∈ GW := gw_t8 (List.mem_of_getElem? (i := 66) rfl) rfl
theorem co_X10_spread : Cond.code yX10_spread cX10_spread 5 (some .long) ∈ GW := gw_t8 (List.mem_of_getElem? (i := 67) rfl) rfl
theorem ml_X10_473 : Cond.methodLink RX10 473 yX10_spreadOf ∈ GW := gw_t8 (List.mem_of_getElem? (i := 68) rfl) rfl
theorem im_X10_spreadOf : Cond.instanceMethod yX10_spreadOf ∈ GW := gw_t8 (List.mem_of_getElem? (i := 70) rfl) rfl
theorem co_X10_spreadOf : Cond.code yX10_spreadOf cX10_spreadOf 10 (some .long) ∈ GW := gw_t8 (List.mem_of_getElem? (i := 71) rfl) rfl
theorem kl_X10_471 : Cond.constantLong RX10 471 (10000) ∈ GW := gw_t8 (List.mem_of_getElem? (i := 72) rfl) rfl
theorem ml_L_172 : Cond.methodLink RL 172 yX10_bear ∈ GW := gw_t8 (List.mem_of_getElem? (i := 73) rfl) rfl
theorem im_X10_bear : Cond.instanceMethod yX10_bear ∈ GW := gw_t8 (List.mem_of_getElem? (i := 74) rfl) rfl
theorem se_X10_bear : Cond.selects RX10 yX10_bear yX10_bear ∈ GW := gw_t8 (List.mem_of_getElem? (i := 75) rfl) rfl
theorem co_X10_bear : Cond.code yX10_bear cX10_bear 10 (some .int) ∈ GW := gw_t8 (List.mem_of_getElem? (i := 76) rfl) rfl
theorem ml_L_176 : Cond.methodLink RL 176 yX10_run ∈ GW := gw_t8 (List.mem_of_getElem? (i := 77) rfl) rfl
theorem im_X10_run : Cond.instanceMethod yX10_run ∈ GW := gw_t8 (List.mem_of_getElem? (i := 78) rfl) rfl
theorem se_X10_run : Cond.selects RX10 yX10_run yX10_run ∈ GW := gw_t8 (List.mem_of_getElem? (i := 79) rfl) rfl
theorem co_X10_run : Cond.code yX10_run cX10_run 3 (some .int) ∈ GW := gw_t8 (List.mem_of_getElem? (i := 80) rfl) rfl
theorem ml_X10_492 : Cond.methodLink RX10 492 yX10_isSeed ∈ GW := gw_t8 (List.mem_of_getElem? (i := 81) rfl) rfl
theorem st_X10_isSeed : Cond.static yX10_isSeed ∈ GW := gw_t8 (List.mem_of_getElem? (i := 82) rfl) rfl
theorem co_X10_isSeed : Cond.code yX10_isSeed cX10_isSeed 1 (some .boolean) ∈ GW := gw_t8 (List.mem_of_getElem? (i := 83) rfl) rfl
theorem kl_X10_490 : Cond.constantLong RX10 490 (2000000000) ∈ GW := gw_t8 (List.mem_of_getElem? (i := 84) rfl) rfl
theorem ml_X10_495 : Cond.methodLink RX10 495 yX10_draws ∈ GW := gw_t8 (List.mem_of_getElem? (i := 85) rfl) rfl
theorem im_X10_draws : Cond.instanceMethod yX10_draws ∈ GW := gw_t8 (List.mem_of_getElem? (i := 87) rfl) rfl
theorem co_X10_draws : Cond.code yX10_draws cX10_draws 7 (some .int) ∈ GW := gw_t8 (List.mem_of_getElem? (i := 88) rfl) rfl
theorem ml_X10_487 : Cond.methodLink RX10 487 yX10_drawn ∈ GW := gw_t8 (List.mem_of_getElem? (i := 89) rfl) rfl
theorem im_X10_drawn : Cond.instanceMethod yX10_drawn ∈ GW := gw_t8 (List.mem_of_getElem? (i := 91) rfl) rfl
theorem co_X10_drawn : Cond.code yX10_drawn cX10_drawn 1 (some .int) ∈ GW := gw_t8 (List.mem_of_getElem? (i := 92) rfl) rfl
theorem kl_X10_476 : Cond.constantLong RX10 476 (1103515245) ∈ GW := gw_t8 (List.mem_of_getElem? (i := 93) rfl) rfl
theorem kl_X10_481 : Cond.constantLong RX10 481 (12345) ∈ GW := gw_t8 (List.mem_of_getElem? (i := 94) rfl) rfl
theorem kl_X10_483 : Cond.constantLong RX10 483 (2147483648) ∈ GW := gw_t8 (List.mem_of_getElem? (i := 95) rfl) rfl
theorem kl_X10_485 : Cond.constantLong RX10 485 (65536) ∈ GW := gw_t8 (List.mem_of_getElem? (i := 96) rfl) rfl
theorem ml_X10_499 : Cond.methodLink RX10 499 yX10_tellsYear ∈ GW := gw_t8 (List.mem_of_getElem? (i := 97) rfl) rfl
theorem im_X10_tellsYear : Cond.instanceMethod yX10_tellsYear ∈ GW := gw_t8 (List.mem_of_getElem? (i := 99) rfl) rfl
theorem co_X10_tellsYear : Cond.code yX10_tellsYear cX10_tellsYear 2 none ∈ GW := gw_t8 (List.mem_of_getElem? (i := 100) rfl) rfl
theorem ml_L_180 : Cond.methodLink RL 180 yX10_told ∈ GW := gw_t8 (List.mem_of_getElem? (i := 101) rfl) rfl
theorem im_X10_told : Cond.instanceMethod yX10_told ∈ GW := gw_t8 (List.mem_of_getElem? (i := 102) rfl) rfl
theorem se_X10_told : Cond.selects RX10 yX10_told yX10_told ∈ GW := gw_t8 (List.mem_of_getElem? (i := 103) rfl) rfl
theorem co_X10_told : Cond.code yX10_told cX10_told 5 (some .int) ∈ GW := gw_t8 (List.mem_of_getElem? (i := 104) rfl) rfl
theorem ml_L_184 : Cond.methodLink RL 184 yX10_shut ∈ GW := gw_t8 (List.mem_of_getElem? (i := 105) rfl) rfl
theorem im_X10_shut : Cond.instanceMethod yX10_shut ∈ GW := gw_t8 (List.mem_of_getElem? (i := 106) rfl) rfl
theorem se_X10_shut : Cond.selects RX10 yX10_shut yX10_shut ∈ GW := gw_t8 (List.mem_of_getElem? (i := 107) rfl) rfl
theorem co_X10_shut : Cond.code yX10_shut cX10_shut 2 (some .int) ∈ GW := gw_t8 (List.mem_of_getElem? (i := 108) rfl) rfl
theorem ml_L_188 : Cond.methodLink RL 188 yX10_lacks ∈ GW := gw_t8 (List.mem_of_getElem? (i := 109) rfl) rfl
theorem im_X10_lacks : Cond.instanceMethod yX10_lacks ∈ GW := gw_t8 (List.mem_of_getElem? (i := 110) rfl) rfl
theorem se_X10_lacks : Cond.selects RX10 yX10_lacks yX10_lacks ∈ GW := gw_t8 (List.mem_of_getElem? (i := 111) rfl) rfl
theorem co_X10_lacks : Cond.code yX10_lacks cX10_lacks 6 (some .int) ∈ GW := gw_t8 (List.mem_of_getElem? (i := 112) rfl) rfl
theorem kl_X10_502 : Cond.constantLong RX10 502 (2) ∈ GW := gw_t8 (List.mem_of_getElem? (i := 113) rfl) rfl
theorem ml_X10_504 : Cond.methodLink RX10 504 yX10_above ∈ GW := gw_t8 (List.mem_of_getElem? (i := 114) rfl) rfl
theorem st_X10_above : Cond.static yX10_above ∈ GW := gw_t8 (List.mem_of_getElem? (i := 115) rfl) rfl
theorem co_X10_above : Cond.code yX10_above cX10_above 2 (some .int) ∈ GW := gw_t8 (List.mem_of_getElem? (i := 116) rfl) rfl
theorem ml_X10_507 : Cond.methodLink RX10 507 yX10_firstLack ∈ GW := gw_t8 (List.mem_of_getElem? (i := 117) rfl) rfl
theorem im_X10_firstLack : Cond.instanceMethod yX10_firstLack ∈ GW := gw_t8 (List.mem_of_getElem? (i := 119) rfl) rfl
theorem co_X10_firstLack : Cond.code yX10_firstLack cX10_firstLack 6 (some .int) ∈ GW := gw_t8 (List.mem_of_getElem? (i := 120) rfl) rfl
theorem ml_L_192 : Cond.methodLink RL 192 yX10_judge ∈ GW := gw_t8 (List.mem_of_getElem? (i := 121) rfl) rfl
theorem im_X10_judge : Cond.instanceMethod yX10_judge ∈ GW := gw_t8 (List.mem_of_getElem? (i := 122) rfl) rfl
theorem se_X10_judge : Cond.selects RX10 yX10_judge yX10_judge ∈ GW := gw_t8 (List.mem_of_getElem? (i := 123) rfl) rfl
theorem co_X10_judge : Cond.code yX10_judge cX10_judge 4 (some .int) ∈ GW := gw_t8 (List.mem_of_getElem? (i := 124) rfl) rfl
theorem ml_X10_510 : Cond.methodLink RX10 510 yX10_whyNotJudged ∈ GW := gw_t8 (List.mem_of_getElem? (i := 125) rfl) rfl
theorem im_X10_whyNotJudged : Cond.instanceMethod yX10_whyNotJudged ∈ GW := gw_t8 (List.mem_of_getElem? (i := 127) rfl) rfl
theorem co_X10_whyNotJudged : Cond.code yX10_whyNotJudged cX10_whyNotJudged 3 (some .int) ∈ GW := gw_t8 (List.mem_of_getElem? (i := 128) rfl) rfl
theorem ml_X10_513 : Cond.methodLink RX10 513 yX10_judged ∈ GW := gw_t8 (List.mem_of_getElem? (i := 129) rfl) rfl
theorem im_X10_judged : Cond.instanceMethod yX10_judged ∈ GW := gw_t8 (List.mem_of_getElem? (i := 131) rfl) rfl
theorem co_X10_judged : Cond.code yX10_judged cX10_judged 6 (some .int) ∈ GW := gw_t8 (List.mem_of_getElem? (i := 132) rfl) rfl
theorem ml_L_196 : Cond.methodLink RL 196 yX10_paid ∈ GW := gw_t8 (List.mem_of_getElem? (i := 133) rfl) rfl
theorem im_X10_paid : Cond.instanceMethod yX10_paid ∈ GW := gw_t8 (List.mem_of_getElem? (i := 134) rfl) rfl
theorem se_X10_paid : Cond.selects RX10 yX10_paid yX10_paid ∈ GW := gw_t8 (List.mem_of_getElem? (i := 135) rfl) rfl
theorem co_X10_paid : Cond.code yX10_paid cX10_paid 6 (some .long) ∈ GW := gw_t8 (List.mem_of_getElem? (i := 136) rfl) rfl
theorem ml_L_201 : Cond.methodLink RL 201 yX10_years ∈ GW := gw_t8 (List.mem_of_getElem? (i := 137) rfl) rfl
theorem im_X10_years : Cond.instanceMethod yX10_years ∈ GW := gw_t8 (List.mem_of_getElem? (i := 138) rfl) rfl
theorem se_X10_years : Cond.selects RX10 yX10_years yX10_years ∈ GW := gw_t8 (List.mem_of_getElem? (i := 139) rfl) rfl
theorem co_X10_years : Cond.code yX10_years cX10_years 11 (some .int) ∈ GW := gw_t8 (List.mem_of_getElem? (i := 140) rfl) rfl
theorem ml_L_205 : Cond.methodLink RL 205 yX10_count ∈ GW := gw_t8 (List.mem_of_getElem? (i := 141) rfl) rfl
theorem im_X10_count : Cond.instanceMethod yX10_count ∈ GW := gw_t8 (List.mem_of_getElem? (i := 142) rfl) rfl
theorem se_X10_count : Cond.selects RX10 yX10_count yX10_count ∈ GW := gw_t8 (List.mem_of_getElem? (i := 143) rfl) rfl
theorem co_X10_count : Cond.code yX10_count cX10_count 4 (some .int) ∈ GW := gw_t8 (List.mem_of_getElem? (i := 144) rfl) rfl
theorem ml_L_209 : Cond.methodLink RL 209 yX10_keep ∈ GW := gw_t8 (List.mem_of_getElem? (i := 145) rfl) rfl
theorem im_X10_keep : Cond.instanceMethod yX10_keep ∈ GW := gw_t8 (List.mem_of_getElem? (i := 146) rfl) rfl
theorem se_X10_keep : Cond.selects RX10 yX10_keep yX10_keep ∈ GW := gw_t8 (List.mem_of_getElem? (i := 147) rfl) rfl
theorem co_X10_keep : Cond.code yX10_keep cX10_keep 2 (some .int) ∈ GW := gw_t8 (List.mem_of_getElem? (i := 148) rfl) rfl
theorem ml_X10_516 : Cond.methodLink RX10 516 yX10_copyAll ∈ GW := gw_t8 (List.mem_of_getElem? (i := 149) rfl) rfl
theorem im_X10_copyAll : Cond.instanceMethod yX10_copyAll ∈ GW := gw_t8 (List.mem_of_getElem? (i := 151) rfl) rfl
theorem co_X10_copyAll : Cond.code yX10_copyAll cX10_copyAll 3 none ∈ GW := gw_t8 (List.mem_of_getElem? (i := 152) rfl) rfl
theorem ml_L_213 : Cond.methodLink RL 213 yX10_back ∈ GW := gw_t8 (List.mem_of_getElem? (i := 153) rfl) rfl
theorem im_X10_back : Cond.instanceMethod yX10_back ∈ GW := gw_t8 (List.mem_of_getElem? (i := 154) rfl) rfl
theorem se_X10_back : Cond.selects RX10 yX10_back yX10_back ∈ GW := gw_t8 (List.mem_of_getElem? (i := 155) rfl) rfl
theorem co_X10_back : Cond.code yX10_back cX10_back 2 (some .int) ∈ GW := gw_t8 (List.mem_of_getElem? (i := 156) rfl) rfl
theorem kl_L_218 : Cond.constantLong RL 218 (4294967295) ∈ GW := gw_t8 (List.mem_of_getElem? (i := 157) rfl) rfl
theorem fl_J0_9 : Cond.fieldLink RJ0 9 "java/lang/String" "value" "[B" ∈ GW := gw_t8 (List.mem_of_getElem? (i := 158) rfl) rfl
theorem fl_J0_15 : Cond.fieldLink RJ0 15 "java/lang/String" "coder" "B" ∈ GW := gw_t8 (List.mem_of_getElem? (i := 159) rfl) rfl
theorem se_X9_tapeFour : Cond.selects RX9 yX9_tapeFour yX9_tapeFour ∈ GW := gw_p1 (q := (yX9_tapeFour, 14)) (List.mem_of_getElem? (i := 0) rfl) rfl
theorem se_X4_begin : Cond.selects RX4 yX4_begin yX4_begin ∈ GW := gw_p1 (q := (yX4_begin, 12)) (List.mem_of_getElem? (i := 1) rfl) rfl
theorem se_X4_step : Cond.selects RX4 yX4_step yX4_step ∈ GW := gw_p1 (q := (yX4_step, 12)) (List.mem_of_getElem? (i := 2) rfl) rfl
theorem se_X4_kindAt : Cond.selects RX4 yX4_kindAt yX4_kindAt ∈ GW := gw_p1 (q := (yX4_kindAt, 12)) (List.mem_of_getElem? (i := 3) rfl) rfl
theorem se_X4_signAt : Cond.selects RX4 yX4_signAt yX4_signAt ∈ GW := gw_p1 (q := (yX4_signAt, 12)) (List.mem_of_getElem? (i := 4) rfl) rfl
theorem se_X4_readWinter : Cond.selects RX4 yX4_readWinter yX4_readWinter ∈ GW := gw_p1 (q := (yX4_readWinter, 12)) (List.mem_of_getElem? (i := 5) rfl) rfl
theorem se_X4_takeWord : Cond.selects RX4 yX4_takeWord yX4_takeWord ∈ GW := gw_p1 (q := (yX4_takeWord, 12)) (List.mem_of_getElem? (i := 6) rfl) rfl
theorem se_X4_isWord : Cond.selects RX4 yX4_isWord yX4_isWord ∈ GW := gw_p1 (q := (yX4_isWord, 12)) (List.mem_of_getElem? (i := 7) rfl) rfl
theorem se_X4_refuse : Cond.selects RX4 yX4_refuse yX4_refuse ∈ GW := gw_p1 (q := (yX4_refuse, 12)) (List.mem_of_getElem? (i := 8) rfl) rfl
theorem se_X4_takeNamed : Cond.selects RX4 yX4_takeNamed yX4_takeNamed ∈ GW := gw_p1 (q := (yX4_takeNamed, 12)) (List.mem_of_getElem? (i := 9) rfl) rfl
theorem se_X4_takeNumber : Cond.selects RX4 yX4_takeNumber yX4_takeNumber ∈ GW := gw_p1 (q := (yX4_takeNumber, 12)) (List.mem_of_getElem? (i := 10) rfl) rfl
theorem se_X4_readThing : Cond.selects RX4 yX4_readThing yX4_readThing ∈ GW := gw_p1 (q := (yX4_readThing, 12)) (List.mem_of_getElem? (i := 11) rfl) rfl
theorem se_X4_readValley : Cond.selects RX4 yX4_readValley yX4_readValley ∈ GW := gw_p1 (q := (yX4_readValley, 12)) (List.mem_of_getElem? (i := 12) rfl) rfl
theorem se_X4_readLorry : Cond.selects RX4 yX4_readLorry yX4_readLorry ∈ GW := gw_p1 (q := (yX4_readLorry, 12)) (List.mem_of_getElem? (i := 13) rfl) rfl
theorem se_X4_readPlane : Cond.selects RX4 yX4_readPlane yX4_readPlane ∈ GW := gw_p1 (q := (yX4_readPlane, 12)) (List.mem_of_getElem? (i := 14) rfl) rfl
theorem se_X4_readMule : Cond.selects RX4 yX4_readMule yX4_readMule ∈ GW := gw_p1 (q := (yX4_readMule, 12)) (List.mem_of_getElem? (i := 15) rfl) rfl
theorem se_X4_readPath : Cond.selects RX4 yX4_readPath yX4_readPath ∈ GW := gw_p2 (q := (yX4_readPath, 12)) (List.mem_of_getElem? (i := 0) rfl) rfl
theorem se_X4_takeStop : Cond.selects RX4 yX4_takeStop yX4_takeStop ∈ GW := gw_p2 (q := (yX4_takeStop, 12)) (List.mem_of_getElem? (i := 1) rfl) rfl
theorem se_X5_shutSecond : Cond.selects RX5 yX5_shutSecond yX5_shutSecond ∈ GW := gw_p2 (q := (yX5_shutSecond, 7)) (List.mem_of_getElem? (i := 2) rfl) rfl
theorem se_X5_skyOfTwo : Cond.selects RX5 yX5_skyOfTwo yX5_skyOfTwo ∈ GW := gw_p2 (q := (yX5_skyOfTwo, 7)) (List.mem_of_getElem? (i := 3) rfl) rfl
theorem se_X5_splitBothOpen : Cond.selects RX5 yX5_splitBothOpen yX5_splitBothOpen ∈ GW := gw_p2 (q := (yX5_splitBothOpen, 7)) (List.mem_of_getElem? (i := 4) rfl) rfl
theorem se_X5_splitFrom : Cond.selects RX5 yX5_splitFrom yX5_splitFrom ∈ GW := gw_p2 (q := (yX5_splitFrom, 7)) (List.mem_of_getElem? (i := 5) rfl) rfl
theorem se_X8_forget : Cond.selects RX8 yX8_forget yX8_forget ∈ GW := gw_p2 (q := (yX8_forget, 5)) (List.mem_of_getElem? (i := 6) rfl) rfl
theorem se_X8_gather : Cond.selects RX8 yX8_gather yX8_gather ∈ GW := gw_p2 (q := (yX8_gather, 5)) (List.mem_of_getElem? (i := 7) rfl) rfl
theorem se_X8_sumUp : Cond.selects RX8 yX8_sumUp yX8_sumUp ∈ GW := gw_p2 (q := (yX8_sumUp, 5)) (List.mem_of_getElem? (i := 8) rfl) rfl
theorem se_X8_savingMost : Cond.selects RX8 yX8_savingMost yX8_savingMost ∈ GW := gw_p2 (q := (yX8_savingMost, 5)) (List.mem_of_getElem? (i := 9) rfl) rfl
theorem se_X3_settle : Cond.selects RX3 yX3_settle yX3_settle ∈ GW := gw_p2 (q := (yX3_settle, 10)) (List.mem_of_getElem? (i := 10) rfl) rfl
theorem se_X3_weigh : Cond.selects RX3 yX3_weigh yX3_weigh ∈ GW := gw_p2 (q := (yX3_weigh, 10)) (List.mem_of_getElem? (i := 11) rfl) rfl
theorem se_X3_fewestOf : Cond.selects RX3 yX3_fewestOf yX3_fewestOf ∈ GW := gw_p2 (q := (yX3_fewestOf, 10)) (List.mem_of_getElem? (i := 12) rfl) rfl
theorem se_X9_shareState : Cond.selects RX9 yX9_shareState yX9_shareState ∈ GW := gw_p2 (q := (yX9_shareState, 14)) (List.mem_of_getElem? (i := 13) rfl) rfl
theorem se_X7_byParts : Cond.selects RX7 yX7_byParts yX7_byParts ∈ GW := gw_p2 (q := (yX7_byParts, 1)) (List.mem_of_getElem? (i := 14) rfl) rfl
theorem se_X7_sumUpTo : Cond.selects RX7 yX7_sumUpTo yX7_sumUpTo ∈ GW := gw_p2 (q := (yX7_sumUpTo, 1)) (List.mem_of_getElem? (i := 15) rfl) rfl
theorem se_X7_level : Cond.selects RX7 yX7_level yX7_level ∈ GW := gw_p3 (q := (yX7_level, 1)) (List.mem_of_getElem? (i := 0) rfl) rfl
theorem se_X9_bestAsked : Cond.selects RX9 yX9_bestAsked yX9_bestAsked ∈ GW := gw_p3 (q := (yX9_bestAsked, 14)) (List.mem_of_getElem? (i := 1) rfl) rfl
theorem se_X9_lossIfAsked : Cond.selects RX9 yX9_lossIfAsked yX9_lossIfAsked ∈ GW := gw_p3 (q := (yX9_lossIfAsked, 14)) (List.mem_of_getElem? (i := 2) rfl) rfl
theorem se_X9_costOfHeld : Cond.selects RX9 yX9_costOfHeld yX9_costOfHeld ∈ GW := gw_p3 (q := (yX9_costOfHeld, 14)) (List.mem_of_getElem? (i := 3) rfl) rfl
theorem se_X9_costOfTwoStores : Cond.selects RX9 yX9_costOfTwoStores yX9_costOfTwoStores ∈ GW := gw_p3 (q := (yX9_costOfTwoStores, 14)) (List.mem_of_getElem? (i := 4) rfl) rfl
theorem se_X0_draw : Cond.selects RX0 yX0_draw yX0_draw ∈ GW := gw_p3 (q := (yX0_draw, 1)) (List.mem_of_getElem? (i := 5) rfl) rfl
theorem se_X9_slotsInUse : Cond.selects RX9 yX9_slotsInUse yX9_slotsInUse ∈ GW := gw_p3 (q := (yX9_slotsInUse, 14)) (List.mem_of_getElem? (i := 6) rfl) rfl
theorem se_X10_four : Cond.selects RX10 yX10_four yX10_four ∈ GW := gw_p3 (q := (yX10_four, 43)) (List.mem_of_getElem? (i := 7) rfl) rfl
theorem se_X10_clears : Cond.selects RX10 yX10_clears yX10_clears ∈ GW := gw_p3 (q := (yX10_clears, 43)) (List.mem_of_getElem? (i := 8) rfl) rfl
theorem se_X10_begins : Cond.selects RX10 yX10_begins yX10_begins ∈ GW := gw_p3 (q := (yX10_begins, 43)) (List.mem_of_getElem? (i := 9) rfl) rfl
theorem se_X10_next : Cond.selects RX10 yX10_next yX10_next ∈ GW := gw_p3 (q := (yX10_next, 43)) (List.mem_of_getElem? (i := 10) rfl) rfl
theorem se_X10_isByte : Cond.selects RX10 yX10_isByte yX10_isByte ∈ GW := gw_p3 (q := (yX10_isByte, 43)) (List.mem_of_getElem? (i := 11) rfl) rfl
theorem se_X10_isGood : Cond.selects RX10 yX10_isGood yX10_isGood ∈ GW := gw_p3 (q := (yX10_isGood, 43)) (List.mem_of_getElem? (i := 12) rfl) rfl
theorem se_X10_winterLine : Cond.selects RX10 yX10_winterLine yX10_winterLine ∈ GW := gw_p3 (q := (yX10_winterLine, 43)) (List.mem_of_getElem? (i := 13) rfl) rfl
theorem se_X10_asks : Cond.selects RX10 yX10_asks yX10_asks ∈ GW := gw_p3 (q := (yX10_asks, 43)) (List.mem_of_getElem? (i := 14) rfl) rfl
theorem se_X10_takes : Cond.selects RX10 yX10_takes yX10_takes ∈ GW := gw_p3 (q := (yX10_takes, 43)) (List.mem_of_getElem? (i := 15) rfl) rfl
theorem se_X10_is : Cond.selects RX10 yX10_is yX10_is ∈ GW := gw_p4 (q := (yX10_is, 43)) (List.mem_of_getElem? (i := 0) rfl) rfl
theorem se_X10_fails : Cond.selects RX10 yX10_fails yX10_fails ∈ GW := gw_p4 (q := (yX10_fails, 43)) (List.mem_of_getElem? (i := 1) rfl) rfl
theorem se_X10_number_ : Cond.selects RX10 yX10_number_ yX10_number_ ∈ GW := gw_p4 (q := (yX10_number_, 43)) (List.mem_of_getElem? (i := 2) rfl) rfl
theorem se_X10_number : Cond.selects RX10 yX10_number yX10_number ∈ GW := gw_p4 (q := (yX10_number, 43)) (List.mem_of_getElem? (i := 3) rfl) rfl
theorem se_X10_line : Cond.selects RX10 yX10_line yX10_line ∈ GW := gw_p4 (q := (yX10_line, 43)) (List.mem_of_getElem? (i := 4) rfl) rfl
theorem se_X10_onceLine : Cond.selects RX10 yX10_onceLine yX10_onceLine ∈ GW := gw_p4 (q := (yX10_onceLine, 43)) (List.mem_of_getElem? (i := 5) rfl) rfl
theorem se_X10_thingLine : Cond.selects RX10 yX10_thingLine yX10_thingLine ∈ GW := gw_p4 (q := (yX10_thingLine, 43)) (List.mem_of_getElem? (i := 6) rfl) rfl
theorem se_X10_valleyLine : Cond.selects RX10 yX10_valleyLine yX10_valleyLine ∈ GW := gw_p4 (q := (yX10_valleyLine, 43)) (List.mem_of_getElem? (i := 7) rfl) rfl
theorem se_X10_pathLine : Cond.selects RX10 yX10_pathLine yX10_pathLine ∈ GW := gw_p4 (q := (yX10_pathLine, 43)) (List.mem_of_getElem? (i := 8) rfl) rfl
theorem se_X10_ends : Cond.selects RX10 yX10_ends yX10_ends ∈ GW := gw_p4 (q := (yX10_ends, 43)) (List.mem_of_getElem? (i := 9) rfl) rfl
theorem se_X10_isOver : Cond.selects RX10 yX10_isOver yX10_isOver ∈ GW := gw_p4 (q := (yX10_isOver, 43)) (List.mem_of_getElem? (i := 10) rfl) rfl
theorem se_X10_copyLand : Cond.selects RX10 yX10_copyLand yX10_copyLand ∈ GW := gw_p4 (q := (yX10_copyLand, 43)) (List.mem_of_getElem? (i := 11) rfl) rfl
theorem se_X10_isValley : Cond.selects RX10 yX10_isValley yX10_isValley ∈ GW := gw_p4 (q := (yX10_isValley, 43)) (List.mem_of_getElem? (i := 12) rfl) rfl
theorem se_X10_lastDay : Cond.selects RX10 yX10_lastDay yX10_lastDay ∈ GW := gw_p4 (q := (yX10_lastDay, 43)) (List.mem_of_getElem? (i := 13) rfl) rfl
theorem se_X10_splits : Cond.selects RX10 yX10_splits yX10_splits ∈ GW := gw_p4 (q := (yX10_splits, 43)) (List.mem_of_getElem? (i := 14) rfl) rfl
theorem se_X10_chance : Cond.selects RX10 yX10_chance yX10_chance ∈ GW := gw_p4 (q := (yX10_chance, 43)) (List.mem_of_getElem? (i := 15) rfl) rfl
theorem se_X10_shutOf : Cond.selects RX10 yX10_shutOf yX10_shutOf ∈ GW := gw_p5 (q := (yX10_shutOf, 43)) (List.mem_of_getElem? (i := 0) rfl) rfl
theorem se_X10_isDay : Cond.selects RX10 yX10_isDay yX10_isDay ∈ GW := gw_p5 (q := (yX10_isDay, 43)) (List.mem_of_getElem? (i := 1) rfl) rfl
theorem se_X10_byDay : Cond.selects RX10 yX10_byDay yX10_byDay ∈ GW := gw_p5 (q := (yX10_byDay, 43)) (List.mem_of_getElem? (i := 2) rfl) rfl
theorem se_X10_areTwo : Cond.selects RX10 yX10_areTwo yX10_areTwo ∈ GW := gw_p5 (q := (yX10_areTwo, 43)) (List.mem_of_getElem? (i := 3) rfl) rfl
theorem se_X10_splitsTwo : Cond.selects RX10 yX10_splitsTwo yX10_splitsTwo ∈ GW := gw_p5 (q := (yX10_splitsTwo, 43)) (List.mem_of_getElem? (i := 4) rfl) rfl
theorem se_X10_falls : Cond.selects RX10 yX10_falls yX10_falls ∈ GW := gw_p5 (q := (yX10_falls, 43)) (List.mem_of_getElem? (i := 5) rfl) rfl
theorem se_X10_fallsOther : Cond.selects RX10 yX10_fallsOther yX10_fallsOther ∈ GW := gw_p5 (q := (yX10_fallsOther, 43)) (List.mem_of_getElem? (i := 6) rfl) rfl
theorem se_X10_two : Cond.selects RX10 yX10_two yX10_two ∈ GW := gw_p5 (q := (yX10_two, 43)) (List.mem_of_getElem? (i := 7) rfl) rfl
theorem se_X10_splitsAll : Cond.selects RX10 yX10_splitsAll yX10_splitsAll ∈ GW := gw_p5 (q := (yX10_splitsAll, 43)) (List.mem_of_getElem? (i := 8) rfl) rfl
theorem se_X10_fallsOn : Cond.selects RX10 yX10_fallsOn yX10_fallsOn ∈ GW := gw_p5 (q := (yX10_fallsOn, 43)) (List.mem_of_getElem? (i := 9) rfl) rfl
theorem se_X10_isThing : Cond.selects RX10 yX10_isThing yX10_isThing ∈ GW := gw_p5 (q := (yX10_isThing, 43)) (List.mem_of_getElem? (i := 10) rfl) rfl
theorem se_X10_wantsOf : Cond.selects RX10 yX10_wantsOf yX10_wantsOf ∈ GW := gw_p5 (q := (yX10_wantsOf, 43)) (List.mem_of_getElem? (i := 11) rfl) rfl
theorem se_X10_wantOf : Cond.selects RX10 yX10_wantOf yX10_wantOf ∈ GW := gw_p5 (q := (yX10_wantOf, 43)) (List.mem_of_getElem? (i := 12) rfl) rfl
theorem se_X10_isStore : Cond.selects RX10 yX10_isStore yX10_isStore ∈ GW := gw_p5 (q := (yX10_isStore, 43)) (List.mem_of_getElem? (i := 13) rfl) rfl
theorem se_X10_areSacks : Cond.selects RX10 yX10_areSacks yX10_areSacks ∈ GW := gw_p5 (q := (yX10_areSacks, 43)) (List.mem_of_getElem? (i := 14) rfl) rfl
theorem se_X10_costOf : Cond.selects RX10 yX10_costOf yX10_costOf ∈ GW := gw_p5 (q := (yX10_costOf, 43)) (List.mem_of_getElem? (i := 15) rfl) rfl
theorem se_X10_priceOf : Cond.selects RX10 yX10_priceOf yX10_priceOf ∈ GW := gw_p6 (q := (yX10_priceOf, 43)) (List.mem_of_getElem? (i := 0) rfl) rfl
theorem se_X10_outcome : Cond.selects RX10 yX10_outcome yX10_outcome ∈ GW := gw_p6 (q := (yX10_outcome, 43)) (List.mem_of_getElem? (i := 1) rfl) rfl
theorem se_X10_harmOf : Cond.selects RX10 yX10_harmOf yX10_harmOf ∈ GW := gw_p6 (q := (yX10_harmOf, 43)) (List.mem_of_getElem? (i := 2) rfl) rfl
theorem se_X10_backOf : Cond.selects RX10 yX10_backOf yX10_backOf ∈ GW := gw_p6 (q := (yX10_backOf, 43)) (List.mem_of_getElem? (i := 3) rfl) rfl
theorem se_X10_bestOf : Cond.selects RX10 yX10_bestOf yX10_bestOf ∈ GW := gw_p6 (q := (yX10_bestOf, 43)) (List.mem_of_getElem? (i := 4) rfl) rfl
theorem se_X10_lacking : Cond.selects RX10 yX10_lacking yX10_lacking ∈ GW := gw_p6 (q := (yX10_lacking, 43)) (List.mem_of_getElem? (i := 5) rfl) rfl
theorem se_X10_packs : Cond.selects RX10 yX10_packs yX10_packs ∈ GW := gw_p6 (q := (yX10_packs, 43)) (List.mem_of_getElem? (i := 6) rfl) rfl
theorem se_X10_lateOf : Cond.selects RX10 yX10_lateOf yX10_lateOf ∈ GW := gw_p6 (q := (yX10_lateOf, 43)) (List.mem_of_getElem? (i := 7) rfl) rfl
theorem se_X10_comes : Cond.selects RX10 yX10_comes yX10_comes ∈ GW := gw_p6 (q := (yX10_comes, 43)) (List.mem_of_getElem? (i := 8) rfl) rfl
theorem se_X10_fewest : Cond.selects RX10 yX10_fewest yX10_fewest ∈ GW := gw_p6 (q := (yX10_fewest, 43)) (List.mem_of_getElem? (i := 9) rfl) rfl
theorem se_X10_sends : Cond.selects RX10 yX10_sends yX10_sends ∈ GW := gw_p6 (q := (yX10_sends, 43)) (List.mem_of_getElem? (i := 10) rfl) rfl
theorem se_X10_canSend : Cond.selects RX10 yX10_canSend yX10_canSend ∈ GW := gw_p6 (q := (yX10_canSend, 43)) (List.mem_of_getElem? (i := 11) rfl) rfl
theorem se_X10_forks : Cond.selects RX10 yX10_forks yX10_forks ∈ GW := gw_p6 (q := (yX10_forks, 43)) (List.mem_of_getElem? (i := 12) rfl) rfl
theorem se_X10_forkOf : Cond.selects RX10 yX10_forkOf yX10_forkOf ∈ GW := gw_p6 (q := (yX10_forkOf, 43)) (List.mem_of_getElem? (i := 13) rfl) rfl
theorem se_X10_middleOf : Cond.selects RX10 yX10_middleOf yX10_middleOf ∈ GW := gw_p6 (q := (yX10_middleOf, 43)) (List.mem_of_getElem? (i := 14) rfl) rfl
theorem se_X10_flownOf : Cond.selects RX10 yX10_flownOf yX10_flownOf ∈ GW := gw_p6 (q := (yX10_flownOf, 43)) (List.mem_of_getElem? (i := 15) rfl) rfl
theorem se_X10_byPlane : Cond.selects RX10 yX10_byPlane yX10_byPlane ∈ GW := gw_p7 (q := (yX10_byPlane, 43)) (List.mem_of_getElem? (i := 0) rfl) rfl
theorem se_X10_pathOf : Cond.selects RX10 yX10_pathOf yX10_pathOf ∈ GW := gw_p7 (q := (yX10_pathOf, 43)) (List.mem_of_getElem? (i := 1) rfl) rfl
theorem se_X10_fedBy : Cond.selects RX10 yX10_fedBy yX10_fedBy ∈ GW := gw_p7 (q := (yX10_fedBy, 43)) (List.mem_of_getElem? (i := 2) rfl) rfl
theorem se_X10_whyNot : Cond.selects RX10 yX10_whyNot yX10_whyNot ∈ GW := gw_p7 (q := (yX10_whyNot, 43)) (List.mem_of_getElem? (i := 3) rfl) rfl
theorem se_X10_isAsking : Cond.selects RX10 yX10_isAsking yX10_isAsking ∈ GW := gw_p7 (q := (yX10_isAsking, 43)) (List.mem_of_getElem? (i := 4) rfl) rfl
theorem se_X10_givenBy : Cond.selects RX10 yX10_givenBy yX10_givenBy ∈ GW := gw_p7 (q := (yX10_givenBy, 43)) (List.mem_of_getElem? (i := 5) rfl) rfl
theorem se_X10_askedBy : Cond.selects RX10 yX10_askedBy yX10_askedBy ∈ GW := gw_p7 (q := (yX10_askedBy, 43)) (List.mem_of_getElem? (i := 6) rfl) rfl
theorem se_X10_bestAsk : Cond.selects RX10 yX10_bestAsk yX10_bestAsk ∈ GW := gw_p7 (q := (yX10_bestAsk, 43)) (List.mem_of_getElem? (i := 7) rfl) rfl
theorem se_X10_lossOf : Cond.selects RX10 yX10_lossOf yX10_lossOf ∈ GW := gw_p7 (q := (yX10_lossOf, 43)) (List.mem_of_getElem? (i := 8) rfl) rfl
theorem se_X10_standing : Cond.selects RX10 yX10_standing yX10_standing ∈ GW := gw_p7 (q := (yX10_standing, 43)) (List.mem_of_getElem? (i := 9) rfl) rfl
theorem se_X10_spreadOf : Cond.selects RX10 yX10_spreadOf yX10_spreadOf ∈ GW := gw_p7 (q := (yX10_spreadOf, 43)) (List.mem_of_getElem? (i := 10) rfl) rfl
theorem se_X10_draws : Cond.selects RX10 yX10_draws yX10_draws ∈ GW := gw_p7 (q := (yX10_draws, 43)) (List.mem_of_getElem? (i := 11) rfl) rfl
theorem se_X10_drawn : Cond.selects RX10 yX10_drawn yX10_drawn ∈ GW := gw_p7 (q := (yX10_drawn, 43)) (List.mem_of_getElem? (i := 12) rfl) rfl
theorem se_X10_tellsYear : Cond.selects RX10 yX10_tellsYear yX10_tellsYear ∈ GW := gw_p7 (q := (yX10_tellsYear, 43)) (List.mem_of_getElem? (i := 13) rfl) rfl
theorem se_X10_firstLack : Cond.selects RX10 yX10_firstLack yX10_firstLack ∈ GW := gw_p7 (q := (yX10_firstLack, 43)) (List.mem_of_getElem? (i := 14) rfl) rfl
theorem se_X10_whyNotJudged : Cond.selects RX10 yX10_whyNotJudged yX10_whyNotJudged ∈ GW := gw_p7 (q := (yX10_whyNotJudged, 43)) (List.mem_of_getElem? (i := 15) rfl) rfl
theorem se_X10_judged : Cond.selects RX10 yX10_judged yX10_judged ∈ GW := gw_p8 (q := (yX10_judged, 43)) (List.mem_of_getElem? (i := 0) rfl) rfl
theorem se_X10_copyAll : Cond.selects RX10 yX10_copyAll yX10_copyAll ∈ GW := gw_p8 (q := (yX10_copyAll, 43)) (List.mem_of_getElem? (i := 1) rfl) rfl
theorem lay_X0 : ∀ w ∈ wsX00, w ∈ GW := by
  intro w hw
  obtain ⟨k, hk, rfl⟩ := List.mem_map.mp hw
  have hk := List.mem_range.mp hk
  match k, hk with
  | 0, _ => exact ly_X0_x
  | j + 1, h => exact absurd h (by omega)
theorem lay_X1 : ∀ w ∈ wsX10, w ∈ GW := by
  intro w hw
  obtain ⟨k, hk, rfl⟩ := List.mem_map.mp hw
  have hk := List.mem_range.mp hk
  match k, hk with
  | 0, _ => exact ly_X1_land
  | 1, _ => exact ly_X1_year
  | j + 2, h => exact absurd h (by omega)
theorem lay_X2 : ∀ w ∈ wsX20, w ∈ GW := by
  intro w hw
  obtain ⟨k, hk, rfl⟩ := List.mem_map.mp hw
  have hk := List.mem_range.mp hk
  match k, hk with
  | 0, _ => exact ly_X2_lines
  | 1, _ => exact ly_X2_days
  | 2, _ => exact ly_X2_first
  | 3, _ => exact ly_X2_snow
  | 4, _ => exact ly_X2_clear
  | 5, _ => exact ly_X2_things
  | 6, _ => exact ly_X2_valleys
  | 7, _ => exact ly_X2_paths
  | 8, _ => exact ly_X2_lorries
  | 9, _ => exact ly_X2_load
  | 10, _ => exact ly_X2_fare
  | 11, _ => exact ly_X2_planeLoad
  | 12, _ => exact ly_X2_planeFare
  | 13, _ => exact ly_X2_mule
  | 14, _ => exact ly_X2_price
  | 15, _ => exact ly_X2_harm
  | 16, _ => exact ly_X2_returning
  | 17, _ => exact ly_X2_closing
  | 18, _ => exact ly_X2_room
  | 19, _ => exact ly_X2_eats
  | 20, _ => exact ly_X2_pathDays
  | j + 21, h => exact absurd h (by omega)
theorem lay_X3 : ∀ w ∈ wsX30, w ∈ GW := by
  intro w hw
  obtain ⟨k, hk, rfl⟩ := List.mem_map.mp hw
  have hk := List.mem_range.mp hk
  match k, hk with
  | 0, _ => exact ly_X3_snowy
  | 1, _ => exact ly_X3_clear
  | 2, _ => exact ly_X3_lastSent
  | 3, _ => exact ly_X3_land
  | 4, _ => exact ly_X3_valley
  | 5, _ => exact ly_X3_thing
  | 6, _ => exact ly_X3_lying
  | 7, _ => exact ly_X3_fullest
  | 8, _ => exact ly_X3_load
  | 9, _ => exact ly_X3_fare
  | j + 10, h => exact absurd h (by omega)
theorem lay_X4 : ∀ w ∈ wsX40, w ∈ GW := by
  intro w hw
  obtain ⟨k, hk, rfl⟩ := List.mem_map.mp hw
  have hk := List.mem_range.mp hk
  match k, hk with
  | 0, _ => exact ly_X4_fault
  | 1, _ => exact ly_X4_faultPlace
  | 2, _ => exact ly_X4_tape
  | 3, _ => exact ly_X4_length
  | 4, _ => exact ly_X4_kind
  | 5, _ => exact ly_X4_start
  | 6, _ => exact ly_X4_stop
  | 7, _ => exact ly_X4_number
  | 8, _ => exact ly_X4_land
  | 9, _ => exact ly_X4_lorryTold
  | 10, _ => exact ly_X4_planeTold
  | 11, _ => exact ly_X4_muleTold
  | j + 12, h => exact absurd h (by omega)
theorem lay_X5 : ∀ w ∈ wsX50, w ∈ GW := by
  intro w hw
  obtain ⟨k, hk, rfl⟩ := List.mem_map.mp hw
  have hk := List.mem_range.mp hk
  match k, hk with
  | 0, _ => exact ly_X5_one
  | 1, _ => exact ly_X5_two
  | 2, _ => exact ly_X5_snowyTwo
  | 3, _ => exact ly_X5_clearTwo
  | 4, _ => exact ly_X5_snowyAll
  | 5, _ => exact ly_X5_clearAll
  | 6, _ => exact ly_X5_splitAll
  | j + 7, h => exact absurd h (by omega)
theorem lay_X6 : ∀ w ∈ wsX60, w ∈ GW := by
  intro w hw
  obtain ⟨k, hk, rfl⟩ := List.mem_map.mp hw
  have hk := List.mem_range.mp hk
  match k, hk with
  | 0, _ => exact ly_X6_width
  | 1, _ => exact ly_X6_numbers
  | j + 2, h => exact absurd h (by omega)
theorem lay_X7 : ∀ w ∈ wsX70, w ∈ GW := by
  intro w hw
  obtain ⟨k, hk, rfl⟩ := List.mem_map.mp hw
  have hk := List.mem_range.mp hk
  match k, hk with
  | 0, _ => exact ly_X7_asked
  | j + 1, h => exact absurd h (by omega)
theorem lay_X8 : ∀ w ∈ wsX80, w ∈ GW := by
  intro w hw
  obtain ⟨k, hk, rfl⟩ := List.mem_map.mp hw
  have hk := List.mem_range.mp hk
  match k, hk with
  | 0, _ => exact ly_X8_roads
  | 1, _ => exact ly_X8_parts
  | 2, _ => exact ly_X8_wantedMost
  | 3, _ => exact ly_X8_wholes
  | 4, _ => exact ly_X8_packing
  | j + 5, h => exact absurd h (by omega)
theorem lay_X9 : ∀ w ∈ wsX90, w ∈ GW := by
  intro w hw
  obtain ⟨k, hk, rfl⟩ := List.mem_map.mp hw
  have hk := List.mem_range.mp hk
  match k, hk with
  | 0, _ => exact ly_X9_tape
  | 1, _ => exact ly_X9_reader
  | 2, _ => exact ly_X9_stores
  | 3, _ => exact ly_X9_planner
  | 4, _ => exact ly_X9_sharing
  | 5, _ => exact ly_X9_dice
  | 6, _ => exact ly_X9_drawn
  | 7, _ => exact ly_X9_slots
  | 8, _ => exact ly_X9_images
  | 9, _ => exact ly_X9_taped
  | 10, _ => exact ly_X9_land
  | 11, _ => exact ly_X9_year
  | 12, _ => exact ly_X9_faultKind
  | 13, _ => exact ly_X9_faultPlace
  | j + 14, h => exact absurd h (by omega)
theorem lay_X10 : ∀ w ∈ wsX100, w ∈ GW := by
  intro w hw
  obtain ⟨k, hk, rfl⟩ := List.mem_map.mp hw
  have hk := List.mem_range.mp hk
  match k, hk with
  | 0, _ => exact ly_X10_thrown
  | 1, _ => exact ly_X10_width
  | 2, _ => exact ly_X10_many
  | 3, _ => exact ly_X10_cells
  | 4, _ => exact ly_X10_moved
  | 5, _ => exact ly_X10_tape
  | 6, _ => exact ly_X10_taped
  | 7, _ => exact ly_X10_at
  | 8, _ => exact ly_X10_token
  | 9, _ => exact ly_X10_place
  | 10, _ => exact ly_X10_value
  | 11, _ => exact ly_X10_word
  | 12, _ => exact ly_X10_bad
  | 13, _ => exact ly_X10_badPlace
  | 14, _ => exact ly_X10_fault
  | 15, _ => exact ly_X10_faultPlace
  | 16, _ => exact ly_X10_lines
  | 17, _ => exact ly_X10_winter
  | 18, _ => exact ly_X10_things
  | 19, _ => exact ly_X10_thing
  | 20, _ => exact ly_X10_valleys
  | 21, _ => exact ly_X10_valley
  | 22, _ => exact ly_X10_paths
  | 23, _ => exact ly_X10_path
  | 24, _ => exact ly_X10_set
  | 25, _ => exact ly_X10_once
  | 26, _ => exact ly_X10_hasYear
  | 27, _ => exact ly_X10_year
  | 28, _ => exact ly_X10_isKept
  | 29, _ => exact ly_X10_shutOn
  | 30, _ => exact ly_X10_twoSnow
  | 31, _ => exact ly_X10_twoClear
  | 32, _ => exact ly_X10_snowing
  | 33, _ => exact ly_X10_setSnow
  | 34, _ => exact ly_X10_setClear
  | 35, _ => exact ly_X10_split
  | 36, _ => exact ly_X10_costs
  | 37, _ => exact ly_X10_leastFrom
  | 38, _ => exact ly_X10_toCome
  | 39, _ => exact ly_X10_byWants
  | 40, _ => exact ly_X10_asked
  | 41, _ => exact ly_X10_drawnYear
  | 42, _ => exact ly_X10_x
  | j + 43, h => exact absurd h (by omega)
end
section
/-! ===== base: one list of words for all methods; contracts over heaps; pure calls; framed calls ===== -/
theorem wsG : ∀ w ∈ GW, goodWord w = true := gw_good
theorem goodG {y : MethodName} {cc : ByteArray} {maxL : Nat} {ret : Option FieldType} (h : Cond.code y cc maxL ret ∈ GW) : GoodIn GW (Cond.code y cc maxL ret :: GW) := by
  intro w hw
  rcases List.mem_cons.mp hw with rfl | h2
  · exact ⟨h, good_of_word (wsG _ h)⟩
  · exact ⟨h2, good_of_word (wsG _ h2)⟩
/-- the array classes: bytes, ints, longs, booleans, rows, images -/
def tyL (cy : Nat → ClassId) : List (ClassId × FieldType) := [(cy 0, .byte), (cy 1, .int), (cy 2, .long), (cy 3, .boolean), (cy 4, .object RX6), (cy 5, .object RX1)]
def nwL : List (String × Nat × MethodName) := [(RX9, 15, yX4_init), (RX4, 21, yX2_init), (RX9, 22, yX8_init), (RX8, 11, yX5_init), (RX9, 29, yX3_init), (RX3, 24, yX2_init), (RX9, 36, yX7_init), (RX9, 43, yX0_init), (RX9, 66, yX2_init)]
/-- what a state says of classes and of links between nest mates -/
def KK (D : va_G) (cy : Nat → ClassId) (U : State) : Prop := va_K D vwCl (tyL cy) U ∧ (∀ q ∈ nwL, va_Nw (.methodLinkNest q.1 q.2.1 q.2.2 "RoadShut") U) ∧ va_AO RX6 U ∧ va_AO RX1 U
theorem KK.moved {D : va_G} {cy : Nat → ClassId} {s U : State} (hW : s.WarmedH U.vm) (h : KK D cy s) : KK D cy U :=
  ⟨va_K.moved hW.alike h.1, fun q hq => va_Nw.warmM hW (h.2.1 q hq), h.2.2.1.moved hW.alike, h.2.2.2.moved hW.alike⟩
theorem KK.blind {D : va_G} {cy : Nat → ClassId} {U : State} {g : JFrame} {mk : MethodId} {a : Array Value} (h : KK D cy U) : KK D cy (U.calling g mk a) :=
  ⟨va_K.moved (u := U) (U := U.calling g mk a) (Vm.Alike.refl U.vm) h.1, fun q hq => va_Nw.same rfl (rfl : U.vm = (U.calling g mk a).vm) (h.2.1 q hq), va_AO.moved (u := U) (U := U.calling g mk a) (Vm.Alike.refl U.vm) h.2.2.1, va_AO.moved (u := U) (U := U.calling g mk a) (Vm.Alike.refl U.vm) h.2.2.2⟩
abbrev RM (d mc ms : Nat) : Room := { frames := d, cells := mc, slots := ms, locals := 100 * d }
abbrev PP (av : List Value) (P : Heap → Prop) (D : va_G) (cy : Nat → ClassId) : Array Value → State → Prop := fun v U => v = av.toArray ∧ P U.heap ∧ KK D cy U
def QQ (Q : Heap → Option Value → Heap → Prop) : Array Value → State → Outcome → State → Prop := fun _ st o t => ∃ v, o = .returned v ∧ Q st.heap v t.heap
theorem PP.blind {av : List Value} {P : Heap → Prop} {D : va_G} {cy : Nat → ClassId} : FrameBlind (PP av P D cy) := fun _ _ _ _ h => ⟨h.1, h.2.1, h.2.2.blind⟩
/-- a contract: from heaps with P, at these arguments, to heaps with Q -/
def MM (l : Launch) (y : MethodName) (cc : ByteArray) (maxL : Nat) (ret : Option FieldType) (d mc ms : Nat) (D : va_G) (cy : Nat → ClassId) (av : List Value) (P : Heap → Prop) (Q : Heap → Option Value → Heap → Prop) (free : Addr → Prop) : Prop :=
  Met l y (Cond.code y cc maxL ret :: GW) (RM d mc ms) (PP av P D cy) (QQ Q) mc ms free
/-- what a body knows of its method -/
def CX (p : Program) (s : State) (m : MethodId) (meth : Method) (c : Code) (y : MethodName) (cc : ByteArray) (maxL : Nat) (ret : Option FieldType) (av : List Value) (D : va_G) (cy : Nat → ClassId) : Prop :=
  p.tables.exec = Jvm.exec ∧ c.code = cc ∧ meth.sig.returnType = ret ∧ c.maxLocals = maxL ∧ s.vm.findClass y.cls = some m.cls ∧ (∀ w ∈ GW, w.before av.toArray s = true) ∧ meth.locks = false ∧ KK D cy s ∧ meth.name = y.name
theorem MM.of {l : Launch} {y : MethodName} {cc : ByteArray} {maxL : Nat} {ret : Option FieldType} {d mc ms : Nat} {D : va_G} {cy : Nat → ClassId} {av : List Value} {P : Heap → Prop} {Q : Heap → Option Value → Heap → Prop} {free : Addr → Prop} (hy : plainName y.cls = true) (hlen : (lg_sl av).length ≤ maxL)
    (body : ∀ (p : Program) (e : Env) (s : State) (m : MethodId) (below : List Frame) (meth : Method) (c : Code), CX p s m meth c y cc maxL ret av D cy → P s.heap → ∀ ls : Array Slot, lv_has ls maxL (lv_args 0 av) → W p l e (RM d mc ms) s m av.toArray below meth c s.heap [] 0 0 (MQ below (QQ Q) av.toArray s mc ms free) (F0 m 0 ls [])) : MM l y cc maxL ret d mc ms D cy av P Q free := by
  refine Met.ofW (cc := cc) (maxL := maxL) (ret := ret) hy rfl ?_
  intro p e s m args below meth c s₁ B hml hv
  obtain ⟨rfl, hP, hK⟩ := hv
  have hts := atoms_spec (ws := Cond.code y cc maxL ret :: GW) B.pre
  have hl := lv_entry av (n := maxL) hlen
  rw [lg_entry_eq]
  exact body p e s m below meth c ⟨B.exec, B.bytes, B.returns, hml, findClass_of_methodNamed B.named, fun w h => hts w (List.mem_cons_of_mem _ h), B.notSynchronized, hK, (name_of_methodNamed B.named B.method).1⟩ hP _ hl
def noF : Addr → Prop := fun _ => False
/-- a pure method: the heap stays -/
def Pu (post : Option Value → Prop) : Heap → Option Value → Heap → Prop := fun H v H1 => H1 = H ∧ post v
abbrev PuI (R : Int32 → Prop) : Heap → Option Value → Heap → Prop := Pu (fun v => ∃ r : Int32, v = some (.int r) ∧ R r)
abbrev PuL (R : Int64 → Prop) : Heap → Option Value → Heap → Prop := Pu (fun v => ∃ r : Int64, v = some (.long r) ∧ R r)
/-- a method that changes cells of its world alone -/
def QW (D : va_G) (A : Nat → Prop) {S : Type} (post : Option Value → S → Prop) (w1 : S → va_W) : Heap → Option Value → Heap → Prop := fun H v H1 => (H.size ≤ H1.size ∧ ∀ q : Nat, q < H.size → ¬ A q → H1[q]? = H[q]?) ∧ ∃ u : S, post v u ∧ va_P D vwCl (w1 u) H1 ∧ va_D A (w1 u)
def PW (D : va_G) (wc : va_W) (sz : Nat) : Heap → Prop := fun H => H.size = sz ∧ va_P D vwCl wc H ∧ va_D (fun _ => True) wc
section BASE
variable {p : Program} {l : Launch} {e : Env} {R : Room} {s : State} {m : MethodId} {args : Array Value} {below : List Frame} {meth : Method} {c : Code} {H : Heap} {locs : List Loc} {cells slots : Nat} {Qf : State → Prop}
variable {cc : ByteArray} {pc : Nat} {ls : Array Slot} {rest st0 : List Value} {D : va_G} {cy : Nat → ClassId} {A : Nat → Prop} {a : Nat} {ws : va_W} {H0 : Heap} {mc ms : Nat} {free : Addr → Prop} {Q : Heap → Option Value → Heap → Prop}
theorem ret_i {v : Int32} (hx : p.tables.exec = Jvm.exec) (hb : c.code = cc) (hr : meth.sig.returnType = some .int) (hlocks : meth.locks = false) (hq : Q s.heap (some (.int v)) H) (hf : ∀ q ∈ locs, free q.base) (hc : cells ≤ mc) (hs : slots ≤ ms) (hdg : decode cc pc = .ok (.ireturn, 1)) : W p l e R s m args below meth c H locs cells slots (MQ below (QQ Q) args s mc ms free) (F0 m pc ls [.int v]) :=
  W.widen hc hs (W.iret hx hb hr (fun t ht _ => ⟨_, rfl, by rw [ht]; exact hq⟩) hf hdg hlocks)
theorem ret_z {v : Int32} {ty : FieldType} (hx : p.tables.exec = Jvm.exec) (hb : c.code = cc) (hr : meth.sig.returnType = some ty) (hn : narrow ty (.int v) = .int v) (hlocks : meth.locks = false) (hq : Q s.heap (some (.int v)) H) (hf : ∀ q ∈ locs, free q.base) (hc : cells ≤ mc) (hs : slots ≤ ms) (hdg : decode cc pc = .ok (.ireturn, 1)) : W p l e R s m args below meth c H locs cells slots (MQ below (QQ Q) args s mc ms free) (F0 m pc ls [.int v]) :=
  W.widen hc hs (W.zret hx hb hr hn (fun t ht _ => ⟨_, rfl, by rw [ht]; exact hq⟩) hf hdg hlocks)
theorem ret_l {v : Int64} (hx : p.tables.exec = Jvm.exec) (hb : c.code = cc) (hr : meth.sig.returnType = some .long) (hlocks : meth.locks = false) (hq : Q s.heap (some (.long v)) H) (hf : ∀ q ∈ locs, free q.base) (hc : cells ≤ mc) (hs : slots ≤ ms) (hdg : decode cc pc = .ok (.lreturn, 1)) : W p l e R s m args below meth c H locs cells slots (MQ below (QQ Q) args s mc ms free) (F0 m pc ls [.long v]) :=
  W.widen hc hs (W.lret hx hb hr (fun t ht _ => ⟨_, rfl, by rw [ht]; exact hq⟩) hf hdg hlocks)
theorem ret_v (hx : p.tables.exec = Jvm.exec) (hb : c.code = cc) (hr : meth.sig.returnType = none) (hlocks : meth.locks = false) (hq : Q s.heap none H) (hf : ∀ q ∈ locs, free q.base) (hc : cells ≤ mc) (hs : slots ≤ ms) (hdg : decode cc pc = .ok (.return_, 1)) : W p l e R s m args below meth c H locs cells slots (MQ below (QQ Q) args s mc ms free) (F0 m pc ls []) :=
  W.widen hc hs (W.vret hx hb hr (fun t ht _ => ⟨_, rfl, by rw [ht]; exact hq⟩) hf hdg hlocks)
theorem ret_a {v : Value} {rt : FieldType} (hx : p.tables.exec = Jvm.exec) (hb : c.code = cc) (hr : meth.sig.returnType = some rt) (hrt : (∃ n, rt = .object n) ∨ ∃ t, rt = .array t) (hv : v = .null ∨ ∃ a, v = .ref a) (hlocks : meth.locks = false) (hq : Q s.heap (some v) H) (hf : ∀ q ∈ locs, free q.base) (hc : cells ≤ mc) (hs : slots ≤ ms) (hdg : decode cc pc = .ok (.areturn, 1)) : W p l e R s m args below meth c H locs cells slots (MQ below (QQ Q) args s mc ms free) (F0 m pc ls [v]) :=
  W.widen hc hs (W.aret hx hb hr hrt hv (fun t ht _ => ⟨_, rfl, by rw [ht]; exact hq⟩) hf hdg hlocks)
theorem go_call {av : Array Value} (hr : va_Run p l e R s m args below meth c H locs cells slots mc ms (F0 m pc ls st0) rest (QQ Q av) free)
    (kk : ∀ (v : Option Value) (H1 : Heap) (L : List Loc), Q H v H1 → (∀ q ∈ L, free q.base) → W p l e R s m args below meth c H1 (locs ++ L) (cells + mc) (slots + ms) Qf (F0 m (pc + 3) ls (v.toList ++ rest))) : W p l e R s m args below meth c H locs cells slots Qf (F0 m pc ls st0) := by
  intro T hT X
  obtain ⟨v, st₀, t, T', L, h0, X', hL, e1, e2, ⟨v', hv, hq⟩, st⟩ := hr T hT X
  cases hv
  rw [h0, ← e1] at hq
  obtain ⟨t2, a1, b1⟩ := kk v T'.heap L hq hL T' rfl X'
  exact ⟨t2, st t2 a1, b1⟩
theorem pu_call {av : Array Value} {post : Option Value → Prop} (hr : va_Run p l e R s m args below meth c H locs cells slots 0 0 (F0 m pc ls st0) rest (QQ (Pu post) av) noF)
    (kk : ∀ v : Option Value, post v → W p l e R s m args below meth c H locs cells slots Qf (F0 m (pc + 3) ls (v.toList ++ rest))) : W p l e R s m args below meth c H locs cells slots Qf (F0 m pc ls st0) := by
  refine go_call hr (fun v H1 L hq hL => ?_)
  obtain ⟨rfl, hp⟩ := hq
  cases L with
  | nil => rw [List.append_nil]; exact kk v hp
  | cons q L => exact (hL q List.mem_cons_self).elim
theorem pu_calli {av : Array Value} {post : Int32 → Prop} (hr : va_Run p l e R s m args below meth c H locs cells slots 0 0 (F0 m pc ls st0) rest (QQ (PuI post) av) noF)
    (kk : ∀ r : Int32, post r → W p l e R s m args below meth c H locs cells slots Qf (F0 m (pc + 3) ls (.int r :: rest))) : W p l e R s m args below meth c H locs cells slots Qf (F0 m pc ls st0) := by
  refine pu_call hr (fun v hv => ?_)
  obtain ⟨r, rfl, h⟩ := hv
  exact kk r h
theorem pu_calll {av : Array Value} {post : Int64 → Prop} (hr : va_Run p l e R s m args below meth c H locs cells slots 0 0 (F0 m pc ls st0) rest (QQ (PuL post) av) noF)
    (kk : ∀ r : Int64, post r → W p l e R s m args below meth c H locs cells slots Qf (F0 m (pc + 3) ls (.long r :: rest))) : W p l e R s m args below meth c H locs cells slots Qf (F0 m pc ls st0) := by
  refine pu_call hr (fun v hv => ?_)
  obtain ⟨r, rfl, h⟩ := hv
  exact kk r h
/-- behind a call that changes its own world: the rest of the caller's cells, and what came back -/
theorem fw_call {av : Array Value} {S : Type} {post : Option Value → S → Prop} {w1 : S → va_W} {wc wr : va_W} (hr : va_Run p l e R s m args below meth c H locs cells slots mc ms (F0 m pc ls st0) rest (QQ (QW D (va_A wc H.size) post w1) av) (va_A wc H.size))
    (hP : va_P D vwCl ws H) (hD : va_D A ws) (hS : va_S A H0 H locs) (hA : ∀ q, H0.size ≤ q → A q) (isC isR : List Nat) (hC : isC.map (fun i => ws[i]?) = wc.map some) (hR : isR.map (fun i => ws[i]?) = wr.map some) (hn : va_nd isR = true) (hdis : ∀ i ∈ isR, i ∉ isC)
    (kk : ∀ (v : Option Value) (u : S) (H1 : Heap) (locs1 : List Loc), post v u → va_P D vwCl (wr ++ w1 u) H1 → va_D A (wr ++ w1 u) → va_S A H0 H1 locs1 → W p l e R s m args below meth c H1 locs1 (cells + mc) (slots + ms) Qf (F0 m (pc + 3) ls (v.toList ++ rest))) : W p l e R s m args below meth c H locs cells slots Qf (F0 m pc ls st0) := by
  refine go_call hr (fun v H1 L hq hL => ?_)
  obtain ⟨⟨hz, hk⟩, u, hp, hP1, hD1⟩ := hq
  have hF := va_free (wc := wc) hD hS hA isC hC
  obtain ⟨hP2, hD2⟩ := va_join (wr := wr) (w1 := w1 u) hP hD isC isR hC hR hn hdis hk hF hP1 hD1
  refine kk v u H1 (locs ++ L) hp hP2 hD2 ⟨Nat.le_trans hS.1 hz, fun q h1 h2 => ?_, fun q hq => ?_⟩
  · rw [hk q (Nat.lt_of_lt_of_le h1 hS.1) (fun z => h2 (hF q z))]
    exact hS.2.1 q h1 h2
  · rcases List.mem_append.mp hq with h | h
    · exact hS.2.2 q h
    · exact hF _ (hL q h)
variable {y : MethodName} {cy0 : Nat → ClassId} {bytes : ByteArray} {maxL nL n index d : Nat} {ret : Option FieldType} {own : String} {b : Addr} {As : List Value} {P : Heap → Prop}
abbrev Dn (y : MethodName) (n : Nat) : Prop := y.cls ≠ "java/lang/invoke/MethodHandle" ∧ y.cls ≠ "java/lang/invoke/VarHandle" ∧ (parseMethodDescriptor y.desc).map (fun d => d.parameters.length) = some n
def SiteV (own : String) (index : Nat) (y : MethodName) (bytes : ByteArray) (maxL : Nat) (ret : Option FieldType) (n : Nat) : Prop := Cond.methodLink own index y ∈ GW ∧ Cond.instanceMethod y ∈ GW ∧ Cond.selects y.cls y y ∈ GW ∧ Cond.initialized y.cls ∈ GW ∧ Cond.code y bytes maxL ret ∈ GW ∧ Dn y n
def SiteS (own : String) (index : Nat) (y : MethodName) (bytes : ByteArray) (maxL : Nat) (ret : Option FieldType) (n : Nat) : Prop := Cond.methodLink own index y ∈ GW ∧ Cond.static y ∈ GW ∧ Cond.initialized y.cls ∈ GW ∧ Cond.code y bytes maxL ret ∈ GW ∧ Dn y n
def SiteI (own : String) (index : Nat) (y : MethodName) (bytes : ByteArray) (maxL : Nat) (n : Nat) : Prop := Cond.methodLink own index y ∈ GW ∧ Cond.instanceMethod y ∈ GW ∧ Cond.initialized y.cls ∈ GW ∧ Cond.code y bytes maxL none ∈ GW ∧ y.name = "<init>" ∧ Dn y n
def SiteN (own : String) (index : Nat) (y : MethodName) (bytes : ByteArray) (maxL : Nat) (n : Nat) : Prop := (own, index, y) ∈ nwL ∧ Cond.instanceMethod y ∈ GW ∧ Cond.initialized y.cls ∈ GW ∧ Cond.code y bytes maxL none ∈ GW ∧ y.name = "<init>" ∧ Dn y n
theorem runV (S : CallFix p m c cc nL s args GW own) (hM : MM l y bytes maxL ret d mc ms D cy (.ref b :: As) P Q free) (hs : SiteV own index y bytes maxL ret n) (hK : KK D cy s) (hrec : ∃ cell : Cell, H[b]? = some cell ∧ cell.vm.isStatics = false ∧ s.vm.findClass y.cls = some cell.cls) (hp : P H)
    (hd : d + 1 ≤ R.frames ∧ 8 + (maxL + 11) + 100 * d ≤ R.locals) (hn : As.length = n) (hsize : ls.size = nL) (hstack : st0 = As.reverse ++ .ref b :: rest) (hW : (rest.map fun v => v.category).sum ≤ 8) (hdg : decode cc pc = .ok (.invokevirtual index, 3)) (hf : cells + mc ≤ R.cells ∧ slots + ms ≤ R.slots) :
    va_Run p l e R s m args below meth c H locs cells slots mc ms (F0 m pc ls st0) rest (QQ Q (Value.ref b :: As).toArray) free := by
  obtain ⟨h1, h2, h3, h4, h5, h6⟩ := hs
  have ht := S.2.2.2.2
  exact va_runV S hM ⟨callB_of n ht (goodG h5) rfl rfl rfl (ht _ h4) (ht _ h1) h6 hd, ht _ h2, ht _ h3⟩ ⟨PP.blind, hrec, fun U hU hW => ⟨rfl, by rw [hU]; exact hp, hK.moved hW⟩⟩ rfl hn hsize hstack (lv_room hW) hdg hf
theorem runS (S : CallFix p m c cc nL s args GW own) (hM : MM l y bytes maxL ret d mc ms D cy As P Q free) (hs : SiteS own index y bytes maxL ret n) (hK : KK D cy s) (hp : P H)
    (hd : d + 1 ≤ R.frames ∧ 8 + (maxL + 11) + 100 * d ≤ R.locals) (hn : As.length = n) (hsize : ls.size = nL) (hstack : st0 = As.reverse ++ rest) (hW : (rest.map fun v => v.category).sum ≤ 8) (hdg : decode cc pc = .ok (.invokestatic index, 3)) (hf : cells + mc ≤ R.cells ∧ slots + ms ≤ R.slots) :
    va_Run p l e R s m args below meth c H locs cells slots mc ms (F0 m pc ls st0) rest (QQ Q As.toArray) free := by
  obtain ⟨h1, h2, h4, h5, h6⟩ := hs
  have ht := S.2.2.2.2
  exact va_runS S hM ⟨callB_of n ht (goodG h5) rfl rfl rfl (ht _ h4) (ht _ h1) h6 hd, ht _ h2⟩ ⟨PP.blind, fun U hU hW => ⟨rfl, by rw [hU]; exact hp, hK.moved hW⟩⟩ rfl hn hsize hstack (lv_room hW) hdg hf
theorem runI (S : CallFix p m c cc nL s args GW own) (hM : MM l y bytes maxL none d mc ms D cy (.ref b :: As) P Q free) (hs : SiteI own index y bytes maxL n) (hK : KK D cy s) (hp : P H)
    (hd : d + 1 ≤ R.frames ∧ 8 + (maxL + 11) + 100 * d ≤ R.locals) (hn : As.length = n) (hsize : ls.size = nL) (hstack : st0 = As.reverse ++ .ref b :: rest) (hW : (rest.map fun v => v.category).sum ≤ 8) (hdg : decode cc pc = .ok (.invokespecial index, 3)) (hf : cells + mc ≤ R.cells ∧ slots + ms ≤ R.slots) :
    va_Run p l e R s m args below meth c H locs cells slots mc ms (F0 m pc ls st0) rest (QQ Q (Value.ref b :: As).toArray) free := by
  obtain ⟨h1, h2, h4, h5, hnm, h6⟩ := hs
  have ht := S.2.2.2.2
  exact va_runI S hM ⟨callB_of n ht (goodG h5) rfl rfl rfl (ht _ h4) (ht _ h1) h6 hd, hnm, ht _ h2⟩ ⟨PP.blind, fun U hU hW => ⟨rfl, by rw [hU]; exact hp, hK.moved hW⟩⟩ rfl hn hsize hstack (lv_room hW) hdg hf
theorem runN (S : CallFix p m c cc nL s args GW own) (hM : MM l y bytes maxL none d mc ms D cy (.ref b :: As) P Q free) (hs : SiteN own index y bytes maxL n) (hK : KK D cy s) (hp : P H)
    (hd : d + 1 ≤ R.frames ∧ 8 + (maxL + 11) + 100 * d ≤ R.locals) (hn : As.length = n) (hsize : ls.size = nL) (hstack : st0 = As.reverse ++ .ref b :: rest) (hW : (rest.map fun v => v.category).sum ≤ 8) (hdg : decode cc pc = .ok (.invokespecial index, 3)) (hf : cells + mc ≤ R.cells ∧ slots + ms ≤ R.slots) :
    va_Run p l e R s m args below meth c H locs cells slots mc ms (F0 m pc ls st0) rest (QQ Q (Value.ref b :: As).toArray) free := by
  obtain ⟨h1, h2, h4, h5, hnm, h6⟩ := hs
  have ht := S.2.2.2.2
  exact va_runIN S hM ⟨va_cnB n ht (goodG h5) rfl rfl rfl (hK.2.1 _ h1) (ht _ h4) h6 hd, hnm, ht _ h2⟩ ⟨PP.blind, fun U hU hW => ⟨rfl, by rw [hU]; exact hp, hK.moved hW⟩⟩ rfl hn hsize hstack (lv_room hW) hdg hf
theorem PW.of {wc : va_W} (hP : va_P D vwCl ws H) (hD : va_D A ws) (isC : List Nat) (hn : va_nd isC = true) (h1 : isC.filterMap (fun i => ws[i]?) = wc) (h2 : isC.map (fun i => ws[i]?) = wc.map some) : PW D wc H.size H := ⟨rfl, hP.sub isC h1, (hD.sub isC hn h2).weaken (fun _ _ _ _ => trivial)⟩
/-- a new array of a kind whose class is known -/
theorem newp {atype : ArrayType} {ty : FieldType} (t0 : Nat) {cA : ClassId} (hx : p.tables.exec = Jvm.exec) (hb : c.code = cc) (hts : ∀ w ∈ GW, w.before args s = true) (harr : Cond.arrayClass (newarray.typeOf atype) ∈ GW) (hty : newarray.typeOf atype = ty) (hK : KK D cy s) (hk : (tyL cy)[t0]? = some (cA, ty)) (hone : ∀ c : ClassId, va_RA s c ty → s.vm.findClass ("[" ++ ty.toString) = some c) (hP : va_P D vwCl ws H) (hD : va_D A ws) (hS : va_S A H0 H locs) (hA : ∀ q, H0.size ≤ q → A q)
    {k : Int32} {N' : Nat} {a0 : vp_A} (ha : ∀ cA : ClassId, vp_cell cA a0 = arrV cA N' (fun _ => defaultValue ty)) (hn : ¬ k < 0) (hN : k.toNatClampNeg = N') (hbytes : N' * componentBytes ty ≤ 536870912) (hcells : cells + 1 ≤ R.cells) (hslots : slots + N' ≤ R.slots) (hdg : decode cc pc = .ok (.newarray atype, 2))
    (kk : ∀ (q : Nat) (H1 : Heap), va_P D vwCl (ws ++ [(q, .inl (cA, a0))]) H1 → va_D A (ws ++ [(q, .inl (cA, a0))]) → va_S A H0 H1 locs →
      W p l e R s m args below meth c H1 locs (cells + 1) (slots + N') Qf (F0 m (pc + 2) ls (.ref q :: rest))) : W p l e R s m args below meth c H locs cells slots Qf (F0 m pc ls (.int k :: rest)) := by
  refine va_newa hx hb (hts _ harr) hty hK.1 hP hD hS hA ha hn hN hbytes hcells hslots hdg (fun q cB H1 hK2 hP2 hD2 hS2 => ?_)
  have e1 := hone cB (hK2.2 (tyL cy).length (cB, ty) (by rw [List.getElem?_append_right (Nat.le_refl _), Nat.sub_self]; rfl)).2
  have e2 := hone cA (hK.1.2 t0 (cA, ty) hk).2
  have e3 : cB = cA := Option.some.inj (e1.symm.trans e2)
  subst e3
  exact kk q H1 hP2 hD2 hS2
theorem newq {C : String} (t0 : Nat) {cA : ClassId} (hx : p.tables.exec = Jvm.exec) (hb : c.code = cc) (hts : ∀ w ∈ GW, w.before args s = true) (hown : s.vm.findClass own = some m.cls) (hcl : Cond.classLink own index C ∈ GW) (hAO : va_AO C s) (hK : KK D cy s) (hk : (tyL cy)[t0]? = some (cA, .object C)) (hP : va_P D vwCl ws H) (hD : va_D A ws) (hS : va_S A H0 H locs) (hA : ∀ q, H0.size ≤ q → A q)
    {k : Int32} {N' : Nat} (hn : ¬ k < 0) (hN : k.toNatClampNeg = N') (hbytes : N' * 4 ≤ 536870912) (hcells : cells + 1 ≤ R.cells) (hslots : slots + N' ≤ R.slots) (hdg : decode cc pc = .ok (.anewarray index, 3))
    (kk : ∀ (q : Nat) (H1 : Heap), va_P D vwCl (ws ++ [(q, .inl (cA, N', .inr (.inr (.inr (.inr (fun _ => none))))))]) H1 → va_D A (ws ++ [(q, .inl (cA, N', .inr (.inr (.inr (.inr (fun _ => none))))))]) → va_S A H0 H1 locs →
      W p l e R s m args below meth c H1 locs (cells + 1) (slots + N') Qf (F0 m (pc + 3) ls (.ref q :: rest))) : W p l e R s m args below meth c H locs cells slots Qf (F0 m pc ls (.int k :: rest)) := by
  refine va_newq hx hb hown (hts _ hcl) hAO hK.1 hP hD hS hA hn hN hbytes hcells hslots hdg (fun q cB H1 hK2 hP2 hD2 hS2 => ?_)
  obtain ⟨_, _, _, _, _, e1⟩ := (hK2.2 (tyL cy).length (cB, .object C) (by rw [List.getElem?_append_right (Nat.le_refl _), Nat.sub_self]; rfl)).2
  obtain ⟨_, _, _, _, _, e2⟩ := (hK.1.2 t0 (cA, .object C) hk).2
  have e3 : cB = cA := Option.some.inj (e1.symm.trans e2)
  subst e3
  exact kk q H1 hP2 hD2 hS2
end BASE
end
section
/-! ===== small facts ===== -/
theorem fa_lt (a b : Int32) : a < b ↔ a.toInt < b.toInt := Int32.lt_iff_toInt_lt
theorem fa_le (a b : Int32) : a ≤ b ↔ a.toInt ≤ b.toInt := Int32.le_iff_toInt_le
theorem fa_eq (a b : Int32) : a = b ↔ a.toInt = b.toInt := Int32.toInt_inj.symm
theorem fa_lt64 (a b : Int64) : a < b ↔ a.toInt < b.toInt := Int64.lt_iff_toInt_lt
theorem fa_le64 (a b : Int64) : a ≤ b ↔ a.toInt ≤ b.toInt := Int64.le_iff_toInt_le
theorem fa_eq64 (a b : Int64) : a = b ↔ a.toInt = b.toInt := Int64.toInt_inj.symm
theorem wide_t (x : Int32) : x.toInt64.toInt = x.toInt := Int32.toInt_toInt64 x
theorem cmp_t {x y : Int64} {z : Int32} (h : z = lg_cmp x y) : (z.toInt < 0 ↔ x.toInt < y.toInt) ∧ (0 < z.toInt ↔ y.toInt < x.toInt) ∧ -1 ≤ z.toInt ∧ z.toInt ≤ 1 := by
  subst h
  unfold lg_cmp
  by_cases h1 : x > y
  · rw [if_pos h1]
    have h2 := (fa_lt64 _ _).mp h1
    have e1 : (1 : Int32).toInt = 1 := by decide
    rw [e1]; omega
  · rw [if_neg h1]
    have h2 : ¬ y.toInt < x.toInt := fun h => h1 ((fa_lt64 _ _).mpr h)
    by_cases h3 : x = y
    · rw [if_pos h3]
      have e0 : (0 : Int32).toInt = 0 := by decide
      rw [e0, h3]; omega
    · rw [if_neg h3]
      have h4 : ¬ x.toInt = y.toInt := fun h => h3 ((fa_eq64 _ _).mpr h)
      have e1 : (-1 : Int32).toInt = -1 := by decide
      rw [e1]; omega
theorem upd_00 (k : Nat) : upd (fun _ => 0) k 0 = fun _ => 0 := by funext j; simp [upd]
theorem upd_0z (k : Nat) : upd (fun _ => 0) k (vp_nar .boolean 0) = fun _ => 0 := by funext j; simp [upd, vp_nar, narrow]
theorem updL_00 (k : Nat) : vp_updL (fun _ => 0) k 0 = fun _ => 0 := by funext j; simp [vp_updL]
theorem im_objectInit : Cond.instanceMethod objectInit ∈ GW := gw_t1 (List.mem_of_getElem? (i := 26) rfl) rfl
theorem co_objectInit : Cond.code objectInit ⟨#[0xb1]⟩ 1 none ∈ GW := gw_t1 (List.mem_of_getElem? (i := 27) rfl) rfl
theorem st_math_max : Cond.static Lib.Math.max.name ∈ GW := st_J9_max_7cf53
theorem co_math_max : Cond.code Lib.Math.max.name Lib.Math.max.code 2 (some .int) ∈ GW := co_J9_max_7cf53
theorem st_math_min : Cond.static Lib.Math.min.name ∈ GW := st_J9_min_7cf53
theorem co_math_min : Cond.code Lib.Math.min.name Lib.Math.min.code 2 (some .int) ∈ GW := co_J9_min_7cf53
theorem born_X0 : ∀ j, j < 1 → defaultValue (tyX0 j) = vp_V [.long 0] j := fun j hj => match j, hj with
  | 0, _ => rfl
  | j + 1, h => absurd h (by omega)
theorem born_X1 : ∀ j, j < 2 → defaultValue (tyX1 j) = vp_V [.null, .null] j := fun j hj => match j, hj with
  | 0, _ => rfl
  | 1, _ => rfl
  | j + 2, h => absurd h (by omega)
theorem born_X2 : ∀ j, j < 21 → defaultValue (tyX2 j) = vp_V [.int 0, .int 0, .int 0, .int 0, .int 0, .int 0, .int 0, .int 0, .int 0, .int 0, .int 0, .int 0, .int 0, .int 0, .null, .null, .null, .null, .null, .null, .null] j := fun j hj => match j, hj with
  | 0, _ => rfl
  | 1, _ => rfl
  | 2, _ => rfl
  | 3, _ => rfl
  | 4, _ => rfl
  | 5, _ => rfl
  | 6, _ => rfl
  | 7, _ => rfl
  | 8, _ => rfl
  | 9, _ => rfl
  | 10, _ => rfl
  | 11, _ => rfl
  | 12, _ => rfl
  | 13, _ => rfl
  | 14, _ => rfl
  | 15, _ => rfl
  | 16, _ => rfl
  | 17, _ => rfl
  | 18, _ => rfl
  | 19, _ => rfl
  | 20, _ => rfl
  | j + 21, h => absurd h (by omega)
theorem born_X3 : ∀ j, j < 10 → defaultValue (tyX3 j) = vp_V [.null, .null, .null, .null, .int 0, .int 0, .int 0, .int 0, .int 0, .long 0] j := fun j hj => match j, hj with
  | 0, _ => rfl
  | 1, _ => rfl
  | 2, _ => rfl
  | 3, _ => rfl
  | 4, _ => rfl
  | 5, _ => rfl
  | 6, _ => rfl
  | 7, _ => rfl
  | 8, _ => rfl
  | 9, _ => rfl
  | j + 10, h => absurd h (by omega)
theorem born_X4 : ∀ j, j < 12 → defaultValue (tyX4 j) = vp_V [.int 0, .int 0, .null, .int 0, .int 0, .int 0, .int 0, .int 0, .null, .int 0, .int 0, .int 0] j := fun j hj => match j, hj with
  | 0, _ => rfl
  | 1, _ => rfl
  | 2, _ => rfl
  | 3, _ => rfl
  | 4, _ => rfl
  | 5, _ => rfl
  | 6, _ => rfl
  | 7, _ => rfl
  | 8, _ => rfl
  | 9, _ => rfl
  | 10, _ => rfl
  | 11, _ => rfl
  | j + 12, h => absurd h (by omega)
theorem born_X5 : ∀ j, j < 7 → defaultValue (tyX5 j) = vp_V [.null, .null, .null, .null, .null, .null, .null] j := fun j hj => match j, hj with
  | 0, _ => rfl
  | 1, _ => rfl
  | 2, _ => rfl
  | 3, _ => rfl
  | 4, _ => rfl
  | 5, _ => rfl
  | 6, _ => rfl
  | j + 7, h => absurd h (by omega)
theorem born_X6 : ∀ j, j < 2 → defaultValue (tyX6 j) = vp_V [.int 0, .null] j := fun j hj => match j, hj with
  | 0, _ => rfl
  | 1, _ => rfl
  | j + 2, h => absurd h (by omega)
theorem born_X7 : ∀ j, j < 1 → defaultValue (tyX7 j) = vp_V [.null] j := fun j hj => match j, hj with
  | 0, _ => rfl
  | j + 1, h => absurd h (by omega)
theorem born_X8 : ∀ j, j < 5 → defaultValue (tyX8 j) = vp_V [.null, .null, .int 0, .null, .null] j := fun j hj => match j, hj with
  | 0, _ => rfl
  | 1, _ => rfl
  | 2, _ => rfl
  | 3, _ => rfl
  | 4, _ => rfl
  | j + 5, h => absurd h (by omega)
theorem born_X9 : ∀ j, j < 14 → defaultValue (tyX9 j) = vp_V [.null, .null, .null, .null, .null, .null, .null, .null, .null, .int 0, .null, .null, .int 0, .int 0] j := fun j hj => match j, hj with
  | 0, _ => rfl
  | 1, _ => rfl
  | 2, _ => rfl
  | 3, _ => rfl
  | 4, _ => rfl
  | 5, _ => rfl
  | 6, _ => rfl
  | 7, _ => rfl
  | 8, _ => rfl
  | 9, _ => rfl
  | 10, _ => rfl
  | 11, _ => rfl
  | 12, _ => rfl
  | 13, _ => rfl
  | j + 14, h => absurd h (by omega)
theorem born_X10 : ∀ j, j < 43 → defaultValue (tyX10 j) = vp_V [.int 0, .null, .null, .null, .null, .null, .int 0, .int 0, .int 0, .int 0, .int 0, .long 0, .int 0, .int 0, .int 0, .int 0, .null, .null, .null, .null, .null, .null, .null, .null, .null, .null, .null, .null, .null, .null, .null, .null, .null, .null, .null, .null, .null, .null, .null, .null, .null, .null, .long 0] j := fun j hj => match j, hj with
  | 0, _ => rfl
  | 1, _ => rfl
  | 2, _ => rfl
  | 3, _ => rfl
  | 4, _ => rfl
  | 5, _ => rfl
  | 6, _ => rfl
  | 7, _ => rfl
  | 8, _ => rfl
  | 9, _ => rfl
  | 10, _ => rfl
  | 11, _ => rfl
  | 12, _ => rfl
  | 13, _ => rfl
  | 14, _ => rfl
  | 15, _ => rfl
  | 16, _ => rfl
  | 17, _ => rfl
  | 18, _ => rfl
  | 19, _ => rfl
  | 20, _ => rfl
  | 21, _ => rfl
  | 22, _ => rfl
  | 23, _ => rfl
  | 24, _ => rfl
  | 25, _ => rfl
  | 26, _ => rfl
  | 27, _ => rfl
  | 28, _ => rfl
  | 29, _ => rfl
  | 30, _ => rfl
  | 31, _ => rfl
  | 32, _ => rfl
  | 33, _ => rfl
  | 34, _ => rfl
  | 35, _ => rfl
  | 36, _ => rfl
  | 37, _ => rfl
  | 38, _ => rfl
  | 39, _ => rfl
  | 40, _ => rfl
  | 41, _ => rfl
  | 42, _ => rfl
  | j + 43, h => absurd h (by omega)
end
section
theorem dX2_hasValley_0 : decode cX2_hasValley 0 = .ok (.iload_n 1, 1) := by decide +kernel
theorem dX2_hasValley_1 : decode cX2_hasValley 1 = .ok (.ifCond .lt 15, 3) := by decide +kernel
theorem dX2_hasValley_16 : decode cX2_hasValley 16 = .ok (.iconst 0, 1) := by decide +kernel
theorem dX2_hasValley_17 : decode cX2_hasValley 17 = .ok (.ireturn, 1) := by decide +kernel
theorem dX2_hasValley_4 : decode cX2_hasValley 4 = .ok (.iload_n 1, 1) := by decide +kernel
theorem dX2_hasValley_5 : decode cX2_hasValley 5 = .ok (.aload_n 0, 1) := by decide +kernel
theorem dX2_hasValley_6 : decode cX2_hasValley 6 = .ok (.getfield 40, 3) := by decide +kernel
theorem dX2_hasValley_9 : decode cX2_hasValley 9 = .ok (.if_icmp .ge 7, 3) := by decide +kernel
theorem dX2_hasThing_0 : decode cX2_hasThing 0 = .ok (.iload_n 1, 1) := by decide +kernel
theorem dX2_hasThing_1 : decode cX2_hasThing 1 = .ok (.ifCond .lt 15, 3) := by decide +kernel
theorem dX2_hasThing_16 : decode cX2_hasThing 16 = .ok (.iconst 0, 1) := by decide +kernel
theorem dX2_hasThing_17 : decode cX2_hasThing 17 = .ok (.ireturn, 1) := by decide +kernel
theorem dX2_hasThing_4 : decode cX2_hasThing 4 = .ok (.iload_n 1, 1) := by decide +kernel
theorem dX2_hasThing_5 : decode cX2_hasThing 5 = .ok (.aload_n 0, 1) := by decide +kernel
theorem dX2_hasThing_6 : decode cX2_hasThing 6 = .ok (.getfield 47, 3) := by decide +kernel
theorem dX2_hasThing_9 : decode cX2_hasThing 9 = .ok (.if_icmp .ge 7, 3) := by decide +kernel
theorem dX2_hasTwo_0 : decode cX2_hasTwo 0 = .ok (.aload_n 0, 1) := by decide +kernel
theorem dX2_hasTwo_1 : decode cX2_hasTwo 1 = .ok (.iload_n 1, 1) := by decide +kernel
theorem dX2_hasTwo_2 : decode cX2_hasTwo 2 = .ok (.invokevirtual 43, 3) := by decide +kernel
theorem dX2_hasTwo_5 : decode cX2_hasTwo 5 = .ok (.ifCond .eq 20, 3) := by decide +kernel
theorem dX2_hasTwo_25 : decode cX2_hasTwo 25 = .ok (.iconst 0, 1) := by decide +kernel
theorem dX2_hasTwo_26 : decode cX2_hasTwo 26 = .ok (.ireturn, 1) := by decide +kernel
theorem dX2_hasStore_0 : decode cX2_hasStore 0 = .ok (.aload_n 0, 1) := by decide +kernel
theorem dX2_hasStore_1 : decode cX2_hasStore 1 = .ok (.iload_n 1, 1) := by decide +kernel
theorem dX2_hasStore_2 : decode cX2_hasStore 2 = .ok (.invokevirtual 43, 3) := by decide +kernel
theorem dX2_hasStore_5 : decode cX2_hasStore 5 = .ok (.ifCond .eq 15, 3) := by decide +kernel
theorem dX2_hasStore_20 : decode cX2_hasStore 20 = .ok (.iconst 0, 1) := by decide +kernel
theorem dX2_hasStore_21 : decode cX2_hasStore 21 = .ok (.ireturn, 1) := by decide +kernel
theorem dX2_hasDay_0 : decode cX2_hasDay 0 = .ok (.iload_n 1, 1) := by decide +kernel
theorem dX2_hasDay_1 : decode cX2_hasDay 1 = .ok (.iconst 1, 1) := by decide +kernel
theorem dX2_hasDay_2 : decode cX2_hasDay 2 = .ok (.if_icmp .lt 15, 3) := by decide +kernel
theorem dX2_hasDay_17 : decode cX2_hasDay 17 = .ok (.iconst 0, 1) := by decide +kernel
theorem dX2_hasDay_18 : decode cX2_hasDay 18 = .ok (.ireturn, 1) := by decide +kernel
theorem dX2_hasDay_5 : decode cX2_hasDay 5 = .ok (.iload_n 1, 1) := by decide +kernel
theorem dX2_hasDay_6 : decode cX2_hasDay 6 = .ok (.aload_n 0, 1) := by decide +kernel
theorem dX2_hasDay_7 : decode cX2_hasDay 7 = .ok (.getfield 53, 3) := by decide +kernel
theorem dX2_hasDay_10 : decode cX2_hasDay 10 = .ok (.if_icmp .gt 7, 3) := by decide +kernel
theorem dX9_isSlot_0 : decode cX9_isSlot 0 = .ok (.iload_n 0, 1) := by decide +kernel
theorem dX9_isSlot_1 : decode cX9_isSlot 1 = .ok (.ifCond .lt 12, 3) := by decide +kernel
theorem dX9_isSlot_13 : decode cX9_isSlot 13 = .ok (.iconst 0, 1) := by decide +kernel
theorem dX9_isSlot_14 : decode cX9_isSlot 14 = .ok (.ireturn, 1) := by decide +kernel
theorem dX9_isSlot_4 : decode cX9_isSlot 4 = .ok (.iload_n 0, 1) := by decide +kernel
theorem dX9_isSlot_5 : decode cX9_isSlot 5 = .ok (.iconst 4, 1) := by decide +kernel
theorem dX9_isSlot_6 : decode cX9_isSlot 6 = .ok (.if_icmp .ge 7, 3) := by decide +kernel
theorem dX9_isSlot_9 : decode cX9_isSlot 9 = .ok (.iconst 1, 1) := by decide +kernel
theorem dX9_isSlot_10 : decode cX9_isSlot 10 = .ok (.goto 4, 3) := by decide +kernel
theorem dX9_isSeed_0 : decode cX9_isSeed 0 = .ok (.iload_n 0, 1) := by decide +kernel
theorem dX9_isSeed_1 : decode cX9_isSeed 1 = .ok (.ifCond .lt 14, 3) := by decide +kernel
theorem dX9_isSeed_15 : decode cX9_isSeed 15 = .ok (.iconst 0, 1) := by decide +kernel
theorem dX9_isSeed_16 : decode cX9_isSeed 16 = .ok (.ireturn, 1) := by decide +kernel
theorem dX9_isSeed_4 : decode cX9_isSeed 4 = .ok (.iload_n 0, 1) := by decide +kernel
theorem dX9_isSeed_5 : decode cX9_isSeed 5 = .ok (.ldc_w 383, 3) := by decide +kernel
theorem dX9_isSeed_8 : decode cX9_isSeed 8 = .ok (.if_icmp .gt 7, 3) := by decide +kernel
theorem dX9_isSeed_11 : decode cX9_isSeed 11 = .ok (.iconst 1, 1) := by decide +kernel
theorem dX9_isSeed_12 : decode cX9_isSeed 12 = .ok (.goto 4, 3) := by decide +kernel
theorem sV_X2_43 : SiteV RX2 43 yX2_hasValley cX2_hasValley 2 (some .boolean) 1 := ⟨ml_X2_43, im_X2_hasValley, se_X2_hasValley, ini_X2, co_X2_hasValley, by decide +kernel⟩
set_option maxHeartbeats 4000000 in
set_option maxRecDepth 100000 in
theorem f_hasValley (l : Launch) (D : va_G) (cy : Nat → ClassId) (xa : Nat → Nat) (v : Int32) : MM l yX2_hasValley cX2_hasValley 2 (some .boolean) 0 0 0 D cy [.ref (xa 11), .int v] (fun H => va_P D vwCl [((xa 11), .inr (2, [.int 0, .int 0, .int 0, .int 0, .int 0, .int 0, .int 0, .int 0, .int 1, .int 10, .int 0, .int 0, .int 0, .int 0, .ref (xa 20), .ref (xa 21), .ref (xa 22), .ref (xa 23), .ref (xa 24), .ref (xa 25), .ref (xa 26)]))] H) (PuI (fun r => r = 0)) noF := by
  refine MM.of (by decide) (Nat.le_of_ble_eq_true rfl) ?_
  intro p e s m below meth c C hP ls hl
  obtain ⟨hx, hb, hr, hml, hown, hts, hlocks, hK, hnm⟩ := C
  have hP : va_P D vwCl [((xa 11), .inr (2, [.int 0, .int 0, .int 0, .int 0, .int 0, .int 0, .int 0, .int 0, .int 1, .int 10, .int 0, .int 0, .int 0, .int 0, .ref (xa 20), .ref (xa 21), .ref (xa 22), .ref (xa 23), .ref (xa 24), .ref (xa 25), .ref (xa 26)]))] s.heap := hP
  have hl : lv_has ls 2 [(0, .ref (xa 11)), (1, .int v)] := hl
  refine lv_iload_n hx hb dX2_hasValley_0 rfl (lv_at hl 1 rfl) ?_
  refine lv_if_lt (tgt := 16) hx hb dX2_hasValley_1 (by decide) (fun c_1 => ?_) (fun c_1 => ?_)
  · skip
    have tc_1 : v.toInt < 0 := (fa_lt _ _).mp c_1
    refine lv_iconst (v := 0) hx hb dX2_hasValley_16 (by decide) ?_
    exact ret_z (ty := .boolean) hx hb hr rfl hlocks ⟨rfl, _, rfl, rfl⟩ (fun _ h => absurd h List.not_mem_nil) (Nat.le_refl _) (Nat.le_refl _) dX2_hasValley_17
  · skip
    have tc_1 : ¬ v.toInt < 0 := fun h => c_1 ((fa_lt _ _).mpr h)
    refine lv_iload_n hx hb dX2_hasValley_4 rfl (lv_at hl 1 rfl) ?_
    refine lv_aload_n hx hb dX2_hasValley_5 rfl (lv_at hl 0 rfl) ?_
    refine va_get (D := D) (ci := 2) (v := .int 0) (C := RX2) (T := TX2) (N := 21) hx hb hts lay_X2 hown hK.1 hP 0 rfl rfl 6 (by decide) (hts _ fl_X2_40) (fun _ h9 => h9) rfl dX2_hasValley_6 ?_
    refine lv_icmp_ge (tgt := 16) hx hb dX2_hasValley_9 (by decide) (fun c_2 => ?_) (fun c_2 => ?_)
    · skip
      have tc_2 : 0 ≤ v.toInt := (fa_le _ _).mp c_2
      refine lv_iconst (v := 0) hx hb dX2_hasValley_16 (by decide) ?_
      exact ret_z (ty := .boolean) hx hb hr rfl hlocks ⟨rfl, _, rfl, rfl⟩ (fun _ h => absurd h List.not_mem_nil) (Nat.le_refl _) (Nat.le_refl _) dX2_hasValley_17
    · skip
      have tc_2 : ¬ 0 ≤ v.toInt := fun h => c_2 ((fa_le _ _).mpr h)
      exfalso; omega
set_option maxHeartbeats 4000000 in
set_option maxRecDepth 100000 in
theorem f_hasThing (l : Launch) (D : va_G) (cy : Nat → ClassId) (xa : Nat → Nat) (v : Int32) : MM l yX2_hasThing cX2_hasThing 2 (some .boolean) 0 0 0 D cy [.ref (xa 11), .int v] (fun H => va_P D vwCl [((xa 11), .inr (2, [.int 0, .int 0, .int 0, .int 0, .int 0, .int 0, .int 0, .int 0, .int 1, .int 10, .int 0, .int 0, .int 0, .int 0, .ref (xa 20), .ref (xa 21), .ref (xa 22), .ref (xa 23), .ref (xa 24), .ref (xa 25), .ref (xa 26)]))] H) (PuI (fun r => r = 0)) noF := by
  refine MM.of (by decide) (Nat.le_of_ble_eq_true rfl) ?_
  intro p e s m below meth c C hP ls hl
  obtain ⟨hx, hb, hr, hml, hown, hts, hlocks, hK, hnm⟩ := C
  have hP : va_P D vwCl [((xa 11), .inr (2, [.int 0, .int 0, .int 0, .int 0, .int 0, .int 0, .int 0, .int 0, .int 1, .int 10, .int 0, .int 0, .int 0, .int 0, .ref (xa 20), .ref (xa 21), .ref (xa 22), .ref (xa 23), .ref (xa 24), .ref (xa 25), .ref (xa 26)]))] s.heap := hP
  have hl : lv_has ls 2 [(0, .ref (xa 11)), (1, .int v)] := hl
  refine lv_iload_n hx hb dX2_hasThing_0 rfl (lv_at hl 1 rfl) ?_
  refine lv_if_lt (tgt := 16) hx hb dX2_hasThing_1 (by decide) (fun c_1 => ?_) (fun c_1 => ?_)
  · skip
    have tc_1 : v.toInt < 0 := (fa_lt _ _).mp c_1
    refine lv_iconst (v := 0) hx hb dX2_hasThing_16 (by decide) ?_
    exact ret_z (ty := .boolean) hx hb hr rfl hlocks ⟨rfl, _, rfl, rfl⟩ (fun _ h => absurd h List.not_mem_nil) (Nat.le_refl _) (Nat.le_refl _) dX2_hasThing_17
  · skip
    have tc_1 : ¬ v.toInt < 0 := fun h => c_1 ((fa_lt _ _).mpr h)
    refine lv_iload_n hx hb dX2_hasThing_4 rfl (lv_at hl 1 rfl) ?_
    refine lv_aload_n hx hb dX2_hasThing_5 rfl (lv_at hl 0 rfl) ?_
    refine va_get (D := D) (ci := 2) (v := .int 0) (C := RX2) (T := TX2) (N := 21) hx hb hts lay_X2 hown hK.1 hP 0 rfl rfl 5 (by decide) (hts _ fl_X2_47) (fun _ h9 => h9) rfl dX2_hasThing_6 ?_
    refine lv_icmp_ge (tgt := 16) hx hb dX2_hasThing_9 (by decide) (fun c_2 => ?_) (fun c_2 => ?_)
    · skip
      have tc_2 : 0 ≤ v.toInt := (fa_le _ _).mp c_2
      refine lv_iconst (v := 0) hx hb dX2_hasThing_16 (by decide) ?_
      exact ret_z (ty := .boolean) hx hb hr rfl hlocks ⟨rfl, _, rfl, rfl⟩ (fun _ h => absurd h List.not_mem_nil) (Nat.le_refl _) (Nat.le_refl _) dX2_hasThing_17
    · skip
      have tc_2 : ¬ 0 ≤ v.toInt := fun h => c_2 ((fa_le _ _).mpr h)
      exfalso; omega
set_option maxHeartbeats 4000000 in
set_option maxRecDepth 100000 in
theorem f_hasTwo (l : Launch) (D : va_G) (cy : Nat → ClassId) (xa : Nat → Nat) (v : Int32) (w : Int32) : MM l yX2_hasTwo cX2_hasTwo 3 (some .boolean) 1 0 0 D cy [.ref (xa 11), .int v, .int w] (fun H => va_P D vwCl [((xa 11), .inr (2, [.int 0, .int 0, .int 0, .int 0, .int 0, .int 0, .int 0, .int 0, .int 1, .int 10, .int 0, .int 0, .int 0, .int 0, .ref (xa 20), .ref (xa 21), .ref (xa 22), .ref (xa 23), .ref (xa 24), .ref (xa 25), .ref (xa 26)]))] H) (PuI (fun r => r = 0)) noF := by
  refine MM.of (by decide) (Nat.le_of_ble_eq_true rfl) ?_
  intro p e s m below meth c C hP ls hl
  obtain ⟨hx, hb, hr, hml, hown, hts, hlocks, hK, hnm⟩ := C
  have hP : va_P D vwCl [((xa 11), .inr (2, [.int 0, .int 0, .int 0, .int 0, .int 0, .int 0, .int 0, .int 0, .int 1, .int 10, .int 0, .int 0, .int 0, .int 0, .ref (xa 20), .ref (xa 21), .ref (xa 22), .ref (xa 23), .ref (xa 24), .ref (xa 25), .ref (xa 26)]))] s.heap := hP
  have hl : lv_has ls 3 [(0, .ref (xa 11)), (1, .int v), (2, .int w)] := hl
  refine lv_aload_n hx hb dX2_hasTwo_0 rfl (lv_at hl 0 rfl) ?_
  refine lv_iload_n hx hb dX2_hasTwo_1 rfl (lv_at hl 1 rfl) ?_
  refine pu_calli (runV (As := [.int v]) (rest := []) ⟨hx, hb, hml, hown, hts⟩ (f_hasValley l D cy xa v ) sV_X2_43 hK (va_recv hK.1 hP (ci := 2) (q0 := 0) rfl rfl) (hP.sub (ws' := [((xa 11), .inr (2, [.int 0, .int 0, .int 0, .int 0, .int 0, .int 0, .int 0, .int 0, .int 1, .int 10, .int 0, .int 0, .int 0, .int 0, .ref (xa 20), .ref (xa 21), .ref (xa 22), .ref (xa 23), .ref (xa 24), .ref (xa 25), .ref (xa 26)]))]) [0] rfl) ⟨Nat.le_of_ble_eq_true rfl, Nat.le_of_ble_eq_true rfl⟩ rfl hl.1 rfl (Nat.le_of_ble_eq_true rfl) dX2_hasTwo_2 ⟨Nat.le_of_ble_eq_true rfl, Nat.le_of_ble_eq_true rfl⟩) (fun r_1 hr_1 => ?_)
  have er_1 := hr_1
  subst er_1
  refine W.eq (g2 := F0 m 5 ls [.int 0]) rfl ?_
  refine lv_if_eq (tgt := 25) hx hb dX2_hasTwo_5 (by decide) (fun _ => ?_) (fun c_2 => absurd (by decide) c_2)
  refine lv_iconst (v := 0) hx hb dX2_hasTwo_25 (by decide) ?_
  exact ret_z (ty := .boolean) hx hb hr rfl hlocks ⟨rfl, _, rfl, rfl⟩ (fun _ h => absurd h List.not_mem_nil) (Nat.le_refl _) (Nat.le_refl _) dX2_hasTwo_26
set_option maxHeartbeats 4000000 in
set_option maxRecDepth 100000 in
theorem f_hasStore (l : Launch) (D : va_G) (cy : Nat → ClassId) (xa : Nat → Nat) (v : Int32) (w : Int32) : MM l yX2_hasStore cX2_hasStore 3 (some .boolean) 1 0 0 D cy [.ref (xa 11), .int v, .int w] (fun H => va_P D vwCl [((xa 11), .inr (2, [.int 0, .int 0, .int 0, .int 0, .int 0, .int 0, .int 0, .int 0, .int 1, .int 10, .int 0, .int 0, .int 0, .int 0, .ref (xa 20), .ref (xa 21), .ref (xa 22), .ref (xa 23), .ref (xa 24), .ref (xa 25), .ref (xa 26)]))] H) (PuI (fun r => r = 0)) noF := by
  refine MM.of (by decide) (Nat.le_of_ble_eq_true rfl) ?_
  intro p e s m below meth c C hP ls hl
  obtain ⟨hx, hb, hr, hml, hown, hts, hlocks, hK, hnm⟩ := C
  have hP : va_P D vwCl [((xa 11), .inr (2, [.int 0, .int 0, .int 0, .int 0, .int 0, .int 0, .int 0, .int 0, .int 1, .int 10, .int 0, .int 0, .int 0, .int 0, .ref (xa 20), .ref (xa 21), .ref (xa 22), .ref (xa 23), .ref (xa 24), .ref (xa 25), .ref (xa 26)]))] s.heap := hP
  have hl : lv_has ls 3 [(0, .ref (xa 11)), (1, .int v), (2, .int w)] := hl
  refine lv_aload_n hx hb dX2_hasStore_0 rfl (lv_at hl 0 rfl) ?_
  refine lv_iload_n hx hb dX2_hasStore_1 rfl (lv_at hl 1 rfl) ?_
  refine pu_calli (runV (As := [.int v]) (rest := []) ⟨hx, hb, hml, hown, hts⟩ (f_hasValley l D cy xa v ) sV_X2_43 hK (va_recv hK.1 hP (ci := 2) (q0 := 0) rfl rfl) (hP.sub (ws' := [((xa 11), .inr (2, [.int 0, .int 0, .int 0, .int 0, .int 0, .int 0, .int 0, .int 0, .int 1, .int 10, .int 0, .int 0, .int 0, .int 0, .ref (xa 20), .ref (xa 21), .ref (xa 22), .ref (xa 23), .ref (xa 24), .ref (xa 25), .ref (xa 26)]))]) [0] rfl) ⟨Nat.le_of_ble_eq_true rfl, Nat.le_of_ble_eq_true rfl⟩ rfl hl.1 rfl (Nat.le_of_ble_eq_true rfl) dX2_hasStore_2 ⟨Nat.le_of_ble_eq_true rfl, Nat.le_of_ble_eq_true rfl⟩) (fun r_1 hr_1 => ?_)
  have er_1 := hr_1
  subst er_1
  refine W.eq (g2 := F0 m 5 ls [.int 0]) rfl ?_
  refine lv_if_eq (tgt := 20) hx hb dX2_hasStore_5 (by decide) (fun _ => ?_) (fun c_2 => absurd (by decide) c_2)
  refine lv_iconst (v := 0) hx hb dX2_hasStore_20 (by decide) ?_
  exact ret_z (ty := .boolean) hx hb hr rfl hlocks ⟨rfl, _, rfl, rfl⟩ (fun _ h => absurd h List.not_mem_nil) (Nat.le_refl _) (Nat.le_refl _) dX2_hasStore_21
set_option maxHeartbeats 4000000 in
set_option maxRecDepth 100000 in
theorem f_hasDay (l : Launch) (D : va_G) (cy : Nat → ClassId) (xa : Nat → Nat) (v : Int32) : MM l yX2_hasDay cX2_hasDay 2 (some .boolean) 0 0 0 D cy [.ref (xa 11), .int v] (fun H => va_P D vwCl [((xa 11), .inr (2, [.int 0, .int 0, .int 0, .int 0, .int 0, .int 0, .int 0, .int 0, .int 1, .int 10, .int 0, .int 0, .int 0, .int 0, .ref (xa 20), .ref (xa 21), .ref (xa 22), .ref (xa 23), .ref (xa 24), .ref (xa 25), .ref (xa 26)]))] H) (PuI (fun r => r = 0)) noF := by
  refine MM.of (by decide) (Nat.le_of_ble_eq_true rfl) ?_
  intro p e s m below meth c C hP ls hl
  obtain ⟨hx, hb, hr, hml, hown, hts, hlocks, hK, hnm⟩ := C
  have hP : va_P D vwCl [((xa 11), .inr (2, [.int 0, .int 0, .int 0, .int 0, .int 0, .int 0, .int 0, .int 0, .int 1, .int 10, .int 0, .int 0, .int 0, .int 0, .ref (xa 20), .ref (xa 21), .ref (xa 22), .ref (xa 23), .ref (xa 24), .ref (xa 25), .ref (xa 26)]))] s.heap := hP
  have hl : lv_has ls 2 [(0, .ref (xa 11)), (1, .int v)] := hl
  refine lv_iload_n hx hb dX2_hasDay_0 rfl (lv_at hl 1 rfl) ?_
  refine lv_iconst (v := 1) hx hb dX2_hasDay_1 (by decide) ?_
  refine lv_icmp_lt (tgt := 17) hx hb dX2_hasDay_2 (by decide) (fun c_1 => ?_) (fun c_1 => ?_)
  · skip
    have tc_1 : v.toInt < 1 := (fa_lt _ _).mp c_1
    refine lv_iconst (v := 0) hx hb dX2_hasDay_17 (by decide) ?_
    exact ret_z (ty := .boolean) hx hb hr rfl hlocks ⟨rfl, _, rfl, rfl⟩ (fun _ h => absurd h List.not_mem_nil) (Nat.le_refl _) (Nat.le_refl _) dX2_hasDay_18
  · skip
    have tc_1 : ¬ v.toInt < 1 := fun h => c_1 ((fa_lt _ _).mpr h)
    refine lv_iload_n hx hb dX2_hasDay_5 rfl (lv_at hl 1 rfl) ?_
    refine lv_aload_n hx hb dX2_hasDay_6 rfl (lv_at hl 0 rfl) ?_
    refine va_get (D := D) (ci := 2) (v := .int 0) (C := RX2) (T := TX2) (N := 21) hx hb hts lay_X2 hown hK.1 hP 0 rfl rfl 1 (by decide) (hts _ fl_X2_53) (fun _ h9 => h9) rfl dX2_hasDay_7 ?_
    refine lv_icmp_gt (tgt := 17) hx hb dX2_hasDay_10 (by decide) (fun c_2 => ?_) (fun c_2 => ?_)
    · skip
      have tc_2 : 0 < v.toInt := (fa_lt _ _).mp c_2
      refine lv_iconst (v := 0) hx hb dX2_hasDay_17 (by decide) ?_
      exact ret_z (ty := .boolean) hx hb hr rfl hlocks ⟨rfl, _, rfl, rfl⟩ (fun _ h => absurd h List.not_mem_nil) (Nat.le_refl _) (Nat.le_refl _) dX2_hasDay_18
    · skip
      have tc_2 : ¬ 0 < v.toInt := fun h => c_2 ((fa_lt _ _).mpr h)
      exfalso; omega
set_option maxHeartbeats 4000000 in
set_option maxRecDepth 100000 in
theorem f_isSlot (l : Launch) (D : va_G) (cy : Nat → ClassId) (v : Int32) : MM l yX9_isSlot cX9_isSlot 1 (some .boolean) 0 0 0 D cy [.int v] (fun H => va_P D vwCl [] H) (PuI (fun r => (r = 1 ∧ 0 ≤ v.toInt ∧ v.toInt ≤ 3) ∨ (r = 0 ∧ (v.toInt < 0 ∨ 3 < v.toInt)))) noF := by
  refine MM.of (by decide) (Nat.le_of_ble_eq_true rfl) ?_
  intro p e s m below meth c C hP ls hl
  obtain ⟨hx, hb, hr, hml, hown, hts, hlocks, hK, hnm⟩ := C
  have hP : va_P D vwCl [] s.heap := hP
  have hl : lv_has ls 1 [(0, .int v)] := hl
  refine lv_iload_n hx hb dX9_isSlot_0 rfl (lv_at hl 0 rfl) ?_
  refine lv_if_lt (tgt := 13) hx hb dX9_isSlot_1 (by decide) (fun c_1 => ?_) (fun c_1 => ?_)
  · skip
    have tc_1 : v.toInt < 0 := (fa_lt _ _).mp c_1
    refine lv_iconst (v := 0) hx hb dX9_isSlot_13 (by decide) ?_
    exact ret_z (ty := .boolean) hx hb hr rfl hlocks ⟨rfl, _, rfl, (Or.inr ⟨rfl, (by omega)⟩)⟩ (fun _ h => absurd h List.not_mem_nil) (Nat.le_refl _) (Nat.le_refl _) dX9_isSlot_14
  · skip
    have tc_1 : ¬ v.toInt < 0 := fun h => c_1 ((fa_lt _ _).mpr h)
    refine lv_iload_n hx hb dX9_isSlot_4 rfl (lv_at hl 0 rfl) ?_
    refine lv_iconst (v := 4) hx hb dX9_isSlot_5 (by decide) ?_
    refine lv_icmp_ge (tgt := 13) hx hb dX9_isSlot_6 (by decide) (fun c_2 => ?_) (fun c_2 => ?_)
    · skip
      have tc_2 : 4 ≤ v.toInt := (fa_le _ _).mp c_2
      refine lv_iconst (v := 0) hx hb dX9_isSlot_13 (by decide) ?_
      exact ret_z (ty := .boolean) hx hb hr rfl hlocks ⟨rfl, _, rfl, (Or.inr ⟨rfl, (by omega)⟩)⟩ (fun _ h => absurd h List.not_mem_nil) (Nat.le_refl _) (Nat.le_refl _) dX9_isSlot_14
    · skip
      have tc_2 : ¬ 4 ≤ v.toInt := fun h => c_2 ((fa_le _ _).mpr h)
      refine lv_iconst (v := 1) hx hb dX9_isSlot_9 (by decide) ?_
      refine lv_goto (tgt := 14) hx hb dX9_isSlot_10 (by decide) ?_
      exact ret_z (ty := .boolean) hx hb hr rfl hlocks ⟨rfl, _, rfl, (Or.inl ⟨rfl, (by omega), (by omega)⟩)⟩ (fun _ h => absurd h List.not_mem_nil) (Nat.le_refl _) (Nat.le_refl _) dX9_isSlot_14
set_option maxHeartbeats 4000000 in
set_option maxRecDepth 100000 in
theorem f_isSeed (l : Launch) (D : va_G) (cy : Nat → ClassId) (v : Int32) : MM l yX9_isSeed cX9_isSeed 1 (some .boolean) 0 0 0 D cy [.int v] (fun H => va_P D vwCl [] H) (PuI (fun r => (r = 1 ∧ 0 ≤ v.toInt ∧ v.toInt ≤ 2000000000) ∨ (r = 0 ∧ (v.toInt < 0 ∨ 2000000000 < v.toInt)))) noF := by
  refine MM.of (by decide) (Nat.le_of_ble_eq_true rfl) ?_
  intro p e s m below meth c C hP ls hl
  obtain ⟨hx, hb, hr, hml, hown, hts, hlocks, hK, hnm⟩ := C
  have hP : va_P D vwCl [] s.heap := hP
  have hl : lv_has ls 1 [(0, .int v)] := hl
  refine lv_iload_n hx hb dX9_isSeed_0 rfl (lv_at hl 0 rfl) ?_
  refine lv_if_lt (tgt := 15) hx hb dX9_isSeed_1 (by decide) (fun c_1 => ?_) (fun c_1 => ?_)
  · skip
    have tc_1 : v.toInt < 0 := (fa_lt _ _).mp c_1
    refine lv_iconst (v := 0) hx hb dX9_isSeed_15 (by decide) ?_
    exact ret_z (ty := .boolean) hx hb hr rfl hlocks ⟨rfl, _, rfl, (Or.inr ⟨rfl, (by omega)⟩)⟩ (fun _ h => absurd h List.not_mem_nil) (Nat.le_refl _) (Nat.le_refl _) dX9_isSeed_16
  · skip
    have tc_1 : ¬ v.toInt < 0 := fun h => c_1 ((fa_lt _ _).mpr h)
    refine lv_iload_n hx hb dX9_isSeed_4 rfl (lv_at hl 0 rfl) ?_
    refine lv_ldcw (v := 2000000000) hx hb hown (hts _ ki_X9_383) dX9_isSeed_5 ?_
    refine lv_icmp_gt (tgt := 15) hx hb dX9_isSeed_8 (by decide) (fun c_2 => ?_) (fun c_2 => ?_)
    · skip
      have tc_2 : 2000000000 < v.toInt := (fa_lt _ _).mp c_2
      refine lv_iconst (v := 0) hx hb dX9_isSeed_15 (by decide) ?_
      exact ret_z (ty := .boolean) hx hb hr rfl hlocks ⟨rfl, _, rfl, (Or.inr ⟨rfl, (by omega)⟩)⟩ (fun _ h => absurd h List.not_mem_nil) (Nat.le_refl _) (Nat.le_refl _) dX9_isSeed_16
    · skip
      have tc_2 : ¬ 2000000000 < v.toInt := fun h => c_2 ((fa_lt _ _).mpr h)
      refine lv_iconst (v := 1) hx hb dX9_isSeed_11 (by decide) ?_
      refine lv_goto (tgt := 16) hx hb dX9_isSeed_12 (by decide) ?_
      exact ret_z (ty := .boolean) hx hb hr rfl hlocks ⟨rfl, _, rfl, (Or.inl ⟨rfl, (by omega), (by omega)⟩)⟩ (fun _ h => absurd h List.not_mem_nil) (Nat.le_refl _) (Nat.le_refl _) dX9_isSeed_16
end
section
theorem dX9_shareState_0 : decode cX9_shareState 0 = .ok (.iload_n 1, 1) := by decide +kernel
theorem dX9_shareState_1 : decode cX9_shareState 1 = .ok (.invokestatic 312, 3) := by decide +kernel
theorem dX9_shareState_4 : decode cX9_shareState 4 = .ok (.ifCond .eq 35, 3) := by decide +kernel
theorem dX9_shareState_7 : decode cX9_shareState 7 = .ok (.iload_n 2, 1) := by decide +kernel
theorem dX9_shareState_8 : decode cX9_shareState 8 = .ok (.ifCond .lt 31, 3) := by decide +kernel
theorem dX9_shareState_39 : decode cX9_shareState 39 = .ok (.bipush (-2), 2) := by decide +kernel
theorem dX9_shareState_41 : decode cX9_shareState 41 = .ok (.ireturn, 1) := by decide +kernel
theorem dX9_shareState_11 : decode cX9_shareState 11 = .ok (.iload_n 2, 1) := by decide +kernel
theorem dX9_shareState_12 : decode cX9_shareState 12 = .ok (.iconst 1, 1) := by decide +kernel
theorem dX9_shareState_13 : decode cX9_shareState 13 = .ok (.if_icmp .gt 26, 3) := by decide +kernel
theorem dX9_shareState_16 : decode cX9_shareState 16 = .ok (.iload_n 3, 1) := by decide +kernel
theorem dX9_shareState_17 : decode cX9_shareState 17 = .ok (.ifCond .lt 22, 3) := by decide +kernel
theorem dX9_shareState_20 : decode cX9_shareState 20 = .ok (.iload_n 3, 1) := by decide +kernel
theorem dX9_shareState_21 : decode cX9_shareState 21 = .ok (.ldc_w 384, 3) := by decide +kernel
theorem dX9_shareState_24 : decode cX9_shareState 24 = .ok (.if_icmp .gt 15, 3) := by decide +kernel
theorem dX9_shareState_27 : decode cX9_shareState 27 = .ok (.aload_n 0, 1) := by decide +kernel
theorem dX9_shareState_28 : decode cX9_shareState 28 = .ok (.getfield 67, 3) := by decide +kernel
theorem dX9_shareState_31 : decode cX9_shareState 31 = .ok (.iload 4, 2) := by decide +kernel
theorem dX9_shareState_33 : decode cX9_shareState 33 = .ok (.invokevirtual 99, 3) := by decide +kernel
theorem dX9_shareState_36 : decode cX9_shareState 36 = .ok (.ifCond .ne 6, 3) := by decide +kernel
theorem dX9_shuts_0 : decode cX9_shuts 0 = .ok (.aload_n 0, 1) := by decide +kernel
theorem dX9_shuts_1 : decode cX9_shuts 1 = .ok (.getfield 67, 3) := by decide +kernel
theorem dX9_shuts_4 : decode cX9_shuts 4 = .ok (.iload_n 1, 1) := by decide +kernel
theorem dX9_shuts_5 : decode cX9_shuts 5 = .ok (.invokevirtual 99, 3) := by decide +kernel
theorem dX9_shuts_8 : decode cX9_shuts 8 = .ok (.ifCond .eq 14, 3) := by decide +kernel
theorem dX9_shuts_22 : decode cX9_shuts 22 = .ok (.ldc2_w 106, 3) := by decide +kernel
theorem dX9_shuts_25 : decode cX9_shuts 25 = .ok (.lreturn, 1) := by decide +kernel
theorem dX9_by_0 : decode cX9_by 0 = .ok (.aload_n 0, 1) := by decide +kernel
theorem dX9_by_1 : decode cX9_by 1 = .ok (.getfield 67, 3) := by decide +kernel
theorem dX9_by_4 : decode cX9_by 4 = .ok (.iload_n 1, 1) := by decide +kernel
theorem dX9_by_5 : decode cX9_by 5 = .ok (.invokevirtual 99, 3) := by decide +kernel
theorem dX9_by_8 : decode cX9_by 8 = .ok (.ifCond .eq 14, 3) := by decide +kernel
theorem dX9_by_22 : decode cX9_by 22 = .ok (.ldc2_w 106, 3) := by decide +kernel
theorem dX9_by_25 : decode cX9_by 25 = .ok (.lreturn, 1) := by decide +kernel
theorem dX9_both_0 : decode cX9_both 0 = .ok (.aload_n 0, 1) := by decide +kernel
theorem dX9_both_1 : decode cX9_both 1 = .ok (.getfield 67, 3) := by decide +kernel
theorem dX9_both_4 : decode cX9_both 4 = .ok (.iload_n 1, 1) := by decide +kernel
theorem dX9_both_5 : decode cX9_both 5 = .ok (.iload_n 3, 1) := by decide +kernel
theorem dX9_both_6 : decode cX9_both 6 = .ok (.invokevirtual 125, 3) := by decide +kernel
theorem dX9_both_9 : decode cX9_both 9 = .ok (.ifCond .eq 26, 3) := by decide +kernel
theorem dX9_both_35 : decode cX9_both 35 = .ok (.ldc2_w 106, 3) := by decide +kernel
theorem dX9_both_38 : decode cX9_both 38 = .ok (.lreturn, 1) := by decide +kernel
theorem dX9_together_0 : decode cX9_together 0 = .ok (.aload_n 0, 1) := by decide +kernel
theorem dX9_together_1 : decode cX9_together 1 = .ok (.getfield 67, 3) := by decide +kernel
theorem dX9_together_4 : decode cX9_together 4 = .ok (.iload_n 1, 1) := by decide +kernel
theorem dX9_together_5 : decode cX9_together 5 = .ok (.invokevirtual 122, 3) := by decide +kernel
theorem dX9_together_8 : decode cX9_together 8 = .ok (.ifCond .eq 18, 3) := by decide +kernel
theorem dX9_together_26 : decode cX9_together 26 = .ok (.ldc2_w 106, 3) := by decide +kernel
theorem dX9_together_29 : decode cX9_together 29 = .ok (.lreturn, 1) := by decide +kernel
theorem dX9_set_0 : decode cX9_set 0 = .ok (.aload_n 0, 1) := by decide +kernel
theorem dX9_set_1 : decode cX9_set 1 = .ok (.getfield 67, 3) := by decide +kernel
theorem dX9_set_4 : decode cX9_set 4 = .ok (.iload_n 1, 1) := by decide +kernel
theorem dX9_set_5 : decode cX9_set 5 = .ok (.invokevirtual 122, 3) := by decide +kernel
theorem dX9_set_8 : decode cX9_set 8 = .ok (.ifCond .eq 14, 3) := by decide +kernel
theorem dX9_set_22 : decode cX9_set 22 = .ok (.ldc2_w 106, 3) := by decide +kernel
theorem dX9_set_25 : decode cX9_set 25 = .ok (.lreturn, 1) := by decide +kernel
theorem dX9_when_0 : decode cX9_when 0 = .ok (.aload_n 0, 1) := by decide +kernel
theorem dX9_when_1 : decode cX9_when 1 = .ok (.getfield 67, 3) := by decide +kernel
theorem dX9_when_4 : decode cX9_when 4 = .ok (.iload_n 1, 1) := by decide +kernel
theorem dX9_when_5 : decode cX9_when 5 = .ok (.invokevirtual 99, 3) := by decide +kernel
theorem dX9_when_8 : decode cX9_when 8 = .ok (.ifCond .eq 15, 3) := by decide +kernel
theorem dX9_when_23 : decode cX9_when 23 = .ok (.bipush (-2), 2) := by decide +kernel
theorem dX9_when_25 : decode cX9_when 25 = .ok (.ireturn, 1) := by decide +kernel
theorem dX9_wants_0 : decode cX9_wants 0 = .ok (.aload_n 0, 1) := by decide +kernel
theorem dX9_wants_1 : decode cX9_wants 1 = .ok (.getfield 67, 3) := by decide +kernel
theorem dX9_wants_4 : decode cX9_wants 4 = .ok (.iload_n 1, 1) := by decide +kernel
theorem dX9_wants_5 : decode cX9_wants 5 = .ok (.iload_n 2, 1) := by decide +kernel
theorem dX9_wants_6 : decode cX9_wants 6 = .ok (.invokevirtual 160, 3) := by decide +kernel
theorem dX9_wants_9 : decode cX9_wants 9 = .ok (.ifCond .eq 14, 3) := by decide +kernel
theorem dX9_wants_23 : decode cX9_wants 23 = .ok (.bipush (-2), 2) := by decide +kernel
theorem dX9_wants_25 : decode cX9_wants 25 = .ok (.ireturn, 1) := by decide +kernel
theorem dX9_cost_0 : decode cX9_cost 0 = .ok (.aload_n 0, 1) := by decide +kernel
theorem dX9_cost_1 : decode cX9_cost 1 = .ok (.getfield 67, 3) := by decide +kernel
theorem dX9_cost_4 : decode cX9_cost 4 = .ok (.iload_n 1, 1) := by decide +kernel
theorem dX9_cost_5 : decode cX9_cost 5 = .ok (.iload_n 2, 1) := by decide +kernel
theorem dX9_cost_6 : decode cX9_cost 6 = .ok (.invokevirtual 160, 3) := by decide +kernel
theorem dX9_cost_9 : decode cX9_cost 9 = .ok (.ifCond .eq 10, 3) := by decide +kernel
theorem dX9_cost_19 : decode cX9_cost 19 = .ok (.ldc2_w 106, 3) := by decide +kernel
theorem dX9_cost_22 : decode cX9_cost 22 = .ok (.lreturn, 1) := by decide +kernel
theorem dX9_worth_0 : decode cX9_worth 0 = .ok (.aload_n 0, 1) := by decide +kernel
theorem dX9_worth_1 : decode cX9_worth 1 = .ok (.getfield 67, 3) := by decide +kernel
theorem dX9_worth_4 : decode cX9_worth 4 = .ok (.iload_n 1, 1) := by decide +kernel
theorem dX9_worth_5 : decode cX9_worth 5 = .ok (.iload_n 2, 1) := by decide +kernel
theorem dX9_worth_6 : decode cX9_worth 6 = .ok (.invokevirtual 160, 3) := by decide +kernel
theorem dX9_worth_9 : decode cX9_worth 9 = .ok (.ifCond .eq 14, 3) := by decide +kernel
theorem dX9_worth_23 : decode cX9_worth 23 = .ok (.ldc2_w 176, 3) := by decide +kernel
theorem dX9_worth_26 : decode cX9_worth 26 = .ok (.lreturn, 1) := by decide +kernel
theorem dX9_best_0 : decode cX9_best 0 = .ok (.aload_n 0, 1) := by decide +kernel
theorem dX9_best_1 : decode cX9_best 1 = .ok (.getfield 67, 3) := by decide +kernel
theorem dX9_best_4 : decode cX9_best 4 = .ok (.iload_n 1, 1) := by decide +kernel
theorem dX9_best_5 : decode cX9_best 5 = .ok (.iload_n 2, 1) := by decide +kernel
theorem dX9_best_6 : decode cX9_best 6 = .ok (.invokevirtual 160, 3) := by decide +kernel
theorem dX9_best_9 : decode cX9_best 9 = .ok (.ifCond .ne 6, 3) := by decide +kernel
theorem dX9_best_12 : decode cX9_best 12 = .ok (.bipush (-2), 2) := by decide +kernel
theorem dX9_best_14 : decode cX9_best 14 = .ok (.ireturn, 1) := by decide +kernel
theorem dX9_sure_0 : decode cX9_sure 0 = .ok (.aload_n 0, 1) := by decide +kernel
theorem dX9_sure_1 : decode cX9_sure 1 = .ok (.getfield 67, 3) := by decide +kernel
theorem dX9_sure_4 : decode cX9_sure 4 = .ok (.iload_n 1, 1) := by decide +kernel
theorem dX9_sure_5 : decode cX9_sure 5 = .ok (.iload_n 2, 1) := by decide +kernel
theorem dX9_sure_6 : decode cX9_sure 6 = .ok (.invokevirtual 160, 3) := by decide +kernel
theorem dX9_sure_9 : decode cX9_sure 9 = .ok (.ifCond .eq 10, 3) := by decide +kernel
theorem dX9_sure_19 : decode cX9_sure 19 = .ok (.ldc2_w 106, 3) := by decide +kernel
theorem dX9_sure_22 : decode cX9_sure 22 = .ok (.lreturn, 1) := by decide +kernel
theorem dX9_need_0 : decode cX9_need 0 = .ok (.aload_n 0, 1) := by decide +kernel
theorem dX9_need_1 : decode cX9_need 1 = .ok (.getfield 67, 3) := by decide +kernel
theorem dX9_need_4 : decode cX9_need 4 = .ok (.iload_n 1, 1) := by decide +kernel
theorem dX9_need_5 : decode cX9_need 5 = .ok (.iload_n 2, 1) := by decide +kernel
theorem dX9_need_6 : decode cX9_need 6 = .ok (.invokevirtual 160, 3) := by decide +kernel
theorem dX9_need_9 : decode cX9_need 9 = .ok (.ifCond .eq 14, 3) := by decide +kernel
theorem dX9_need_23 : decode cX9_need 23 = .ok (.bipush (-2), 2) := by decide +kernel
theorem dX9_need_25 : decode cX9_need 25 = .ok (.ireturn, 1) := by decide +kernel
theorem dX9_packed_0 : decode cX9_packed 0 = .ok (.aload_n 0, 1) := by decide +kernel
theorem dX9_packed_1 : decode cX9_packed 1 = .ok (.getfield 67, 3) := by decide +kernel
theorem dX9_packed_4 : decode cX9_packed 4 = .ok (.iload_n 1, 1) := by decide +kernel
theorem dX9_packed_5 : decode cX9_packed 5 = .ok (.invokevirtual 99, 3) := by decide +kernel
theorem dX9_packed_8 : decode cX9_packed 8 = .ok (.ifCond .ne 7, 3) := by decide +kernel
theorem dX9_packed_11 : decode cX9_packed 11 = .ok (.ldc2_w 106, 3) := by decide +kernel
theorem dX9_packed_14 : decode cX9_packed 14 = .ok (.lreturn, 1) := by decide +kernel
theorem dX9_pack_0 : decode cX9_pack 0 = .ok (.aload_n 0, 1) := by decide +kernel
theorem dX9_pack_1 : decode cX9_pack 1 = .ok (.getfield 67, 3) := by decide +kernel
theorem dX9_pack_4 : decode cX9_pack 4 = .ok (.iload_n 1, 1) := by decide +kernel
theorem dX9_pack_5 : decode cX9_pack 5 = .ok (.iload_n 2, 1) := by decide +kernel
theorem dX9_pack_6 : decode cX9_pack 6 = .ok (.invokevirtual 160, 3) := by decide +kernel
theorem dX9_pack_9 : decode cX9_pack 9 = .ok (.ifCond .ne 6, 3) := by decide +kernel
theorem dX9_pack_12 : decode cX9_pack 12 = .ok (.bipush (-2), 2) := by decide +kernel
theorem dX9_pack_14 : decode cX9_pack 14 = .ok (.ireturn, 1) := by decide +kernel
theorem dX9_gap_0 : decode cX9_gap 0 = .ok (.aload_n 0, 1) := by decide +kernel
theorem dX9_gap_1 : decode cX9_gap 1 = .ok (.getfield 67, 3) := by decide +kernel
theorem dX9_gap_4 : decode cX9_gap 4 = .ok (.iload_n 1, 1) := by decide +kernel
theorem dX9_gap_5 : decode cX9_gap 5 = .ok (.invokevirtual 99, 3) := by decide +kernel
theorem dX9_gap_8 : decode cX9_gap 8 = .ok (.ifCond .ne 7, 3) := by decide +kernel
theorem dX9_gap_11 : decode cX9_gap 11 = .ok (.ldc2_w 106, 3) := by decide +kernel
theorem dX9_gap_14 : decode cX9_gap 14 = .ok (.lreturn, 1) := by decide +kernel
theorem dX9_late_0 : decode cX9_late 0 = .ok (.aload_n 0, 1) := by decide +kernel
theorem dX9_late_1 : decode cX9_late 1 = .ok (.getfield 67, 3) := by decide +kernel
theorem dX9_late_4 : decode cX9_late 4 = .ok (.iload_n 1, 1) := by decide +kernel
theorem dX9_late_5 : decode cX9_late 5 = .ok (.iload_n 2, 1) := by decide +kernel
theorem dX9_late_6 : decode cX9_late 6 = .ok (.invokevirtual 160, 3) := by decide +kernel
theorem dX9_late_9 : decode cX9_late 9 = .ok (.ifCond .ne 7, 3) := by decide +kernel
theorem dX9_late_12 : decode cX9_late 12 = .ok (.ldc2_w 106, 3) := by decide +kernel
theorem dX9_late_15 : decode cX9_late 15 = .ok (.lreturn, 1) := by decide +kernel
theorem dX9_today_0 : decode cX9_today 0 = .ok (.aload_n 0, 1) := by decide +kernel
theorem dX9_today_1 : decode cX9_today 1 = .ok (.getfield 67, 3) := by decide +kernel
theorem dX9_today_4 : decode cX9_today 4 = .ok (.iload_n 1, 1) := by decide +kernel
theorem dX9_today_5 : decode cX9_today 5 = .ok (.iload_n 2, 1) := by decide +kernel
theorem dX9_today_6 : decode cX9_today 6 = .ok (.invokevirtual 160, 3) := by decide +kernel
theorem dX9_today_9 : decode cX9_today 9 = .ok (.ifCond .eq 27, 3) := by decide +kernel
theorem dX9_today_36 : decode cX9_today 36 = .ok (.bipush (-2), 2) := by decide +kernel
theorem dX9_today_38 : decode cX9_today 38 = .ok (.ireturn, 1) := by decide +kernel
theorem dX9_last_0 : decode cX9_last 0 = .ok (.aload_n 0, 1) := by decide +kernel
theorem dX9_last_1 : decode cX9_last 1 = .ok (.getfield 67, 3) := by decide +kernel
theorem dX9_last_4 : decode cX9_last 4 = .ok (.iload_n 1, 1) := by decide +kernel
theorem dX9_last_5 : decode cX9_last 5 = .ok (.iload_n 2, 1) := by decide +kernel
theorem dX9_last_6 : decode cX9_last 6 = .ok (.invokevirtual 160, 3) := by decide +kernel
theorem dX9_last_9 : decode cX9_last 9 = .ok (.ifCond .ne 6, 3) := by decide +kernel
theorem dX9_last_12 : decode cX9_last 12 = .ok (.bipush (-2), 2) := by decide +kernel
theorem dX9_last_14 : decode cX9_last 14 = .ok (.ireturn, 1) := by decide +kernel
theorem dX9_signs_0 : decode cX9_signs 0 = .ok (.aload_n 0, 1) := by decide +kernel
theorem dX9_signs_1 : decode cX9_signs 1 = .ok (.getfield 67, 3) := by decide +kernel
theorem dX9_signs_4 : decode cX9_signs 4 = .ok (.iload_n 1, 1) := by decide +kernel
theorem dX9_signs_5 : decode cX9_signs 5 = .ok (.iload_n 2, 1) := by decide +kernel
theorem dX9_signs_6 : decode cX9_signs 6 = .ok (.invokevirtual 160, 3) := by decide +kernel
theorem dX9_signs_9 : decode cX9_signs 9 = .ok (.ifCond .ne 7, 3) := by decide +kernel
theorem dX9_signs_12 : decode cX9_signs 12 = .ok (.ldc2_w 176, 3) := by decide +kernel
theorem dX9_signs_15 : decode cX9_signs 15 = .ok (.lreturn, 1) := by decide +kernel
theorem dX9_fork_0 : decode cX9_fork 0 = .ok (.aload_n 0, 1) := by decide +kernel
theorem dX9_fork_1 : decode cX9_fork 1 = .ok (.getfield 67, 3) := by decide +kernel
theorem dX9_fork_4 : decode cX9_fork 4 = .ok (.iload_n 1, 1) := by decide +kernel
theorem dX9_fork_5 : decode cX9_fork 5 = .ok (.iload_n 2, 1) := by decide +kernel
theorem dX9_fork_6 : decode cX9_fork 6 = .ok (.invokevirtual 125, 3) := by decide +kernel
theorem dX9_fork_9 : decode cX9_fork 9 = .ok (.ifCond .eq 22, 3) := by decide +kernel
theorem dX9_fork_31 : decode cX9_fork 31 = .ok (.ldc2_w 106, 3) := by decide +kernel
theorem dX9_fork_34 : decode cX9_fork 34 = .ok (.lreturn, 1) := by decide +kernel
theorem dX9_middle_0 : decode cX9_middle 0 = .ok (.aload_n 0, 1) := by decide +kernel
theorem dX9_middle_1 : decode cX9_middle 1 = .ok (.getfield 67, 3) := by decide +kernel
theorem dX9_middle_4 : decode cX9_middle 4 = .ok (.iload_n 1, 1) := by decide +kernel
theorem dX9_middle_5 : decode cX9_middle 5 = .ok (.iload_n 2, 1) := by decide +kernel
theorem dX9_middle_6 : decode cX9_middle 6 = .ok (.invokevirtual 125, 3) := by decide +kernel
theorem dX9_middle_9 : decode cX9_middle 9 = .ok (.ifCond .eq 14, 3) := by decide +kernel
theorem dX9_middle_23 : decode cX9_middle 23 = .ok (.bipush (-2), 2) := by decide +kernel
theorem dX9_middle_25 : decode cX9_middle 25 = .ok (.ireturn, 1) := by decide +kernel
theorem dX9_shares_0 : decode cX9_shares 0 = .ok (.aload_n 0, 1) := by decide +kernel
theorem dX9_shares_1 : decode cX9_shares 1 = .ok (.getfield 67, 3) := by decide +kernel
theorem dX9_shares_4 : decode cX9_shares 4 = .ok (.iload_n 1, 1) := by decide +kernel
theorem dX9_shares_5 : decode cX9_shares 5 = .ok (.iload_n 2, 1) := by decide +kernel
theorem dX9_shares_6 : decode cX9_shares 6 = .ok (.invokevirtual 125, 3) := by decide +kernel
theorem dX9_shares_9 : decode cX9_shares 9 = .ok (.ifCond .eq 14, 3) := by decide +kernel
theorem dX9_shares_23 : decode cX9_shares 23 = .ok (.ldc2_w 176, 3) := by decide +kernel
theorem dX9_shares_26 : decode cX9_shares 26 = .ok (.lreturn, 1) := by decide +kernel
theorem dX9_flown_0 : decode cX9_flown 0 = .ok (.aload_n 0, 1) := by decide +kernel
theorem dX9_flown_1 : decode cX9_flown 1 = .ok (.getfield 67, 3) := by decide +kernel
theorem dX9_flown_4 : decode cX9_flown 4 = .ok (.iload_n 1, 1) := by decide +kernel
theorem dX9_flown_5 : decode cX9_flown 5 = .ok (.iload_n 2, 1) := by decide +kernel
theorem dX9_flown_6 : decode cX9_flown 6 = .ok (.invokevirtual 160, 3) := by decide +kernel
theorem dX9_flown_9 : decode cX9_flown 9 = .ok (.ifCond .eq 10, 3) := by decide +kernel
theorem dX9_flown_19 : decode cX9_flown 19 = .ok (.ldc2_w 106, 3) := by decide +kernel
theorem dX9_flown_22 : decode cX9_flown 22 = .ok (.lreturn, 1) := by decide +kernel
theorem dX9_plane_0 : decode cX9_plane 0 = .ok (.aload_n 0, 1) := by decide +kernel
theorem dX9_plane_1 : decode cX9_plane 1 = .ok (.getfield 67, 3) := by decide +kernel
theorem dX9_plane_4 : decode cX9_plane 4 = .ok (.iload_n 1, 1) := by decide +kernel
theorem dX9_plane_5 : decode cX9_plane 5 = .ok (.iload_n 2, 1) := by decide +kernel
theorem dX9_plane_6 : decode cX9_plane 6 = .ok (.invokevirtual 160, 3) := by decide +kernel
theorem dX9_plane_9 : decode cX9_plane 9 = .ok (.ifCond .ne 6, 3) := by decide +kernel
theorem dX9_plane_12 : decode cX9_plane 12 = .ok (.bipush (-2), 2) := by decide +kernel
theorem dX9_plane_14 : decode cX9_plane 14 = .ok (.ireturn, 1) := by decide +kernel
theorem dX9_edge_0 : decode cX9_edge 0 = .ok (.aload_n 0, 1) := by decide +kernel
theorem dX9_edge_1 : decode cX9_edge 1 = .ok (.getfield 67, 3) := by decide +kernel
theorem dX9_edge_4 : decode cX9_edge 4 = .ok (.iload_n 1, 1) := by decide +kernel
theorem dX9_edge_5 : decode cX9_edge 5 = .ok (.invokevirtual 242, 3) := by decide +kernel
theorem dX9_edge_8 : decode cX9_edge 8 = .ok (.ifCond .ne 6, 3) := by decide +kernel
theorem dX9_edge_11 : decode cX9_edge 11 = .ok (.bipush (-2), 2) := by decide +kernel
theorem dX9_edge_13 : decode cX9_edge 13 = .ok (.ireturn, 1) := by decide +kernel
theorem dX9_path_0 : decode cX9_path 0 = .ok (.aload_n 0, 1) := by decide +kernel
theorem dX9_path_1 : decode cX9_path 1 = .ok (.getfield 67, 3) := by decide +kernel
theorem dX9_path_4 : decode cX9_path 4 = .ok (.iload_n 1, 1) := by decide +kernel
theorem dX9_path_5 : decode cX9_path 5 = .ok (.iload_n 2, 1) := by decide +kernel
theorem dX9_path_6 : decode cX9_path 6 = .ok (.invokevirtual 125, 3) := by decide +kernel
theorem dX9_path_9 : decode cX9_path 9 = .ok (.ifCond .eq 22, 3) := by decide +kernel
theorem dX9_path_31 : decode cX9_path 31 = .ok (.ldc2_w 106, 3) := by decide +kernel
theorem dX9_path_34 : decode cX9_path 34 = .ok (.lreturn, 1) := by decide +kernel
theorem dX9_fed_0 : decode cX9_fed 0 = .ok (.aload_n 0, 1) := by decide +kernel
theorem dX9_fed_1 : decode cX9_fed 1 = .ok (.getfield 67, 3) := by decide +kernel
theorem dX9_fed_4 : decode cX9_fed 4 = .ok (.iload_n 1, 1) := by decide +kernel
theorem dX9_fed_5 : decode cX9_fed 5 = .ok (.iload_n 2, 1) := by decide +kernel
theorem dX9_fed_6 : decode cX9_fed 6 = .ok (.invokevirtual 125, 3) := by decide +kernel
theorem dX9_fed_9 : decode cX9_fed 9 = .ok (.ifCond .ne 6, 3) := by decide +kernel
theorem dX9_fed_12 : decode cX9_fed 12 = .ok (.bipush (-2), 2) := by decide +kernel
theorem dX9_fed_14 : decode cX9_fed 14 = .ok (.ireturn, 1) := by decide +kernel
theorem dX9_given_0 : decode cX9_given 0 = .ok (.aload_n 0, 1) := by decide +kernel
theorem dX9_given_1 : decode cX9_given 1 = .ok (.iload_n 1, 1) := by decide +kernel
theorem dX9_given_2 : decode cX9_given 2 = .ok (.iload_n 2, 1) := by decide +kernel
theorem dX9_given_3 : decode cX9_given 3 = .ok (.iload_n 3, 1) := by decide +kernel
theorem dX9_given_4 : decode cX9_given 4 = .ok (.iload 4, 2) := by decide +kernel
theorem dX9_given_6 : decode cX9_given 6 = .ok (.invokevirtual 273, 3) := by decide +kernel
theorem dX9_given_9 : decode cX9_given 9 = .ok (.istore 5, 2) := by decide +kernel
theorem dX9_given_11 : decode cX9_given 11 = .ok (.iload 5, 2) := by decide +kernel
theorem dX9_given_13 : decode cX9_given 13 = .ok (.ifCond .eq 6, 3) := by decide +kernel
theorem dX9_given_16 : decode cX9_given 16 = .ok (.iload 5, 2) := by decide +kernel
theorem dX9_given_18 : decode cX9_given 18 = .ok (.ireturn, 1) := by decide +kernel
theorem dX9_asks_0 : decode cX9_asks 0 = .ok (.aload_n 0, 1) := by decide +kernel
theorem dX9_asks_1 : decode cX9_asks 1 = .ok (.getfield 67, 3) := by decide +kernel
theorem dX9_asks_4 : decode cX9_asks 4 = .ok (.iload 5, 2) := by decide +kernel
theorem dX9_asks_6 : decode cX9_asks 6 = .ok (.invokevirtual 242, 3) := by decide +kernel
theorem dX9_asks_9 : decode cX9_asks 9 = .ok (.ifCond .ne 6, 3) := by decide +kernel
theorem dX9_asks_12 : decode cX9_asks 12 = .ok (.bipush (-2), 2) := by decide +kernel
theorem dX9_asks_14 : decode cX9_asks 14 = .ok (.ireturn, 1) := by decide +kernel
theorem dX9_pays_0 : decode cX9_pays 0 = .ok (.aload_n 0, 1) := by decide +kernel
theorem dX9_pays_1 : decode cX9_pays 1 = .ok (.getfield 67, 3) := by decide +kernel
theorem dX9_pays_4 : decode cX9_pays 4 = .ok (.iload 5, 2) := by decide +kernel
theorem dX9_pays_6 : decode cX9_pays 6 = .ok (.invokevirtual 242, 3) := by decide +kernel
theorem dX9_pays_9 : decode cX9_pays 9 = .ok (.ifCond .ne 7, 3) := by decide +kernel
theorem dX9_pays_12 : decode cX9_pays 12 = .ok (.ldc2_w 106, 3) := by decide +kernel
theorem dX9_pays_15 : decode cX9_pays 15 = .ok (.lreturn, 1) := by decide +kernel
theorem dX9_burnt_0 : decode cX9_burnt 0 = .ok (.aload_n 0, 1) := by decide +kernel
theorem dX9_burnt_1 : decode cX9_burnt 1 = .ok (.getfield 67, 3) := by decide +kernel
theorem dX9_burnt_4 : decode cX9_burnt 4 = .ok (.iload_n 1, 1) := by decide +kernel
theorem dX9_burnt_5 : decode cX9_burnt 5 = .ok (.iload_n 2, 1) := by decide +kernel
theorem dX9_burnt_6 : decode cX9_burnt 6 = .ok (.invokevirtual 160, 3) := by decide +kernel
theorem dX9_burnt_9 : decode cX9_burnt 9 = .ok (.ifCond .eq 18, 3) := by decide +kernel
theorem dX9_burnt_27 : decode cX9_burnt 27 = .ok (.ldc2_w 106, 3) := by decide +kernel
theorem dX9_burnt_30 : decode cX9_burnt 30 = .ok (.lreturn, 1) := by decide +kernel
theorem dX9_spread_0 : decode cX9_spread 0 = .ok (.aload_n 0, 1) := by decide +kernel
theorem dX9_spread_1 : decode cX9_spread 1 = .ok (.getfield 67, 3) := by decide +kernel
theorem dX9_spread_4 : decode cX9_spread 4 = .ok (.iload_n 1, 1) := by decide +kernel
theorem dX9_spread_5 : decode cX9_spread 5 = .ok (.iload_n 2, 1) := by decide +kernel
theorem dX9_spread_6 : decode cX9_spread 6 = .ok (.invokevirtual 160, 3) := by decide +kernel
theorem dX9_spread_9 : decode cX9_spread 9 = .ok (.ifCond .eq 18, 3) := by decide +kernel
theorem dX9_spread_27 : decode cX9_spread 27 = .ok (.ldc2_w 106, 3) := by decide +kernel
theorem dX9_spread_30 : decode cX9_spread 30 = .ok (.lreturn, 1) := by decide +kernel
theorem dX9_bear_0 : decode cX9_bear 0 = .ok (.aload_n 0, 1) := by decide +kernel
theorem dX9_bear_1 : decode cX9_bear 1 = .ok (.getfield 67, 3) := by decide +kernel
theorem dX9_bear_4 : decode cX9_bear 4 = .ok (.iload_n 1, 1) := by decide +kernel
theorem dX9_bear_5 : decode cX9_bear 5 = .ok (.iload_n 2, 1) := by decide +kernel
theorem dX9_bear_6 : decode cX9_bear 6 = .ok (.invokevirtual 160, 3) := by decide +kernel
theorem dX9_bear_9 : decode cX9_bear 9 = .ok (.ifCond .eq 10, 3) := by decide +kernel
theorem dX9_bear_19 : decode cX9_bear 19 = .ok (.bipush (-2), 2) := by decide +kernel
theorem dX9_bear_21 : decode cX9_bear 21 = .ok (.ireturn, 1) := by decide +kernel
theorem dX9_run_0 : decode cX9_run 0 = .ok (.iload_n 1, 1) := by decide +kernel
theorem dX9_run_1 : decode cX9_run 1 = .ok (.invokestatic 301, 3) := by decide +kernel
theorem dX9_run_4 : decode cX9_run 4 = .ok (.ifCond .eq 13, 3) := by decide +kernel
theorem dX9_run_7 : decode cX9_run 7 = .ok (.aload_n 0, 1) := by decide +kernel
theorem dX9_run_8 : decode cX9_run 8 = .ok (.getfield 67, 3) := by decide +kernel
theorem dX9_run_11 : decode cX9_run 11 = .ok (.getfield 155, 3) := by decide +kernel
theorem dX9_run_14 : decode cX9_run 14 = .ok (.ifCond .ne 6, 3) := by decide +kernel
theorem dX9_run_17 : decode cX9_run 17 = .ok (.bipush (-2), 2) := by decide +kernel
theorem dX9_run_19 : decode cX9_run 19 = .ok (.ireturn, 1) := by decide +kernel
theorem dX9_told_0 : decode cX9_told 0 = .ok (.iload_n 1, 1) := by decide +kernel
theorem dX9_told_1 : decode cX9_told 1 = .ok (.invokestatic 312, 3) := by decide +kernel
theorem dX9_told_4 : decode cX9_told 4 = .ok (.ifCond .eq 13, 3) := by decide +kernel
theorem dX9_told_7 : decode cX9_told 7 = .ok (.aload_n 0, 1) := by decide +kernel
theorem dX9_told_8 : decode cX9_told 8 = .ok (.getfield 67, 3) := by decide +kernel
theorem dX9_told_11 : decode cX9_told 11 = .ok (.getfield 155, 3) := by decide +kernel
theorem dX9_told_14 : decode cX9_told 14 = .ok (.ifCond .ne 6, 3) := by decide +kernel
theorem dX9_told_17 : decode cX9_told 17 = .ok (.bipush (-2), 2) := by decide +kernel
theorem dX9_told_19 : decode cX9_told 19 = .ok (.ireturn, 1) := by decide +kernel
theorem dX9_shut_0 : decode cX9_shut 0 = .ok (.aload_n 0, 1) := by decide +kernel
theorem dX9_shut_1 : decode cX9_shut 1 = .ok (.getfield 67, 3) := by decide +kernel
theorem dX9_shut_4 : decode cX9_shut 4 = .ok (.iload_n 1, 1) := by decide +kernel
theorem dX9_shut_5 : decode cX9_shut 5 = .ok (.invokevirtual 99, 3) := by decide +kernel
theorem dX9_shut_8 : decode cX9_shut 8 = .ok (.ifCond .ne 6, 3) := by decide +kernel
theorem dX9_shut_11 : decode cX9_shut 11 = .ok (.bipush (-2), 2) := by decide +kernel
theorem dX9_shut_13 : decode cX9_shut 13 = .ok (.ireturn, 1) := by decide +kernel
theorem dX9_lacks_0 : decode cX9_lacks 0 = .ok (.aload_n 0, 1) := by decide +kernel
theorem dX9_lacks_1 : decode cX9_lacks 1 = .ok (.getfield 67, 3) := by decide +kernel
theorem dX9_lacks_4 : decode cX9_lacks 4 = .ok (.iload_n 1, 1) := by decide +kernel
theorem dX9_lacks_5 : decode cX9_lacks 5 = .ok (.iload_n 2, 1) := by decide +kernel
theorem dX9_lacks_6 : decode cX9_lacks 6 = .ok (.invokevirtual 160, 3) := by decide +kernel
theorem dX9_lacks_9 : decode cX9_lacks 9 = .ok (.ifCond .eq 21, 3) := by decide +kernel
theorem dX9_lacks_30 : decode cX9_lacks 30 = .ok (.bipush (-2), 2) := by decide +kernel
theorem dX9_lacks_32 : decode cX9_lacks 32 = .ok (.ireturn, 1) := by decide +kernel
theorem dX9_judge_0 : decode cX9_judge 0 = .ok (.iload_n 1, 1) := by decide +kernel
theorem dX9_judge_1 : decode cX9_judge 1 = .ok (.invokestatic 312, 3) := by decide +kernel
theorem dX9_judge_4 : decode cX9_judge 4 = .ok (.ifCond .eq 14, 3) := by decide +kernel
theorem dX9_judge_7 : decode cX9_judge 7 = .ok (.aload_n 0, 1) := by decide +kernel
theorem dX9_judge_8 : decode cX9_judge 8 = .ok (.getfield 67, 3) := by decide +kernel
theorem dX9_judge_11 : decode cX9_judge 11 = .ok (.iload_n 2, 1) := by decide +kernel
theorem dX9_judge_12 : decode cX9_judge 12 = .ok (.invokevirtual 99, 3) := by decide +kernel
theorem dX9_judge_15 : decode cX9_judge 15 = .ok (.ifCond .ne 6, 3) := by decide +kernel
theorem dX9_judge_18 : decode cX9_judge 18 = .ok (.bipush (-2), 2) := by decide +kernel
theorem dX9_judge_20 : decode cX9_judge 20 = .ok (.ireturn, 1) := by decide +kernel
theorem dX9_paid_0 : decode cX9_paid 0 = .ok (.iload_n 1, 1) := by decide +kernel
theorem dX9_paid_1 : decode cX9_paid 1 = .ok (.invokestatic 312, 3) := by decide +kernel
theorem dX9_paid_4 : decode cX9_paid 4 = .ok (.ifCond .eq 22, 3) := by decide +kernel
theorem dX9_paid_7 : decode cX9_paid 7 = .ok (.aload_n 0, 1) := by decide +kernel
theorem dX9_paid_8 : decode cX9_paid 8 = .ok (.getfield 67, 3) := by decide +kernel
theorem dX9_paid_11 : decode cX9_paid 11 = .ok (.iload_n 2, 1) := by decide +kernel
theorem dX9_paid_12 : decode cX9_paid 12 = .ok (.iload_n 3, 1) := by decide +kernel
theorem dX9_paid_13 : decode cX9_paid 13 = .ok (.invokevirtual 160, 3) := by decide +kernel
theorem dX9_paid_16 : decode cX9_paid 16 = .ok (.ifCond .eq 10, 3) := by decide +kernel
theorem dX9_paid_26 : decode cX9_paid 26 = .ok (.ldc2_w 176, 3) := by decide +kernel
theorem dX9_paid_29 : decode cX9_paid 29 = .ok (.lreturn, 1) := by decide +kernel
theorem dX9_years_0 : decode cX9_years 0 = .ok (.iload_n 1, 1) := by decide +kernel
theorem dX9_years_1 : decode cX9_years 1 = .ok (.invokestatic 301, 3) := by decide +kernel
theorem dX9_years_4 : decode cX9_years 4 = .ok (.ifCond .eq 25, 3) := by decide +kernel
theorem dX9_years_7 : decode cX9_years 7 = .ok (.iload_n 2, 1) := by decide +kernel
theorem dX9_years_8 : decode cX9_years 8 = .ok (.iconst 1, 1) := by decide +kernel
theorem dX9_years_9 : decode cX9_years 9 = .ok (.if_icmp .lt 20, 3) := by decide +kernel
theorem dX9_years_29 : decode cX9_years 29 = .ok (.bipush (-2), 2) := by decide +kernel
theorem dX9_years_31 : decode cX9_years 31 = .ok (.ireturn, 1) := by decide +kernel
theorem dX9_years_12 : decode cX9_years 12 = .ok (.iload_n 2, 1) := by decide +kernel
theorem dX9_years_13 : decode cX9_years 13 = .ok (.bipush 100, 2) := by decide +kernel
theorem dX9_years_15 : decode cX9_years 15 = .ok (.if_icmp .gt 14, 3) := by decide +kernel
theorem dX9_years_18 : decode cX9_years 18 = .ok (.iload 6, 2) := by decide +kernel
theorem dX9_years_20 : decode cX9_years 20 = .ok (.ifCond .lt 9, 3) := by decide +kernel
theorem dX9_years_23 : decode cX9_years 23 = .ok (.iload 6, 2) := by decide +kernel
theorem dX9_years_25 : decode cX9_years 25 = .ok (.iconst 3, 1) := by decide +kernel
theorem dX9_years_26 : decode cX9_years 26 = .ok (.if_icmp .le 6, 3) := by decide +kernel
theorem dX9_years_32 : decode cX9_years 32 = .ok (.aload_n 0, 1) := by decide +kernel
theorem dX9_years_33 : decode cX9_years 33 = .ok (.getfield 67, 3) := by decide +kernel
theorem dX9_years_36 : decode cX9_years 36 = .ok (.iload_n 3, 1) := by decide +kernel
theorem dX9_years_37 : decode cX9_years 37 = .ok (.iload 4, 2) := by decide +kernel
theorem dX9_years_39 : decode cX9_years 39 = .ok (.invokevirtual 160, 3) := by decide +kernel
theorem dX9_years_42 : decode cX9_years 42 = .ok (.ifCond .eq 11, 3) := by decide +kernel
theorem dX9_years_53 : decode cX9_years 53 = .ok (.bipush (-2), 2) := by decide +kernel
theorem dX9_years_55 : decode cX9_years 55 = .ok (.ireturn, 1) := by decide +kernel
theorem sS_X9_312 : SiteS RX9 312 yX9_isSlot cX9_isSlot 1 (some .boolean) 1 := ⟨ml_X9_312, st_X9_isSlot, ini_X9, co_X9_isSlot, by decide +kernel⟩
theorem sV_X9_99 : SiteV RX9 99 yX2_hasValley cX2_hasValley 2 (some .boolean) 1 := ⟨ml_X9_99, im_X2_hasValley, se_X2_hasValley, ini_X2, co_X2_hasValley, by decide +kernel⟩
theorem sV_X9_125 : SiteV RX9 125 yX2_hasTwo cX2_hasTwo 3 (some .boolean) 2 := ⟨ml_X9_125, im_X2_hasTwo, se_X2_hasTwo, ini_X2, co_X2_hasTwo, by decide +kernel⟩
theorem sV_X9_122 : SiteV RX9 122 yX2_hasDay cX2_hasDay 2 (some .boolean) 1 := ⟨ml_X9_122, im_X2_hasDay, se_X2_hasDay, ini_X2, co_X2_hasDay, by decide +kernel⟩
theorem sV_X9_160 : SiteV RX9 160 yX2_hasStore cX2_hasStore 3 (some .boolean) 2 := ⟨ml_X9_160, im_X2_hasStore, se_X2_hasStore, ini_X2, co_X2_hasStore, by decide +kernel⟩
theorem sV_X9_242 : SiteV RX9 242 yX2_hasThing cX2_hasThing 2 (some .boolean) 1 := ⟨ml_X9_242, im_X2_hasThing, se_X2_hasThing, ini_X2, co_X2_hasThing, by decide +kernel⟩
theorem sV_X9_273 : SiteV RX9 273 yX9_shareState cX9_shareState 6 (some .int) 4 := ⟨ml_X9_273, im_X9_shareState, se_X9_shareState, ini_X9, co_X9_shareState, by decide +kernel⟩
theorem sS_X9_301 : SiteS RX9 301 yX9_isSeed cX9_isSeed 1 (some .boolean) 1 := ⟨ml_X9_301, st_X9_isSeed, ini_X9, co_X9_isSeed, by decide +kernel⟩
set_option maxHeartbeats 4000000 in
set_option maxRecDepth 100000 in
theorem f_shareState (l : Launch) (D : va_G) (cy : Nat → ClassId) (xa : Nat → Nat) (a : Int32) (b : Int32) (c1 : Int32) (d1 : Int32) : MM l yX9_shareState cX9_shareState 6 (some .int) 1 0 0 D cy [.ref (xa 0), .int a, .int b, .int c1, .int d1] (fun H => va_P D vwCl [((xa 0), .inr (9, [.ref (xa 1), .ref (xa 2), .ref (xa 3), .ref (xa 4), .ref (xa 5), .ref (xa 6), .ref (xa 7), .ref (xa 8), .ref (xa 9), .int 0, .ref (xa 11), .null, .int 0, .int (-1)])), ((xa 11), .inr (2, [.int 0, .int 0, .int 0, .int 0, .int 0, .int 0, .int 0, .int 0, .int 1, .int 10, .int 0, .int 0, .int 0, .int 0, .ref (xa 20), .ref (xa 21), .ref (xa 22), .ref (xa 23), .ref (xa 24), .ref (xa 25), .ref (xa 26)]))] H) (PuI (fun r => r = (-2))) noF := by
  refine MM.of (by decide) (Nat.le_of_ble_eq_true rfl) ?_
  intro p e s m below meth c C hP ls hl
  obtain ⟨hx, hb, hr, hml, hown, hts, hlocks, hK, hnm⟩ := C
  have hP : va_P D vwCl [((xa 0), .inr (9, [.ref (xa 1), .ref (xa 2), .ref (xa 3), .ref (xa 4), .ref (xa 5), .ref (xa 6), .ref (xa 7), .ref (xa 8), .ref (xa 9), .int 0, .ref (xa 11), .null, .int 0, .int (-1)])), ((xa 11), .inr (2, [.int 0, .int 0, .int 0, .int 0, .int 0, .int 0, .int 0, .int 0, .int 1, .int 10, .int 0, .int 0, .int 0, .int 0, .ref (xa 20), .ref (xa 21), .ref (xa 22), .ref (xa 23), .ref (xa 24), .ref (xa 25), .ref (xa 26)]))] s.heap := hP
  have hl : lv_has ls 6 [(0, .ref (xa 0)), (1, .int a), (2, .int b), (3, .int c1), (4, .int d1)] := hl
  refine lv_iload_n hx hb dX9_shareState_0 rfl (lv_at hl 1 rfl) ?_
  refine pu_calli (runS (As := [.int a]) (rest := []) ⟨hx, hb, hml, hown, hts⟩ (f_isSlot l D cy a ) sS_X9_312 hK (hP.sub (ws' := []) [] rfl) ⟨Nat.le_of_ble_eq_true rfl, Nat.le_of_ble_eq_true rfl⟩ rfl hl.1 rfl (Nat.le_of_ble_eq_true rfl) dX9_shareState_1 ⟨Nat.le_of_ble_eq_true rfl, Nat.le_of_ble_eq_true rfl⟩) (fun r_1 hr_1 => ?_)
  rcases hr_1 with hr_1_0 | hr_1_1
  · skip
    obtain ⟨er_1, hr_1_0_f0, hr_1_0_f1⟩ := hr_1_0
    have hr_1_0_f0 : 0 ≤ a.toInt := hr_1_0_f0
    have hr_1_0_f1 : a.toInt ≤ 3 := hr_1_0_f1
    subst er_1
    refine W.eq (g2 := F0 m 4 ls [.int 1]) rfl ?_
    refine lv_if_eq (tgt := 39) hx hb dX9_shareState_4 (by decide) (fun c_2 => absurd c_2 (by decide)) (fun _ => ?_)
    refine lv_iload_n hx hb dX9_shareState_7 rfl (lv_at hl 2 rfl) ?_
    refine lv_if_lt (tgt := 39) hx hb dX9_shareState_8 (by decide) (fun c_3 => ?_) (fun c_3 => ?_)
    · skip
      have tc_3 : b.toInt < 0 := (fa_lt _ _).mp c_3
      refine lv_bipush (v := (-2)) hx hb dX9_shareState_39 (by decide) ?_
      exact ret_i hx hb hr hlocks ⟨rfl, _, rfl, rfl⟩ (fun _ h => absurd h List.not_mem_nil) (Nat.le_refl _) (Nat.le_refl _) dX9_shareState_41
    · skip
      have tc_3 : ¬ b.toInt < 0 := fun h => c_3 ((fa_lt _ _).mpr h)
      refine lv_iload_n hx hb dX9_shareState_11 rfl (lv_at hl 2 rfl) ?_
      refine lv_iconst (v := 1) hx hb dX9_shareState_12 (by decide) ?_
      refine lv_icmp_gt (tgt := 39) hx hb dX9_shareState_13 (by decide) (fun c_4 => ?_) (fun c_4 => ?_)
      · skip
        have tc_4 : 1 < b.toInt := (fa_lt _ _).mp c_4
        refine lv_bipush (v := (-2)) hx hb dX9_shareState_39 (by decide) ?_
        exact ret_i hx hb hr hlocks ⟨rfl, _, rfl, rfl⟩ (fun _ h => absurd h List.not_mem_nil) (Nat.le_refl _) (Nat.le_refl _) dX9_shareState_41
      · skip
        have tc_4 : ¬ 1 < b.toInt := fun h => c_4 ((fa_lt _ _).mpr h)
        refine lv_iload_n hx hb dX9_shareState_16 rfl (lv_at hl 3 rfl) ?_
        refine lv_if_lt (tgt := 39) hx hb dX9_shareState_17 (by decide) (fun c_5 => ?_) (fun c_5 => ?_)
        · skip
          have tc_5 : c1.toInt < 0 := (fa_lt _ _).mp c_5
          refine lv_bipush (v := (-2)) hx hb dX9_shareState_39 (by decide) ?_
          exact ret_i hx hb hr hlocks ⟨rfl, _, rfl, rfl⟩ (fun _ h => absurd h List.not_mem_nil) (Nat.le_refl _) (Nat.le_refl _) dX9_shareState_41
        · skip
          have tc_5 : ¬ c1.toInt < 0 := fun h => c_5 ((fa_lt _ _).mpr h)
          refine lv_iload_n hx hb dX9_shareState_20 rfl (lv_at hl 3 rfl) ?_
          refine lv_ldcw (v := 99999) hx hb hown (hts _ ki_X9_384) dX9_shareState_21 ?_
          refine lv_icmp_gt (tgt := 39) hx hb dX9_shareState_24 (by decide) (fun c_6 => ?_) (fun c_6 => ?_)
          · skip
            have tc_6 : 99999 < c1.toInt := (fa_lt _ _).mp c_6
            refine lv_bipush (v := (-2)) hx hb dX9_shareState_39 (by decide) ?_
            exact ret_i hx hb hr hlocks ⟨rfl, _, rfl, rfl⟩ (fun _ h => absurd h List.not_mem_nil) (Nat.le_refl _) (Nat.le_refl _) dX9_shareState_41
          · skip
            have tc_6 : ¬ 99999 < c1.toInt := fun h => c_6 ((fa_lt _ _).mpr h)
            refine lv_aload_n hx hb dX9_shareState_27 rfl (lv_at hl 0 rfl) ?_
            refine va_get (D := D) (ci := 9) (v := .ref (xa 11)) (C := RX9) (T := TX9) (N := 14) hx hb hts lay_X9 hown hK.1 hP 0 rfl rfl 10 (by decide) (hts _ fl_X9_67) (fun _ h9 => h9) rfl dX9_shareState_28 ?_
            refine lv_iload hx hb dX9_shareState_31 (lv_at hl 4 rfl) ?_
            refine pu_calli (runV (As := [.int d1]) (rest := []) ⟨hx, hb, hml, hown, hts⟩ (f_hasValley l D cy xa d1 ) sV_X9_99 hK (va_recv hK.1 hP (ci := 2) (q0 := 1) rfl rfl) (hP.sub (ws' := [((xa 11), .inr (2, [.int 0, .int 0, .int 0, .int 0, .int 0, .int 0, .int 0, .int 0, .int 1, .int 10, .int 0, .int 0, .int 0, .int 0, .ref (xa 20), .ref (xa 21), .ref (xa 22), .ref (xa 23), .ref (xa 24), .ref (xa 25), .ref (xa 26)]))]) [1] rfl) ⟨Nat.le_of_ble_eq_true rfl, Nat.le_of_ble_eq_true rfl⟩ rfl hl.1 rfl (Nat.le_of_ble_eq_true rfl) dX9_shareState_33 ⟨Nat.le_of_ble_eq_true rfl, Nat.le_of_ble_eq_true rfl⟩) (fun r_7 hr_7 => ?_)
            have er_7 := hr_7
            subst er_7
            refine W.eq (g2 := F0 m 36 ls [.int 0]) rfl ?_
            refine lv_if_ne (tgt := 42) hx hb dX9_shareState_36 (by decide) (fun c_8 => absurd c_8 (by decide)) (fun _ => ?_)
            refine lv_bipush (v := (-2)) hx hb dX9_shareState_39 (by decide) ?_
            exact ret_i hx hb hr hlocks ⟨rfl, _, rfl, rfl⟩ (fun _ h => absurd h List.not_mem_nil) (Nat.le_refl _) (Nat.le_refl _) dX9_shareState_41
  · skip
    obtain ⟨er_1, hr_1_1_f0⟩ := hr_1_1
    have hr_1_1_f0 : (a.toInt < 0 ∨ 3 < a.toInt) := hr_1_1_f0
    subst er_1
    refine W.eq (g2 := F0 m 4 ls [.int 0]) rfl ?_
    refine lv_if_eq (tgt := 39) hx hb dX9_shareState_4 (by decide) (fun _ => ?_) (fun c_9 => absurd (by decide) c_9)
    refine lv_bipush (v := (-2)) hx hb dX9_shareState_39 (by decide) ?_
    exact ret_i hx hb hr hlocks ⟨rfl, _, rfl, rfl⟩ (fun _ h => absurd h List.not_mem_nil) (Nat.le_refl _) (Nat.le_refl _) dX9_shareState_41
set_option maxHeartbeats 4000000 in
set_option maxRecDepth 100000 in
theorem f_X9_shuts (l : Launch) (D : va_G) (cy : Nat → ClassId) (xa : Nat → Nat) (n0 : Int32) (n1 : Int32) : MM l yX9_shuts cX9_shuts 3 (some .long) 1 0 0 D cy [.ref (xa 0), .int n0, .int n1] (fun H => va_P D vwCl [((xa 0), .inr (9, [.ref (xa 1), .ref (xa 2), .ref (xa 3), .ref (xa 4), .ref (xa 5), .ref (xa 6), .ref (xa 7), .ref (xa 8), .ref (xa 9), .int 0, .ref (xa 11), .null, .int 0, .int (-1)])), ((xa 11), .inr (2, [.int 0, .int 0, .int 0, .int 0, .int 0, .int 0, .int 0, .int 0, .int 1, .int 10, .int 0, .int 0, .int 0, .int 0, .ref (xa 20), .ref (xa 21), .ref (xa 22), .ref (xa 23), .ref (xa 24), .ref (xa 25), .ref (xa 26)]))] H) (PuL (fun r => r = (-2))) noF := by
  refine MM.of (by decide) (Nat.le_of_ble_eq_true rfl) ?_
  intro p e s m below meth c C hP ls hl
  obtain ⟨hx, hb, hr, hml, hown, hts, hlocks, hK, hnm⟩ := C
  have hP : va_P D vwCl [((xa 0), .inr (9, [.ref (xa 1), .ref (xa 2), .ref (xa 3), .ref (xa 4), .ref (xa 5), .ref (xa 6), .ref (xa 7), .ref (xa 8), .ref (xa 9), .int 0, .ref (xa 11), .null, .int 0, .int (-1)])), ((xa 11), .inr (2, [.int 0, .int 0, .int 0, .int 0, .int 0, .int 0, .int 0, .int 0, .int 1, .int 10, .int 0, .int 0, .int 0, .int 0, .ref (xa 20), .ref (xa 21), .ref (xa 22), .ref (xa 23), .ref (xa 24), .ref (xa 25), .ref (xa 26)]))] s.heap := hP
  have hl : lv_has ls 3 [(0, .ref (xa 0)), (1, .int n0), (2, .int n1)] := hl
  refine lv_aload_n hx hb dX9_shuts_0 rfl (lv_at hl 0 rfl) ?_
  refine va_get (D := D) (ci := 9) (v := .ref (xa 11)) (C := RX9) (T := TX9) (N := 14) hx hb hts lay_X9 hown hK.1 hP 0 rfl rfl 10 (by decide) (hts _ fl_X9_67) (fun _ h9 => h9) rfl dX9_shuts_1 ?_
  refine lv_iload_n hx hb dX9_shuts_4 rfl (lv_at hl 1 rfl) ?_
  refine pu_calli (runV (As := [.int n0]) (rest := []) ⟨hx, hb, hml, hown, hts⟩ (f_hasValley l D cy xa n0 ) sV_X9_99 hK (va_recv hK.1 hP (ci := 2) (q0 := 1) rfl rfl) (hP.sub (ws' := [((xa 11), .inr (2, [.int 0, .int 0, .int 0, .int 0, .int 0, .int 0, .int 0, .int 0, .int 1, .int 10, .int 0, .int 0, .int 0, .int 0, .ref (xa 20), .ref (xa 21), .ref (xa 22), .ref (xa 23), .ref (xa 24), .ref (xa 25), .ref (xa 26)]))]) [1] rfl) ⟨Nat.le_of_ble_eq_true rfl, Nat.le_of_ble_eq_true rfl⟩ rfl hl.1 rfl (Nat.le_of_ble_eq_true rfl) dX9_shuts_5 ⟨Nat.le_of_ble_eq_true rfl, Nat.le_of_ble_eq_true rfl⟩) (fun r_1 hr_1 => ?_)
  have er_1 := hr_1
  subst er_1
  refine W.eq (g2 := F0 m 8 ls [.int 0]) rfl ?_
  refine lv_if_eq (tgt := 22) hx hb dX9_shuts_8 (by decide) (fun _ => ?_) (fun c_2 => absurd (by decide) c_2)
  refine lv_ldc2 (v := (-2)) hx hb hown (hts _ kl_X9_106) dX9_shuts_22 ?_
  exact ret_l hx hb hr hlocks ⟨rfl, _, rfl, rfl⟩ (fun _ h => absurd h List.not_mem_nil) (Nat.le_refl _) (Nat.le_refl _) dX9_shuts_25
set_option maxHeartbeats 4000000 in
set_option maxRecDepth 100000 in
theorem f_X9_by (l : Launch) (D : va_G) (cy : Nat → ClassId) (xa : Nat → Nat) (n0 : Int32) (n1 : Int32) : MM l yX9_by cX9_by 6 (some .long) 1 0 0 D cy [.ref (xa 0), .int n0, .int n1] (fun H => va_P D vwCl [((xa 0), .inr (9, [.ref (xa 1), .ref (xa 2), .ref (xa 3), .ref (xa 4), .ref (xa 5), .ref (xa 6), .ref (xa 7), .ref (xa 8), .ref (xa 9), .int 0, .ref (xa 11), .null, .int 0, .int (-1)])), ((xa 11), .inr (2, [.int 0, .int 0, .int 0, .int 0, .int 0, .int 0, .int 0, .int 0, .int 1, .int 10, .int 0, .int 0, .int 0, .int 0, .ref (xa 20), .ref (xa 21), .ref (xa 22), .ref (xa 23), .ref (xa 24), .ref (xa 25), .ref (xa 26)]))] H) (PuL (fun r => r = (-2))) noF := by
  refine MM.of (by decide) (Nat.le_of_ble_eq_true rfl) ?_
  intro p e s m below meth c C hP ls hl
  obtain ⟨hx, hb, hr, hml, hown, hts, hlocks, hK, hnm⟩ := C
  have hP : va_P D vwCl [((xa 0), .inr (9, [.ref (xa 1), .ref (xa 2), .ref (xa 3), .ref (xa 4), .ref (xa 5), .ref (xa 6), .ref (xa 7), .ref (xa 8), .ref (xa 9), .int 0, .ref (xa 11), .null, .int 0, .int (-1)])), ((xa 11), .inr (2, [.int 0, .int 0, .int 0, .int 0, .int 0, .int 0, .int 0, .int 0, .int 1, .int 10, .int 0, .int 0, .int 0, .int 0, .ref (xa 20), .ref (xa 21), .ref (xa 22), .ref (xa 23), .ref (xa 24), .ref (xa 25), .ref (xa 26)]))] s.heap := hP
  have hl : lv_has ls 6 [(0, .ref (xa 0)), (1, .int n0), (2, .int n1)] := hl
  refine lv_aload_n hx hb dX9_by_0 rfl (lv_at hl 0 rfl) ?_
  refine va_get (D := D) (ci := 9) (v := .ref (xa 11)) (C := RX9) (T := TX9) (N := 14) hx hb hts lay_X9 hown hK.1 hP 0 rfl rfl 10 (by decide) (hts _ fl_X9_67) (fun _ h9 => h9) rfl dX9_by_1 ?_
  refine lv_iload_n hx hb dX9_by_4 rfl (lv_at hl 1 rfl) ?_
  refine pu_calli (runV (As := [.int n0]) (rest := []) ⟨hx, hb, hml, hown, hts⟩ (f_hasValley l D cy xa n0 ) sV_X9_99 hK (va_recv hK.1 hP (ci := 2) (q0 := 1) rfl rfl) (hP.sub (ws' := [((xa 11), .inr (2, [.int 0, .int 0, .int 0, .int 0, .int 0, .int 0, .int 0, .int 0, .int 1, .int 10, .int 0, .int 0, .int 0, .int 0, .ref (xa 20), .ref (xa 21), .ref (xa 22), .ref (xa 23), .ref (xa 24), .ref (xa 25), .ref (xa 26)]))]) [1] rfl) ⟨Nat.le_of_ble_eq_true rfl, Nat.le_of_ble_eq_true rfl⟩ rfl hl.1 rfl (Nat.le_of_ble_eq_true rfl) dX9_by_5 ⟨Nat.le_of_ble_eq_true rfl, Nat.le_of_ble_eq_true rfl⟩) (fun r_1 hr_1 => ?_)
  have er_1 := hr_1
  subst er_1
  refine W.eq (g2 := F0 m 8 ls [.int 0]) rfl ?_
  refine lv_if_eq (tgt := 22) hx hb dX9_by_8 (by decide) (fun _ => ?_) (fun c_2 => absurd (by decide) c_2)
  refine lv_ldc2 (v := (-2)) hx hb hown (hts _ kl_X9_106) dX9_by_22 ?_
  exact ret_l hx hb hr hlocks ⟨rfl, _, rfl, rfl⟩ (fun _ h => absurd h List.not_mem_nil) (Nat.le_refl _) (Nat.le_refl _) dX9_by_25
set_option maxHeartbeats 4000000 in
set_option maxRecDepth 100000 in
theorem f_X9_both (l : Launch) (D : va_G) (cy : Nat → ClassId) (xa : Nat → Nat) (n0 : Int32) (n1 : Int32) (n2 : Int32) (n3 : Int32) : MM l yX9_both cX9_both 5 (some .long) 2 0 0 D cy [.ref (xa 0), .int n0, .int n1, .int n2, .int n3] (fun H => va_P D vwCl [((xa 0), .inr (9, [.ref (xa 1), .ref (xa 2), .ref (xa 3), .ref (xa 4), .ref (xa 5), .ref (xa 6), .ref (xa 7), .ref (xa 8), .ref (xa 9), .int 0, .ref (xa 11), .null, .int 0, .int (-1)])), ((xa 11), .inr (2, [.int 0, .int 0, .int 0, .int 0, .int 0, .int 0, .int 0, .int 0, .int 1, .int 10, .int 0, .int 0, .int 0, .int 0, .ref (xa 20), .ref (xa 21), .ref (xa 22), .ref (xa 23), .ref (xa 24), .ref (xa 25), .ref (xa 26)]))] H) (PuL (fun r => r = (-2))) noF := by
  refine MM.of (by decide) (Nat.le_of_ble_eq_true rfl) ?_
  intro p e s m below meth c C hP ls hl
  obtain ⟨hx, hb, hr, hml, hown, hts, hlocks, hK, hnm⟩ := C
  have hP : va_P D vwCl [((xa 0), .inr (9, [.ref (xa 1), .ref (xa 2), .ref (xa 3), .ref (xa 4), .ref (xa 5), .ref (xa 6), .ref (xa 7), .ref (xa 8), .ref (xa 9), .int 0, .ref (xa 11), .null, .int 0, .int (-1)])), ((xa 11), .inr (2, [.int 0, .int 0, .int 0, .int 0, .int 0, .int 0, .int 0, .int 0, .int 1, .int 10, .int 0, .int 0, .int 0, .int 0, .ref (xa 20), .ref (xa 21), .ref (xa 22), .ref (xa 23), .ref (xa 24), .ref (xa 25), .ref (xa 26)]))] s.heap := hP
  have hl : lv_has ls 5 [(0, .ref (xa 0)), (1, .int n0), (2, .int n1), (3, .int n2), (4, .int n3)] := hl
  refine lv_aload_n hx hb dX9_both_0 rfl (lv_at hl 0 rfl) ?_
  refine va_get (D := D) (ci := 9) (v := .ref (xa 11)) (C := RX9) (T := TX9) (N := 14) hx hb hts lay_X9 hown hK.1 hP 0 rfl rfl 10 (by decide) (hts _ fl_X9_67) (fun _ h9 => h9) rfl dX9_both_1 ?_
  refine lv_iload_n hx hb dX9_both_4 rfl (lv_at hl 1 rfl) ?_
  refine lv_iload_n hx hb dX9_both_5 rfl (lv_at hl 3 rfl) ?_
  refine pu_calli (runV (As := [.int n0, .int n2]) (rest := []) ⟨hx, hb, hml, hown, hts⟩ (f_hasTwo l D cy xa n0 n2 ) sV_X9_125 hK (va_recv hK.1 hP (ci := 2) (q0 := 1) rfl rfl) (hP.sub (ws' := [((xa 11), .inr (2, [.int 0, .int 0, .int 0, .int 0, .int 0, .int 0, .int 0, .int 0, .int 1, .int 10, .int 0, .int 0, .int 0, .int 0, .ref (xa 20), .ref (xa 21), .ref (xa 22), .ref (xa 23), .ref (xa 24), .ref (xa 25), .ref (xa 26)]))]) [1] rfl) ⟨Nat.le_of_ble_eq_true rfl, Nat.le_of_ble_eq_true rfl⟩ rfl hl.1 rfl (Nat.le_of_ble_eq_true rfl) dX9_both_6 ⟨Nat.le_of_ble_eq_true rfl, Nat.le_of_ble_eq_true rfl⟩) (fun r_1 hr_1 => ?_)
  have er_1 := hr_1
  subst er_1
  refine W.eq (g2 := F0 m 9 ls [.int 0]) rfl ?_
  refine lv_if_eq (tgt := 35) hx hb dX9_both_9 (by decide) (fun _ => ?_) (fun c_2 => absurd (by decide) c_2)
  refine lv_ldc2 (v := (-2)) hx hb hown (hts _ kl_X9_106) dX9_both_35 ?_
  exact ret_l hx hb hr hlocks ⟨rfl, _, rfl, rfl⟩ (fun _ h => absurd h List.not_mem_nil) (Nat.le_refl _) (Nat.le_refl _) dX9_both_38
set_option maxHeartbeats 4000000 in
set_option maxRecDepth 100000 in
theorem f_X9_together (l : Launch) (D : va_G) (cy : Nat → ClassId) (xa : Nat → Nat) (n0 : Int32) (n1 : Int32) : MM l yX9_together cX9_together 6 (some .long) 1 0 0 D cy [.ref (xa 0), .int n0, .int n1] (fun H => va_P D vwCl [((xa 0), .inr (9, [.ref (xa 1), .ref (xa 2), .ref (xa 3), .ref (xa 4), .ref (xa 5), .ref (xa 6), .ref (xa 7), .ref (xa 8), .ref (xa 9), .int 0, .ref (xa 11), .null, .int 0, .int (-1)])), ((xa 11), .inr (2, [.int 0, .int 0, .int 0, .int 0, .int 0, .int 0, .int 0, .int 0, .int 1, .int 10, .int 0, .int 0, .int 0, .int 0, .ref (xa 20), .ref (xa 21), .ref (xa 22), .ref (xa 23), .ref (xa 24), .ref (xa 25), .ref (xa 26)]))] H) (PuL (fun r => r = (-2))) noF := by
  refine MM.of (by decide) (Nat.le_of_ble_eq_true rfl) ?_
  intro p e s m below meth c C hP ls hl
  obtain ⟨hx, hb, hr, hml, hown, hts, hlocks, hK, hnm⟩ := C
  have hP : va_P D vwCl [((xa 0), .inr (9, [.ref (xa 1), .ref (xa 2), .ref (xa 3), .ref (xa 4), .ref (xa 5), .ref (xa 6), .ref (xa 7), .ref (xa 8), .ref (xa 9), .int 0, .ref (xa 11), .null, .int 0, .int (-1)])), ((xa 11), .inr (2, [.int 0, .int 0, .int 0, .int 0, .int 0, .int 0, .int 0, .int 0, .int 1, .int 10, .int 0, .int 0, .int 0, .int 0, .ref (xa 20), .ref (xa 21), .ref (xa 22), .ref (xa 23), .ref (xa 24), .ref (xa 25), .ref (xa 26)]))] s.heap := hP
  have hl : lv_has ls 6 [(0, .ref (xa 0)), (1, .int n0), (2, .int n1)] := hl
  refine lv_aload_n hx hb dX9_together_0 rfl (lv_at hl 0 rfl) ?_
  refine va_get (D := D) (ci := 9) (v := .ref (xa 11)) (C := RX9) (T := TX9) (N := 14) hx hb hts lay_X9 hown hK.1 hP 0 rfl rfl 10 (by decide) (hts _ fl_X9_67) (fun _ h9 => h9) rfl dX9_together_1 ?_
  refine lv_iload_n hx hb dX9_together_4 rfl (lv_at hl 1 rfl) ?_
  refine pu_calli (runV (As := [.int n0]) (rest := []) ⟨hx, hb, hml, hown, hts⟩ (f_hasDay l D cy xa n0 ) sV_X9_122 hK (va_recv hK.1 hP (ci := 2) (q0 := 1) rfl rfl) (hP.sub (ws' := [((xa 11), .inr (2, [.int 0, .int 0, .int 0, .int 0, .int 0, .int 0, .int 0, .int 0, .int 1, .int 10, .int 0, .int 0, .int 0, .int 0, .ref (xa 20), .ref (xa 21), .ref (xa 22), .ref (xa 23), .ref (xa 24), .ref (xa 25), .ref (xa 26)]))]) [1] rfl) ⟨Nat.le_of_ble_eq_true rfl, Nat.le_of_ble_eq_true rfl⟩ rfl hl.1 rfl (Nat.le_of_ble_eq_true rfl) dX9_together_5 ⟨Nat.le_of_ble_eq_true rfl, Nat.le_of_ble_eq_true rfl⟩) (fun r_1 hr_1 => ?_)
  have er_1 := hr_1
  subst er_1
  refine W.eq (g2 := F0 m 8 ls [.int 0]) rfl ?_
  refine lv_if_eq (tgt := 26) hx hb dX9_together_8 (by decide) (fun _ => ?_) (fun c_2 => absurd (by decide) c_2)
  refine lv_ldc2 (v := (-2)) hx hb hown (hts _ kl_X9_106) dX9_together_26 ?_
  exact ret_l hx hb hr hlocks ⟨rfl, _, rfl, rfl⟩ (fun _ h => absurd h List.not_mem_nil) (Nat.le_refl _) (Nat.le_refl _) dX9_together_29
set_option maxHeartbeats 4000000 in
set_option maxRecDepth 100000 in
theorem f_X9_set (l : Launch) (D : va_G) (cy : Nat → ClassId) (xa : Nat → Nat) (n0 : Int32) (n1 : Int32) : MM l yX9_set cX9_set 3 (some .long) 1 0 0 D cy [.ref (xa 0), .int n0, .int n1] (fun H => va_P D vwCl [((xa 0), .inr (9, [.ref (xa 1), .ref (xa 2), .ref (xa 3), .ref (xa 4), .ref (xa 5), .ref (xa 6), .ref (xa 7), .ref (xa 8), .ref (xa 9), .int 0, .ref (xa 11), .null, .int 0, .int (-1)])), ((xa 11), .inr (2, [.int 0, .int 0, .int 0, .int 0, .int 0, .int 0, .int 0, .int 0, .int 1, .int 10, .int 0, .int 0, .int 0, .int 0, .ref (xa 20), .ref (xa 21), .ref (xa 22), .ref (xa 23), .ref (xa 24), .ref (xa 25), .ref (xa 26)]))] H) (PuL (fun r => r = (-2))) noF := by
  refine MM.of (by decide) (Nat.le_of_ble_eq_true rfl) ?_
  intro p e s m below meth c C hP ls hl
  obtain ⟨hx, hb, hr, hml, hown, hts, hlocks, hK, hnm⟩ := C
  have hP : va_P D vwCl [((xa 0), .inr (9, [.ref (xa 1), .ref (xa 2), .ref (xa 3), .ref (xa 4), .ref (xa 5), .ref (xa 6), .ref (xa 7), .ref (xa 8), .ref (xa 9), .int 0, .ref (xa 11), .null, .int 0, .int (-1)])), ((xa 11), .inr (2, [.int 0, .int 0, .int 0, .int 0, .int 0, .int 0, .int 0, .int 0, .int 1, .int 10, .int 0, .int 0, .int 0, .int 0, .ref (xa 20), .ref (xa 21), .ref (xa 22), .ref (xa 23), .ref (xa 24), .ref (xa 25), .ref (xa 26)]))] s.heap := hP
  have hl : lv_has ls 3 [(0, .ref (xa 0)), (1, .int n0), (2, .int n1)] := hl
  refine lv_aload_n hx hb dX9_set_0 rfl (lv_at hl 0 rfl) ?_
  refine va_get (D := D) (ci := 9) (v := .ref (xa 11)) (C := RX9) (T := TX9) (N := 14) hx hb hts lay_X9 hown hK.1 hP 0 rfl rfl 10 (by decide) (hts _ fl_X9_67) (fun _ h9 => h9) rfl dX9_set_1 ?_
  refine lv_iload_n hx hb dX9_set_4 rfl (lv_at hl 1 rfl) ?_
  refine pu_calli (runV (As := [.int n0]) (rest := []) ⟨hx, hb, hml, hown, hts⟩ (f_hasDay l D cy xa n0 ) sV_X9_122 hK (va_recv hK.1 hP (ci := 2) (q0 := 1) rfl rfl) (hP.sub (ws' := [((xa 11), .inr (2, [.int 0, .int 0, .int 0, .int 0, .int 0, .int 0, .int 0, .int 0, .int 1, .int 10, .int 0, .int 0, .int 0, .int 0, .ref (xa 20), .ref (xa 21), .ref (xa 22), .ref (xa 23), .ref (xa 24), .ref (xa 25), .ref (xa 26)]))]) [1] rfl) ⟨Nat.le_of_ble_eq_true rfl, Nat.le_of_ble_eq_true rfl⟩ rfl hl.1 rfl (Nat.le_of_ble_eq_true rfl) dX9_set_5 ⟨Nat.le_of_ble_eq_true rfl, Nat.le_of_ble_eq_true rfl⟩) (fun r_1 hr_1 => ?_)
  have er_1 := hr_1
  subst er_1
  refine W.eq (g2 := F0 m 8 ls [.int 0]) rfl ?_
  refine lv_if_eq (tgt := 22) hx hb dX9_set_8 (by decide) (fun _ => ?_) (fun c_2 => absurd (by decide) c_2)
  refine lv_ldc2 (v := (-2)) hx hb hown (hts _ kl_X9_106) dX9_set_22 ?_
  exact ret_l hx hb hr hlocks ⟨rfl, _, rfl, rfl⟩ (fun _ h => absurd h List.not_mem_nil) (Nat.le_refl _) (Nat.le_refl _) dX9_set_25
set_option maxHeartbeats 4000000 in
set_option maxRecDepth 100000 in
theorem f_X9_when (l : Launch) (D : va_G) (cy : Nat → ClassId) (xa : Nat → Nat) (n0 : Int32) (n1 : Int32) : MM l yX9_when cX9_when 6 (some .int) 1 0 0 D cy [.ref (xa 0), .int n0, .int n1] (fun H => va_P D vwCl [((xa 0), .inr (9, [.ref (xa 1), .ref (xa 2), .ref (xa 3), .ref (xa 4), .ref (xa 5), .ref (xa 6), .ref (xa 7), .ref (xa 8), .ref (xa 9), .int 0, .ref (xa 11), .null, .int 0, .int (-1)])), ((xa 11), .inr (2, [.int 0, .int 0, .int 0, .int 0, .int 0, .int 0, .int 0, .int 0, .int 1, .int 10, .int 0, .int 0, .int 0, .int 0, .ref (xa 20), .ref (xa 21), .ref (xa 22), .ref (xa 23), .ref (xa 24), .ref (xa 25), .ref (xa 26)]))] H) (PuI (fun r => r = (-2))) noF := by
  refine MM.of (by decide) (Nat.le_of_ble_eq_true rfl) ?_
  intro p e s m below meth c C hP ls hl
  obtain ⟨hx, hb, hr, hml, hown, hts, hlocks, hK, hnm⟩ := C
  have hP : va_P D vwCl [((xa 0), .inr (9, [.ref (xa 1), .ref (xa 2), .ref (xa 3), .ref (xa 4), .ref (xa 5), .ref (xa 6), .ref (xa 7), .ref (xa 8), .ref (xa 9), .int 0, .ref (xa 11), .null, .int 0, .int (-1)])), ((xa 11), .inr (2, [.int 0, .int 0, .int 0, .int 0, .int 0, .int 0, .int 0, .int 0, .int 1, .int 10, .int 0, .int 0, .int 0, .int 0, .ref (xa 20), .ref (xa 21), .ref (xa 22), .ref (xa 23), .ref (xa 24), .ref (xa 25), .ref (xa 26)]))] s.heap := hP
  have hl : lv_has ls 6 [(0, .ref (xa 0)), (1, .int n0), (2, .int n1)] := hl
  refine lv_aload_n hx hb dX9_when_0 rfl (lv_at hl 0 rfl) ?_
  refine va_get (D := D) (ci := 9) (v := .ref (xa 11)) (C := RX9) (T := TX9) (N := 14) hx hb hts lay_X9 hown hK.1 hP 0 rfl rfl 10 (by decide) (hts _ fl_X9_67) (fun _ h9 => h9) rfl dX9_when_1 ?_
  refine lv_iload_n hx hb dX9_when_4 rfl (lv_at hl 1 rfl) ?_
  refine pu_calli (runV (As := [.int n0]) (rest := []) ⟨hx, hb, hml, hown, hts⟩ (f_hasValley l D cy xa n0 ) sV_X9_99 hK (va_recv hK.1 hP (ci := 2) (q0 := 1) rfl rfl) (hP.sub (ws' := [((xa 11), .inr (2, [.int 0, .int 0, .int 0, .int 0, .int 0, .int 0, .int 0, .int 0, .int 1, .int 10, .int 0, .int 0, .int 0, .int 0, .ref (xa 20), .ref (xa 21), .ref (xa 22), .ref (xa 23), .ref (xa 24), .ref (xa 25), .ref (xa 26)]))]) [1] rfl) ⟨Nat.le_of_ble_eq_true rfl, Nat.le_of_ble_eq_true rfl⟩ rfl hl.1 rfl (Nat.le_of_ble_eq_true rfl) dX9_when_5 ⟨Nat.le_of_ble_eq_true rfl, Nat.le_of_ble_eq_true rfl⟩) (fun r_1 hr_1 => ?_)
  have er_1 := hr_1
  subst er_1
  refine W.eq (g2 := F0 m 8 ls [.int 0]) rfl ?_
  refine lv_if_eq (tgt := 23) hx hb dX9_when_8 (by decide) (fun _ => ?_) (fun c_2 => absurd (by decide) c_2)
  refine lv_bipush (v := (-2)) hx hb dX9_when_23 (by decide) ?_
  exact ret_i hx hb hr hlocks ⟨rfl, _, rfl, rfl⟩ (fun _ h => absurd h List.not_mem_nil) (Nat.le_refl _) (Nat.le_refl _) dX9_when_25
set_option maxHeartbeats 4000000 in
set_option maxRecDepth 100000 in
theorem f_X9_wants (l : Launch) (D : va_G) (cy : Nat → ClassId) (xa : Nat → Nat) (n0 : Int32) (n1 : Int32) (n2 : Int32) : MM l yX9_wants cX9_wants 4 (some .int) 2 0 0 D cy [.ref (xa 0), .int n0, .int n1, .int n2] (fun H => va_P D vwCl [((xa 0), .inr (9, [.ref (xa 1), .ref (xa 2), .ref (xa 3), .ref (xa 4), .ref (xa 5), .ref (xa 6), .ref (xa 7), .ref (xa 8), .ref (xa 9), .int 0, .ref (xa 11), .null, .int 0, .int (-1)])), ((xa 11), .inr (2, [.int 0, .int 0, .int 0, .int 0, .int 0, .int 0, .int 0, .int 0, .int 1, .int 10, .int 0, .int 0, .int 0, .int 0, .ref (xa 20), .ref (xa 21), .ref (xa 22), .ref (xa 23), .ref (xa 24), .ref (xa 25), .ref (xa 26)]))] H) (PuI (fun r => r = (-2))) noF := by
  refine MM.of (by decide) (Nat.le_of_ble_eq_true rfl) ?_
  intro p e s m below meth c C hP ls hl
  obtain ⟨hx, hb, hr, hml, hown, hts, hlocks, hK, hnm⟩ := C
  have hP : va_P D vwCl [((xa 0), .inr (9, [.ref (xa 1), .ref (xa 2), .ref (xa 3), .ref (xa 4), .ref (xa 5), .ref (xa 6), .ref (xa 7), .ref (xa 8), .ref (xa 9), .int 0, .ref (xa 11), .null, .int 0, .int (-1)])), ((xa 11), .inr (2, [.int 0, .int 0, .int 0, .int 0, .int 0, .int 0, .int 0, .int 0, .int 1, .int 10, .int 0, .int 0, .int 0, .int 0, .ref (xa 20), .ref (xa 21), .ref (xa 22), .ref (xa 23), .ref (xa 24), .ref (xa 25), .ref (xa 26)]))] s.heap := hP
  have hl : lv_has ls 4 [(0, .ref (xa 0)), (1, .int n0), (2, .int n1), (3, .int n2)] := hl
  refine lv_aload_n hx hb dX9_wants_0 rfl (lv_at hl 0 rfl) ?_
  refine va_get (D := D) (ci := 9) (v := .ref (xa 11)) (C := RX9) (T := TX9) (N := 14) hx hb hts lay_X9 hown hK.1 hP 0 rfl rfl 10 (by decide) (hts _ fl_X9_67) (fun _ h9 => h9) rfl dX9_wants_1 ?_
  refine lv_iload_n hx hb dX9_wants_4 rfl (lv_at hl 1 rfl) ?_
  refine lv_iload_n hx hb dX9_wants_5 rfl (lv_at hl 2 rfl) ?_
  refine pu_calli (runV (As := [.int n0, .int n1]) (rest := []) ⟨hx, hb, hml, hown, hts⟩ (f_hasStore l D cy xa n0 n1 ) sV_X9_160 hK (va_recv hK.1 hP (ci := 2) (q0 := 1) rfl rfl) (hP.sub (ws' := [((xa 11), .inr (2, [.int 0, .int 0, .int 0, .int 0, .int 0, .int 0, .int 0, .int 0, .int 1, .int 10, .int 0, .int 0, .int 0, .int 0, .ref (xa 20), .ref (xa 21), .ref (xa 22), .ref (xa 23), .ref (xa 24), .ref (xa 25), .ref (xa 26)]))]) [1] rfl) ⟨Nat.le_of_ble_eq_true rfl, Nat.le_of_ble_eq_true rfl⟩ rfl hl.1 rfl (Nat.le_of_ble_eq_true rfl) dX9_wants_6 ⟨Nat.le_of_ble_eq_true rfl, Nat.le_of_ble_eq_true rfl⟩) (fun r_1 hr_1 => ?_)
  have er_1 := hr_1
  subst er_1
  refine W.eq (g2 := F0 m 9 ls [.int 0]) rfl ?_
  refine lv_if_eq (tgt := 23) hx hb dX9_wants_9 (by decide) (fun _ => ?_) (fun c_2 => absurd (by decide) c_2)
  refine lv_bipush (v := (-2)) hx hb dX9_wants_23 (by decide) ?_
  exact ret_i hx hb hr hlocks ⟨rfl, _, rfl, rfl⟩ (fun _ h => absurd h List.not_mem_nil) (Nat.le_refl _) (Nat.le_refl _) dX9_wants_25
set_option maxHeartbeats 4000000 in
set_option maxRecDepth 100000 in
theorem f_X9_cost (l : Launch) (D : va_G) (cy : Nat → ClassId) (xa : Nat → Nat) (n0 : Int32) (n1 : Int32) (n2 : Int32) : MM l yX9_cost cX9_cost 4 (some .long) 2 0 0 D cy [.ref (xa 0), .int n0, .int n1, .int n2] (fun H => va_P D vwCl [((xa 0), .inr (9, [.ref (xa 1), .ref (xa 2), .ref (xa 3), .ref (xa 4), .ref (xa 5), .ref (xa 6), .ref (xa 7), .ref (xa 8), .ref (xa 9), .int 0, .ref (xa 11), .null, .int 0, .int (-1)])), ((xa 11), .inr (2, [.int 0, .int 0, .int 0, .int 0, .int 0, .int 0, .int 0, .int 0, .int 1, .int 10, .int 0, .int 0, .int 0, .int 0, .ref (xa 20), .ref (xa 21), .ref (xa 22), .ref (xa 23), .ref (xa 24), .ref (xa 25), .ref (xa 26)]))] H) (PuL (fun r => r = (-2))) noF := by
  refine MM.of (by decide) (Nat.le_of_ble_eq_true rfl) ?_
  intro p e s m below meth c C hP ls hl
  obtain ⟨hx, hb, hr, hml, hown, hts, hlocks, hK, hnm⟩ := C
  have hP : va_P D vwCl [((xa 0), .inr (9, [.ref (xa 1), .ref (xa 2), .ref (xa 3), .ref (xa 4), .ref (xa 5), .ref (xa 6), .ref (xa 7), .ref (xa 8), .ref (xa 9), .int 0, .ref (xa 11), .null, .int 0, .int (-1)])), ((xa 11), .inr (2, [.int 0, .int 0, .int 0, .int 0, .int 0, .int 0, .int 0, .int 0, .int 1, .int 10, .int 0, .int 0, .int 0, .int 0, .ref (xa 20), .ref (xa 21), .ref (xa 22), .ref (xa 23), .ref (xa 24), .ref (xa 25), .ref (xa 26)]))] s.heap := hP
  have hl : lv_has ls 4 [(0, .ref (xa 0)), (1, .int n0), (2, .int n1), (3, .int n2)] := hl
  refine lv_aload_n hx hb dX9_cost_0 rfl (lv_at hl 0 rfl) ?_
  refine va_get (D := D) (ci := 9) (v := .ref (xa 11)) (C := RX9) (T := TX9) (N := 14) hx hb hts lay_X9 hown hK.1 hP 0 rfl rfl 10 (by decide) (hts _ fl_X9_67) (fun _ h9 => h9) rfl dX9_cost_1 ?_
  refine lv_iload_n hx hb dX9_cost_4 rfl (lv_at hl 1 rfl) ?_
  refine lv_iload_n hx hb dX9_cost_5 rfl (lv_at hl 2 rfl) ?_
  refine pu_calli (runV (As := [.int n0, .int n1]) (rest := []) ⟨hx, hb, hml, hown, hts⟩ (f_hasStore l D cy xa n0 n1 ) sV_X9_160 hK (va_recv hK.1 hP (ci := 2) (q0 := 1) rfl rfl) (hP.sub (ws' := [((xa 11), .inr (2, [.int 0, .int 0, .int 0, .int 0, .int 0, .int 0, .int 0, .int 0, .int 1, .int 10, .int 0, .int 0, .int 0, .int 0, .ref (xa 20), .ref (xa 21), .ref (xa 22), .ref (xa 23), .ref (xa 24), .ref (xa 25), .ref (xa 26)]))]) [1] rfl) ⟨Nat.le_of_ble_eq_true rfl, Nat.le_of_ble_eq_true rfl⟩ rfl hl.1 rfl (Nat.le_of_ble_eq_true rfl) dX9_cost_6 ⟨Nat.le_of_ble_eq_true rfl, Nat.le_of_ble_eq_true rfl⟩) (fun r_1 hr_1 => ?_)
  have er_1 := hr_1
  subst er_1
  refine W.eq (g2 := F0 m 9 ls [.int 0]) rfl ?_
  refine lv_if_eq (tgt := 19) hx hb dX9_cost_9 (by decide) (fun _ => ?_) (fun c_2 => absurd (by decide) c_2)
  refine lv_ldc2 (v := (-2)) hx hb hown (hts _ kl_X9_106) dX9_cost_19 ?_
  exact ret_l hx hb hr hlocks ⟨rfl, _, rfl, rfl⟩ (fun _ h => absurd h List.not_mem_nil) (Nat.le_refl _) (Nat.le_refl _) dX9_cost_22
set_option maxHeartbeats 4000000 in
set_option maxRecDepth 100000 in
theorem f_X9_worth (l : Launch) (D : va_G) (cy : Nat → ClassId) (xa : Nat → Nat) (n0 : Int32) (n1 : Int32) (n2 : Int32) : MM l yX9_worth cX9_worth 4 (some .long) 2 0 0 D cy [.ref (xa 0), .int n0, .int n1, .int n2] (fun H => va_P D vwCl [((xa 0), .inr (9, [.ref (xa 1), .ref (xa 2), .ref (xa 3), .ref (xa 4), .ref (xa 5), .ref (xa 6), .ref (xa 7), .ref (xa 8), .ref (xa 9), .int 0, .ref (xa 11), .null, .int 0, .int (-1)])), ((xa 11), .inr (2, [.int 0, .int 0, .int 0, .int 0, .int 0, .int 0, .int 0, .int 0, .int 1, .int 10, .int 0, .int 0, .int 0, .int 0, .ref (xa 20), .ref (xa 21), .ref (xa 22), .ref (xa 23), .ref (xa 24), .ref (xa 25), .ref (xa 26)]))] H) (PuL (fun r => r = (-1000000000000))) noF := by
  refine MM.of (by decide) (Nat.le_of_ble_eq_true rfl) ?_
  intro p e s m below meth c C hP ls hl
  obtain ⟨hx, hb, hr, hml, hown, hts, hlocks, hK, hnm⟩ := C
  have hP : va_P D vwCl [((xa 0), .inr (9, [.ref (xa 1), .ref (xa 2), .ref (xa 3), .ref (xa 4), .ref (xa 5), .ref (xa 6), .ref (xa 7), .ref (xa 8), .ref (xa 9), .int 0, .ref (xa 11), .null, .int 0, .int (-1)])), ((xa 11), .inr (2, [.int 0, .int 0, .int 0, .int 0, .int 0, .int 0, .int 0, .int 0, .int 1, .int 10, .int 0, .int 0, .int 0, .int 0, .ref (xa 20), .ref (xa 21), .ref (xa 22), .ref (xa 23), .ref (xa 24), .ref (xa 25), .ref (xa 26)]))] s.heap := hP
  have hl : lv_has ls 4 [(0, .ref (xa 0)), (1, .int n0), (2, .int n1), (3, .int n2)] := hl
  refine lv_aload_n hx hb dX9_worth_0 rfl (lv_at hl 0 rfl) ?_
  refine va_get (D := D) (ci := 9) (v := .ref (xa 11)) (C := RX9) (T := TX9) (N := 14) hx hb hts lay_X9 hown hK.1 hP 0 rfl rfl 10 (by decide) (hts _ fl_X9_67) (fun _ h9 => h9) rfl dX9_worth_1 ?_
  refine lv_iload_n hx hb dX9_worth_4 rfl (lv_at hl 1 rfl) ?_
  refine lv_iload_n hx hb dX9_worth_5 rfl (lv_at hl 2 rfl) ?_
  refine pu_calli (runV (As := [.int n0, .int n1]) (rest := []) ⟨hx, hb, hml, hown, hts⟩ (f_hasStore l D cy xa n0 n1 ) sV_X9_160 hK (va_recv hK.1 hP (ci := 2) (q0 := 1) rfl rfl) (hP.sub (ws' := [((xa 11), .inr (2, [.int 0, .int 0, .int 0, .int 0, .int 0, .int 0, .int 0, .int 0, .int 1, .int 10, .int 0, .int 0, .int 0, .int 0, .ref (xa 20), .ref (xa 21), .ref (xa 22), .ref (xa 23), .ref (xa 24), .ref (xa 25), .ref (xa 26)]))]) [1] rfl) ⟨Nat.le_of_ble_eq_true rfl, Nat.le_of_ble_eq_true rfl⟩ rfl hl.1 rfl (Nat.le_of_ble_eq_true rfl) dX9_worth_6 ⟨Nat.le_of_ble_eq_true rfl, Nat.le_of_ble_eq_true rfl⟩) (fun r_1 hr_1 => ?_)
  have er_1 := hr_1
  subst er_1
  refine W.eq (g2 := F0 m 9 ls [.int 0]) rfl ?_
  refine lv_if_eq (tgt := 23) hx hb dX9_worth_9 (by decide) (fun _ => ?_) (fun c_2 => absurd (by decide) c_2)
  refine lv_ldc2 (v := (-1000000000000)) hx hb hown (hts _ kl_X9_176) dX9_worth_23 ?_
  exact ret_l hx hb hr hlocks ⟨rfl, _, rfl, rfl⟩ (fun _ h => absurd h List.not_mem_nil) (Nat.le_refl _) (Nat.le_refl _) dX9_worth_26
set_option maxHeartbeats 4000000 in
set_option maxRecDepth 100000 in
theorem f_X9_best (l : Launch) (D : va_G) (cy : Nat → ClassId) (xa : Nat → Nat) (n0 : Int32) (n1 : Int32) : MM l yX9_best cX9_best 3 (some .int) 2 0 0 D cy [.ref (xa 0), .int n0, .int n1] (fun H => va_P D vwCl [((xa 0), .inr (9, [.ref (xa 1), .ref (xa 2), .ref (xa 3), .ref (xa 4), .ref (xa 5), .ref (xa 6), .ref (xa 7), .ref (xa 8), .ref (xa 9), .int 0, .ref (xa 11), .null, .int 0, .int (-1)])), ((xa 11), .inr (2, [.int 0, .int 0, .int 0, .int 0, .int 0, .int 0, .int 0, .int 0, .int 1, .int 10, .int 0, .int 0, .int 0, .int 0, .ref (xa 20), .ref (xa 21), .ref (xa 22), .ref (xa 23), .ref (xa 24), .ref (xa 25), .ref (xa 26)]))] H) (PuI (fun r => r = (-2))) noF := by
  refine MM.of (by decide) (Nat.le_of_ble_eq_true rfl) ?_
  intro p e s m below meth c C hP ls hl
  obtain ⟨hx, hb, hr, hml, hown, hts, hlocks, hK, hnm⟩ := C
  have hP : va_P D vwCl [((xa 0), .inr (9, [.ref (xa 1), .ref (xa 2), .ref (xa 3), .ref (xa 4), .ref (xa 5), .ref (xa 6), .ref (xa 7), .ref (xa 8), .ref (xa 9), .int 0, .ref (xa 11), .null, .int 0, .int (-1)])), ((xa 11), .inr (2, [.int 0, .int 0, .int 0, .int 0, .int 0, .int 0, .int 0, .int 0, .int 1, .int 10, .int 0, .int 0, .int 0, .int 0, .ref (xa 20), .ref (xa 21), .ref (xa 22), .ref (xa 23), .ref (xa 24), .ref (xa 25), .ref (xa 26)]))] s.heap := hP
  have hl : lv_has ls 3 [(0, .ref (xa 0)), (1, .int n0), (2, .int n1)] := hl
  refine lv_aload_n hx hb dX9_best_0 rfl (lv_at hl 0 rfl) ?_
  refine va_get (D := D) (ci := 9) (v := .ref (xa 11)) (C := RX9) (T := TX9) (N := 14) hx hb hts lay_X9 hown hK.1 hP 0 rfl rfl 10 (by decide) (hts _ fl_X9_67) (fun _ h9 => h9) rfl dX9_best_1 ?_
  refine lv_iload_n hx hb dX9_best_4 rfl (lv_at hl 1 rfl) ?_
  refine lv_iload_n hx hb dX9_best_5 rfl (lv_at hl 2 rfl) ?_
  refine pu_calli (runV (As := [.int n0, .int n1]) (rest := []) ⟨hx, hb, hml, hown, hts⟩ (f_hasStore l D cy xa n0 n1 ) sV_X9_160 hK (va_recv hK.1 hP (ci := 2) (q0 := 1) rfl rfl) (hP.sub (ws' := [((xa 11), .inr (2, [.int 0, .int 0, .int 0, .int 0, .int 0, .int 0, .int 0, .int 0, .int 1, .int 10, .int 0, .int 0, .int 0, .int 0, .ref (xa 20), .ref (xa 21), .ref (xa 22), .ref (xa 23), .ref (xa 24), .ref (xa 25), .ref (xa 26)]))]) [1] rfl) ⟨Nat.le_of_ble_eq_true rfl, Nat.le_of_ble_eq_true rfl⟩ rfl hl.1 rfl (Nat.le_of_ble_eq_true rfl) dX9_best_6 ⟨Nat.le_of_ble_eq_true rfl, Nat.le_of_ble_eq_true rfl⟩) (fun r_1 hr_1 => ?_)
  have er_1 := hr_1
  subst er_1
  refine W.eq (g2 := F0 m 9 ls [.int 0]) rfl ?_
  refine lv_if_ne (tgt := 15) hx hb dX9_best_9 (by decide) (fun c_2 => absurd c_2 (by decide)) (fun _ => ?_)
  refine lv_bipush (v := (-2)) hx hb dX9_best_12 (by decide) ?_
  exact ret_i hx hb hr hlocks ⟨rfl, _, rfl, rfl⟩ (fun _ h => absurd h List.not_mem_nil) (Nat.le_refl _) (Nat.le_refl _) dX9_best_14
set_option maxHeartbeats 4000000 in
set_option maxRecDepth 100000 in
theorem f_X9_sure (l : Launch) (D : va_G) (cy : Nat → ClassId) (xa : Nat → Nat) (n0 : Int32) (n1 : Int32) (n2 : Int32) : MM l yX9_sure cX9_sure 4 (some .long) 2 0 0 D cy [.ref (xa 0), .int n0, .int n1, .int n2] (fun H => va_P D vwCl [((xa 0), .inr (9, [.ref (xa 1), .ref (xa 2), .ref (xa 3), .ref (xa 4), .ref (xa 5), .ref (xa 6), .ref (xa 7), .ref (xa 8), .ref (xa 9), .int 0, .ref (xa 11), .null, .int 0, .int (-1)])), ((xa 11), .inr (2, [.int 0, .int 0, .int 0, .int 0, .int 0, .int 0, .int 0, .int 0, .int 1, .int 10, .int 0, .int 0, .int 0, .int 0, .ref (xa 20), .ref (xa 21), .ref (xa 22), .ref (xa 23), .ref (xa 24), .ref (xa 25), .ref (xa 26)]))] H) (PuL (fun r => r = (-2))) noF := by
  refine MM.of (by decide) (Nat.le_of_ble_eq_true rfl) ?_
  intro p e s m below meth c C hP ls hl
  obtain ⟨hx, hb, hr, hml, hown, hts, hlocks, hK, hnm⟩ := C
  have hP : va_P D vwCl [((xa 0), .inr (9, [.ref (xa 1), .ref (xa 2), .ref (xa 3), .ref (xa 4), .ref (xa 5), .ref (xa 6), .ref (xa 7), .ref (xa 8), .ref (xa 9), .int 0, .ref (xa 11), .null, .int 0, .int (-1)])), ((xa 11), .inr (2, [.int 0, .int 0, .int 0, .int 0, .int 0, .int 0, .int 0, .int 0, .int 1, .int 10, .int 0, .int 0, .int 0, .int 0, .ref (xa 20), .ref (xa 21), .ref (xa 22), .ref (xa 23), .ref (xa 24), .ref (xa 25), .ref (xa 26)]))] s.heap := hP
  have hl : lv_has ls 4 [(0, .ref (xa 0)), (1, .int n0), (2, .int n1), (3, .int n2)] := hl
  refine lv_aload_n hx hb dX9_sure_0 rfl (lv_at hl 0 rfl) ?_
  refine va_get (D := D) (ci := 9) (v := .ref (xa 11)) (C := RX9) (T := TX9) (N := 14) hx hb hts lay_X9 hown hK.1 hP 0 rfl rfl 10 (by decide) (hts _ fl_X9_67) (fun _ h9 => h9) rfl dX9_sure_1 ?_
  refine lv_iload_n hx hb dX9_sure_4 rfl (lv_at hl 1 rfl) ?_
  refine lv_iload_n hx hb dX9_sure_5 rfl (lv_at hl 2 rfl) ?_
  refine pu_calli (runV (As := [.int n0, .int n1]) (rest := []) ⟨hx, hb, hml, hown, hts⟩ (f_hasStore l D cy xa n0 n1 ) sV_X9_160 hK (va_recv hK.1 hP (ci := 2) (q0 := 1) rfl rfl) (hP.sub (ws' := [((xa 11), .inr (2, [.int 0, .int 0, .int 0, .int 0, .int 0, .int 0, .int 0, .int 0, .int 1, .int 10, .int 0, .int 0, .int 0, .int 0, .ref (xa 20), .ref (xa 21), .ref (xa 22), .ref (xa 23), .ref (xa 24), .ref (xa 25), .ref (xa 26)]))]) [1] rfl) ⟨Nat.le_of_ble_eq_true rfl, Nat.le_of_ble_eq_true rfl⟩ rfl hl.1 rfl (Nat.le_of_ble_eq_true rfl) dX9_sure_6 ⟨Nat.le_of_ble_eq_true rfl, Nat.le_of_ble_eq_true rfl⟩) (fun r_1 hr_1 => ?_)
  have er_1 := hr_1
  subst er_1
  refine W.eq (g2 := F0 m 9 ls [.int 0]) rfl ?_
  refine lv_if_eq (tgt := 19) hx hb dX9_sure_9 (by decide) (fun _ => ?_) (fun c_2 => absurd (by decide) c_2)
  refine lv_ldc2 (v := (-2)) hx hb hown (hts _ kl_X9_106) dX9_sure_19 ?_
  exact ret_l hx hb hr hlocks ⟨rfl, _, rfl, rfl⟩ (fun _ h => absurd h List.not_mem_nil) (Nat.le_refl _) (Nat.le_refl _) dX9_sure_22
set_option maxHeartbeats 4000000 in
set_option maxRecDepth 100000 in
theorem f_X9_need (l : Launch) (D : va_G) (cy : Nat → ClassId) (xa : Nat → Nat) (n0 : Int32) (n1 : Int32) (n2 : Int32) : MM l yX9_need cX9_need 7 (some .int) 2 0 0 D cy [.ref (xa 0), .int n0, .int n1, .int n2] (fun H => va_P D vwCl [((xa 0), .inr (9, [.ref (xa 1), .ref (xa 2), .ref (xa 3), .ref (xa 4), .ref (xa 5), .ref (xa 6), .ref (xa 7), .ref (xa 8), .ref (xa 9), .int 0, .ref (xa 11), .null, .int 0, .int (-1)])), ((xa 11), .inr (2, [.int 0, .int 0, .int 0, .int 0, .int 0, .int 0, .int 0, .int 0, .int 1, .int 10, .int 0, .int 0, .int 0, .int 0, .ref (xa 20), .ref (xa 21), .ref (xa 22), .ref (xa 23), .ref (xa 24), .ref (xa 25), .ref (xa 26)]))] H) (PuI (fun r => r = (-2))) noF := by
  refine MM.of (by decide) (Nat.le_of_ble_eq_true rfl) ?_
  intro p e s m below meth c C hP ls hl
  obtain ⟨hx, hb, hr, hml, hown, hts, hlocks, hK, hnm⟩ := C
  have hP : va_P D vwCl [((xa 0), .inr (9, [.ref (xa 1), .ref (xa 2), .ref (xa 3), .ref (xa 4), .ref (xa 5), .ref (xa 6), .ref (xa 7), .ref (xa 8), .ref (xa 9), .int 0, .ref (xa 11), .null, .int 0, .int (-1)])), ((xa 11), .inr (2, [.int 0, .int 0, .int 0, .int 0, .int 0, .int 0, .int 0, .int 0, .int 1, .int 10, .int 0, .int 0, .int 0, .int 0, .ref (xa 20), .ref (xa 21), .ref (xa 22), .ref (xa 23), .ref (xa 24), .ref (xa 25), .ref (xa 26)]))] s.heap := hP
  have hl : lv_has ls 7 [(0, .ref (xa 0)), (1, .int n0), (2, .int n1), (3, .int n2)] := hl
  refine lv_aload_n hx hb dX9_need_0 rfl (lv_at hl 0 rfl) ?_
  refine va_get (D := D) (ci := 9) (v := .ref (xa 11)) (C := RX9) (T := TX9) (N := 14) hx hb hts lay_X9 hown hK.1 hP 0 rfl rfl 10 (by decide) (hts _ fl_X9_67) (fun _ h9 => h9) rfl dX9_need_1 ?_
  refine lv_iload_n hx hb dX9_need_4 rfl (lv_at hl 1 rfl) ?_
  refine lv_iload_n hx hb dX9_need_5 rfl (lv_at hl 2 rfl) ?_
  refine pu_calli (runV (As := [.int n0, .int n1]) (rest := []) ⟨hx, hb, hml, hown, hts⟩ (f_hasStore l D cy xa n0 n1 ) sV_X9_160 hK (va_recv hK.1 hP (ci := 2) (q0 := 1) rfl rfl) (hP.sub (ws' := [((xa 11), .inr (2, [.int 0, .int 0, .int 0, .int 0, .int 0, .int 0, .int 0, .int 0, .int 1, .int 10, .int 0, .int 0, .int 0, .int 0, .ref (xa 20), .ref (xa 21), .ref (xa 22), .ref (xa 23), .ref (xa 24), .ref (xa 25), .ref (xa 26)]))]) [1] rfl) ⟨Nat.le_of_ble_eq_true rfl, Nat.le_of_ble_eq_true rfl⟩ rfl hl.1 rfl (Nat.le_of_ble_eq_true rfl) dX9_need_6 ⟨Nat.le_of_ble_eq_true rfl, Nat.le_of_ble_eq_true rfl⟩) (fun r_1 hr_1 => ?_)
  have er_1 := hr_1
  subst er_1
  refine W.eq (g2 := F0 m 9 ls [.int 0]) rfl ?_
  refine lv_if_eq (tgt := 23) hx hb dX9_need_9 (by decide) (fun _ => ?_) (fun c_2 => absurd (by decide) c_2)
  refine lv_bipush (v := (-2)) hx hb dX9_need_23 (by decide) ?_
  exact ret_i hx hb hr hlocks ⟨rfl, _, rfl, rfl⟩ (fun _ h => absurd h List.not_mem_nil) (Nat.le_refl _) (Nat.le_refl _) dX9_need_25
set_option maxHeartbeats 4000000 in
set_option maxRecDepth 100000 in
theorem f_X9_packed (l : Launch) (D : va_G) (cy : Nat → ClassId) (xa : Nat → Nat) (n0 : Int32) : MM l yX9_packed cX9_packed 2 (some .long) 1 0 0 D cy [.ref (xa 0), .int n0] (fun H => va_P D vwCl [((xa 0), .inr (9, [.ref (xa 1), .ref (xa 2), .ref (xa 3), .ref (xa 4), .ref (xa 5), .ref (xa 6), .ref (xa 7), .ref (xa 8), .ref (xa 9), .int 0, .ref (xa 11), .null, .int 0, .int (-1)])), ((xa 11), .inr (2, [.int 0, .int 0, .int 0, .int 0, .int 0, .int 0, .int 0, .int 0, .int 1, .int 10, .int 0, .int 0, .int 0, .int 0, .ref (xa 20), .ref (xa 21), .ref (xa 22), .ref (xa 23), .ref (xa 24), .ref (xa 25), .ref (xa 26)]))] H) (PuL (fun r => r = (-2))) noF := by
  refine MM.of (by decide) (Nat.le_of_ble_eq_true rfl) ?_
  intro p e s m below meth c C hP ls hl
  obtain ⟨hx, hb, hr, hml, hown, hts, hlocks, hK, hnm⟩ := C
  have hP : va_P D vwCl [((xa 0), .inr (9, [.ref (xa 1), .ref (xa 2), .ref (xa 3), .ref (xa 4), .ref (xa 5), .ref (xa 6), .ref (xa 7), .ref (xa 8), .ref (xa 9), .int 0, .ref (xa 11), .null, .int 0, .int (-1)])), ((xa 11), .inr (2, [.int 0, .int 0, .int 0, .int 0, .int 0, .int 0, .int 0, .int 0, .int 1, .int 10, .int 0, .int 0, .int 0, .int 0, .ref (xa 20), .ref (xa 21), .ref (xa 22), .ref (xa 23), .ref (xa 24), .ref (xa 25), .ref (xa 26)]))] s.heap := hP
  have hl : lv_has ls 2 [(0, .ref (xa 0)), (1, .int n0)] := hl
  refine lv_aload_n hx hb dX9_packed_0 rfl (lv_at hl 0 rfl) ?_
  refine va_get (D := D) (ci := 9) (v := .ref (xa 11)) (C := RX9) (T := TX9) (N := 14) hx hb hts lay_X9 hown hK.1 hP 0 rfl rfl 10 (by decide) (hts _ fl_X9_67) (fun _ h9 => h9) rfl dX9_packed_1 ?_
  refine lv_iload_n hx hb dX9_packed_4 rfl (lv_at hl 1 rfl) ?_
  refine pu_calli (runV (As := [.int n0]) (rest := []) ⟨hx, hb, hml, hown, hts⟩ (f_hasValley l D cy xa n0 ) sV_X9_99 hK (va_recv hK.1 hP (ci := 2) (q0 := 1) rfl rfl) (hP.sub (ws' := [((xa 11), .inr (2, [.int 0, .int 0, .int 0, .int 0, .int 0, .int 0, .int 0, .int 0, .int 1, .int 10, .int 0, .int 0, .int 0, .int 0, .ref (xa 20), .ref (xa 21), .ref (xa 22), .ref (xa 23), .ref (xa 24), .ref (xa 25), .ref (xa 26)]))]) [1] rfl) ⟨Nat.le_of_ble_eq_true rfl, Nat.le_of_ble_eq_true rfl⟩ rfl hl.1 rfl (Nat.le_of_ble_eq_true rfl) dX9_packed_5 ⟨Nat.le_of_ble_eq_true rfl, Nat.le_of_ble_eq_true rfl⟩) (fun r_1 hr_1 => ?_)
  have er_1 := hr_1
  subst er_1
  refine W.eq (g2 := F0 m 8 ls [.int 0]) rfl ?_
  refine lv_if_ne (tgt := 15) hx hb dX9_packed_8 (by decide) (fun c_2 => absurd c_2 (by decide)) (fun _ => ?_)
  refine lv_ldc2 (v := (-2)) hx hb hown (hts _ kl_X9_106) dX9_packed_11 ?_
  exact ret_l hx hb hr hlocks ⟨rfl, _, rfl, rfl⟩ (fun _ h => absurd h List.not_mem_nil) (Nat.le_refl _) (Nat.le_refl _) dX9_packed_14
set_option maxHeartbeats 4000000 in
set_option maxRecDepth 100000 in
theorem f_X9_pack (l : Launch) (D : va_G) (cy : Nat → ClassId) (xa : Nat → Nat) (n0 : Int32) (n1 : Int32) : MM l yX9_pack cX9_pack 3 (some .int) 2 0 0 D cy [.ref (xa 0), .int n0, .int n1] (fun H => va_P D vwCl [((xa 0), .inr (9, [.ref (xa 1), .ref (xa 2), .ref (xa 3), .ref (xa 4), .ref (xa 5), .ref (xa 6), .ref (xa 7), .ref (xa 8), .ref (xa 9), .int 0, .ref (xa 11), .null, .int 0, .int (-1)])), ((xa 11), .inr (2, [.int 0, .int 0, .int 0, .int 0, .int 0, .int 0, .int 0, .int 0, .int 1, .int 10, .int 0, .int 0, .int 0, .int 0, .ref (xa 20), .ref (xa 21), .ref (xa 22), .ref (xa 23), .ref (xa 24), .ref (xa 25), .ref (xa 26)]))] H) (PuI (fun r => r = (-2))) noF := by
  refine MM.of (by decide) (Nat.le_of_ble_eq_true rfl) ?_
  intro p e s m below meth c C hP ls hl
  obtain ⟨hx, hb, hr, hml, hown, hts, hlocks, hK, hnm⟩ := C
  have hP : va_P D vwCl [((xa 0), .inr (9, [.ref (xa 1), .ref (xa 2), .ref (xa 3), .ref (xa 4), .ref (xa 5), .ref (xa 6), .ref (xa 7), .ref (xa 8), .ref (xa 9), .int 0, .ref (xa 11), .null, .int 0, .int (-1)])), ((xa 11), .inr (2, [.int 0, .int 0, .int 0, .int 0, .int 0, .int 0, .int 0, .int 0, .int 1, .int 10, .int 0, .int 0, .int 0, .int 0, .ref (xa 20), .ref (xa 21), .ref (xa 22), .ref (xa 23), .ref (xa 24), .ref (xa 25), .ref (xa 26)]))] s.heap := hP
  have hl : lv_has ls 3 [(0, .ref (xa 0)), (1, .int n0), (2, .int n1)] := hl
  refine lv_aload_n hx hb dX9_pack_0 rfl (lv_at hl 0 rfl) ?_
  refine va_get (D := D) (ci := 9) (v := .ref (xa 11)) (C := RX9) (T := TX9) (N := 14) hx hb hts lay_X9 hown hK.1 hP 0 rfl rfl 10 (by decide) (hts _ fl_X9_67) (fun _ h9 => h9) rfl dX9_pack_1 ?_
  refine lv_iload_n hx hb dX9_pack_4 rfl (lv_at hl 1 rfl) ?_
  refine lv_iload_n hx hb dX9_pack_5 rfl (lv_at hl 2 rfl) ?_
  refine pu_calli (runV (As := [.int n0, .int n1]) (rest := []) ⟨hx, hb, hml, hown, hts⟩ (f_hasStore l D cy xa n0 n1 ) sV_X9_160 hK (va_recv hK.1 hP (ci := 2) (q0 := 1) rfl rfl) (hP.sub (ws' := [((xa 11), .inr (2, [.int 0, .int 0, .int 0, .int 0, .int 0, .int 0, .int 0, .int 0, .int 1, .int 10, .int 0, .int 0, .int 0, .int 0, .ref (xa 20), .ref (xa 21), .ref (xa 22), .ref (xa 23), .ref (xa 24), .ref (xa 25), .ref (xa 26)]))]) [1] rfl) ⟨Nat.le_of_ble_eq_true rfl, Nat.le_of_ble_eq_true rfl⟩ rfl hl.1 rfl (Nat.le_of_ble_eq_true rfl) dX9_pack_6 ⟨Nat.le_of_ble_eq_true rfl, Nat.le_of_ble_eq_true rfl⟩) (fun r_1 hr_1 => ?_)
  have er_1 := hr_1
  subst er_1
  refine W.eq (g2 := F0 m 9 ls [.int 0]) rfl ?_
  refine lv_if_ne (tgt := 15) hx hb dX9_pack_9 (by decide) (fun c_2 => absurd c_2 (by decide)) (fun _ => ?_)
  refine lv_bipush (v := (-2)) hx hb dX9_pack_12 (by decide) ?_
  exact ret_i hx hb hr hlocks ⟨rfl, _, rfl, rfl⟩ (fun _ h => absurd h List.not_mem_nil) (Nat.le_refl _) (Nat.le_refl _) dX9_pack_14
set_option maxHeartbeats 4000000 in
set_option maxRecDepth 100000 in
theorem f_X9_gap (l : Launch) (D : va_G) (cy : Nat → ClassId) (xa : Nat → Nat) (n0 : Int32) : MM l yX9_gap cX9_gap 7 (some .long) 1 0 0 D cy [.ref (xa 0), .int n0] (fun H => va_P D vwCl [((xa 0), .inr (9, [.ref (xa 1), .ref (xa 2), .ref (xa 3), .ref (xa 4), .ref (xa 5), .ref (xa 6), .ref (xa 7), .ref (xa 8), .ref (xa 9), .int 0, .ref (xa 11), .null, .int 0, .int (-1)])), ((xa 11), .inr (2, [.int 0, .int 0, .int 0, .int 0, .int 0, .int 0, .int 0, .int 0, .int 1, .int 10, .int 0, .int 0, .int 0, .int 0, .ref (xa 20), .ref (xa 21), .ref (xa 22), .ref (xa 23), .ref (xa 24), .ref (xa 25), .ref (xa 26)]))] H) (PuL (fun r => r = (-2))) noF := by
  refine MM.of (by decide) (Nat.le_of_ble_eq_true rfl) ?_
  intro p e s m below meth c C hP ls hl
  obtain ⟨hx, hb, hr, hml, hown, hts, hlocks, hK, hnm⟩ := C
  have hP : va_P D vwCl [((xa 0), .inr (9, [.ref (xa 1), .ref (xa 2), .ref (xa 3), .ref (xa 4), .ref (xa 5), .ref (xa 6), .ref (xa 7), .ref (xa 8), .ref (xa 9), .int 0, .ref (xa 11), .null, .int 0, .int (-1)])), ((xa 11), .inr (2, [.int 0, .int 0, .int 0, .int 0, .int 0, .int 0, .int 0, .int 0, .int 1, .int 10, .int 0, .int 0, .int 0, .int 0, .ref (xa 20), .ref (xa 21), .ref (xa 22), .ref (xa 23), .ref (xa 24), .ref (xa 25), .ref (xa 26)]))] s.heap := hP
  have hl : lv_has ls 7 [(0, .ref (xa 0)), (1, .int n0)] := hl
  refine lv_aload_n hx hb dX9_gap_0 rfl (lv_at hl 0 rfl) ?_
  refine va_get (D := D) (ci := 9) (v := .ref (xa 11)) (C := RX9) (T := TX9) (N := 14) hx hb hts lay_X9 hown hK.1 hP 0 rfl rfl 10 (by decide) (hts _ fl_X9_67) (fun _ h9 => h9) rfl dX9_gap_1 ?_
  refine lv_iload_n hx hb dX9_gap_4 rfl (lv_at hl 1 rfl) ?_
  refine pu_calli (runV (As := [.int n0]) (rest := []) ⟨hx, hb, hml, hown, hts⟩ (f_hasValley l D cy xa n0 ) sV_X9_99 hK (va_recv hK.1 hP (ci := 2) (q0 := 1) rfl rfl) (hP.sub (ws' := [((xa 11), .inr (2, [.int 0, .int 0, .int 0, .int 0, .int 0, .int 0, .int 0, .int 0, .int 1, .int 10, .int 0, .int 0, .int 0, .int 0, .ref (xa 20), .ref (xa 21), .ref (xa 22), .ref (xa 23), .ref (xa 24), .ref (xa 25), .ref (xa 26)]))]) [1] rfl) ⟨Nat.le_of_ble_eq_true rfl, Nat.le_of_ble_eq_true rfl⟩ rfl hl.1 rfl (Nat.le_of_ble_eq_true rfl) dX9_gap_5 ⟨Nat.le_of_ble_eq_true rfl, Nat.le_of_ble_eq_true rfl⟩) (fun r_1 hr_1 => ?_)
  have er_1 := hr_1
  subst er_1
  refine W.eq (g2 := F0 m 8 ls [.int 0]) rfl ?_
  refine lv_if_ne (tgt := 15) hx hb dX9_gap_8 (by decide) (fun c_2 => absurd c_2 (by decide)) (fun _ => ?_)
  refine lv_ldc2 (v := (-2)) hx hb hown (hts _ kl_X9_106) dX9_gap_11 ?_
  exact ret_l hx hb hr hlocks ⟨rfl, _, rfl, rfl⟩ (fun _ h => absurd h List.not_mem_nil) (Nat.le_refl _) (Nat.le_refl _) dX9_gap_14
set_option maxHeartbeats 4000000 in
set_option maxRecDepth 100000 in
theorem f_X9_late (l : Launch) (D : va_G) (cy : Nat → ClassId) (xa : Nat → Nat) (n0 : Int32) (n1 : Int32) : MM l yX9_late cX9_late 3 (some .long) 2 0 0 D cy [.ref (xa 0), .int n0, .int n1] (fun H => va_P D vwCl [((xa 0), .inr (9, [.ref (xa 1), .ref (xa 2), .ref (xa 3), .ref (xa 4), .ref (xa 5), .ref (xa 6), .ref (xa 7), .ref (xa 8), .ref (xa 9), .int 0, .ref (xa 11), .null, .int 0, .int (-1)])), ((xa 11), .inr (2, [.int 0, .int 0, .int 0, .int 0, .int 0, .int 0, .int 0, .int 0, .int 1, .int 10, .int 0, .int 0, .int 0, .int 0, .ref (xa 20), .ref (xa 21), .ref (xa 22), .ref (xa 23), .ref (xa 24), .ref (xa 25), .ref (xa 26)]))] H) (PuL (fun r => r = (-2))) noF := by
  refine MM.of (by decide) (Nat.le_of_ble_eq_true rfl) ?_
  intro p e s m below meth c C hP ls hl
  obtain ⟨hx, hb, hr, hml, hown, hts, hlocks, hK, hnm⟩ := C
  have hP : va_P D vwCl [((xa 0), .inr (9, [.ref (xa 1), .ref (xa 2), .ref (xa 3), .ref (xa 4), .ref (xa 5), .ref (xa 6), .ref (xa 7), .ref (xa 8), .ref (xa 9), .int 0, .ref (xa 11), .null, .int 0, .int (-1)])), ((xa 11), .inr (2, [.int 0, .int 0, .int 0, .int 0, .int 0, .int 0, .int 0, .int 0, .int 1, .int 10, .int 0, .int 0, .int 0, .int 0, .ref (xa 20), .ref (xa 21), .ref (xa 22), .ref (xa 23), .ref (xa 24), .ref (xa 25), .ref (xa 26)]))] s.heap := hP
  have hl : lv_has ls 3 [(0, .ref (xa 0)), (1, .int n0), (2, .int n1)] := hl
  refine lv_aload_n hx hb dX9_late_0 rfl (lv_at hl 0 rfl) ?_
  refine va_get (D := D) (ci := 9) (v := .ref (xa 11)) (C := RX9) (T := TX9) (N := 14) hx hb hts lay_X9 hown hK.1 hP 0 rfl rfl 10 (by decide) (hts _ fl_X9_67) (fun _ h9 => h9) rfl dX9_late_1 ?_
  refine lv_iload_n hx hb dX9_late_4 rfl (lv_at hl 1 rfl) ?_
  refine lv_iload_n hx hb dX9_late_5 rfl (lv_at hl 2 rfl) ?_
  refine pu_calli (runV (As := [.int n0, .int n1]) (rest := []) ⟨hx, hb, hml, hown, hts⟩ (f_hasStore l D cy xa n0 n1 ) sV_X9_160 hK (va_recv hK.1 hP (ci := 2) (q0 := 1) rfl rfl) (hP.sub (ws' := [((xa 11), .inr (2, [.int 0, .int 0, .int 0, .int 0, .int 0, .int 0, .int 0, .int 0, .int 1, .int 10, .int 0, .int 0, .int 0, .int 0, .ref (xa 20), .ref (xa 21), .ref (xa 22), .ref (xa 23), .ref (xa 24), .ref (xa 25), .ref (xa 26)]))]) [1] rfl) ⟨Nat.le_of_ble_eq_true rfl, Nat.le_of_ble_eq_true rfl⟩ rfl hl.1 rfl (Nat.le_of_ble_eq_true rfl) dX9_late_6 ⟨Nat.le_of_ble_eq_true rfl, Nat.le_of_ble_eq_true rfl⟩) (fun r_1 hr_1 => ?_)
  have er_1 := hr_1
  subst er_1
  refine W.eq (g2 := F0 m 9 ls [.int 0]) rfl ?_
  refine lv_if_ne (tgt := 16) hx hb dX9_late_9 (by decide) (fun c_2 => absurd c_2 (by decide)) (fun _ => ?_)
  refine lv_ldc2 (v := (-2)) hx hb hown (hts _ kl_X9_106) dX9_late_12 ?_
  exact ret_l hx hb hr hlocks ⟨rfl, _, rfl, rfl⟩ (fun _ h => absurd h List.not_mem_nil) (Nat.le_refl _) (Nat.le_refl _) dX9_late_15
set_option maxHeartbeats 4000000 in
set_option maxRecDepth 100000 in
theorem f_X9_today (l : Launch) (D : va_G) (cy : Nat → ClassId) (xa : Nat → Nat) (n0 : Int32) (n1 : Int32) (n2 : Int32) (n3 : Int32) (n4 : Int32) : MM l yX9_today cX9_today 6 (some .int) 2 0 0 D cy [.ref (xa 0), .int n0, .int n1, .int n2, .int n3, .int n4] (fun H => va_P D vwCl [((xa 0), .inr (9, [.ref (xa 1), .ref (xa 2), .ref (xa 3), .ref (xa 4), .ref (xa 5), .ref (xa 6), .ref (xa 7), .ref (xa 8), .ref (xa 9), .int 0, .ref (xa 11), .null, .int 0, .int (-1)])), ((xa 11), .inr (2, [.int 0, .int 0, .int 0, .int 0, .int 0, .int 0, .int 0, .int 0, .int 1, .int 10, .int 0, .int 0, .int 0, .int 0, .ref (xa 20), .ref (xa 21), .ref (xa 22), .ref (xa 23), .ref (xa 24), .ref (xa 25), .ref (xa 26)]))] H) (PuI (fun r => r = (-2))) noF := by
  refine MM.of (by decide) (Nat.le_of_ble_eq_true rfl) ?_
  intro p e s m below meth c C hP ls hl
  obtain ⟨hx, hb, hr, hml, hown, hts, hlocks, hK, hnm⟩ := C
  have hP : va_P D vwCl [((xa 0), .inr (9, [.ref (xa 1), .ref (xa 2), .ref (xa 3), .ref (xa 4), .ref (xa 5), .ref (xa 6), .ref (xa 7), .ref (xa 8), .ref (xa 9), .int 0, .ref (xa 11), .null, .int 0, .int (-1)])), ((xa 11), .inr (2, [.int 0, .int 0, .int 0, .int 0, .int 0, .int 0, .int 0, .int 0, .int 1, .int 10, .int 0, .int 0, .int 0, .int 0, .ref (xa 20), .ref (xa 21), .ref (xa 22), .ref (xa 23), .ref (xa 24), .ref (xa 25), .ref (xa 26)]))] s.heap := hP
  have hl : lv_has ls 6 [(0, .ref (xa 0)), (1, .int n0), (2, .int n1), (3, .int n2), (4, .int n3), (5, .int n4)] := hl
  refine lv_aload_n hx hb dX9_today_0 rfl (lv_at hl 0 rfl) ?_
  refine va_get (D := D) (ci := 9) (v := .ref (xa 11)) (C := RX9) (T := TX9) (N := 14) hx hb hts lay_X9 hown hK.1 hP 0 rfl rfl 10 (by decide) (hts _ fl_X9_67) (fun _ h9 => h9) rfl dX9_today_1 ?_
  refine lv_iload_n hx hb dX9_today_4 rfl (lv_at hl 1 rfl) ?_
  refine lv_iload_n hx hb dX9_today_5 rfl (lv_at hl 2 rfl) ?_
  refine pu_calli (runV (As := [.int n0, .int n1]) (rest := []) ⟨hx, hb, hml, hown, hts⟩ (f_hasStore l D cy xa n0 n1 ) sV_X9_160 hK (va_recv hK.1 hP (ci := 2) (q0 := 1) rfl rfl) (hP.sub (ws' := [((xa 11), .inr (2, [.int 0, .int 0, .int 0, .int 0, .int 0, .int 0, .int 0, .int 0, .int 1, .int 10, .int 0, .int 0, .int 0, .int 0, .ref (xa 20), .ref (xa 21), .ref (xa 22), .ref (xa 23), .ref (xa 24), .ref (xa 25), .ref (xa 26)]))]) [1] rfl) ⟨Nat.le_of_ble_eq_true rfl, Nat.le_of_ble_eq_true rfl⟩ rfl hl.1 rfl (Nat.le_of_ble_eq_true rfl) dX9_today_6 ⟨Nat.le_of_ble_eq_true rfl, Nat.le_of_ble_eq_true rfl⟩) (fun r_1 hr_1 => ?_)
  have er_1 := hr_1
  subst er_1
  refine W.eq (g2 := F0 m 9 ls [.int 0]) rfl ?_
  refine lv_if_eq (tgt := 36) hx hb dX9_today_9 (by decide) (fun _ => ?_) (fun c_2 => absurd (by decide) c_2)
  refine lv_bipush (v := (-2)) hx hb dX9_today_36 (by decide) ?_
  exact ret_i hx hb hr hlocks ⟨rfl, _, rfl, rfl⟩ (fun _ h => absurd h List.not_mem_nil) (Nat.le_refl _) (Nat.le_refl _) dX9_today_38
set_option maxHeartbeats 4000000 in
set_option maxRecDepth 100000 in
theorem f_X9_last (l : Launch) (D : va_G) (cy : Nat → ClassId) (xa : Nat → Nat) (n0 : Int32) (n1 : Int32) : MM l yX9_last cX9_last 3 (some .int) 2 0 0 D cy [.ref (xa 0), .int n0, .int n1] (fun H => va_P D vwCl [((xa 0), .inr (9, [.ref (xa 1), .ref (xa 2), .ref (xa 3), .ref (xa 4), .ref (xa 5), .ref (xa 6), .ref (xa 7), .ref (xa 8), .ref (xa 9), .int 0, .ref (xa 11), .null, .int 0, .int (-1)])), ((xa 11), .inr (2, [.int 0, .int 0, .int 0, .int 0, .int 0, .int 0, .int 0, .int 0, .int 1, .int 10, .int 0, .int 0, .int 0, .int 0, .ref (xa 20), .ref (xa 21), .ref (xa 22), .ref (xa 23), .ref (xa 24), .ref (xa 25), .ref (xa 26)]))] H) (PuI (fun r => r = (-2))) noF := by
  refine MM.of (by decide) (Nat.le_of_ble_eq_true rfl) ?_
  intro p e s m below meth c C hP ls hl
  obtain ⟨hx, hb, hr, hml, hown, hts, hlocks, hK, hnm⟩ := C
  have hP : va_P D vwCl [((xa 0), .inr (9, [.ref (xa 1), .ref (xa 2), .ref (xa 3), .ref (xa 4), .ref (xa 5), .ref (xa 6), .ref (xa 7), .ref (xa 8), .ref (xa 9), .int 0, .ref (xa 11), .null, .int 0, .int (-1)])), ((xa 11), .inr (2, [.int 0, .int 0, .int 0, .int 0, .int 0, .int 0, .int 0, .int 0, .int 1, .int 10, .int 0, .int 0, .int 0, .int 0, .ref (xa 20), .ref (xa 21), .ref (xa 22), .ref (xa 23), .ref (xa 24), .ref (xa 25), .ref (xa 26)]))] s.heap := hP
  have hl : lv_has ls 3 [(0, .ref (xa 0)), (1, .int n0), (2, .int n1)] := hl
  refine lv_aload_n hx hb dX9_last_0 rfl (lv_at hl 0 rfl) ?_
  refine va_get (D := D) (ci := 9) (v := .ref (xa 11)) (C := RX9) (T := TX9) (N := 14) hx hb hts lay_X9 hown hK.1 hP 0 rfl rfl 10 (by decide) (hts _ fl_X9_67) (fun _ h9 => h9) rfl dX9_last_1 ?_
  refine lv_iload_n hx hb dX9_last_4 rfl (lv_at hl 1 rfl) ?_
  refine lv_iload_n hx hb dX9_last_5 rfl (lv_at hl 2 rfl) ?_
  refine pu_calli (runV (As := [.int n0, .int n1]) (rest := []) ⟨hx, hb, hml, hown, hts⟩ (f_hasStore l D cy xa n0 n1 ) sV_X9_160 hK (va_recv hK.1 hP (ci := 2) (q0 := 1) rfl rfl) (hP.sub (ws' := [((xa 11), .inr (2, [.int 0, .int 0, .int 0, .int 0, .int 0, .int 0, .int 0, .int 0, .int 1, .int 10, .int 0, .int 0, .int 0, .int 0, .ref (xa 20), .ref (xa 21), .ref (xa 22), .ref (xa 23), .ref (xa 24), .ref (xa 25), .ref (xa 26)]))]) [1] rfl) ⟨Nat.le_of_ble_eq_true rfl, Nat.le_of_ble_eq_true rfl⟩ rfl hl.1 rfl (Nat.le_of_ble_eq_true rfl) dX9_last_6 ⟨Nat.le_of_ble_eq_true rfl, Nat.le_of_ble_eq_true rfl⟩) (fun r_1 hr_1 => ?_)
  have er_1 := hr_1
  subst er_1
  refine W.eq (g2 := F0 m 9 ls [.int 0]) rfl ?_
  refine lv_if_ne (tgt := 15) hx hb dX9_last_9 (by decide) (fun c_2 => absurd c_2 (by decide)) (fun _ => ?_)
  refine lv_bipush (v := (-2)) hx hb dX9_last_12 (by decide) ?_
  exact ret_i hx hb hr hlocks ⟨rfl, _, rfl, rfl⟩ (fun _ h => absurd h List.not_mem_nil) (Nat.le_refl _) (Nat.le_refl _) dX9_last_14
set_option maxHeartbeats 4000000 in
set_option maxRecDepth 100000 in
theorem f_X9_signs (l : Launch) (D : va_G) (cy : Nat → ClassId) (xa : Nat → Nat) (n0 : Int32) (n1 : Int32) : MM l yX9_signs cX9_signs 8 (some .long) 2 0 0 D cy [.ref (xa 0), .int n0, .int n1] (fun H => va_P D vwCl [((xa 0), .inr (9, [.ref (xa 1), .ref (xa 2), .ref (xa 3), .ref (xa 4), .ref (xa 5), .ref (xa 6), .ref (xa 7), .ref (xa 8), .ref (xa 9), .int 0, .ref (xa 11), .null, .int 0, .int (-1)])), ((xa 11), .inr (2, [.int 0, .int 0, .int 0, .int 0, .int 0, .int 0, .int 0, .int 0, .int 1, .int 10, .int 0, .int 0, .int 0, .int 0, .ref (xa 20), .ref (xa 21), .ref (xa 22), .ref (xa 23), .ref (xa 24), .ref (xa 25), .ref (xa 26)]))] H) (PuL (fun r => r = (-1000000000000))) noF := by
  refine MM.of (by decide) (Nat.le_of_ble_eq_true rfl) ?_
  intro p e s m below meth c C hP ls hl
  obtain ⟨hx, hb, hr, hml, hown, hts, hlocks, hK, hnm⟩ := C
  have hP : va_P D vwCl [((xa 0), .inr (9, [.ref (xa 1), .ref (xa 2), .ref (xa 3), .ref (xa 4), .ref (xa 5), .ref (xa 6), .ref (xa 7), .ref (xa 8), .ref (xa 9), .int 0, .ref (xa 11), .null, .int 0, .int (-1)])), ((xa 11), .inr (2, [.int 0, .int 0, .int 0, .int 0, .int 0, .int 0, .int 0, .int 0, .int 1, .int 10, .int 0, .int 0, .int 0, .int 0, .ref (xa 20), .ref (xa 21), .ref (xa 22), .ref (xa 23), .ref (xa 24), .ref (xa 25), .ref (xa 26)]))] s.heap := hP
  have hl : lv_has ls 8 [(0, .ref (xa 0)), (1, .int n0), (2, .int n1)] := hl
  refine lv_aload_n hx hb dX9_signs_0 rfl (lv_at hl 0 rfl) ?_
  refine va_get (D := D) (ci := 9) (v := .ref (xa 11)) (C := RX9) (T := TX9) (N := 14) hx hb hts lay_X9 hown hK.1 hP 0 rfl rfl 10 (by decide) (hts _ fl_X9_67) (fun _ h9 => h9) rfl dX9_signs_1 ?_
  refine lv_iload_n hx hb dX9_signs_4 rfl (lv_at hl 1 rfl) ?_
  refine lv_iload_n hx hb dX9_signs_5 rfl (lv_at hl 2 rfl) ?_
  refine pu_calli (runV (As := [.int n0, .int n1]) (rest := []) ⟨hx, hb, hml, hown, hts⟩ (f_hasStore l D cy xa n0 n1 ) sV_X9_160 hK (va_recv hK.1 hP (ci := 2) (q0 := 1) rfl rfl) (hP.sub (ws' := [((xa 11), .inr (2, [.int 0, .int 0, .int 0, .int 0, .int 0, .int 0, .int 0, .int 0, .int 1, .int 10, .int 0, .int 0, .int 0, .int 0, .ref (xa 20), .ref (xa 21), .ref (xa 22), .ref (xa 23), .ref (xa 24), .ref (xa 25), .ref (xa 26)]))]) [1] rfl) ⟨Nat.le_of_ble_eq_true rfl, Nat.le_of_ble_eq_true rfl⟩ rfl hl.1 rfl (Nat.le_of_ble_eq_true rfl) dX9_signs_6 ⟨Nat.le_of_ble_eq_true rfl, Nat.le_of_ble_eq_true rfl⟩) (fun r_1 hr_1 => ?_)
  have er_1 := hr_1
  subst er_1
  refine W.eq (g2 := F0 m 9 ls [.int 0]) rfl ?_
  refine lv_if_ne (tgt := 16) hx hb dX9_signs_9 (by decide) (fun c_2 => absurd c_2 (by decide)) (fun _ => ?_)
  refine lv_ldc2 (v := (-1000000000000)) hx hb hown (hts _ kl_X9_176) dX9_signs_12 ?_
  exact ret_l hx hb hr hlocks ⟨rfl, _, rfl, rfl⟩ (fun _ h => absurd h List.not_mem_nil) (Nat.le_refl _) (Nat.le_refl _) dX9_signs_15
set_option maxHeartbeats 4000000 in
set_option maxRecDepth 100000 in
theorem f_X9_fork (l : Launch) (D : va_G) (cy : Nat → ClassId) (xa : Nat → Nat) (n0 : Int32) (n1 : Int32) (n2 : Int32) (n3 : Int32) : MM l yX9_fork cX9_fork 5 (some .long) 2 0 0 D cy [.ref (xa 0), .int n0, .int n1, .int n2, .int n3] (fun H => va_P D vwCl [((xa 0), .inr (9, [.ref (xa 1), .ref (xa 2), .ref (xa 3), .ref (xa 4), .ref (xa 5), .ref (xa 6), .ref (xa 7), .ref (xa 8), .ref (xa 9), .int 0, .ref (xa 11), .null, .int 0, .int (-1)])), ((xa 11), .inr (2, [.int 0, .int 0, .int 0, .int 0, .int 0, .int 0, .int 0, .int 0, .int 1, .int 10, .int 0, .int 0, .int 0, .int 0, .ref (xa 20), .ref (xa 21), .ref (xa 22), .ref (xa 23), .ref (xa 24), .ref (xa 25), .ref (xa 26)]))] H) (PuL (fun r => r = (-2))) noF := by
  refine MM.of (by decide) (Nat.le_of_ble_eq_true rfl) ?_
  intro p e s m below meth c C hP ls hl
  obtain ⟨hx, hb, hr, hml, hown, hts, hlocks, hK, hnm⟩ := C
  have hP : va_P D vwCl [((xa 0), .inr (9, [.ref (xa 1), .ref (xa 2), .ref (xa 3), .ref (xa 4), .ref (xa 5), .ref (xa 6), .ref (xa 7), .ref (xa 8), .ref (xa 9), .int 0, .ref (xa 11), .null, .int 0, .int (-1)])), ((xa 11), .inr (2, [.int 0, .int 0, .int 0, .int 0, .int 0, .int 0, .int 0, .int 0, .int 1, .int 10, .int 0, .int 0, .int 0, .int 0, .ref (xa 20), .ref (xa 21), .ref (xa 22), .ref (xa 23), .ref (xa 24), .ref (xa 25), .ref (xa 26)]))] s.heap := hP
  have hl : lv_has ls 5 [(0, .ref (xa 0)), (1, .int n0), (2, .int n1), (3, .int n2), (4, .int n3)] := hl
  refine lv_aload_n hx hb dX9_fork_0 rfl (lv_at hl 0 rfl) ?_
  refine va_get (D := D) (ci := 9) (v := .ref (xa 11)) (C := RX9) (T := TX9) (N := 14) hx hb hts lay_X9 hown hK.1 hP 0 rfl rfl 10 (by decide) (hts _ fl_X9_67) (fun _ h9 => h9) rfl dX9_fork_1 ?_
  refine lv_iload_n hx hb dX9_fork_4 rfl (lv_at hl 1 rfl) ?_
  refine lv_iload_n hx hb dX9_fork_5 rfl (lv_at hl 2 rfl) ?_
  refine pu_calli (runV (As := [.int n0, .int n1]) (rest := []) ⟨hx, hb, hml, hown, hts⟩ (f_hasTwo l D cy xa n0 n1 ) sV_X9_125 hK (va_recv hK.1 hP (ci := 2) (q0 := 1) rfl rfl) (hP.sub (ws' := [((xa 11), .inr (2, [.int 0, .int 0, .int 0, .int 0, .int 0, .int 0, .int 0, .int 0, .int 1, .int 10, .int 0, .int 0, .int 0, .int 0, .ref (xa 20), .ref (xa 21), .ref (xa 22), .ref (xa 23), .ref (xa 24), .ref (xa 25), .ref (xa 26)]))]) [1] rfl) ⟨Nat.le_of_ble_eq_true rfl, Nat.le_of_ble_eq_true rfl⟩ rfl hl.1 rfl (Nat.le_of_ble_eq_true rfl) dX9_fork_6 ⟨Nat.le_of_ble_eq_true rfl, Nat.le_of_ble_eq_true rfl⟩) (fun r_1 hr_1 => ?_)
  have er_1 := hr_1
  subst er_1
  refine W.eq (g2 := F0 m 9 ls [.int 0]) rfl ?_
  refine lv_if_eq (tgt := 31) hx hb dX9_fork_9 (by decide) (fun _ => ?_) (fun c_2 => absurd (by decide) c_2)
  refine lv_ldc2 (v := (-2)) hx hb hown (hts _ kl_X9_106) dX9_fork_31 ?_
  exact ret_l hx hb hr hlocks ⟨rfl, _, rfl, rfl⟩ (fun _ h => absurd h List.not_mem_nil) (Nat.le_refl _) (Nat.le_refl _) dX9_fork_34
set_option maxHeartbeats 4000000 in
set_option maxRecDepth 100000 in
theorem f_X9_middle (l : Launch) (D : va_G) (cy : Nat → ClassId) (xa : Nat → Nat) (n0 : Int32) (n1 : Int32) (n2 : Int32) : MM l yX9_middle cX9_middle 4 (some .int) 2 0 0 D cy [.ref (xa 0), .int n0, .int n1, .int n2] (fun H => va_P D vwCl [((xa 0), .inr (9, [.ref (xa 1), .ref (xa 2), .ref (xa 3), .ref (xa 4), .ref (xa 5), .ref (xa 6), .ref (xa 7), .ref (xa 8), .ref (xa 9), .int 0, .ref (xa 11), .null, .int 0, .int (-1)])), ((xa 11), .inr (2, [.int 0, .int 0, .int 0, .int 0, .int 0, .int 0, .int 0, .int 0, .int 1, .int 10, .int 0, .int 0, .int 0, .int 0, .ref (xa 20), .ref (xa 21), .ref (xa 22), .ref (xa 23), .ref (xa 24), .ref (xa 25), .ref (xa 26)]))] H) (PuI (fun r => r = (-2))) noF := by
  refine MM.of (by decide) (Nat.le_of_ble_eq_true rfl) ?_
  intro p e s m below meth c C hP ls hl
  obtain ⟨hx, hb, hr, hml, hown, hts, hlocks, hK, hnm⟩ := C
  have hP : va_P D vwCl [((xa 0), .inr (9, [.ref (xa 1), .ref (xa 2), .ref (xa 3), .ref (xa 4), .ref (xa 5), .ref (xa 6), .ref (xa 7), .ref (xa 8), .ref (xa 9), .int 0, .ref (xa 11), .null, .int 0, .int (-1)])), ((xa 11), .inr (2, [.int 0, .int 0, .int 0, .int 0, .int 0, .int 0, .int 0, .int 0, .int 1, .int 10, .int 0, .int 0, .int 0, .int 0, .ref (xa 20), .ref (xa 21), .ref (xa 22), .ref (xa 23), .ref (xa 24), .ref (xa 25), .ref (xa 26)]))] s.heap := hP
  have hl : lv_has ls 4 [(0, .ref (xa 0)), (1, .int n0), (2, .int n1), (3, .int n2)] := hl
  refine lv_aload_n hx hb dX9_middle_0 rfl (lv_at hl 0 rfl) ?_
  refine va_get (D := D) (ci := 9) (v := .ref (xa 11)) (C := RX9) (T := TX9) (N := 14) hx hb hts lay_X9 hown hK.1 hP 0 rfl rfl 10 (by decide) (hts _ fl_X9_67) (fun _ h9 => h9) rfl dX9_middle_1 ?_
  refine lv_iload_n hx hb dX9_middle_4 rfl (lv_at hl 1 rfl) ?_
  refine lv_iload_n hx hb dX9_middle_5 rfl (lv_at hl 2 rfl) ?_
  refine pu_calli (runV (As := [.int n0, .int n1]) (rest := []) ⟨hx, hb, hml, hown, hts⟩ (f_hasTwo l D cy xa n0 n1 ) sV_X9_125 hK (va_recv hK.1 hP (ci := 2) (q0 := 1) rfl rfl) (hP.sub (ws' := [((xa 11), .inr (2, [.int 0, .int 0, .int 0, .int 0, .int 0, .int 0, .int 0, .int 0, .int 1, .int 10, .int 0, .int 0, .int 0, .int 0, .ref (xa 20), .ref (xa 21), .ref (xa 22), .ref (xa 23), .ref (xa 24), .ref (xa 25), .ref (xa 26)]))]) [1] rfl) ⟨Nat.le_of_ble_eq_true rfl, Nat.le_of_ble_eq_true rfl⟩ rfl hl.1 rfl (Nat.le_of_ble_eq_true rfl) dX9_middle_6 ⟨Nat.le_of_ble_eq_true rfl, Nat.le_of_ble_eq_true rfl⟩) (fun r_1 hr_1 => ?_)
  have er_1 := hr_1
  subst er_1
  refine W.eq (g2 := F0 m 9 ls [.int 0]) rfl ?_
  refine lv_if_eq (tgt := 23) hx hb dX9_middle_9 (by decide) (fun _ => ?_) (fun c_2 => absurd (by decide) c_2)
  refine lv_bipush (v := (-2)) hx hb dX9_middle_23 (by decide) ?_
  exact ret_i hx hb hr hlocks ⟨rfl, _, rfl, rfl⟩ (fun _ h => absurd h List.not_mem_nil) (Nat.le_refl _) (Nat.le_refl _) dX9_middle_25
set_option maxHeartbeats 4000000 in
set_option maxRecDepth 100000 in
theorem f_X9_shares (l : Launch) (D : va_G) (cy : Nat → ClassId) (xa : Nat → Nat) (n0 : Int32) (n1 : Int32) (n2 : Int32) : MM l yX9_shares cX9_shares 6 (some .long) 2 0 0 D cy [.ref (xa 0), .int n0, .int n1, .int n2] (fun H => va_P D vwCl [((xa 0), .inr (9, [.ref (xa 1), .ref (xa 2), .ref (xa 3), .ref (xa 4), .ref (xa 5), .ref (xa 6), .ref (xa 7), .ref (xa 8), .ref (xa 9), .int 0, .ref (xa 11), .null, .int 0, .int (-1)])), ((xa 11), .inr (2, [.int 0, .int 0, .int 0, .int 0, .int 0, .int 0, .int 0, .int 0, .int 1, .int 10, .int 0, .int 0, .int 0, .int 0, .ref (xa 20), .ref (xa 21), .ref (xa 22), .ref (xa 23), .ref (xa 24), .ref (xa 25), .ref (xa 26)]))] H) (PuL (fun r => r = (-1000000000000))) noF := by
  refine MM.of (by decide) (Nat.le_of_ble_eq_true rfl) ?_
  intro p e s m below meth c C hP ls hl
  obtain ⟨hx, hb, hr, hml, hown, hts, hlocks, hK, hnm⟩ := C
  have hP : va_P D vwCl [((xa 0), .inr (9, [.ref (xa 1), .ref (xa 2), .ref (xa 3), .ref (xa 4), .ref (xa 5), .ref (xa 6), .ref (xa 7), .ref (xa 8), .ref (xa 9), .int 0, .ref (xa 11), .null, .int 0, .int (-1)])), ((xa 11), .inr (2, [.int 0, .int 0, .int 0, .int 0, .int 0, .int 0, .int 0, .int 0, .int 1, .int 10, .int 0, .int 0, .int 0, .int 0, .ref (xa 20), .ref (xa 21), .ref (xa 22), .ref (xa 23), .ref (xa 24), .ref (xa 25), .ref (xa 26)]))] s.heap := hP
  have hl : lv_has ls 6 [(0, .ref (xa 0)), (1, .int n0), (2, .int n1), (3, .int n2)] := hl
  refine lv_aload_n hx hb dX9_shares_0 rfl (lv_at hl 0 rfl) ?_
  refine va_get (D := D) (ci := 9) (v := .ref (xa 11)) (C := RX9) (T := TX9) (N := 14) hx hb hts lay_X9 hown hK.1 hP 0 rfl rfl 10 (by decide) (hts _ fl_X9_67) (fun _ h9 => h9) rfl dX9_shares_1 ?_
  refine lv_iload_n hx hb dX9_shares_4 rfl (lv_at hl 1 rfl) ?_
  refine lv_iload_n hx hb dX9_shares_5 rfl (lv_at hl 2 rfl) ?_
  refine pu_calli (runV (As := [.int n0, .int n1]) (rest := []) ⟨hx, hb, hml, hown, hts⟩ (f_hasTwo l D cy xa n0 n1 ) sV_X9_125 hK (va_recv hK.1 hP (ci := 2) (q0 := 1) rfl rfl) (hP.sub (ws' := [((xa 11), .inr (2, [.int 0, .int 0, .int 0, .int 0, .int 0, .int 0, .int 0, .int 0, .int 1, .int 10, .int 0, .int 0, .int 0, .int 0, .ref (xa 20), .ref (xa 21), .ref (xa 22), .ref (xa 23), .ref (xa 24), .ref (xa 25), .ref (xa 26)]))]) [1] rfl) ⟨Nat.le_of_ble_eq_true rfl, Nat.le_of_ble_eq_true rfl⟩ rfl hl.1 rfl (Nat.le_of_ble_eq_true rfl) dX9_shares_6 ⟨Nat.le_of_ble_eq_true rfl, Nat.le_of_ble_eq_true rfl⟩) (fun r_1 hr_1 => ?_)
  have er_1 := hr_1
  subst er_1
  refine W.eq (g2 := F0 m 9 ls [.int 0]) rfl ?_
  refine lv_if_eq (tgt := 23) hx hb dX9_shares_9 (by decide) (fun _ => ?_) (fun c_2 => absurd (by decide) c_2)
  refine lv_ldc2 (v := (-1000000000000)) hx hb hown (hts _ kl_X9_176) dX9_shares_23 ?_
  exact ret_l hx hb hr hlocks ⟨rfl, _, rfl, rfl⟩ (fun _ h => absurd h List.not_mem_nil) (Nat.le_refl _) (Nat.le_refl _) dX9_shares_26
set_option maxHeartbeats 4000000 in
set_option maxRecDepth 100000 in
theorem f_X9_flown (l : Launch) (D : va_G) (cy : Nat → ClassId) (xa : Nat → Nat) (n0 : Int32) (n1 : Int32) (n2 : Int32) : MM l yX9_flown cX9_flown 4 (some .long) 2 0 0 D cy [.ref (xa 0), .int n0, .int n1, .int n2] (fun H => va_P D vwCl [((xa 0), .inr (9, [.ref (xa 1), .ref (xa 2), .ref (xa 3), .ref (xa 4), .ref (xa 5), .ref (xa 6), .ref (xa 7), .ref (xa 8), .ref (xa 9), .int 0, .ref (xa 11), .null, .int 0, .int (-1)])), ((xa 11), .inr (2, [.int 0, .int 0, .int 0, .int 0, .int 0, .int 0, .int 0, .int 0, .int 1, .int 10, .int 0, .int 0, .int 0, .int 0, .ref (xa 20), .ref (xa 21), .ref (xa 22), .ref (xa 23), .ref (xa 24), .ref (xa 25), .ref (xa 26)]))] H) (PuL (fun r => r = (-2))) noF := by
  refine MM.of (by decide) (Nat.le_of_ble_eq_true rfl) ?_
  intro p e s m below meth c C hP ls hl
  obtain ⟨hx, hb, hr, hml, hown, hts, hlocks, hK, hnm⟩ := C
  have hP : va_P D vwCl [((xa 0), .inr (9, [.ref (xa 1), .ref (xa 2), .ref (xa 3), .ref (xa 4), .ref (xa 5), .ref (xa 6), .ref (xa 7), .ref (xa 8), .ref (xa 9), .int 0, .ref (xa 11), .null, .int 0, .int (-1)])), ((xa 11), .inr (2, [.int 0, .int 0, .int 0, .int 0, .int 0, .int 0, .int 0, .int 0, .int 1, .int 10, .int 0, .int 0, .int 0, .int 0, .ref (xa 20), .ref (xa 21), .ref (xa 22), .ref (xa 23), .ref (xa 24), .ref (xa 25), .ref (xa 26)]))] s.heap := hP
  have hl : lv_has ls 4 [(0, .ref (xa 0)), (1, .int n0), (2, .int n1), (3, .int n2)] := hl
  refine lv_aload_n hx hb dX9_flown_0 rfl (lv_at hl 0 rfl) ?_
  refine va_get (D := D) (ci := 9) (v := .ref (xa 11)) (C := RX9) (T := TX9) (N := 14) hx hb hts lay_X9 hown hK.1 hP 0 rfl rfl 10 (by decide) (hts _ fl_X9_67) (fun _ h9 => h9) rfl dX9_flown_1 ?_
  refine lv_iload_n hx hb dX9_flown_4 rfl (lv_at hl 1 rfl) ?_
  refine lv_iload_n hx hb dX9_flown_5 rfl (lv_at hl 2 rfl) ?_
  refine pu_calli (runV (As := [.int n0, .int n1]) (rest := []) ⟨hx, hb, hml, hown, hts⟩ (f_hasStore l D cy xa n0 n1 ) sV_X9_160 hK (va_recv hK.1 hP (ci := 2) (q0 := 1) rfl rfl) (hP.sub (ws' := [((xa 11), .inr (2, [.int 0, .int 0, .int 0, .int 0, .int 0, .int 0, .int 0, .int 0, .int 1, .int 10, .int 0, .int 0, .int 0, .int 0, .ref (xa 20), .ref (xa 21), .ref (xa 22), .ref (xa 23), .ref (xa 24), .ref (xa 25), .ref (xa 26)]))]) [1] rfl) ⟨Nat.le_of_ble_eq_true rfl, Nat.le_of_ble_eq_true rfl⟩ rfl hl.1 rfl (Nat.le_of_ble_eq_true rfl) dX9_flown_6 ⟨Nat.le_of_ble_eq_true rfl, Nat.le_of_ble_eq_true rfl⟩) (fun r_1 hr_1 => ?_)
  have er_1 := hr_1
  subst er_1
  refine W.eq (g2 := F0 m 9 ls [.int 0]) rfl ?_
  refine lv_if_eq (tgt := 19) hx hb dX9_flown_9 (by decide) (fun _ => ?_) (fun c_2 => absurd (by decide) c_2)
  refine lv_ldc2 (v := (-2)) hx hb hown (hts _ kl_X9_106) dX9_flown_19 ?_
  exact ret_l hx hb hr hlocks ⟨rfl, _, rfl, rfl⟩ (fun _ h => absurd h List.not_mem_nil) (Nat.le_refl _) (Nat.le_refl _) dX9_flown_22
set_option maxHeartbeats 4000000 in
set_option maxRecDepth 100000 in
theorem f_X9_plane (l : Launch) (D : va_G) (cy : Nat → ClassId) (xa : Nat → Nat) (n0 : Int32) (n1 : Int32) : MM l yX9_plane cX9_plane 9 (some .int) 2 0 0 D cy [.ref (xa 0), .int n0, .int n1] (fun H => va_P D vwCl [((xa 0), .inr (9, [.ref (xa 1), .ref (xa 2), .ref (xa 3), .ref (xa 4), .ref (xa 5), .ref (xa 6), .ref (xa 7), .ref (xa 8), .ref (xa 9), .int 0, .ref (xa 11), .null, .int 0, .int (-1)])), ((xa 11), .inr (2, [.int 0, .int 0, .int 0, .int 0, .int 0, .int 0, .int 0, .int 0, .int 1, .int 10, .int 0, .int 0, .int 0, .int 0, .ref (xa 20), .ref (xa 21), .ref (xa 22), .ref (xa 23), .ref (xa 24), .ref (xa 25), .ref (xa 26)]))] H) (PuI (fun r => r = (-2))) noF := by
  refine MM.of (by decide) (Nat.le_of_ble_eq_true rfl) ?_
  intro p e s m below meth c C hP ls hl
  obtain ⟨hx, hb, hr, hml, hown, hts, hlocks, hK, hnm⟩ := C
  have hP : va_P D vwCl [((xa 0), .inr (9, [.ref (xa 1), .ref (xa 2), .ref (xa 3), .ref (xa 4), .ref (xa 5), .ref (xa 6), .ref (xa 7), .ref (xa 8), .ref (xa 9), .int 0, .ref (xa 11), .null, .int 0, .int (-1)])), ((xa 11), .inr (2, [.int 0, .int 0, .int 0, .int 0, .int 0, .int 0, .int 0, .int 0, .int 1, .int 10, .int 0, .int 0, .int 0, .int 0, .ref (xa 20), .ref (xa 21), .ref (xa 22), .ref (xa 23), .ref (xa 24), .ref (xa 25), .ref (xa 26)]))] s.heap := hP
  have hl : lv_has ls 9 [(0, .ref (xa 0)), (1, .int n0), (2, .int n1)] := hl
  refine lv_aload_n hx hb dX9_plane_0 rfl (lv_at hl 0 rfl) ?_
  refine va_get (D := D) (ci := 9) (v := .ref (xa 11)) (C := RX9) (T := TX9) (N := 14) hx hb hts lay_X9 hown hK.1 hP 0 rfl rfl 10 (by decide) (hts _ fl_X9_67) (fun _ h9 => h9) rfl dX9_plane_1 ?_
  refine lv_iload_n hx hb dX9_plane_4 rfl (lv_at hl 1 rfl) ?_
  refine lv_iload_n hx hb dX9_plane_5 rfl (lv_at hl 2 rfl) ?_
  refine pu_calli (runV (As := [.int n0, .int n1]) (rest := []) ⟨hx, hb, hml, hown, hts⟩ (f_hasStore l D cy xa n0 n1 ) sV_X9_160 hK (va_recv hK.1 hP (ci := 2) (q0 := 1) rfl rfl) (hP.sub (ws' := [((xa 11), .inr (2, [.int 0, .int 0, .int 0, .int 0, .int 0, .int 0, .int 0, .int 0, .int 1, .int 10, .int 0, .int 0, .int 0, .int 0, .ref (xa 20), .ref (xa 21), .ref (xa 22), .ref (xa 23), .ref (xa 24), .ref (xa 25), .ref (xa 26)]))]) [1] rfl) ⟨Nat.le_of_ble_eq_true rfl, Nat.le_of_ble_eq_true rfl⟩ rfl hl.1 rfl (Nat.le_of_ble_eq_true rfl) dX9_plane_6 ⟨Nat.le_of_ble_eq_true rfl, Nat.le_of_ble_eq_true rfl⟩) (fun r_1 hr_1 => ?_)
  have er_1 := hr_1
  subst er_1
  refine W.eq (g2 := F0 m 9 ls [.int 0]) rfl ?_
  refine lv_if_ne (tgt := 15) hx hb dX9_plane_9 (by decide) (fun c_2 => absurd c_2 (by decide)) (fun _ => ?_)
  refine lv_bipush (v := (-2)) hx hb dX9_plane_12 (by decide) ?_
  exact ret_i hx hb hr hlocks ⟨rfl, _, rfl, rfl⟩ (fun _ h => absurd h List.not_mem_nil) (Nat.le_refl _) (Nat.le_refl _) dX9_plane_14
set_option maxHeartbeats 4000000 in
set_option maxRecDepth 100000 in
theorem f_X9_edge (l : Launch) (D : va_G) (cy : Nat → ClassId) (xa : Nat → Nat) (n0 : Int32) : MM l yX9_edge cX9_edge 4 (some .int) 1 0 0 D cy [.ref (xa 0), .int n0] (fun H => va_P D vwCl [((xa 0), .inr (9, [.ref (xa 1), .ref (xa 2), .ref (xa 3), .ref (xa 4), .ref (xa 5), .ref (xa 6), .ref (xa 7), .ref (xa 8), .ref (xa 9), .int 0, .ref (xa 11), .null, .int 0, .int (-1)])), ((xa 11), .inr (2, [.int 0, .int 0, .int 0, .int 0, .int 0, .int 0, .int 0, .int 0, .int 1, .int 10, .int 0, .int 0, .int 0, .int 0, .ref (xa 20), .ref (xa 21), .ref (xa 22), .ref (xa 23), .ref (xa 24), .ref (xa 25), .ref (xa 26)]))] H) (PuI (fun r => r = (-2))) noF := by
  refine MM.of (by decide) (Nat.le_of_ble_eq_true rfl) ?_
  intro p e s m below meth c C hP ls hl
  obtain ⟨hx, hb, hr, hml, hown, hts, hlocks, hK, hnm⟩ := C
  have hP : va_P D vwCl [((xa 0), .inr (9, [.ref (xa 1), .ref (xa 2), .ref (xa 3), .ref (xa 4), .ref (xa 5), .ref (xa 6), .ref (xa 7), .ref (xa 8), .ref (xa 9), .int 0, .ref (xa 11), .null, .int 0, .int (-1)])), ((xa 11), .inr (2, [.int 0, .int 0, .int 0, .int 0, .int 0, .int 0, .int 0, .int 0, .int 1, .int 10, .int 0, .int 0, .int 0, .int 0, .ref (xa 20), .ref (xa 21), .ref (xa 22), .ref (xa 23), .ref (xa 24), .ref (xa 25), .ref (xa 26)]))] s.heap := hP
  have hl : lv_has ls 4 [(0, .ref (xa 0)), (1, .int n0)] := hl
  refine lv_aload_n hx hb dX9_edge_0 rfl (lv_at hl 0 rfl) ?_
  refine va_get (D := D) (ci := 9) (v := .ref (xa 11)) (C := RX9) (T := TX9) (N := 14) hx hb hts lay_X9 hown hK.1 hP 0 rfl rfl 10 (by decide) (hts _ fl_X9_67) (fun _ h9 => h9) rfl dX9_edge_1 ?_
  refine lv_iload_n hx hb dX9_edge_4 rfl (lv_at hl 1 rfl) ?_
  refine pu_calli (runV (As := [.int n0]) (rest := []) ⟨hx, hb, hml, hown, hts⟩ (f_hasThing l D cy xa n0 ) sV_X9_242 hK (va_recv hK.1 hP (ci := 2) (q0 := 1) rfl rfl) (hP.sub (ws' := [((xa 11), .inr (2, [.int 0, .int 0, .int 0, .int 0, .int 0, .int 0, .int 0, .int 0, .int 1, .int 10, .int 0, .int 0, .int 0, .int 0, .ref (xa 20), .ref (xa 21), .ref (xa 22), .ref (xa 23), .ref (xa 24), .ref (xa 25), .ref (xa 26)]))]) [1] rfl) ⟨Nat.le_of_ble_eq_true rfl, Nat.le_of_ble_eq_true rfl⟩ rfl hl.1 rfl (Nat.le_of_ble_eq_true rfl) dX9_edge_5 ⟨Nat.le_of_ble_eq_true rfl, Nat.le_of_ble_eq_true rfl⟩) (fun r_1 hr_1 => ?_)
  have er_1 := hr_1
  subst er_1
  refine W.eq (g2 := F0 m 8 ls [.int 0]) rfl ?_
  refine lv_if_ne (tgt := 14) hx hb dX9_edge_8 (by decide) (fun c_2 => absurd c_2 (by decide)) (fun _ => ?_)
  refine lv_bipush (v := (-2)) hx hb dX9_edge_11 (by decide) ?_
  exact ret_i hx hb hr hlocks ⟨rfl, _, rfl, rfl⟩ (fun _ h => absurd h List.not_mem_nil) (Nat.le_refl _) (Nat.le_refl _) dX9_edge_13
set_option maxHeartbeats 4000000 in
set_option maxRecDepth 100000 in
theorem f_X9_path (l : Launch) (D : va_G) (cy : Nat → ClassId) (xa : Nat → Nat) (n0 : Int32) (n1 : Int32) (n2 : Int32) (n3 : Int32) : MM l yX9_path cX9_path 5 (some .long) 2 0 0 D cy [.ref (xa 0), .int n0, .int n1, .int n2, .int n3] (fun H => va_P D vwCl [((xa 0), .inr (9, [.ref (xa 1), .ref (xa 2), .ref (xa 3), .ref (xa 4), .ref (xa 5), .ref (xa 6), .ref (xa 7), .ref (xa 8), .ref (xa 9), .int 0, .ref (xa 11), .null, .int 0, .int (-1)])), ((xa 11), .inr (2, [.int 0, .int 0, .int 0, .int 0, .int 0, .int 0, .int 0, .int 0, .int 1, .int 10, .int 0, .int 0, .int 0, .int 0, .ref (xa 20), .ref (xa 21), .ref (xa 22), .ref (xa 23), .ref (xa 24), .ref (xa 25), .ref (xa 26)]))] H) (PuL (fun r => r = (-2))) noF := by
  refine MM.of (by decide) (Nat.le_of_ble_eq_true rfl) ?_
  intro p e s m below meth c C hP ls hl
  obtain ⟨hx, hb, hr, hml, hown, hts, hlocks, hK, hnm⟩ := C
  have hP : va_P D vwCl [((xa 0), .inr (9, [.ref (xa 1), .ref (xa 2), .ref (xa 3), .ref (xa 4), .ref (xa 5), .ref (xa 6), .ref (xa 7), .ref (xa 8), .ref (xa 9), .int 0, .ref (xa 11), .null, .int 0, .int (-1)])), ((xa 11), .inr (2, [.int 0, .int 0, .int 0, .int 0, .int 0, .int 0, .int 0, .int 0, .int 1, .int 10, .int 0, .int 0, .int 0, .int 0, .ref (xa 20), .ref (xa 21), .ref (xa 22), .ref (xa 23), .ref (xa 24), .ref (xa 25), .ref (xa 26)]))] s.heap := hP
  have hl : lv_has ls 5 [(0, .ref (xa 0)), (1, .int n0), (2, .int n1), (3, .int n2), (4, .int n3)] := hl
  refine lv_aload_n hx hb dX9_path_0 rfl (lv_at hl 0 rfl) ?_
  refine va_get (D := D) (ci := 9) (v := .ref (xa 11)) (C := RX9) (T := TX9) (N := 14) hx hb hts lay_X9 hown hK.1 hP 0 rfl rfl 10 (by decide) (hts _ fl_X9_67) (fun _ h9 => h9) rfl dX9_path_1 ?_
  refine lv_iload_n hx hb dX9_path_4 rfl (lv_at hl 1 rfl) ?_
  refine lv_iload_n hx hb dX9_path_5 rfl (lv_at hl 2 rfl) ?_
  refine pu_calli (runV (As := [.int n0, .int n1]) (rest := []) ⟨hx, hb, hml, hown, hts⟩ (f_hasTwo l D cy xa n0 n1 ) sV_X9_125 hK (va_recv hK.1 hP (ci := 2) (q0 := 1) rfl rfl) (hP.sub (ws' := [((xa 11), .inr (2, [.int 0, .int 0, .int 0, .int 0, .int 0, .int 0, .int 0, .int 0, .int 1, .int 10, .int 0, .int 0, .int 0, .int 0, .ref (xa 20), .ref (xa 21), .ref (xa 22), .ref (xa 23), .ref (xa 24), .ref (xa 25), .ref (xa 26)]))]) [1] rfl) ⟨Nat.le_of_ble_eq_true rfl, Nat.le_of_ble_eq_true rfl⟩ rfl hl.1 rfl (Nat.le_of_ble_eq_true rfl) dX9_path_6 ⟨Nat.le_of_ble_eq_true rfl, Nat.le_of_ble_eq_true rfl⟩) (fun r_1 hr_1 => ?_)
  have er_1 := hr_1
  subst er_1
  refine W.eq (g2 := F0 m 9 ls [.int 0]) rfl ?_
  refine lv_if_eq (tgt := 31) hx hb dX9_path_9 (by decide) (fun _ => ?_) (fun c_2 => absurd (by decide) c_2)
  refine lv_ldc2 (v := (-2)) hx hb hown (hts _ kl_X9_106) dX9_path_31 ?_
  exact ret_l hx hb hr hlocks ⟨rfl, _, rfl, rfl⟩ (fun _ h => absurd h List.not_mem_nil) (Nat.le_refl _) (Nat.le_refl _) dX9_path_34
set_option maxHeartbeats 4000000 in
set_option maxRecDepth 100000 in
theorem f_X9_fed (l : Launch) (D : va_G) (cy : Nat → ClassId) (xa : Nat → Nat) (n0 : Int32) (n1 : Int32) : MM l yX9_fed cX9_fed 7 (some .int) 2 0 0 D cy [.ref (xa 0), .int n0, .int n1] (fun H => va_P D vwCl [((xa 0), .inr (9, [.ref (xa 1), .ref (xa 2), .ref (xa 3), .ref (xa 4), .ref (xa 5), .ref (xa 6), .ref (xa 7), .ref (xa 8), .ref (xa 9), .int 0, .ref (xa 11), .null, .int 0, .int (-1)])), ((xa 11), .inr (2, [.int 0, .int 0, .int 0, .int 0, .int 0, .int 0, .int 0, .int 0, .int 1, .int 10, .int 0, .int 0, .int 0, .int 0, .ref (xa 20), .ref (xa 21), .ref (xa 22), .ref (xa 23), .ref (xa 24), .ref (xa 25), .ref (xa 26)]))] H) (PuI (fun r => r = (-2))) noF := by
  refine MM.of (by decide) (Nat.le_of_ble_eq_true rfl) ?_
  intro p e s m below meth c C hP ls hl
  obtain ⟨hx, hb, hr, hml, hown, hts, hlocks, hK, hnm⟩ := C
  have hP : va_P D vwCl [((xa 0), .inr (9, [.ref (xa 1), .ref (xa 2), .ref (xa 3), .ref (xa 4), .ref (xa 5), .ref (xa 6), .ref (xa 7), .ref (xa 8), .ref (xa 9), .int 0, .ref (xa 11), .null, .int 0, .int (-1)])), ((xa 11), .inr (2, [.int 0, .int 0, .int 0, .int 0, .int 0, .int 0, .int 0, .int 0, .int 1, .int 10, .int 0, .int 0, .int 0, .int 0, .ref (xa 20), .ref (xa 21), .ref (xa 22), .ref (xa 23), .ref (xa 24), .ref (xa 25), .ref (xa 26)]))] s.heap := hP
  have hl : lv_has ls 7 [(0, .ref (xa 0)), (1, .int n0), (2, .int n1)] := hl
  refine lv_aload_n hx hb dX9_fed_0 rfl (lv_at hl 0 rfl) ?_
  refine va_get (D := D) (ci := 9) (v := .ref (xa 11)) (C := RX9) (T := TX9) (N := 14) hx hb hts lay_X9 hown hK.1 hP 0 rfl rfl 10 (by decide) (hts _ fl_X9_67) (fun _ h9 => h9) rfl dX9_fed_1 ?_
  refine lv_iload_n hx hb dX9_fed_4 rfl (lv_at hl 1 rfl) ?_
  refine lv_iload_n hx hb dX9_fed_5 rfl (lv_at hl 2 rfl) ?_
  refine pu_calli (runV (As := [.int n0, .int n1]) (rest := []) ⟨hx, hb, hml, hown, hts⟩ (f_hasTwo l D cy xa n0 n1 ) sV_X9_125 hK (va_recv hK.1 hP (ci := 2) (q0 := 1) rfl rfl) (hP.sub (ws' := [((xa 11), .inr (2, [.int 0, .int 0, .int 0, .int 0, .int 0, .int 0, .int 0, .int 0, .int 1, .int 10, .int 0, .int 0, .int 0, .int 0, .ref (xa 20), .ref (xa 21), .ref (xa 22), .ref (xa 23), .ref (xa 24), .ref (xa 25), .ref (xa 26)]))]) [1] rfl) ⟨Nat.le_of_ble_eq_true rfl, Nat.le_of_ble_eq_true rfl⟩ rfl hl.1 rfl (Nat.le_of_ble_eq_true rfl) dX9_fed_6 ⟨Nat.le_of_ble_eq_true rfl, Nat.le_of_ble_eq_true rfl⟩) (fun r_1 hr_1 => ?_)
  have er_1 := hr_1
  subst er_1
  refine W.eq (g2 := F0 m 9 ls [.int 0]) rfl ?_
  refine lv_if_ne (tgt := 15) hx hb dX9_fed_9 (by decide) (fun c_2 => absurd c_2 (by decide)) (fun _ => ?_)
  refine lv_bipush (v := (-2)) hx hb dX9_fed_12 (by decide) ?_
  exact ret_i hx hb hr hlocks ⟨rfl, _, rfl, rfl⟩ (fun _ h => absurd h List.not_mem_nil) (Nat.le_refl _) (Nat.le_refl _) dX9_fed_14
set_option maxHeartbeats 4000000 in
set_option maxRecDepth 100000 in
theorem f_X9_given (l : Launch) (D : va_G) (cy : Nat → ClassId) (xa : Nat → Nat) (n0 : Int32) (n1 : Int32) (n2 : Int32) (n3 : Int32) : MM l yX9_given cX9_given 6 (some .int) 2 0 0 D cy [.ref (xa 0), .int n0, .int n1, .int n2, .int n3] (fun H => va_P D vwCl [((xa 0), .inr (9, [.ref (xa 1), .ref (xa 2), .ref (xa 3), .ref (xa 4), .ref (xa 5), .ref (xa 6), .ref (xa 7), .ref (xa 8), .ref (xa 9), .int 0, .ref (xa 11), .null, .int 0, .int (-1)])), ((xa 11), .inr (2, [.int 0, .int 0, .int 0, .int 0, .int 0, .int 0, .int 0, .int 0, .int 1, .int 10, .int 0, .int 0, .int 0, .int 0, .ref (xa 20), .ref (xa 21), .ref (xa 22), .ref (xa 23), .ref (xa 24), .ref (xa 25), .ref (xa 26)]))] H) (PuI (fun r => r = (-2))) noF := by
  refine MM.of (by decide) (Nat.le_of_ble_eq_true rfl) ?_
  intro p e s m below meth c C hP ls hl
  obtain ⟨hx, hb, hr, hml, hown, hts, hlocks, hK, hnm⟩ := C
  have hP : va_P D vwCl [((xa 0), .inr (9, [.ref (xa 1), .ref (xa 2), .ref (xa 3), .ref (xa 4), .ref (xa 5), .ref (xa 6), .ref (xa 7), .ref (xa 8), .ref (xa 9), .int 0, .ref (xa 11), .null, .int 0, .int (-1)])), ((xa 11), .inr (2, [.int 0, .int 0, .int 0, .int 0, .int 0, .int 0, .int 0, .int 0, .int 1, .int 10, .int 0, .int 0, .int 0, .int 0, .ref (xa 20), .ref (xa 21), .ref (xa 22), .ref (xa 23), .ref (xa 24), .ref (xa 25), .ref (xa 26)]))] s.heap := hP
  have hl : lv_has ls 6 [(0, .ref (xa 0)), (1, .int n0), (2, .int n1), (3, .int n2), (4, .int n3)] := hl
  refine lv_aload_n hx hb dX9_given_0 rfl (lv_at hl 0 rfl) ?_
  refine lv_iload_n hx hb dX9_given_1 rfl (lv_at hl 1 rfl) ?_
  refine lv_iload_n hx hb dX9_given_2 rfl (lv_at hl 2 rfl) ?_
  refine lv_iload_n hx hb dX9_given_3 rfl (lv_at hl 3 rfl) ?_
  refine lv_iload hx hb dX9_given_4 (lv_at hl 4 rfl) ?_
  refine pu_calli (runV (As := [.int n0, .int n1, .int n2, .int n3]) (rest := []) ⟨hx, hb, hml, hown, hts⟩ (f_shareState l D cy xa n0 n1 n2 n3 ) sV_X9_273 hK (va_recv hK.1 hP (ci := 9) (q0 := 0) rfl rfl) (hP.sub (ws' := [((xa 0), .inr (9, [.ref (xa 1), .ref (xa 2), .ref (xa 3), .ref (xa 4), .ref (xa 5), .ref (xa 6), .ref (xa 7), .ref (xa 8), .ref (xa 9), .int 0, .ref (xa 11), .null, .int 0, .int (-1)])), ((xa 11), .inr (2, [.int 0, .int 0, .int 0, .int 0, .int 0, .int 0, .int 0, .int 0, .int 1, .int 10, .int 0, .int 0, .int 0, .int 0, .ref (xa 20), .ref (xa 21), .ref (xa 22), .ref (xa 23), .ref (xa 24), .ref (xa 25), .ref (xa 26)]))]) [0, 1] rfl) ⟨Nat.le_of_ble_eq_true rfl, Nat.le_of_ble_eq_true rfl⟩ rfl hl.1 rfl (Nat.le_of_ble_eq_true rfl) dX9_given_6 ⟨Nat.le_of_ble_eq_true rfl, Nat.le_of_ble_eq_true rfl⟩) (fun r_1 hr_1 => ?_)
  have er_1 := hr_1
  subst er_1
  refine W.eq (g2 := F0 m 9 ls [.int (-2)]) rfl ?_
  refine lv_istore (lv' := [(5, .int (-2)), (0, .ref (xa 0)), (1, .int n0), (2, .int n1), (3, .int n2), (4, .int n3)]) hx hb dX9_given_9 hl (by decide) rfl (fun ls hl => ?_)
  refine lv_iload hx hb dX9_given_11 (lv_at hl 0 rfl) ?_
  refine lv_if_eq (tgt := 19) hx hb dX9_given_13 (by decide) (fun c_2 => absurd c_2 (by decide)) (fun _ => ?_)
  refine lv_iload hx hb dX9_given_16 (lv_at hl 0 rfl) ?_
  exact ret_i hx hb hr hlocks ⟨rfl, _, rfl, rfl⟩ (fun _ h => absurd h List.not_mem_nil) (Nat.le_refl _) (Nat.le_refl _) dX9_given_18
set_option maxHeartbeats 4000000 in
set_option maxRecDepth 100000 in
theorem f_X9_asks (l : Launch) (D : va_G) (cy : Nat → ClassId) (xa : Nat → Nat) (n0 : Int32) (n1 : Int32) (n2 : Int32) (n3 : Int32) (n4 : Int32) : MM l yX9_asks cX9_asks 7 (some .int) 1 0 0 D cy [.ref (xa 0), .int n0, .int n1, .int n2, .int n3, .int n4] (fun H => va_P D vwCl [((xa 0), .inr (9, [.ref (xa 1), .ref (xa 2), .ref (xa 3), .ref (xa 4), .ref (xa 5), .ref (xa 6), .ref (xa 7), .ref (xa 8), .ref (xa 9), .int 0, .ref (xa 11), .null, .int 0, .int (-1)])), ((xa 11), .inr (2, [.int 0, .int 0, .int 0, .int 0, .int 0, .int 0, .int 0, .int 0, .int 1, .int 10, .int 0, .int 0, .int 0, .int 0, .ref (xa 20), .ref (xa 21), .ref (xa 22), .ref (xa 23), .ref (xa 24), .ref (xa 25), .ref (xa 26)]))] H) (PuI (fun r => r = (-2))) noF := by
  refine MM.of (by decide) (Nat.le_of_ble_eq_true rfl) ?_
  intro p e s m below meth c C hP ls hl
  obtain ⟨hx, hb, hr, hml, hown, hts, hlocks, hK, hnm⟩ := C
  have hP : va_P D vwCl [((xa 0), .inr (9, [.ref (xa 1), .ref (xa 2), .ref (xa 3), .ref (xa 4), .ref (xa 5), .ref (xa 6), .ref (xa 7), .ref (xa 8), .ref (xa 9), .int 0, .ref (xa 11), .null, .int 0, .int (-1)])), ((xa 11), .inr (2, [.int 0, .int 0, .int 0, .int 0, .int 0, .int 0, .int 0, .int 0, .int 1, .int 10, .int 0, .int 0, .int 0, .int 0, .ref (xa 20), .ref (xa 21), .ref (xa 22), .ref (xa 23), .ref (xa 24), .ref (xa 25), .ref (xa 26)]))] s.heap := hP
  have hl : lv_has ls 7 [(0, .ref (xa 0)), (1, .int n0), (2, .int n1), (3, .int n2), (4, .int n3), (5, .int n4)] := hl
  refine lv_aload_n hx hb dX9_asks_0 rfl (lv_at hl 0 rfl) ?_
  refine va_get (D := D) (ci := 9) (v := .ref (xa 11)) (C := RX9) (T := TX9) (N := 14) hx hb hts lay_X9 hown hK.1 hP 0 rfl rfl 10 (by decide) (hts _ fl_X9_67) (fun _ h9 => h9) rfl dX9_asks_1 ?_
  refine lv_iload hx hb dX9_asks_4 (lv_at hl 5 rfl) ?_
  refine pu_calli (runV (As := [.int n4]) (rest := []) ⟨hx, hb, hml, hown, hts⟩ (f_hasThing l D cy xa n4 ) sV_X9_242 hK (va_recv hK.1 hP (ci := 2) (q0 := 1) rfl rfl) (hP.sub (ws' := [((xa 11), .inr (2, [.int 0, .int 0, .int 0, .int 0, .int 0, .int 0, .int 0, .int 0, .int 1, .int 10, .int 0, .int 0, .int 0, .int 0, .ref (xa 20), .ref (xa 21), .ref (xa 22), .ref (xa 23), .ref (xa 24), .ref (xa 25), .ref (xa 26)]))]) [1] rfl) ⟨Nat.le_of_ble_eq_true rfl, Nat.le_of_ble_eq_true rfl⟩ rfl hl.1 rfl (Nat.le_of_ble_eq_true rfl) dX9_asks_6 ⟨Nat.le_of_ble_eq_true rfl, Nat.le_of_ble_eq_true rfl⟩) (fun r_1 hr_1 => ?_)
  have er_1 := hr_1
  subst er_1
  refine W.eq (g2 := F0 m 9 ls [.int 0]) rfl ?_
  refine lv_if_ne (tgt := 15) hx hb dX9_asks_9 (by decide) (fun c_2 => absurd c_2 (by decide)) (fun _ => ?_)
  refine lv_bipush (v := (-2)) hx hb dX9_asks_12 (by decide) ?_
  exact ret_i hx hb hr hlocks ⟨rfl, _, rfl, rfl⟩ (fun _ h => absurd h List.not_mem_nil) (Nat.le_refl _) (Nat.le_refl _) dX9_asks_14
set_option maxHeartbeats 4000000 in
set_option maxRecDepth 100000 in
theorem f_X9_pays (l : Launch) (D : va_G) (cy : Nat → ClassId) (xa : Nat → Nat) (n0 : Int32) (n1 : Int32) (n2 : Int32) (n3 : Int32) (n4 : Int32) : MM l yX9_pays cX9_pays 9 (some .long) 1 0 0 D cy [.ref (xa 0), .int n0, .int n1, .int n2, .int n3, .int n4] (fun H => va_P D vwCl [((xa 0), .inr (9, [.ref (xa 1), .ref (xa 2), .ref (xa 3), .ref (xa 4), .ref (xa 5), .ref (xa 6), .ref (xa 7), .ref (xa 8), .ref (xa 9), .int 0, .ref (xa 11), .null, .int 0, .int (-1)])), ((xa 11), .inr (2, [.int 0, .int 0, .int 0, .int 0, .int 0, .int 0, .int 0, .int 0, .int 1, .int 10, .int 0, .int 0, .int 0, .int 0, .ref (xa 20), .ref (xa 21), .ref (xa 22), .ref (xa 23), .ref (xa 24), .ref (xa 25), .ref (xa 26)]))] H) (PuL (fun r => r = (-2))) noF := by
  refine MM.of (by decide) (Nat.le_of_ble_eq_true rfl) ?_
  intro p e s m below meth c C hP ls hl
  obtain ⟨hx, hb, hr, hml, hown, hts, hlocks, hK, hnm⟩ := C
  have hP : va_P D vwCl [((xa 0), .inr (9, [.ref (xa 1), .ref (xa 2), .ref (xa 3), .ref (xa 4), .ref (xa 5), .ref (xa 6), .ref (xa 7), .ref (xa 8), .ref (xa 9), .int 0, .ref (xa 11), .null, .int 0, .int (-1)])), ((xa 11), .inr (2, [.int 0, .int 0, .int 0, .int 0, .int 0, .int 0, .int 0, .int 0, .int 1, .int 10, .int 0, .int 0, .int 0, .int 0, .ref (xa 20), .ref (xa 21), .ref (xa 22), .ref (xa 23), .ref (xa 24), .ref (xa 25), .ref (xa 26)]))] s.heap := hP
  have hl : lv_has ls 9 [(0, .ref (xa 0)), (1, .int n0), (2, .int n1), (3, .int n2), (4, .int n3), (5, .int n4)] := hl
  refine lv_aload_n hx hb dX9_pays_0 rfl (lv_at hl 0 rfl) ?_
  refine va_get (D := D) (ci := 9) (v := .ref (xa 11)) (C := RX9) (T := TX9) (N := 14) hx hb hts lay_X9 hown hK.1 hP 0 rfl rfl 10 (by decide) (hts _ fl_X9_67) (fun _ h9 => h9) rfl dX9_pays_1 ?_
  refine lv_iload hx hb dX9_pays_4 (lv_at hl 5 rfl) ?_
  refine pu_calli (runV (As := [.int n4]) (rest := []) ⟨hx, hb, hml, hown, hts⟩ (f_hasThing l D cy xa n4 ) sV_X9_242 hK (va_recv hK.1 hP (ci := 2) (q0 := 1) rfl rfl) (hP.sub (ws' := [((xa 11), .inr (2, [.int 0, .int 0, .int 0, .int 0, .int 0, .int 0, .int 0, .int 0, .int 1, .int 10, .int 0, .int 0, .int 0, .int 0, .ref (xa 20), .ref (xa 21), .ref (xa 22), .ref (xa 23), .ref (xa 24), .ref (xa 25), .ref (xa 26)]))]) [1] rfl) ⟨Nat.le_of_ble_eq_true rfl, Nat.le_of_ble_eq_true rfl⟩ rfl hl.1 rfl (Nat.le_of_ble_eq_true rfl) dX9_pays_6 ⟨Nat.le_of_ble_eq_true rfl, Nat.le_of_ble_eq_true rfl⟩) (fun r_1 hr_1 => ?_)
  have er_1 := hr_1
  subst er_1
  refine W.eq (g2 := F0 m 9 ls [.int 0]) rfl ?_
  refine lv_if_ne (tgt := 16) hx hb dX9_pays_9 (by decide) (fun c_2 => absurd c_2 (by decide)) (fun _ => ?_)
  refine lv_ldc2 (v := (-2)) hx hb hown (hts _ kl_X9_106) dX9_pays_12 ?_
  exact ret_l hx hb hr hlocks ⟨rfl, _, rfl, rfl⟩ (fun _ h => absurd h List.not_mem_nil) (Nat.le_refl _) (Nat.le_refl _) dX9_pays_15
set_option maxHeartbeats 4000000 in
set_option maxRecDepth 100000 in
theorem f_X9_burnt (l : Launch) (D : va_G) (cy : Nat → ClassId) (xa : Nat → Nat) (n0 : Int32) (n1 : Int32) (n2 : Int32) (n3 : Int32) : MM l yX9_burnt cX9_burnt 5 (some .long) 2 0 0 D cy [.ref (xa 0), .int n0, .int n1, .int n2, .int n3] (fun H => va_P D vwCl [((xa 0), .inr (9, [.ref (xa 1), .ref (xa 2), .ref (xa 3), .ref (xa 4), .ref (xa 5), .ref (xa 6), .ref (xa 7), .ref (xa 8), .ref (xa 9), .int 0, .ref (xa 11), .null, .int 0, .int (-1)])), ((xa 11), .inr (2, [.int 0, .int 0, .int 0, .int 0, .int 0, .int 0, .int 0, .int 0, .int 1, .int 10, .int 0, .int 0, .int 0, .int 0, .ref (xa 20), .ref (xa 21), .ref (xa 22), .ref (xa 23), .ref (xa 24), .ref (xa 25), .ref (xa 26)]))] H) (PuL (fun r => r = (-2))) noF := by
  refine MM.of (by decide) (Nat.le_of_ble_eq_true rfl) ?_
  intro p e s m below meth c C hP ls hl
  obtain ⟨hx, hb, hr, hml, hown, hts, hlocks, hK, hnm⟩ := C
  have hP : va_P D vwCl [((xa 0), .inr (9, [.ref (xa 1), .ref (xa 2), .ref (xa 3), .ref (xa 4), .ref (xa 5), .ref (xa 6), .ref (xa 7), .ref (xa 8), .ref (xa 9), .int 0, .ref (xa 11), .null, .int 0, .int (-1)])), ((xa 11), .inr (2, [.int 0, .int 0, .int 0, .int 0, .int 0, .int 0, .int 0, .int 0, .int 1, .int 10, .int 0, .int 0, .int 0, .int 0, .ref (xa 20), .ref (xa 21), .ref (xa 22), .ref (xa 23), .ref (xa 24), .ref (xa 25), .ref (xa 26)]))] s.heap := hP
  have hl : lv_has ls 5 [(0, .ref (xa 0)), (1, .int n0), (2, .int n1), (3, .int n2), (4, .int n3)] := hl
  refine lv_aload_n hx hb dX9_burnt_0 rfl (lv_at hl 0 rfl) ?_
  refine va_get (D := D) (ci := 9) (v := .ref (xa 11)) (C := RX9) (T := TX9) (N := 14) hx hb hts lay_X9 hown hK.1 hP 0 rfl rfl 10 (by decide) (hts _ fl_X9_67) (fun _ h9 => h9) rfl dX9_burnt_1 ?_
  refine lv_iload_n hx hb dX9_burnt_4 rfl (lv_at hl 1 rfl) ?_
  refine lv_iload_n hx hb dX9_burnt_5 rfl (lv_at hl 2 rfl) ?_
  refine pu_calli (runV (As := [.int n0, .int n1]) (rest := []) ⟨hx, hb, hml, hown, hts⟩ (f_hasStore l D cy xa n0 n1 ) sV_X9_160 hK (va_recv hK.1 hP (ci := 2) (q0 := 1) rfl rfl) (hP.sub (ws' := [((xa 11), .inr (2, [.int 0, .int 0, .int 0, .int 0, .int 0, .int 0, .int 0, .int 0, .int 1, .int 10, .int 0, .int 0, .int 0, .int 0, .ref (xa 20), .ref (xa 21), .ref (xa 22), .ref (xa 23), .ref (xa 24), .ref (xa 25), .ref (xa 26)]))]) [1] rfl) ⟨Nat.le_of_ble_eq_true rfl, Nat.le_of_ble_eq_true rfl⟩ rfl hl.1 rfl (Nat.le_of_ble_eq_true rfl) dX9_burnt_6 ⟨Nat.le_of_ble_eq_true rfl, Nat.le_of_ble_eq_true rfl⟩) (fun r_1 hr_1 => ?_)
  have er_1 := hr_1
  subst er_1
  refine W.eq (g2 := F0 m 9 ls [.int 0]) rfl ?_
  refine lv_if_eq (tgt := 27) hx hb dX9_burnt_9 (by decide) (fun _ => ?_) (fun c_2 => absurd (by decide) c_2)
  refine lv_ldc2 (v := (-2)) hx hb hown (hts _ kl_X9_106) dX9_burnt_27 ?_
  exact ret_l hx hb hr hlocks ⟨rfl, _, rfl, rfl⟩ (fun _ h => absurd h List.not_mem_nil) (Nat.le_refl _) (Nat.le_refl _) dX9_burnt_30
set_option maxHeartbeats 4000000 in
set_option maxRecDepth 100000 in
theorem f_X9_spread (l : Launch) (D : va_G) (cy : Nat → ClassId) (xa : Nat → Nat) (n0 : Int32) (n1 : Int32) (n2 : Int32) (n3 : Int32) : MM l yX9_spread cX9_spread 5 (some .long) 2 0 0 D cy [.ref (xa 0), .int n0, .int n1, .int n2, .int n3] (fun H => va_P D vwCl [((xa 0), .inr (9, [.ref (xa 1), .ref (xa 2), .ref (xa 3), .ref (xa 4), .ref (xa 5), .ref (xa 6), .ref (xa 7), .ref (xa 8), .ref (xa 9), .int 0, .ref (xa 11), .null, .int 0, .int (-1)])), ((xa 11), .inr (2, [.int 0, .int 0, .int 0, .int 0, .int 0, .int 0, .int 0, .int 0, .int 1, .int 10, .int 0, .int 0, .int 0, .int 0, .ref (xa 20), .ref (xa 21), .ref (xa 22), .ref (xa 23), .ref (xa 24), .ref (xa 25), .ref (xa 26)]))] H) (PuL (fun r => r = (-2))) noF := by
  refine MM.of (by decide) (Nat.le_of_ble_eq_true rfl) ?_
  intro p e s m below meth c C hP ls hl
  obtain ⟨hx, hb, hr, hml, hown, hts, hlocks, hK, hnm⟩ := C
  have hP : va_P D vwCl [((xa 0), .inr (9, [.ref (xa 1), .ref (xa 2), .ref (xa 3), .ref (xa 4), .ref (xa 5), .ref (xa 6), .ref (xa 7), .ref (xa 8), .ref (xa 9), .int 0, .ref (xa 11), .null, .int 0, .int (-1)])), ((xa 11), .inr (2, [.int 0, .int 0, .int 0, .int 0, .int 0, .int 0, .int 0, .int 0, .int 1, .int 10, .int 0, .int 0, .int 0, .int 0, .ref (xa 20), .ref (xa 21), .ref (xa 22), .ref (xa 23), .ref (xa 24), .ref (xa 25), .ref (xa 26)]))] s.heap := hP
  have hl : lv_has ls 5 [(0, .ref (xa 0)), (1, .int n0), (2, .int n1), (3, .int n2), (4, .int n3)] := hl
  refine lv_aload_n hx hb dX9_spread_0 rfl (lv_at hl 0 rfl) ?_
  refine va_get (D := D) (ci := 9) (v := .ref (xa 11)) (C := RX9) (T := TX9) (N := 14) hx hb hts lay_X9 hown hK.1 hP 0 rfl rfl 10 (by decide) (hts _ fl_X9_67) (fun _ h9 => h9) rfl dX9_spread_1 ?_
  refine lv_iload_n hx hb dX9_spread_4 rfl (lv_at hl 1 rfl) ?_
  refine lv_iload_n hx hb dX9_spread_5 rfl (lv_at hl 2 rfl) ?_
  refine pu_calli (runV (As := [.int n0, .int n1]) (rest := []) ⟨hx, hb, hml, hown, hts⟩ (f_hasStore l D cy xa n0 n1 ) sV_X9_160 hK (va_recv hK.1 hP (ci := 2) (q0 := 1) rfl rfl) (hP.sub (ws' := [((xa 11), .inr (2, [.int 0, .int 0, .int 0, .int 0, .int 0, .int 0, .int 0, .int 0, .int 1, .int 10, .int 0, .int 0, .int 0, .int 0, .ref (xa 20), .ref (xa 21), .ref (xa 22), .ref (xa 23), .ref (xa 24), .ref (xa 25), .ref (xa 26)]))]) [1] rfl) ⟨Nat.le_of_ble_eq_true rfl, Nat.le_of_ble_eq_true rfl⟩ rfl hl.1 rfl (Nat.le_of_ble_eq_true rfl) dX9_spread_6 ⟨Nat.le_of_ble_eq_true rfl, Nat.le_of_ble_eq_true rfl⟩) (fun r_1 hr_1 => ?_)
  have er_1 := hr_1
  subst er_1
  refine W.eq (g2 := F0 m 9 ls [.int 0]) rfl ?_
  refine lv_if_eq (tgt := 27) hx hb dX9_spread_9 (by decide) (fun _ => ?_) (fun c_2 => absurd (by decide) c_2)
  refine lv_ldc2 (v := (-2)) hx hb hown (hts _ kl_X9_106) dX9_spread_27 ?_
  exact ret_l hx hb hr hlocks ⟨rfl, _, rfl, rfl⟩ (fun _ h => absurd h List.not_mem_nil) (Nat.le_refl _) (Nat.le_refl _) dX9_spread_30
set_option maxHeartbeats 4000000 in
set_option maxRecDepth 100000 in
theorem f_X9_bear (l : Launch) (D : va_G) (cy : Nat → ClassId) (xa : Nat → Nat) (n0 : Int32) (n1 : Int32) (n2 : Int32) : MM l yX9_bear cX9_bear 10 (some .int) 2 0 0 D cy [.ref (xa 0), .int n0, .int n1, .int n2] (fun H => va_P D vwCl [((xa 0), .inr (9, [.ref (xa 1), .ref (xa 2), .ref (xa 3), .ref (xa 4), .ref (xa 5), .ref (xa 6), .ref (xa 7), .ref (xa 8), .ref (xa 9), .int 0, .ref (xa 11), .null, .int 0, .int (-1)])), ((xa 11), .inr (2, [.int 0, .int 0, .int 0, .int 0, .int 0, .int 0, .int 0, .int 0, .int 1, .int 10, .int 0, .int 0, .int 0, .int 0, .ref (xa 20), .ref (xa 21), .ref (xa 22), .ref (xa 23), .ref (xa 24), .ref (xa 25), .ref (xa 26)]))] H) (PuI (fun r => r = (-2))) noF := by
  refine MM.of (by decide) (Nat.le_of_ble_eq_true rfl) ?_
  intro p e s m below meth c C hP ls hl
  obtain ⟨hx, hb, hr, hml, hown, hts, hlocks, hK, hnm⟩ := C
  have hP : va_P D vwCl [((xa 0), .inr (9, [.ref (xa 1), .ref (xa 2), .ref (xa 3), .ref (xa 4), .ref (xa 5), .ref (xa 6), .ref (xa 7), .ref (xa 8), .ref (xa 9), .int 0, .ref (xa 11), .null, .int 0, .int (-1)])), ((xa 11), .inr (2, [.int 0, .int 0, .int 0, .int 0, .int 0, .int 0, .int 0, .int 0, .int 1, .int 10, .int 0, .int 0, .int 0, .int 0, .ref (xa 20), .ref (xa 21), .ref (xa 22), .ref (xa 23), .ref (xa 24), .ref (xa 25), .ref (xa 26)]))] s.heap := hP
  have hl : lv_has ls 10 [(0, .ref (xa 0)), (1, .int n0), (2, .int n1), (3, .int n2)] := hl
  refine lv_aload_n hx hb dX9_bear_0 rfl (lv_at hl 0 rfl) ?_
  refine va_get (D := D) (ci := 9) (v := .ref (xa 11)) (C := RX9) (T := TX9) (N := 14) hx hb hts lay_X9 hown hK.1 hP 0 rfl rfl 10 (by decide) (hts _ fl_X9_67) (fun _ h9 => h9) rfl dX9_bear_1 ?_
  refine lv_iload_n hx hb dX9_bear_4 rfl (lv_at hl 1 rfl) ?_
  refine lv_iload_n hx hb dX9_bear_5 rfl (lv_at hl 2 rfl) ?_
  refine pu_calli (runV (As := [.int n0, .int n1]) (rest := []) ⟨hx, hb, hml, hown, hts⟩ (f_hasStore l D cy xa n0 n1 ) sV_X9_160 hK (va_recv hK.1 hP (ci := 2) (q0 := 1) rfl rfl) (hP.sub (ws' := [((xa 11), .inr (2, [.int 0, .int 0, .int 0, .int 0, .int 0, .int 0, .int 0, .int 0, .int 1, .int 10, .int 0, .int 0, .int 0, .int 0, .ref (xa 20), .ref (xa 21), .ref (xa 22), .ref (xa 23), .ref (xa 24), .ref (xa 25), .ref (xa 26)]))]) [1] rfl) ⟨Nat.le_of_ble_eq_true rfl, Nat.le_of_ble_eq_true rfl⟩ rfl hl.1 rfl (Nat.le_of_ble_eq_true rfl) dX9_bear_6 ⟨Nat.le_of_ble_eq_true rfl, Nat.le_of_ble_eq_true rfl⟩) (fun r_1 hr_1 => ?_)
  have er_1 := hr_1
  subst er_1
  refine W.eq (g2 := F0 m 9 ls [.int 0]) rfl ?_
  refine lv_if_eq (tgt := 19) hx hb dX9_bear_9 (by decide) (fun _ => ?_) (fun c_2 => absurd (by decide) c_2)
  refine lv_bipush (v := (-2)) hx hb dX9_bear_19 (by decide) ?_
  exact ret_i hx hb hr hlocks ⟨rfl, _, rfl, rfl⟩ (fun _ h => absurd h List.not_mem_nil) (Nat.le_refl _) (Nat.le_refl _) dX9_bear_21
set_option maxHeartbeats 4000000 in
set_option maxRecDepth 100000 in
theorem f_X9_run (l : Launch) (D : va_G) (cy : Nat → ClassId) (xa : Nat → Nat) (n0 : Int32) : MM l yX9_run cX9_run 3 (some .int) 1 0 0 D cy [.ref (xa 0), .int n0] (fun H => va_P D vwCl [((xa 0), .inr (9, [.ref (xa 1), .ref (xa 2), .ref (xa 3), .ref (xa 4), .ref (xa 5), .ref (xa 6), .ref (xa 7), .ref (xa 8), .ref (xa 9), .int 0, .ref (xa 11), .null, .int 0, .int (-1)])), ((xa 11), .inr (2, [.int 0, .int 0, .int 0, .int 0, .int 0, .int 0, .int 0, .int 0, .int 1, .int 10, .int 0, .int 0, .int 0, .int 0, .ref (xa 20), .ref (xa 21), .ref (xa 22), .ref (xa 23), .ref (xa 24), .ref (xa 25), .ref (xa 26)]))] H) (PuI (fun r => r = (-2))) noF := by
  refine MM.of (by decide) (Nat.le_of_ble_eq_true rfl) ?_
  intro p e s m below meth c C hP ls hl
  obtain ⟨hx, hb, hr, hml, hown, hts, hlocks, hK, hnm⟩ := C
  have hP : va_P D vwCl [((xa 0), .inr (9, [.ref (xa 1), .ref (xa 2), .ref (xa 3), .ref (xa 4), .ref (xa 5), .ref (xa 6), .ref (xa 7), .ref (xa 8), .ref (xa 9), .int 0, .ref (xa 11), .null, .int 0, .int (-1)])), ((xa 11), .inr (2, [.int 0, .int 0, .int 0, .int 0, .int 0, .int 0, .int 0, .int 0, .int 1, .int 10, .int 0, .int 0, .int 0, .int 0, .ref (xa 20), .ref (xa 21), .ref (xa 22), .ref (xa 23), .ref (xa 24), .ref (xa 25), .ref (xa 26)]))] s.heap := hP
  have hl : lv_has ls 3 [(0, .ref (xa 0)), (1, .int n0)] := hl
  refine lv_iload_n hx hb dX9_run_0 rfl (lv_at hl 1 rfl) ?_
  refine pu_calli (runS (As := [.int n0]) (rest := []) ⟨hx, hb, hml, hown, hts⟩ (f_isSeed l D cy n0 ) sS_X9_301 hK (hP.sub (ws' := []) [] rfl) ⟨Nat.le_of_ble_eq_true rfl, Nat.le_of_ble_eq_true rfl⟩ rfl hl.1 rfl (Nat.le_of_ble_eq_true rfl) dX9_run_1 ⟨Nat.le_of_ble_eq_true rfl, Nat.le_of_ble_eq_true rfl⟩) (fun r_1 hr_1 => ?_)
  rcases hr_1 with hr_1_0 | hr_1_1
  · skip
    obtain ⟨er_1, hr_1_0_f0, hr_1_0_f1⟩ := hr_1_0
    have hr_1_0_f0 : 0 ≤ n0.toInt := hr_1_0_f0
    have hr_1_0_f1 : n0.toInt ≤ 2000000000 := hr_1_0_f1
    subst er_1
    refine W.eq (g2 := F0 m 4 ls [.int 1]) rfl ?_
    refine lv_if_eq (tgt := 17) hx hb dX9_run_4 (by decide) (fun c_2 => absurd c_2 (by decide)) (fun _ => ?_)
    refine lv_aload_n hx hb dX9_run_7 rfl (lv_at hl 0 rfl) ?_
    refine va_get (D := D) (ci := 9) (v := .ref (xa 11)) (C := RX9) (T := TX9) (N := 14) hx hb hts lay_X9 hown hK.1 hP 0 rfl rfl 10 (by decide) (hts _ fl_X9_67) (fun _ h9 => h9) rfl dX9_run_8 ?_
    refine va_get (D := D) (ci := 2) (v := .int 0) (C := RX2) (T := TX2) (N := 21) hx hb hts lay_X2 hown hK.1 hP 1 rfl rfl 1 (by decide) (hts _ fl_X9_155) (fun _ h9 => h9) rfl dX9_run_11 ?_
    refine lv_if_ne (tgt := 20) hx hb dX9_run_14 (by decide) (fun c_3 => absurd c_3 (by decide)) (fun _ => ?_)
    refine lv_bipush (v := (-2)) hx hb dX9_run_17 (by decide) ?_
    exact ret_i hx hb hr hlocks ⟨rfl, _, rfl, rfl⟩ (fun _ h => absurd h List.not_mem_nil) (Nat.le_refl _) (Nat.le_refl _) dX9_run_19
  · skip
    obtain ⟨er_1, hr_1_1_f0⟩ := hr_1_1
    have hr_1_1_f0 : (n0.toInt < 0 ∨ 2000000000 < n0.toInt) := hr_1_1_f0
    subst er_1
    refine W.eq (g2 := F0 m 4 ls [.int 0]) rfl ?_
    refine lv_if_eq (tgt := 17) hx hb dX9_run_4 (by decide) (fun _ => ?_) (fun c_4 => absurd (by decide) c_4)
    refine lv_bipush (v := (-2)) hx hb dX9_run_17 (by decide) ?_
    exact ret_i hx hb hr hlocks ⟨rfl, _, rfl, rfl⟩ (fun _ h => absurd h List.not_mem_nil) (Nat.le_refl _) (Nat.le_refl _) dX9_run_19
set_option maxHeartbeats 4000000 in
set_option maxRecDepth 100000 in
theorem f_X9_told (l : Launch) (D : va_G) (cy : Nat → ClassId) (xa : Nat → Nat) (n0 : Int32) : MM l yX9_told cX9_told 3 (some .int) 1 0 0 D cy [.ref (xa 0), .int n0] (fun H => va_P D vwCl [((xa 0), .inr (9, [.ref (xa 1), .ref (xa 2), .ref (xa 3), .ref (xa 4), .ref (xa 5), .ref (xa 6), .ref (xa 7), .ref (xa 8), .ref (xa 9), .int 0, .ref (xa 11), .null, .int 0, .int (-1)])), ((xa 11), .inr (2, [.int 0, .int 0, .int 0, .int 0, .int 0, .int 0, .int 0, .int 0, .int 1, .int 10, .int 0, .int 0, .int 0, .int 0, .ref (xa 20), .ref (xa 21), .ref (xa 22), .ref (xa 23), .ref (xa 24), .ref (xa 25), .ref (xa 26)]))] H) (PuI (fun r => r = (-2))) noF := by
  refine MM.of (by decide) (Nat.le_of_ble_eq_true rfl) ?_
  intro p e s m below meth c C hP ls hl
  obtain ⟨hx, hb, hr, hml, hown, hts, hlocks, hK, hnm⟩ := C
  have hP : va_P D vwCl [((xa 0), .inr (9, [.ref (xa 1), .ref (xa 2), .ref (xa 3), .ref (xa 4), .ref (xa 5), .ref (xa 6), .ref (xa 7), .ref (xa 8), .ref (xa 9), .int 0, .ref (xa 11), .null, .int 0, .int (-1)])), ((xa 11), .inr (2, [.int 0, .int 0, .int 0, .int 0, .int 0, .int 0, .int 0, .int 0, .int 1, .int 10, .int 0, .int 0, .int 0, .int 0, .ref (xa 20), .ref (xa 21), .ref (xa 22), .ref (xa 23), .ref (xa 24), .ref (xa 25), .ref (xa 26)]))] s.heap := hP
  have hl : lv_has ls 3 [(0, .ref (xa 0)), (1, .int n0)] := hl
  refine lv_iload_n hx hb dX9_told_0 rfl (lv_at hl 1 rfl) ?_
  refine pu_calli (runS (As := [.int n0]) (rest := []) ⟨hx, hb, hml, hown, hts⟩ (f_isSlot l D cy n0 ) sS_X9_312 hK (hP.sub (ws' := []) [] rfl) ⟨Nat.le_of_ble_eq_true rfl, Nat.le_of_ble_eq_true rfl⟩ rfl hl.1 rfl (Nat.le_of_ble_eq_true rfl) dX9_told_1 ⟨Nat.le_of_ble_eq_true rfl, Nat.le_of_ble_eq_true rfl⟩) (fun r_1 hr_1 => ?_)
  rcases hr_1 with hr_1_0 | hr_1_1
  · skip
    obtain ⟨er_1, hr_1_0_f0, hr_1_0_f1⟩ := hr_1_0
    have hr_1_0_f0 : 0 ≤ n0.toInt := hr_1_0_f0
    have hr_1_0_f1 : n0.toInt ≤ 3 := hr_1_0_f1
    subst er_1
    refine W.eq (g2 := F0 m 4 ls [.int 1]) rfl ?_
    refine lv_if_eq (tgt := 17) hx hb dX9_told_4 (by decide) (fun c_2 => absurd c_2 (by decide)) (fun _ => ?_)
    refine lv_aload_n hx hb dX9_told_7 rfl (lv_at hl 0 rfl) ?_
    refine va_get (D := D) (ci := 9) (v := .ref (xa 11)) (C := RX9) (T := TX9) (N := 14) hx hb hts lay_X9 hown hK.1 hP 0 rfl rfl 10 (by decide) (hts _ fl_X9_67) (fun _ h9 => h9) rfl dX9_told_8 ?_
    refine va_get (D := D) (ci := 2) (v := .int 0) (C := RX2) (T := TX2) (N := 21) hx hb hts lay_X2 hown hK.1 hP 1 rfl rfl 1 (by decide) (hts _ fl_X9_155) (fun _ h9 => h9) rfl dX9_told_11 ?_
    refine lv_if_ne (tgt := 20) hx hb dX9_told_14 (by decide) (fun c_3 => absurd c_3 (by decide)) (fun _ => ?_)
    refine lv_bipush (v := (-2)) hx hb dX9_told_17 (by decide) ?_
    exact ret_i hx hb hr hlocks ⟨rfl, _, rfl, rfl⟩ (fun _ h => absurd h List.not_mem_nil) (Nat.le_refl _) (Nat.le_refl _) dX9_told_19
  · skip
    obtain ⟨er_1, hr_1_1_f0⟩ := hr_1_1
    have hr_1_1_f0 : (n0.toInt < 0 ∨ 3 < n0.toInt) := hr_1_1_f0
    subst er_1
    refine W.eq (g2 := F0 m 4 ls [.int 0]) rfl ?_
    refine lv_if_eq (tgt := 17) hx hb dX9_told_4 (by decide) (fun _ => ?_) (fun c_4 => absurd (by decide) c_4)
    refine lv_bipush (v := (-2)) hx hb dX9_told_17 (by decide) ?_
    exact ret_i hx hb hr hlocks ⟨rfl, _, rfl, rfl⟩ (fun _ h => absurd h List.not_mem_nil) (Nat.le_refl _) (Nat.le_refl _) dX9_told_19
set_option maxHeartbeats 4000000 in
set_option maxRecDepth 100000 in
theorem f_X9_shut (l : Launch) (D : va_G) (cy : Nat → ClassId) (xa : Nat → Nat) (n0 : Int32) : MM l yX9_shut cX9_shut 2 (some .int) 1 0 0 D cy [.ref (xa 0), .int n0] (fun H => va_P D vwCl [((xa 0), .inr (9, [.ref (xa 1), .ref (xa 2), .ref (xa 3), .ref (xa 4), .ref (xa 5), .ref (xa 6), .ref (xa 7), .ref (xa 8), .ref (xa 9), .int 0, .ref (xa 11), .null, .int 0, .int (-1)])), ((xa 11), .inr (2, [.int 0, .int 0, .int 0, .int 0, .int 0, .int 0, .int 0, .int 0, .int 1, .int 10, .int 0, .int 0, .int 0, .int 0, .ref (xa 20), .ref (xa 21), .ref (xa 22), .ref (xa 23), .ref (xa 24), .ref (xa 25), .ref (xa 26)]))] H) (PuI (fun r => r = (-2))) noF := by
  refine MM.of (by decide) (Nat.le_of_ble_eq_true rfl) ?_
  intro p e s m below meth c C hP ls hl
  obtain ⟨hx, hb, hr, hml, hown, hts, hlocks, hK, hnm⟩ := C
  have hP : va_P D vwCl [((xa 0), .inr (9, [.ref (xa 1), .ref (xa 2), .ref (xa 3), .ref (xa 4), .ref (xa 5), .ref (xa 6), .ref (xa 7), .ref (xa 8), .ref (xa 9), .int 0, .ref (xa 11), .null, .int 0, .int (-1)])), ((xa 11), .inr (2, [.int 0, .int 0, .int 0, .int 0, .int 0, .int 0, .int 0, .int 0, .int 1, .int 10, .int 0, .int 0, .int 0, .int 0, .ref (xa 20), .ref (xa 21), .ref (xa 22), .ref (xa 23), .ref (xa 24), .ref (xa 25), .ref (xa 26)]))] s.heap := hP
  have hl : lv_has ls 2 [(0, .ref (xa 0)), (1, .int n0)] := hl
  refine lv_aload_n hx hb dX9_shut_0 rfl (lv_at hl 0 rfl) ?_
  refine va_get (D := D) (ci := 9) (v := .ref (xa 11)) (C := RX9) (T := TX9) (N := 14) hx hb hts lay_X9 hown hK.1 hP 0 rfl rfl 10 (by decide) (hts _ fl_X9_67) (fun _ h9 => h9) rfl dX9_shut_1 ?_
  refine lv_iload_n hx hb dX9_shut_4 rfl (lv_at hl 1 rfl) ?_
  refine pu_calli (runV (As := [.int n0]) (rest := []) ⟨hx, hb, hml, hown, hts⟩ (f_hasValley l D cy xa n0 ) sV_X9_99 hK (va_recv hK.1 hP (ci := 2) (q0 := 1) rfl rfl) (hP.sub (ws' := [((xa 11), .inr (2, [.int 0, .int 0, .int 0, .int 0, .int 0, .int 0, .int 0, .int 0, .int 1, .int 10, .int 0, .int 0, .int 0, .int 0, .ref (xa 20), .ref (xa 21), .ref (xa 22), .ref (xa 23), .ref (xa 24), .ref (xa 25), .ref (xa 26)]))]) [1] rfl) ⟨Nat.le_of_ble_eq_true rfl, Nat.le_of_ble_eq_true rfl⟩ rfl hl.1 rfl (Nat.le_of_ble_eq_true rfl) dX9_shut_5 ⟨Nat.le_of_ble_eq_true rfl, Nat.le_of_ble_eq_true rfl⟩) (fun r_1 hr_1 => ?_)
  have er_1 := hr_1
  subst er_1
  refine W.eq (g2 := F0 m 8 ls [.int 0]) rfl ?_
  refine lv_if_ne (tgt := 14) hx hb dX9_shut_8 (by decide) (fun c_2 => absurd c_2 (by decide)) (fun _ => ?_)
  refine lv_bipush (v := (-2)) hx hb dX9_shut_11 (by decide) ?_
  exact ret_i hx hb hr hlocks ⟨rfl, _, rfl, rfl⟩ (fun _ h => absurd h List.not_mem_nil) (Nat.le_refl _) (Nat.le_refl _) dX9_shut_13
set_option maxHeartbeats 4000000 in
set_option maxRecDepth 100000 in
theorem f_X9_lacks (l : Launch) (D : va_G) (cy : Nat → ClassId) (xa : Nat → Nat) (n0 : Int32) (n1 : Int32) (n2 : Int32) (n3 : Int32) : MM l yX9_lacks cX9_lacks 7 (some .int) 2 0 0 D cy [.ref (xa 0), .int n0, .int n1, .int n2, .int n3] (fun H => va_P D vwCl [((xa 0), .inr (9, [.ref (xa 1), .ref (xa 2), .ref (xa 3), .ref (xa 4), .ref (xa 5), .ref (xa 6), .ref (xa 7), .ref (xa 8), .ref (xa 9), .int 0, .ref (xa 11), .null, .int 0, .int (-1)])), ((xa 11), .inr (2, [.int 0, .int 0, .int 0, .int 0, .int 0, .int 0, .int 0, .int 0, .int 1, .int 10, .int 0, .int 0, .int 0, .int 0, .ref (xa 20), .ref (xa 21), .ref (xa 22), .ref (xa 23), .ref (xa 24), .ref (xa 25), .ref (xa 26)]))] H) (PuI (fun r => r = (-2))) noF := by
  refine MM.of (by decide) (Nat.le_of_ble_eq_true rfl) ?_
  intro p e s m below meth c C hP ls hl
  obtain ⟨hx, hb, hr, hml, hown, hts, hlocks, hK, hnm⟩ := C
  have hP : va_P D vwCl [((xa 0), .inr (9, [.ref (xa 1), .ref (xa 2), .ref (xa 3), .ref (xa 4), .ref (xa 5), .ref (xa 6), .ref (xa 7), .ref (xa 8), .ref (xa 9), .int 0, .ref (xa 11), .null, .int 0, .int (-1)])), ((xa 11), .inr (2, [.int 0, .int 0, .int 0, .int 0, .int 0, .int 0, .int 0, .int 0, .int 1, .int 10, .int 0, .int 0, .int 0, .int 0, .ref (xa 20), .ref (xa 21), .ref (xa 22), .ref (xa 23), .ref (xa 24), .ref (xa 25), .ref (xa 26)]))] s.heap := hP
  have hl : lv_has ls 7 [(0, .ref (xa 0)), (1, .int n0), (2, .int n1), (3, .int n2), (4, .int n3)] := hl
  refine lv_aload_n hx hb dX9_lacks_0 rfl (lv_at hl 0 rfl) ?_
  refine va_get (D := D) (ci := 9) (v := .ref (xa 11)) (C := RX9) (T := TX9) (N := 14) hx hb hts lay_X9 hown hK.1 hP 0 rfl rfl 10 (by decide) (hts _ fl_X9_67) (fun _ h9 => h9) rfl dX9_lacks_1 ?_
  refine lv_iload_n hx hb dX9_lacks_4 rfl (lv_at hl 1 rfl) ?_
  refine lv_iload_n hx hb dX9_lacks_5 rfl (lv_at hl 2 rfl) ?_
  refine pu_calli (runV (As := [.int n0, .int n1]) (rest := []) ⟨hx, hb, hml, hown, hts⟩ (f_hasStore l D cy xa n0 n1 ) sV_X9_160 hK (va_recv hK.1 hP (ci := 2) (q0 := 1) rfl rfl) (hP.sub (ws' := [((xa 11), .inr (2, [.int 0, .int 0, .int 0, .int 0, .int 0, .int 0, .int 0, .int 0, .int 1, .int 10, .int 0, .int 0, .int 0, .int 0, .ref (xa 20), .ref (xa 21), .ref (xa 22), .ref (xa 23), .ref (xa 24), .ref (xa 25), .ref (xa 26)]))]) [1] rfl) ⟨Nat.le_of_ble_eq_true rfl, Nat.le_of_ble_eq_true rfl⟩ rfl hl.1 rfl (Nat.le_of_ble_eq_true rfl) dX9_lacks_6 ⟨Nat.le_of_ble_eq_true rfl, Nat.le_of_ble_eq_true rfl⟩) (fun r_1 hr_1 => ?_)
  have er_1 := hr_1
  subst er_1
  refine W.eq (g2 := F0 m 9 ls [.int 0]) rfl ?_
  refine lv_if_eq (tgt := 30) hx hb dX9_lacks_9 (by decide) (fun _ => ?_) (fun c_2 => absurd (by decide) c_2)
  refine lv_bipush (v := (-2)) hx hb dX9_lacks_30 (by decide) ?_
  exact ret_i hx hb hr hlocks ⟨rfl, _, rfl, rfl⟩ (fun _ h => absurd h List.not_mem_nil) (Nat.le_refl _) (Nat.le_refl _) dX9_lacks_32
set_option maxHeartbeats 4000000 in
set_option maxRecDepth 100000 in
theorem f_X9_judge (l : Launch) (D : va_G) (cy : Nat → ClassId) (xa : Nat → Nat) (n0 : Int32) (n1 : Int32) : MM l yX9_judge cX9_judge 4 (some .int) 1 0 0 D cy [.ref (xa 0), .int n0, .int n1] (fun H => va_P D vwCl [((xa 0), .inr (9, [.ref (xa 1), .ref (xa 2), .ref (xa 3), .ref (xa 4), .ref (xa 5), .ref (xa 6), .ref (xa 7), .ref (xa 8), .ref (xa 9), .int 0, .ref (xa 11), .null, .int 0, .int (-1)])), ((xa 11), .inr (2, [.int 0, .int 0, .int 0, .int 0, .int 0, .int 0, .int 0, .int 0, .int 1, .int 10, .int 0, .int 0, .int 0, .int 0, .ref (xa 20), .ref (xa 21), .ref (xa 22), .ref (xa 23), .ref (xa 24), .ref (xa 25), .ref (xa 26)]))] H) (PuI (fun r => r = (-2))) noF := by
  refine MM.of (by decide) (Nat.le_of_ble_eq_true rfl) ?_
  intro p e s m below meth c C hP ls hl
  obtain ⟨hx, hb, hr, hml, hown, hts, hlocks, hK, hnm⟩ := C
  have hP : va_P D vwCl [((xa 0), .inr (9, [.ref (xa 1), .ref (xa 2), .ref (xa 3), .ref (xa 4), .ref (xa 5), .ref (xa 6), .ref (xa 7), .ref (xa 8), .ref (xa 9), .int 0, .ref (xa 11), .null, .int 0, .int (-1)])), ((xa 11), .inr (2, [.int 0, .int 0, .int 0, .int 0, .int 0, .int 0, .int 0, .int 0, .int 1, .int 10, .int 0, .int 0, .int 0, .int 0, .ref (xa 20), .ref (xa 21), .ref (xa 22), .ref (xa 23), .ref (xa 24), .ref (xa 25), .ref (xa 26)]))] s.heap := hP
  have hl : lv_has ls 4 [(0, .ref (xa 0)), (1, .int n0), (2, .int n1)] := hl
  refine lv_iload_n hx hb dX9_judge_0 rfl (lv_at hl 1 rfl) ?_
  refine pu_calli (runS (As := [.int n0]) (rest := []) ⟨hx, hb, hml, hown, hts⟩ (f_isSlot l D cy n0 ) sS_X9_312 hK (hP.sub (ws' := []) [] rfl) ⟨Nat.le_of_ble_eq_true rfl, Nat.le_of_ble_eq_true rfl⟩ rfl hl.1 rfl (Nat.le_of_ble_eq_true rfl) dX9_judge_1 ⟨Nat.le_of_ble_eq_true rfl, Nat.le_of_ble_eq_true rfl⟩) (fun r_1 hr_1 => ?_)
  rcases hr_1 with hr_1_0 | hr_1_1
  · skip
    obtain ⟨er_1, hr_1_0_f0, hr_1_0_f1⟩ := hr_1_0
    have hr_1_0_f0 : 0 ≤ n0.toInt := hr_1_0_f0
    have hr_1_0_f1 : n0.toInt ≤ 3 := hr_1_0_f1
    subst er_1
    refine W.eq (g2 := F0 m 4 ls [.int 1]) rfl ?_
    refine lv_if_eq (tgt := 18) hx hb dX9_judge_4 (by decide) (fun c_2 => absurd c_2 (by decide)) (fun _ => ?_)
    refine lv_aload_n hx hb dX9_judge_7 rfl (lv_at hl 0 rfl) ?_
    refine va_get (D := D) (ci := 9) (v := .ref (xa 11)) (C := RX9) (T := TX9) (N := 14) hx hb hts lay_X9 hown hK.1 hP 0 rfl rfl 10 (by decide) (hts _ fl_X9_67) (fun _ h9 => h9) rfl dX9_judge_8 ?_
    refine lv_iload_n hx hb dX9_judge_11 rfl (lv_at hl 2 rfl) ?_
    refine pu_calli (runV (As := [.int n1]) (rest := []) ⟨hx, hb, hml, hown, hts⟩ (f_hasValley l D cy xa n1 ) sV_X9_99 hK (va_recv hK.1 hP (ci := 2) (q0 := 1) rfl rfl) (hP.sub (ws' := [((xa 11), .inr (2, [.int 0, .int 0, .int 0, .int 0, .int 0, .int 0, .int 0, .int 0, .int 1, .int 10, .int 0, .int 0, .int 0, .int 0, .ref (xa 20), .ref (xa 21), .ref (xa 22), .ref (xa 23), .ref (xa 24), .ref (xa 25), .ref (xa 26)]))]) [1] rfl) ⟨Nat.le_of_ble_eq_true rfl, Nat.le_of_ble_eq_true rfl⟩ rfl hl.1 rfl (Nat.le_of_ble_eq_true rfl) dX9_judge_12 ⟨Nat.le_of_ble_eq_true rfl, Nat.le_of_ble_eq_true rfl⟩) (fun r_3 hr_3 => ?_)
    have er_3 := hr_3
    subst er_3
    refine W.eq (g2 := F0 m 15 ls [.int 0]) rfl ?_
    refine lv_if_ne (tgt := 21) hx hb dX9_judge_15 (by decide) (fun c_4 => absurd c_4 (by decide)) (fun _ => ?_)
    refine lv_bipush (v := (-2)) hx hb dX9_judge_18 (by decide) ?_
    exact ret_i hx hb hr hlocks ⟨rfl, _, rfl, rfl⟩ (fun _ h => absurd h List.not_mem_nil) (Nat.le_refl _) (Nat.le_refl _) dX9_judge_20
  · skip
    obtain ⟨er_1, hr_1_1_f0⟩ := hr_1_1
    have hr_1_1_f0 : (n0.toInt < 0 ∨ 3 < n0.toInt) := hr_1_1_f0
    subst er_1
    refine W.eq (g2 := F0 m 4 ls [.int 0]) rfl ?_
    refine lv_if_eq (tgt := 18) hx hb dX9_judge_4 (by decide) (fun _ => ?_) (fun c_5 => absurd (by decide) c_5)
    refine lv_bipush (v := (-2)) hx hb dX9_judge_18 (by decide) ?_
    exact ret_i hx hb hr hlocks ⟨rfl, _, rfl, rfl⟩ (fun _ h => absurd h List.not_mem_nil) (Nat.le_refl _) (Nat.le_refl _) dX9_judge_20
set_option maxHeartbeats 4000000 in
set_option maxRecDepth 100000 in
theorem f_X9_paid (l : Launch) (D : va_G) (cy : Nat → ClassId) (xa : Nat → Nat) (n0 : Int32) (n1 : Int32) (n2 : Int32) : MM l yX9_paid cX9_paid 15 (some .long) 2 0 0 D cy [.ref (xa 0), .int n0, .int n1, .int n2] (fun H => va_P D vwCl [((xa 0), .inr (9, [.ref (xa 1), .ref (xa 2), .ref (xa 3), .ref (xa 4), .ref (xa 5), .ref (xa 6), .ref (xa 7), .ref (xa 8), .ref (xa 9), .int 0, .ref (xa 11), .null, .int 0, .int (-1)])), ((xa 11), .inr (2, [.int 0, .int 0, .int 0, .int 0, .int 0, .int 0, .int 0, .int 0, .int 1, .int 10, .int 0, .int 0, .int 0, .int 0, .ref (xa 20), .ref (xa 21), .ref (xa 22), .ref (xa 23), .ref (xa 24), .ref (xa 25), .ref (xa 26)]))] H) (PuL (fun r => r = (-1000000000000))) noF := by
  refine MM.of (by decide) (Nat.le_of_ble_eq_true rfl) ?_
  intro p e s m below meth c C hP ls hl
  obtain ⟨hx, hb, hr, hml, hown, hts, hlocks, hK, hnm⟩ := C
  have hP : va_P D vwCl [((xa 0), .inr (9, [.ref (xa 1), .ref (xa 2), .ref (xa 3), .ref (xa 4), .ref (xa 5), .ref (xa 6), .ref (xa 7), .ref (xa 8), .ref (xa 9), .int 0, .ref (xa 11), .null, .int 0, .int (-1)])), ((xa 11), .inr (2, [.int 0, .int 0, .int 0, .int 0, .int 0, .int 0, .int 0, .int 0, .int 1, .int 10, .int 0, .int 0, .int 0, .int 0, .ref (xa 20), .ref (xa 21), .ref (xa 22), .ref (xa 23), .ref (xa 24), .ref (xa 25), .ref (xa 26)]))] s.heap := hP
  have hl : lv_has ls 15 [(0, .ref (xa 0)), (1, .int n0), (2, .int n1), (3, .int n2)] := hl
  refine lv_iload_n hx hb dX9_paid_0 rfl (lv_at hl 1 rfl) ?_
  refine pu_calli (runS (As := [.int n0]) (rest := []) ⟨hx, hb, hml, hown, hts⟩ (f_isSlot l D cy n0 ) sS_X9_312 hK (hP.sub (ws' := []) [] rfl) ⟨Nat.le_of_ble_eq_true rfl, Nat.le_of_ble_eq_true rfl⟩ rfl hl.1 rfl (Nat.le_of_ble_eq_true rfl) dX9_paid_1 ⟨Nat.le_of_ble_eq_true rfl, Nat.le_of_ble_eq_true rfl⟩) (fun r_1 hr_1 => ?_)
  rcases hr_1 with hr_1_0 | hr_1_1
  · skip
    obtain ⟨er_1, hr_1_0_f0, hr_1_0_f1⟩ := hr_1_0
    have hr_1_0_f0 : 0 ≤ n0.toInt := hr_1_0_f0
    have hr_1_0_f1 : n0.toInt ≤ 3 := hr_1_0_f1
    subst er_1
    refine W.eq (g2 := F0 m 4 ls [.int 1]) rfl ?_
    refine lv_if_eq (tgt := 26) hx hb dX9_paid_4 (by decide) (fun c_2 => absurd c_2 (by decide)) (fun _ => ?_)
    refine lv_aload_n hx hb dX9_paid_7 rfl (lv_at hl 0 rfl) ?_
    refine va_get (D := D) (ci := 9) (v := .ref (xa 11)) (C := RX9) (T := TX9) (N := 14) hx hb hts lay_X9 hown hK.1 hP 0 rfl rfl 10 (by decide) (hts _ fl_X9_67) (fun _ h9 => h9) rfl dX9_paid_8 ?_
    refine lv_iload_n hx hb dX9_paid_11 rfl (lv_at hl 2 rfl) ?_
    refine lv_iload_n hx hb dX9_paid_12 rfl (lv_at hl 3 rfl) ?_
    refine pu_calli (runV (As := [.int n1, .int n2]) (rest := []) ⟨hx, hb, hml, hown, hts⟩ (f_hasStore l D cy xa n1 n2 ) sV_X9_160 hK (va_recv hK.1 hP (ci := 2) (q0 := 1) rfl rfl) (hP.sub (ws' := [((xa 11), .inr (2, [.int 0, .int 0, .int 0, .int 0, .int 0, .int 0, .int 0, .int 0, .int 1, .int 10, .int 0, .int 0, .int 0, .int 0, .ref (xa 20), .ref (xa 21), .ref (xa 22), .ref (xa 23), .ref (xa 24), .ref (xa 25), .ref (xa 26)]))]) [1] rfl) ⟨Nat.le_of_ble_eq_true rfl, Nat.le_of_ble_eq_true rfl⟩ rfl hl.1 rfl (Nat.le_of_ble_eq_true rfl) dX9_paid_13 ⟨Nat.le_of_ble_eq_true rfl, Nat.le_of_ble_eq_true rfl⟩) (fun r_3 hr_3 => ?_)
    have er_3 := hr_3
    subst er_3
    refine W.eq (g2 := F0 m 16 ls [.int 0]) rfl ?_
    refine lv_if_eq (tgt := 26) hx hb dX9_paid_16 (by decide) (fun _ => ?_) (fun c_4 => absurd (by decide) c_4)
    refine lv_ldc2 (v := (-1000000000000)) hx hb hown (hts _ kl_X9_176) dX9_paid_26 ?_
    exact ret_l hx hb hr hlocks ⟨rfl, _, rfl, rfl⟩ (fun _ h => absurd h List.not_mem_nil) (Nat.le_refl _) (Nat.le_refl _) dX9_paid_29
  · skip
    obtain ⟨er_1, hr_1_1_f0⟩ := hr_1_1
    have hr_1_1_f0 : (n0.toInt < 0 ∨ 3 < n0.toInt) := hr_1_1_f0
    subst er_1
    refine W.eq (g2 := F0 m 4 ls [.int 0]) rfl ?_
    refine lv_if_eq (tgt := 26) hx hb dX9_paid_4 (by decide) (fun _ => ?_) (fun c_5 => absurd (by decide) c_5)
    refine lv_ldc2 (v := (-1000000000000)) hx hb hown (hts _ kl_X9_176) dX9_paid_26 ?_
    exact ret_l hx hb hr hlocks ⟨rfl, _, rfl, rfl⟩ (fun _ h => absurd h List.not_mem_nil) (Nat.le_refl _) (Nat.le_refl _) dX9_paid_29
set_option maxHeartbeats 4000000 in
set_option maxRecDepth 100000 in
theorem f_X9_years (l : Launch) (D : va_G) (cy : Nat → ClassId) (xa : Nat → Nat) (n0 : Int32) (n1 : Int32) (n2 : Int32) (n3 : Int32) (n4 : Int32) (n5 : Int32) : MM l yX9_years cX9_years 11 (some .int) 2 0 0 D cy [.ref (xa 0), .int n0, .int n1, .int n2, .int n3, .int n4, .int n5] (fun H => va_P D vwCl [((xa 0), .inr (9, [.ref (xa 1), .ref (xa 2), .ref (xa 3), .ref (xa 4), .ref (xa 5), .ref (xa 6), .ref (xa 7), .ref (xa 8), .ref (xa 9), .int 0, .ref (xa 11), .null, .int 0, .int (-1)])), ((xa 11), .inr (2, [.int 0, .int 0, .int 0, .int 0, .int 0, .int 0, .int 0, .int 0, .int 1, .int 10, .int 0, .int 0, .int 0, .int 0, .ref (xa 20), .ref (xa 21), .ref (xa 22), .ref (xa 23), .ref (xa 24), .ref (xa 25), .ref (xa 26)]))] H) (PuI (fun r => r = (-2))) noF := by
  refine MM.of (by decide) (Nat.le_of_ble_eq_true rfl) ?_
  intro p e s m below meth c C hP ls hl
  obtain ⟨hx, hb, hr, hml, hown, hts, hlocks, hK, hnm⟩ := C
  have hP : va_P D vwCl [((xa 0), .inr (9, [.ref (xa 1), .ref (xa 2), .ref (xa 3), .ref (xa 4), .ref (xa 5), .ref (xa 6), .ref (xa 7), .ref (xa 8), .ref (xa 9), .int 0, .ref (xa 11), .null, .int 0, .int (-1)])), ((xa 11), .inr (2, [.int 0, .int 0, .int 0, .int 0, .int 0, .int 0, .int 0, .int 0, .int 1, .int 10, .int 0, .int 0, .int 0, .int 0, .ref (xa 20), .ref (xa 21), .ref (xa 22), .ref (xa 23), .ref (xa 24), .ref (xa 25), .ref (xa 26)]))] s.heap := hP
  have hl : lv_has ls 11 [(0, .ref (xa 0)), (1, .int n0), (2, .int n1), (3, .int n2), (4, .int n3), (5, .int n4), (6, .int n5)] := hl
  refine lv_iload_n hx hb dX9_years_0 rfl (lv_at hl 1 rfl) ?_
  refine pu_calli (runS (As := [.int n0]) (rest := []) ⟨hx, hb, hml, hown, hts⟩ (f_isSeed l D cy n0 ) sS_X9_301 hK (hP.sub (ws' := []) [] rfl) ⟨Nat.le_of_ble_eq_true rfl, Nat.le_of_ble_eq_true rfl⟩ rfl hl.1 rfl (Nat.le_of_ble_eq_true rfl) dX9_years_1 ⟨Nat.le_of_ble_eq_true rfl, Nat.le_of_ble_eq_true rfl⟩) (fun r_1 hr_1 => ?_)
  rcases hr_1 with hr_1_0 | hr_1_1
  · skip
    obtain ⟨er_1, hr_1_0_f0, hr_1_0_f1⟩ := hr_1_0
    have hr_1_0_f0 : 0 ≤ n0.toInt := hr_1_0_f0
    have hr_1_0_f1 : n0.toInt ≤ 2000000000 := hr_1_0_f1
    subst er_1
    refine W.eq (g2 := F0 m 4 ls [.int 1]) rfl ?_
    refine lv_if_eq (tgt := 29) hx hb dX9_years_4 (by decide) (fun c_2 => absurd c_2 (by decide)) (fun _ => ?_)
    refine lv_iload_n hx hb dX9_years_7 rfl (lv_at hl 2 rfl) ?_
    refine lv_iconst (v := 1) hx hb dX9_years_8 (by decide) ?_
    refine lv_icmp_lt (tgt := 29) hx hb dX9_years_9 (by decide) (fun c_3 => ?_) (fun c_3 => ?_)
    · skip
      have tc_3 : n1.toInt < 1 := (fa_lt _ _).mp c_3
      refine lv_bipush (v := (-2)) hx hb dX9_years_29 (by decide) ?_
      exact ret_i hx hb hr hlocks ⟨rfl, _, rfl, rfl⟩ (fun _ h => absurd h List.not_mem_nil) (Nat.le_refl _) (Nat.le_refl _) dX9_years_31
    · skip
      have tc_3 : ¬ n1.toInt < 1 := fun h => c_3 ((fa_lt _ _).mpr h)
      refine lv_iload_n hx hb dX9_years_12 rfl (lv_at hl 2 rfl) ?_
      refine lv_bipush (v := 100) hx hb dX9_years_13 (by decide) ?_
      refine lv_icmp_gt (tgt := 29) hx hb dX9_years_15 (by decide) (fun c_4 => ?_) (fun c_4 => ?_)
      · skip
        have tc_4 : 100 < n1.toInt := (fa_lt _ _).mp c_4
        refine lv_bipush (v := (-2)) hx hb dX9_years_29 (by decide) ?_
        exact ret_i hx hb hr hlocks ⟨rfl, _, rfl, rfl⟩ (fun _ h => absurd h List.not_mem_nil) (Nat.le_refl _) (Nat.le_refl _) dX9_years_31
      · skip
        have tc_4 : ¬ 100 < n1.toInt := fun h => c_4 ((fa_lt _ _).mpr h)
        refine lv_iload hx hb dX9_years_18 (lv_at hl 6 rfl) ?_
        refine lv_if_lt (tgt := 29) hx hb dX9_years_20 (by decide) (fun c_5 => ?_) (fun c_5 => ?_)
        · skip
          have tc_5 : n5.toInt < 0 := (fa_lt _ _).mp c_5
          refine lv_bipush (v := (-2)) hx hb dX9_years_29 (by decide) ?_
          exact ret_i hx hb hr hlocks ⟨rfl, _, rfl, rfl⟩ (fun _ h => absurd h List.not_mem_nil) (Nat.le_refl _) (Nat.le_refl _) dX9_years_31
        · skip
          have tc_5 : ¬ n5.toInt < 0 := fun h => c_5 ((fa_lt _ _).mpr h)
          refine lv_iload hx hb dX9_years_23 (lv_at hl 6 rfl) ?_
          refine lv_iconst (v := 3) hx hb dX9_years_25 (by decide) ?_
          refine lv_icmp_le (tgt := 32) hx hb dX9_years_26 (by decide) (fun c_6 => ?_) (fun c_6 => ?_)
          · skip
            have tc_6 : n5.toInt ≤ 3 := (fa_le _ _).mp c_6
            refine lv_aload_n hx hb dX9_years_32 rfl (lv_at hl 0 rfl) ?_
            refine va_get (D := D) (ci := 9) (v := .ref (xa 11)) (C := RX9) (T := TX9) (N := 14) hx hb hts lay_X9 hown hK.1 hP 0 rfl rfl 10 (by decide) (hts _ fl_X9_67) (fun _ h9 => h9) rfl dX9_years_33 ?_
            refine lv_iload_n hx hb dX9_years_36 rfl (lv_at hl 3 rfl) ?_
            refine lv_iload hx hb dX9_years_37 (lv_at hl 4 rfl) ?_
            refine pu_calli (runV (As := [.int n2, .int n3]) (rest := []) ⟨hx, hb, hml, hown, hts⟩ (f_hasStore l D cy xa n2 n3 ) sV_X9_160 hK (va_recv hK.1 hP (ci := 2) (q0 := 1) rfl rfl) (hP.sub (ws' := [((xa 11), .inr (2, [.int 0, .int 0, .int 0, .int 0, .int 0, .int 0, .int 0, .int 0, .int 1, .int 10, .int 0, .int 0, .int 0, .int 0, .ref (xa 20), .ref (xa 21), .ref (xa 22), .ref (xa 23), .ref (xa 24), .ref (xa 25), .ref (xa 26)]))]) [1] rfl) ⟨Nat.le_of_ble_eq_true rfl, Nat.le_of_ble_eq_true rfl⟩ rfl hl.1 rfl (Nat.le_of_ble_eq_true rfl) dX9_years_39 ⟨Nat.le_of_ble_eq_true rfl, Nat.le_of_ble_eq_true rfl⟩) (fun r_7 hr_7 => ?_)
            have er_7 := hr_7
            subst er_7
            refine W.eq (g2 := F0 m 42 ls [.int 0]) rfl ?_
            refine lv_if_eq (tgt := 53) hx hb dX9_years_42 (by decide) (fun _ => ?_) (fun c_8 => absurd (by decide) c_8)
            refine lv_bipush (v := (-2)) hx hb dX9_years_53 (by decide) ?_
            exact ret_i hx hb hr hlocks ⟨rfl, _, rfl, rfl⟩ (fun _ h => absurd h List.not_mem_nil) (Nat.le_refl _) (Nat.le_refl _) dX9_years_55
          · skip
            have tc_6 : ¬ n5.toInt ≤ 3 := fun h => c_6 ((fa_le _ _).mpr h)
            refine lv_bipush (v := (-2)) hx hb dX9_years_29 (by decide) ?_
            exact ret_i hx hb hr hlocks ⟨rfl, _, rfl, rfl⟩ (fun _ h => absurd h List.not_mem_nil) (Nat.le_refl _) (Nat.le_refl _) dX9_years_31
  · skip
    obtain ⟨er_1, hr_1_1_f0⟩ := hr_1_1
    have hr_1_1_f0 : (n0.toInt < 0 ∨ 2000000000 < n0.toInt) := hr_1_1_f0
    subst er_1
    refine W.eq (g2 := F0 m 4 ls [.int 0]) rfl ?_
    refine lv_if_eq (tgt := 29) hx hb dX9_years_4 (by decide) (fun _ => ?_) (fun c_9 => absurd (by decide) c_9)
    refine lv_bipush (v := (-2)) hx hb dX9_years_29 (by decide) ?_
    exact ret_i hx hb hr hlocks ⟨rfl, _, rfl, rfl⟩ (fun _ h => absurd h List.not_mem_nil) (Nat.le_refl _) (Nat.le_refl _) dX9_years_31
end
section
theorem dX10_in_0 : decode cX10_in 0 = .ok (.lload_n 0, 1) := by decide +kernel
theorem dX10_in_1 : decode cX10_in 1 = .ok (.lload_n 2, 1) := by decide +kernel
theorem dX10_in_2 : decode cX10_in 2 = .ok (.lcmp, 1) := by decide +kernel
theorem dX10_in_3 : decode cX10_in 3 = .ok (.ifCond .lt 14, 3) := by decide +kernel
theorem dX10_in_17 : decode cX10_in 17 = .ok (.iconst 0, 1) := by decide +kernel
theorem dX10_in_18 : decode cX10_in 18 = .ok (.ireturn, 1) := by decide +kernel
theorem dX10_in_6 : decode cX10_in 6 = .ok (.lload_n 0, 1) := by decide +kernel
theorem dX10_in_7 : decode cX10_in 7 = .ok (.lload 4, 2) := by decide +kernel
theorem dX10_in_9 : decode cX10_in 9 = .ok (.lcmp, 1) := by decide +kernel
theorem dX10_in_10 : decode cX10_in 10 = .ok (.ifCond .gt 7, 3) := by decide +kernel
theorem dX10_in_13 : decode cX10_in 13 = .ok (.iconst 1, 1) := by decide +kernel
theorem dX10_in_14 : decode cX10_in 14 = .ok (.goto 4, 3) := by decide +kernel
theorem dX10_isSlot_0 : decode cX10_isSlot 0 = .ok (.iload_n 0, 1) := by decide +kernel
theorem dX10_isSlot_1 : decode cX10_isSlot 1 = .ok (.i2l, 1) := by decide +kernel
theorem dX10_isSlot_2 : decode cX10_isSlot 2 = .ok (.lconst 0, 1) := by decide +kernel
theorem dX10_isSlot_3 : decode cX10_isSlot 3 = .ok (.ldc2_w 114, 3) := by decide +kernel
theorem dX10_isSlot_6 : decode cX10_isSlot 6 = .ok (.invokestatic 116, 3) := by decide +kernel
theorem dX10_isSlot_9 : decode cX10_isSlot 9 = .ok (.ireturn, 1) := by decide +kernel
theorem dX10_isSeed_0 : decode cX10_isSeed 0 = .ok (.iload_n 0, 1) := by decide +kernel
theorem dX10_isSeed_1 : decode cX10_isSeed 1 = .ok (.i2l, 1) := by decide +kernel
theorem dX10_isSeed_2 : decode cX10_isSeed 2 = .ok (.lconst 0, 1) := by decide +kernel
theorem dX10_isSeed_3 : decode cX10_isSeed 3 = .ok (.ldc2_w 490, 3) := by decide +kernel
theorem dX10_isSeed_6 : decode cX10_isSeed 6 = .ok (.invokestatic 116, 3) := by decide +kernel
theorem dX10_isSeed_9 : decode cX10_isSeed 9 = .ok (.ireturn, 1) := by decide +kernel
theorem dX10_lastDay_0 : decode cX10_lastDay 0 = .ok (.aload_n 0, 1) := by decide +kernel
theorem dX10_lastDay_1 : decode cX10_lastDay 1 = .ok (.getfield 34, 3) := by decide +kernel
theorem dX10_lastDay_4 : decode cX10_lastDay 4 = .ok (.iconst 0, 1) := by decide +kernel
theorem dX10_lastDay_5 : decode cX10_lastDay 5 = .ok (.iaload, 1) := by decide +kernel
theorem dX10_lastDay_6 : decode cX10_lastDay 6 = .ok (.ireturn, 1) := by decide +kernel
theorem dX10_isDay_0 : decode cX10_isDay 0 = .ok (.iload_n 1, 1) := by decide +kernel
theorem dX10_isDay_1 : decode cX10_isDay 1 = .ok (.i2l, 1) := by decide +kernel
theorem dX10_isDay_2 : decode cX10_isDay 2 = .ok (.lconst 1, 1) := by decide +kernel
theorem dX10_isDay_3 : decode cX10_isDay 3 = .ok (.aload_n 0, 1) := by decide +kernel
theorem dX10_isDay_4 : decode cX10_isDay 4 = .ok (.invokevirtual 278, 3) := by decide +kernel
theorem dX10_isDay_7 : decode cX10_isDay 7 = .ok (.i2l, 1) := by decide +kernel
theorem dX10_isDay_8 : decode cX10_isDay 8 = .ok (.invokestatic 116, 3) := by decide +kernel
theorem dX10_isDay_11 : decode cX10_isDay 11 = .ok (.ireturn, 1) := by decide +kernel
theorem dX10_isValley_0 : decode cX10_isValley 0 = .ok (.iload_n 1, 1) := by decide +kernel
theorem dX10_isValley_1 : decode cX10_isValley 1 = .ok (.i2l, 1) := by decide +kernel
theorem dX10_isValley_2 : decode cX10_isValley 2 = .ok (.lconst 0, 1) := by decide +kernel
theorem dX10_isValley_3 : decode cX10_isValley 3 = .ok (.aload_n 0, 1) := by decide +kernel
theorem dX10_isValley_4 : decode cX10_isValley 4 = .ok (.getfield 43, 3) := by decide +kernel
theorem dX10_isValley_7 : decode cX10_isValley 7 = .ok (.iconst 0, 1) := by decide +kernel
theorem dX10_isValley_8 : decode cX10_isValley 8 = .ok (.iaload, 1) := by decide +kernel
theorem dX10_isValley_9 : decode cX10_isValley 9 = .ok (.iconst 1, 1) := by decide +kernel
theorem dX10_isValley_10 : decode cX10_isValley 10 = .ok (.isub, 1) := by decide +kernel
theorem dX10_isValley_11 : decode cX10_isValley 11 = .ok (.i2l, 1) := by decide +kernel
theorem dX10_isValley_12 : decode cX10_isValley 12 = .ok (.invokestatic 116, 3) := by decide +kernel
theorem dX10_isValley_15 : decode cX10_isValley 15 = .ok (.ireturn, 1) := by decide +kernel
theorem dX10_isThing_0 : decode cX10_isThing 0 = .ok (.iload_n 1, 1) := by decide +kernel
theorem dX10_isThing_1 : decode cX10_isThing 1 = .ok (.i2l, 1) := by decide +kernel
theorem dX10_isThing_2 : decode cX10_isThing 2 = .ok (.lconst 0, 1) := by decide +kernel
theorem dX10_isThing_3 : decode cX10_isThing 3 = .ok (.aload_n 0, 1) := by decide +kernel
theorem dX10_isThing_4 : decode cX10_isThing 4 = .ok (.getfield 37, 3) := by decide +kernel
theorem dX10_isThing_7 : decode cX10_isThing 7 = .ok (.iconst 0, 1) := by decide +kernel
theorem dX10_isThing_8 : decode cX10_isThing 8 = .ok (.iaload, 1) := by decide +kernel
theorem dX10_isThing_9 : decode cX10_isThing 9 = .ok (.iconst 1, 1) := by decide +kernel
theorem dX10_isThing_10 : decode cX10_isThing 10 = .ok (.isub, 1) := by decide +kernel
theorem dX10_isThing_11 : decode cX10_isThing 11 = .ok (.i2l, 1) := by decide +kernel
theorem dX10_isThing_12 : decode cX10_isThing 12 = .ok (.invokestatic 116, 3) := by decide +kernel
theorem dX10_isThing_15 : decode cX10_isThing 15 = .ok (.ireturn, 1) := by decide +kernel
theorem dX10_areTwo_0 : decode cX10_areTwo 0 = .ok (.aload_n 0, 1) := by decide +kernel
theorem dX10_areTwo_1 : decode cX10_areTwo 1 = .ok (.iload_n 1, 1) := by decide +kernel
theorem dX10_areTwo_2 : decode cX10_areTwo 2 = .ok (.invokevirtual 297, 3) := by decide +kernel
theorem dX10_areTwo_5 : decode cX10_areTwo 5 = .ok (.ifCond .eq 20, 3) := by decide +kernel
theorem dX10_areTwo_25 : decode cX10_areTwo 25 = .ok (.iconst 0, 1) := by decide +kernel
theorem dX10_areTwo_26 : decode cX10_areTwo 26 = .ok (.ireturn, 1) := by decide +kernel
theorem dX10_isStore_0 : decode cX10_isStore 0 = .ok (.aload_n 0, 1) := by decide +kernel
theorem dX10_isStore_1 : decode cX10_isStore 1 = .ok (.iload_n 1, 1) := by decide +kernel
theorem dX10_isStore_2 : decode cX10_isStore 2 = .ok (.invokevirtual 297, 3) := by decide +kernel
theorem dX10_isStore_5 : decode cX10_isStore 5 = .ok (.ifCond .eq 23, 3) := by decide +kernel
theorem dX10_isStore_28 : decode cX10_isStore 28 = .ok (.iconst 0, 1) := by decide +kernel
theorem dX10_isStore_29 : decode cX10_isStore 29 = .ok (.ireturn, 1) := by decide +kernel
theorem dX10_whyNot_0 : decode cX10_whyNot 0 = .ok (.iload_n 1, 1) := by decide +kernel
theorem dX10_whyNot_1 : decode cX10_whyNot 1 = .ok (.invokestatic 120, 3) := by decide +kernel
theorem dX10_whyNot_4 : decode cX10_whyNot 4 = .ok (.ifCond .eq 34, 3) := by decide +kernel
theorem dX10_whyNot_7 : decode cX10_whyNot 7 = .ok (.iload_n 2, 1) := by decide +kernel
theorem dX10_whyNot_8 : decode cX10_whyNot 8 = .ok (.i2l, 1) := by decide +kernel
theorem dX10_whyNot_9 : decode cX10_whyNot 9 = .ok (.lconst 0, 1) := by decide +kernel
theorem dX10_whyNot_10 : decode cX10_whyNot 10 = .ok (.lconst 1, 1) := by decide +kernel
theorem dX10_whyNot_11 : decode cX10_whyNot 11 = .ok (.invokestatic 116, 3) := by decide +kernel
theorem dX10_whyNot_14 : decode cX10_whyNot 14 = .ok (.ifCond .eq 24, 3) := by decide +kernel
theorem dX10_whyNot_17 : decode cX10_whyNot 17 = .ok (.iload_n 3, 1) := by decide +kernel
theorem dX10_whyNot_18 : decode cX10_whyNot 18 = .ok (.i2l, 1) := by decide +kernel
theorem dX10_whyNot_19 : decode cX10_whyNot 19 = .ok (.lconst 0, 1) := by decide +kernel
theorem dX10_whyNot_20 : decode cX10_whyNot 20 = .ok (.ldc2_w 446, 3) := by decide +kernel
theorem dX10_whyNot_23 : decode cX10_whyNot 23 = .ok (.invokestatic 116, 3) := by decide +kernel
theorem dX10_whyNot_26 : decode cX10_whyNot 26 = .ok (.ifCond .eq 12, 3) := by decide +kernel
theorem dX10_whyNot_29 : decode cX10_whyNot 29 = .ok (.aload_n 0, 1) := by decide +kernel
theorem dX10_whyNot_30 : decode cX10_whyNot 30 = .ok (.iload 4, 2) := by decide +kernel
theorem dX10_whyNot_32 : decode cX10_whyNot 32 = .ok (.invokevirtual 297, 3) := by decide +kernel
theorem dX10_whyNot_35 : decode cX10_whyNot 35 = .ok (.ifCond .ne 6, 3) := by decide +kernel
theorem dX10_whyNot_38 : decode cX10_whyNot 38 = .ok (.bipush (-2), 2) := by decide +kernel
theorem dX10_whyNot_40 : decode cX10_whyNot 40 = .ok (.ireturn, 1) := by decide +kernel
theorem dX10_whyNotJudged_0 : decode cX10_whyNotJudged 0 = .ok (.iload_n 1, 1) := by decide +kernel
theorem dX10_whyNotJudged_1 : decode cX10_whyNotJudged 1 = .ok (.invokestatic 120, 3) := by decide +kernel
theorem dX10_whyNotJudged_4 : decode cX10_whyNotJudged 4 = .ok (.ifCond .eq 11, 3) := by decide +kernel
theorem dX10_whyNotJudged_7 : decode cX10_whyNotJudged 7 = .ok (.aload_n 0, 1) := by decide +kernel
theorem dX10_whyNotJudged_8 : decode cX10_whyNotJudged 8 = .ok (.iload_n 2, 1) := by decide +kernel
theorem dX10_whyNotJudged_9 : decode cX10_whyNotJudged 9 = .ok (.invokevirtual 297, 3) := by decide +kernel
theorem dX10_whyNotJudged_12 : decode cX10_whyNotJudged 12 = .ok (.ifCond .ne 6, 3) := by decide +kernel
theorem dX10_whyNotJudged_15 : decode cX10_whyNotJudged 15 = .ok (.bipush (-2), 2) := by decide +kernel
theorem dX10_whyNotJudged_17 : decode cX10_whyNotJudged 17 = .ok (.ireturn, 1) := by decide +kernel
theorem sS_X10_116 : SiteS RX10 116 yX10_in cX10_in 6 (some .boolean) 3 := ⟨ml_X10_116, st_X10_in, ini_X10, co_X10_in, by decide +kernel⟩
theorem sV_X10_278 : SiteV RX10 278 yX10_lastDay cX10_lastDay 1 (some .int) 0 := ⟨ml_X10_278, im_X10_lastDay, se_X10_lastDay, ini_X10, co_X10_lastDay, by decide +kernel⟩
theorem sV_X10_297 : SiteV RX10 297 yX10_isValley cX10_isValley 2 (some .boolean) 1 := ⟨ml_X10_297, im_X10_isValley, se_X10_isValley, ini_X10, co_X10_isValley, by decide +kernel⟩
theorem sS_X10_120 : SiteS RX10 120 yX10_isSlot cX10_isSlot 1 (some .boolean) 1 := ⟨ml_X10_120, st_X10_isSlot, ini_X10, co_X10_isSlot, by decide +kernel⟩
set_option maxHeartbeats 4000000 in
set_option maxRecDepth 100000 in
theorem m_in (l : Launch) (D : va_G) (cy : Nat → ClassId) (v : Int64) (lo : Int64) (hi : Int64) : MM l yX10_in cX10_in 6 (some .boolean) 0 0 0 D cy [.long v, .long lo, .long hi] (fun H => va_P D vwCl [] H) (PuI (fun r => (r = 1 ∧ lo.toInt ≤ v.toInt ∧ v.toInt ≤ hi.toInt) ∨ (r = 0 ∧ (v.toInt < lo.toInt ∨ hi.toInt < v.toInt)))) noF := by
  refine MM.of (by decide) (Nat.le_of_ble_eq_true rfl) ?_
  intro p e s m below meth c C hP ls hl
  obtain ⟨hx, hb, hr, hml, hown, hts, hlocks, hK, hnm⟩ := C
  have hP : va_P D vwCl [] s.heap := hP
  have hl : lv_has ls 6 [(0, .long v), (2, .long lo), (4, .long hi)] := hl
  refine lv_lload_n hx hb dX10_in_0 rfl (lv_at hl 0 rfl) ?_
  refine lv_lload_n hx hb dX10_in_1 rfl (lv_at hl 1 rfl) ?_
  refine W.lcmp hx hb dX10_in_2 ?_
  refine lv_topi (fun z_1 ez_1 => ?_)
  have tz_1 : (z_1.toInt < 0 ↔ v.toInt < lo.toInt) ∧ (0 < z_1.toInt ↔ lo.toInt < v.toInt) ∧ -1 ≤ z_1.toInt ∧ z_1.toInt ≤ 1 := cmp_t ez_1
  refine lv_if_lt (tgt := 17) hx hb dX10_in_3 (by decide) (fun c_2 => ?_) (fun c_2 => ?_)
  · skip
    have tc_2 : z_1.toInt < 0 := (fa_lt _ _).mp c_2
    refine lv_iconst (v := 0) hx hb dX10_in_17 (by decide) ?_
    exact ret_z (ty := .boolean) hx hb hr rfl hlocks ⟨rfl, _, rfl, (Or.inr ⟨rfl, (by omega)⟩)⟩ (fun _ h => absurd h List.not_mem_nil) (Nat.le_refl _) (Nat.le_refl _) dX10_in_18
  · skip
    have tc_2 : ¬ z_1.toInt < 0 := fun h => c_2 ((fa_lt _ _).mpr h)
    refine lv_lload_n hx hb dX10_in_6 rfl (lv_at hl 0 rfl) ?_
    refine lv_lload hx hb dX10_in_7 (lv_at hl 2 rfl) ?_
    refine W.lcmp hx hb dX10_in_9 ?_
    refine lv_topi (fun z_3 ez_3 => ?_)
    have tz_3 : (z_3.toInt < 0 ↔ v.toInt < hi.toInt) ∧ (0 < z_3.toInt ↔ hi.toInt < v.toInt) ∧ -1 ≤ z_3.toInt ∧ z_3.toInt ≤ 1 := cmp_t ez_3
    refine lv_if_gt (tgt := 17) hx hb dX10_in_10 (by decide) (fun c_4 => ?_) (fun c_4 => ?_)
    · skip
      have tc_4 : 0 < z_3.toInt := (fa_lt _ _).mp c_4
      refine lv_iconst (v := 0) hx hb dX10_in_17 (by decide) ?_
      exact ret_z (ty := .boolean) hx hb hr rfl hlocks ⟨rfl, _, rfl, (Or.inr ⟨rfl, (by omega)⟩)⟩ (fun _ h => absurd h List.not_mem_nil) (Nat.le_refl _) (Nat.le_refl _) dX10_in_18
    · skip
      have tc_4 : ¬ 0 < z_3.toInt := fun h => c_4 ((fa_lt _ _).mpr h)
      refine lv_iconst (v := 1) hx hb dX10_in_13 (by decide) ?_
      refine lv_goto (tgt := 18) hx hb dX10_in_14 (by decide) ?_
      exact ret_z (ty := .boolean) hx hb hr rfl hlocks ⟨rfl, _, rfl, (Or.inl ⟨rfl, (by omega), (by omega)⟩)⟩ (fun _ h => absurd h List.not_mem_nil) (Nat.le_refl _) (Nat.le_refl _) dX10_in_18
set_option maxHeartbeats 4000000 in
set_option maxRecDepth 100000 in
theorem m_isSlot (l : Launch) (D : va_G) (cy : Nat → ClassId) (v : Int32) : MM l yX10_isSlot cX10_isSlot 1 (some .boolean) 1 0 0 D cy [.int v] (fun H => va_P D vwCl [] H) (PuI (fun r => (r = 1 ∧ 0 ≤ v.toInt ∧ v.toInt ≤ 3) ∨ (r = 0 ∧ (v.toInt < 0 ∨ 3 < v.toInt)))) noF := by
  refine MM.of (by decide) (Nat.le_of_ble_eq_true rfl) ?_
  intro p e s m below meth c C hP ls hl
  obtain ⟨hx, hb, hr, hml, hown, hts, hlocks, hK, hnm⟩ := C
  have hP : va_P D vwCl [] s.heap := hP
  have hl : lv_has ls 1 [(0, .int v)] := hl
  refine lv_iload_n hx hb dX10_isSlot_0 rfl (lv_at hl 0 rfl) ?_
  refine lv_i2l hx hb dX10_isSlot_1 rfl ?_
  refine lv_topl (fun z_1 ez_1 => ?_)
  have tz_1 : z_1.toInt = v.toInt := by rw [ez_1]; exact wide_t v
  refine lv_lconst (v := 0) hx hb dX10_isSlot_2 (by decide) ?_
  refine lv_ldc2 (v := 3) hx hb hown (hts _ kl_X10_114) dX10_isSlot_3 ?_
  refine pu_calli (runS (As := [.long z_1, .long 0, .long 3]) (rest := []) ⟨hx, hb, hml, hown, hts⟩ (m_in l D cy z_1 0 3 ) sS_X10_116 hK (hP.sub (ws' := []) [] rfl) ⟨Nat.le_of_ble_eq_true rfl, Nat.le_of_ble_eq_true rfl⟩ rfl hl.1 rfl (Nat.le_of_ble_eq_true rfl) dX10_isSlot_6 ⟨Nat.le_of_ble_eq_true rfl, Nat.le_of_ble_eq_true rfl⟩) (fun r_2 hr_2 => ?_)
  rcases hr_2 with hr_2_0 | hr_2_1
  · skip
    obtain ⟨er_2, hr_2_0_f0, hr_2_0_f1⟩ := hr_2_0
    have hr_2_0_f0 : 0 ≤ z_1.toInt := hr_2_0_f0
    have hr_2_0_f1 : z_1.toInt ≤ 3 := hr_2_0_f1
    subst er_2
    refine W.eq (g2 := F0 m 9 ls [.int 1]) rfl ?_
    exact ret_z (ty := .boolean) hx hb hr rfl hlocks ⟨rfl, _, rfl, (Or.inl ⟨rfl, (by omega), (by omega)⟩)⟩ (fun _ h => absurd h List.not_mem_nil) (Nat.le_refl _) (Nat.le_refl _) dX10_isSlot_9
  · skip
    obtain ⟨er_2, hr_2_1_f0⟩ := hr_2_1
    have hr_2_1_f0 : (z_1.toInt < 0 ∨ 3 < z_1.toInt) := hr_2_1_f0
    subst er_2
    refine W.eq (g2 := F0 m 9 ls [.int 0]) rfl ?_
    exact ret_z (ty := .boolean) hx hb hr rfl hlocks ⟨rfl, _, rfl, (Or.inr ⟨rfl, (by omega)⟩)⟩ (fun _ h => absurd h List.not_mem_nil) (Nat.le_refl _) (Nat.le_refl _) dX10_isSlot_9
set_option maxHeartbeats 4000000 in
set_option maxRecDepth 100000 in
theorem m_isSeed (l : Launch) (D : va_G) (cy : Nat → ClassId) (v : Int32) : MM l yX10_isSeed cX10_isSeed 1 (some .boolean) 1 0 0 D cy [.int v] (fun H => va_P D vwCl [] H) (PuI (fun r => (r = 1 ∧ 0 ≤ v.toInt ∧ v.toInt ≤ 2000000000) ∨ (r = 0 ∧ (v.toInt < 0 ∨ 2000000000 < v.toInt)))) noF := by
  refine MM.of (by decide) (Nat.le_of_ble_eq_true rfl) ?_
  intro p e s m below meth c C hP ls hl
  obtain ⟨hx, hb, hr, hml, hown, hts, hlocks, hK, hnm⟩ := C
  have hP : va_P D vwCl [] s.heap := hP
  have hl : lv_has ls 1 [(0, .int v)] := hl
  refine lv_iload_n hx hb dX10_isSeed_0 rfl (lv_at hl 0 rfl) ?_
  refine lv_i2l hx hb dX10_isSeed_1 rfl ?_
  refine lv_topl (fun z_1 ez_1 => ?_)
  have tz_1 : z_1.toInt = v.toInt := by rw [ez_1]; exact wide_t v
  refine lv_lconst (v := 0) hx hb dX10_isSeed_2 (by decide) ?_
  refine lv_ldc2 (v := 2000000000) hx hb hown (hts _ kl_X10_490) dX10_isSeed_3 ?_
  refine pu_calli (runS (As := [.long z_1, .long 0, .long 2000000000]) (rest := []) ⟨hx, hb, hml, hown, hts⟩ (m_in l D cy z_1 0 2000000000 ) sS_X10_116 hK (hP.sub (ws' := []) [] rfl) ⟨Nat.le_of_ble_eq_true rfl, Nat.le_of_ble_eq_true rfl⟩ rfl hl.1 rfl (Nat.le_of_ble_eq_true rfl) dX10_isSeed_6 ⟨Nat.le_of_ble_eq_true rfl, Nat.le_of_ble_eq_true rfl⟩) (fun r_2 hr_2 => ?_)
  rcases hr_2 with hr_2_0 | hr_2_1
  · skip
    obtain ⟨er_2, hr_2_0_f0, hr_2_0_f1⟩ := hr_2_0
    have hr_2_0_f0 : 0 ≤ z_1.toInt := hr_2_0_f0
    have hr_2_0_f1 : z_1.toInt ≤ 2000000000 := hr_2_0_f1
    subst er_2
    refine W.eq (g2 := F0 m 9 ls [.int 1]) rfl ?_
    exact ret_z (ty := .boolean) hx hb hr rfl hlocks ⟨rfl, _, rfl, (Or.inl ⟨rfl, (by omega), (by omega)⟩)⟩ (fun _ h => absurd h List.not_mem_nil) (Nat.le_refl _) (Nat.le_refl _) dX10_isSeed_9
  · skip
    obtain ⟨er_2, hr_2_1_f0⟩ := hr_2_1
    have hr_2_1_f0 : (z_1.toInt < 0 ∨ 2000000000 < z_1.toInt) := hr_2_1_f0
    subst er_2
    refine W.eq (g2 := F0 m 9 ls [.int 0]) rfl ?_
    exact ret_z (ty := .boolean) hx hb hr rfl hlocks ⟨rfl, _, rfl, (Or.inr ⟨rfl, (by omega)⟩)⟩ (fun _ h => absurd h List.not_mem_nil) (Nat.le_refl _) (Nat.le_refl _) dX10_isSeed_9
set_option maxHeartbeats 4000000 in
set_option maxRecDepth 100000 in
theorem m_lastDay (l : Launch) (D : va_G) (cy : Nat → ClassId) (ma : Nat → Nat) : MM l yX10_lastDay cX10_lastDay 1 (some .int) 0 0 0 D cy [.ref (ma 0)] (fun H => va_P D vwCl [((ma 0), .inr (10, [.int 0, .ref (ma 1), .ref (ma 2), .ref (ma 3), .ref (ma 4), .ref (ma 5), .int 0, .int 0, .int 0, .int 0, .int 0, .long 0, .int 0, .int 0, .int 0, .int (-1), .ref (ma 16), .ref (ma 17), .ref (ma 18), .ref (ma 19), .ref (ma 20), .ref (ma 21), .ref (ma 22), .ref (ma 23), .ref (ma 24), .ref (ma 25), .ref (ma 26), .ref (ma 27), .ref (ma 28), .ref (ma 29), .ref (ma 30), .ref (ma 31), .ref (ma 32), .ref (ma 33), .ref (ma 34), .ref (ma 35), .ref (ma 36), .ref (ma 37), .ref (ma 38), .ref (ma 39), .ref (ma 40), .ref (ma 41), .long 0])), ((ma 17), .inl (cy 1, 20, .inl (fun _ => 0)))] H) (PuI (fun r => r = 0)) noF := by
  refine MM.of (by decide) (Nat.le_of_ble_eq_true rfl) ?_
  intro p e s m below meth c C hP ls hl
  obtain ⟨hx, hb, hr, hml, hown, hts, hlocks, hK, hnm⟩ := C
  have hP : va_P D vwCl [((ma 0), .inr (10, [.int 0, .ref (ma 1), .ref (ma 2), .ref (ma 3), .ref (ma 4), .ref (ma 5), .int 0, .int 0, .int 0, .int 0, .int 0, .long 0, .int 0, .int 0, .int 0, .int (-1), .ref (ma 16), .ref (ma 17), .ref (ma 18), .ref (ma 19), .ref (ma 20), .ref (ma 21), .ref (ma 22), .ref (ma 23), .ref (ma 24), .ref (ma 25), .ref (ma 26), .ref (ma 27), .ref (ma 28), .ref (ma 29), .ref (ma 30), .ref (ma 31), .ref (ma 32), .ref (ma 33), .ref (ma 34), .ref (ma 35), .ref (ma 36), .ref (ma 37), .ref (ma 38), .ref (ma 39), .ref (ma 40), .ref (ma 41), .long 0])), ((ma 17), .inl (cy 1, 20, .inl (fun _ => 0)))] s.heap := hP
  have hl : lv_has ls 1 [(0, .ref (ma 0))] := hl
  refine lv_aload_n hx hb dX10_lastDay_0 rfl (lv_at hl 0 rfl) ?_
  refine va_get (D := D) (ci := 10) (v := .ref (ma 17)) (C := RX10) (T := TX10) (N := 43) hx hb hts lay_X10 hown hK.1 hP 0 rfl rfl 17 (by decide) (hts _ fl_X10_34) (fun _ h9 => h9) rfl dX10_lastDay_1 ?_
  refine lv_iconst (v := 0) hx hb dX10_lastDay_4 (by decide) ?_
  refine va_iald hx hb hK.1 hP 1 1 rfl rfl (i := 0) (vp_in_iff.mpr (by decide)) dX10_lastDay_5 ?_
  refine W.eq (g2 := F0 m 6 ls [.int 0]) rfl ?_
  exact ret_i hx hb hr hlocks ⟨rfl, _, rfl, rfl⟩ (fun _ h => absurd h List.not_mem_nil) (Nat.le_refl _) (Nat.le_refl _) dX10_lastDay_6
set_option maxHeartbeats 4000000 in
set_option maxRecDepth 100000 in
theorem m_isDay (l : Launch) (D : va_G) (cy : Nat → ClassId) (ma : Nat → Nat) (v : Int32) : MM l yX10_isDay cX10_isDay 2 (some .boolean) 1 0 0 D cy [.ref (ma 0), .int v] (fun H => va_P D vwCl [((ma 0), .inr (10, [.int 0, .ref (ma 1), .ref (ma 2), .ref (ma 3), .ref (ma 4), .ref (ma 5), .int 0, .int 0, .int 0, .int 0, .int 0, .long 0, .int 0, .int 0, .int 0, .int (-1), .ref (ma 16), .ref (ma 17), .ref (ma 18), .ref (ma 19), .ref (ma 20), .ref (ma 21), .ref (ma 22), .ref (ma 23), .ref (ma 24), .ref (ma 25), .ref (ma 26), .ref (ma 27), .ref (ma 28), .ref (ma 29), .ref (ma 30), .ref (ma 31), .ref (ma 32), .ref (ma 33), .ref (ma 34), .ref (ma 35), .ref (ma 36), .ref (ma 37), .ref (ma 38), .ref (ma 39), .ref (ma 40), .ref (ma 41), .long 0])), ((ma 17), .inl (cy 1, 20, .inl (fun _ => 0)))] H) (PuI (fun r => r = 0)) noF := by
  refine MM.of (by decide) (Nat.le_of_ble_eq_true rfl) ?_
  intro p e s m below meth c C hP ls hl
  obtain ⟨hx, hb, hr, hml, hown, hts, hlocks, hK, hnm⟩ := C
  have hP : va_P D vwCl [((ma 0), .inr (10, [.int 0, .ref (ma 1), .ref (ma 2), .ref (ma 3), .ref (ma 4), .ref (ma 5), .int 0, .int 0, .int 0, .int 0, .int 0, .long 0, .int 0, .int 0, .int 0, .int (-1), .ref (ma 16), .ref (ma 17), .ref (ma 18), .ref (ma 19), .ref (ma 20), .ref (ma 21), .ref (ma 22), .ref (ma 23), .ref (ma 24), .ref (ma 25), .ref (ma 26), .ref (ma 27), .ref (ma 28), .ref (ma 29), .ref (ma 30), .ref (ma 31), .ref (ma 32), .ref (ma 33), .ref (ma 34), .ref (ma 35), .ref (ma 36), .ref (ma 37), .ref (ma 38), .ref (ma 39), .ref (ma 40), .ref (ma 41), .long 0])), ((ma 17), .inl (cy 1, 20, .inl (fun _ => 0)))] s.heap := hP
  have hl : lv_has ls 2 [(0, .ref (ma 0)), (1, .int v)] := hl
  refine lv_iload_n hx hb dX10_isDay_0 rfl (lv_at hl 1 rfl) ?_
  refine lv_i2l hx hb dX10_isDay_1 rfl ?_
  refine lv_topl (fun z_1 ez_1 => ?_)
  have tz_1 : z_1.toInt = v.toInt := by rw [ez_1]; exact wide_t v
  refine lv_lconst (v := 1) hx hb dX10_isDay_2 (by decide) ?_
  refine lv_aload_n hx hb dX10_isDay_3 rfl (lv_at hl 0 rfl) ?_
  refine pu_calli (runV (As := []) (rest := [.long 1, .long z_1]) ⟨hx, hb, hml, hown, hts⟩ (m_lastDay l D cy ma ) sV_X10_278 hK (va_recv hK.1 hP (ci := 10) (q0 := 0) rfl rfl) (hP.sub (ws' := [((ma 0), .inr (10, [.int 0, .ref (ma 1), .ref (ma 2), .ref (ma 3), .ref (ma 4), .ref (ma 5), .int 0, .int 0, .int 0, .int 0, .int 0, .long 0, .int 0, .int 0, .int 0, .int (-1), .ref (ma 16), .ref (ma 17), .ref (ma 18), .ref (ma 19), .ref (ma 20), .ref (ma 21), .ref (ma 22), .ref (ma 23), .ref (ma 24), .ref (ma 25), .ref (ma 26), .ref (ma 27), .ref (ma 28), .ref (ma 29), .ref (ma 30), .ref (ma 31), .ref (ma 32), .ref (ma 33), .ref (ma 34), .ref (ma 35), .ref (ma 36), .ref (ma 37), .ref (ma 38), .ref (ma 39), .ref (ma 40), .ref (ma 41), .long 0])), ((ma 17), .inl (cy 1, 20, .inl (fun _ => 0)))]) [0, 1] rfl) ⟨Nat.le_of_ble_eq_true rfl, Nat.le_of_ble_eq_true rfl⟩ rfl hl.1 rfl (Nat.le_of_ble_eq_true rfl) dX10_isDay_4 ⟨Nat.le_of_ble_eq_true rfl, Nat.le_of_ble_eq_true rfl⟩) (fun r_2 hr_2 => ?_)
  have er_2 := hr_2
  subst er_2
  refine W.eq (g2 := F0 m 7 ls [.int 0, .long 1, .long z_1]) rfl ?_
  refine lv_i2l hx hb dX10_isDay_7 rfl ?_
  refine lv_topl (fun z_3 ez_3 => ?_)
  have ez_3 : z_3 = 0 := ez_3.trans (by decide)
  subst ez_3
  refine pu_calli (runS (As := [.long z_1, .long 1, .long 0]) (rest := []) ⟨hx, hb, hml, hown, hts⟩ (m_in l D cy z_1 1 0 ) sS_X10_116 hK (hP.sub (ws' := []) [] rfl) ⟨Nat.le_of_ble_eq_true rfl, Nat.le_of_ble_eq_true rfl⟩ rfl hl.1 rfl (Nat.le_of_ble_eq_true rfl) dX10_isDay_8 ⟨Nat.le_of_ble_eq_true rfl, Nat.le_of_ble_eq_true rfl⟩) (fun r_4 hr_4 => ?_)
  rcases hr_4 with hr_4_0 | hr_4_1
  · skip
    obtain ⟨er_4, hr_4_0_f0, hr_4_0_f1⟩ := hr_4_0
    have hr_4_0_f0 : 1 ≤ z_1.toInt := hr_4_0_f0
    have hr_4_0_f1 : z_1.toInt ≤ 0 := hr_4_0_f1
    subst er_4
    exfalso; omega
  · skip
    obtain ⟨er_4, hr_4_1_f0⟩ := hr_4_1
    have hr_4_1_f0 : (z_1.toInt < 1 ∨ 0 < z_1.toInt) := hr_4_1_f0
    subst er_4
    refine W.eq (g2 := F0 m 11 ls [.int 0]) rfl ?_
    exact ret_z (ty := .boolean) hx hb hr rfl hlocks ⟨rfl, _, rfl, rfl⟩ (fun _ h => absurd h List.not_mem_nil) (Nat.le_refl _) (Nat.le_refl _) dX10_isDay_11
set_option maxHeartbeats 4000000 in
set_option maxRecDepth 100000 in
theorem m_isValley (l : Launch) (D : va_G) (cy : Nat → ClassId) (ma : Nat → Nat) (v : Int32) : MM l yX10_isValley cX10_isValley 2 (some .boolean) 1 0 0 D cy [.ref (ma 0), .int v] (fun H => va_P D vwCl [((ma 0), .inr (10, [.int 0, .ref (ma 1), .ref (ma 2), .ref (ma 3), .ref (ma 4), .ref (ma 5), .int 0, .int 0, .int 0, .int 0, .int 0, .long 0, .int 0, .int 0, .int 0, .int (-1), .ref (ma 16), .ref (ma 17), .ref (ma 18), .ref (ma 19), .ref (ma 20), .ref (ma 21), .ref (ma 22), .ref (ma 23), .ref (ma 24), .ref (ma 25), .ref (ma 26), .ref (ma 27), .ref (ma 28), .ref (ma 29), .ref (ma 30), .ref (ma 31), .ref (ma 32), .ref (ma 33), .ref (ma 34), .ref (ma 35), .ref (ma 36), .ref (ma 37), .ref (ma 38), .ref (ma 39), .ref (ma 40), .ref (ma 41), .long 0])), ((ma 20), .inl (cy 1, 5, .inl (fun _ => 0)))] H) (PuI (fun r => r = 0)) noF := by
  refine MM.of (by decide) (Nat.le_of_ble_eq_true rfl) ?_
  intro p e s m below meth c C hP ls hl
  obtain ⟨hx, hb, hr, hml, hown, hts, hlocks, hK, hnm⟩ := C
  have hP : va_P D vwCl [((ma 0), .inr (10, [.int 0, .ref (ma 1), .ref (ma 2), .ref (ma 3), .ref (ma 4), .ref (ma 5), .int 0, .int 0, .int 0, .int 0, .int 0, .long 0, .int 0, .int 0, .int 0, .int (-1), .ref (ma 16), .ref (ma 17), .ref (ma 18), .ref (ma 19), .ref (ma 20), .ref (ma 21), .ref (ma 22), .ref (ma 23), .ref (ma 24), .ref (ma 25), .ref (ma 26), .ref (ma 27), .ref (ma 28), .ref (ma 29), .ref (ma 30), .ref (ma 31), .ref (ma 32), .ref (ma 33), .ref (ma 34), .ref (ma 35), .ref (ma 36), .ref (ma 37), .ref (ma 38), .ref (ma 39), .ref (ma 40), .ref (ma 41), .long 0])), ((ma 20), .inl (cy 1, 5, .inl (fun _ => 0)))] s.heap := hP
  have hl : lv_has ls 2 [(0, .ref (ma 0)), (1, .int v)] := hl
  refine lv_iload_n hx hb dX10_isValley_0 rfl (lv_at hl 1 rfl) ?_
  refine lv_i2l hx hb dX10_isValley_1 rfl ?_
  refine lv_topl (fun z_1 ez_1 => ?_)
  have tz_1 : z_1.toInt = v.toInt := by rw [ez_1]; exact wide_t v
  refine lv_lconst (v := 0) hx hb dX10_isValley_2 (by decide) ?_
  refine lv_aload_n hx hb dX10_isValley_3 rfl (lv_at hl 0 rfl) ?_
  refine va_get (D := D) (ci := 10) (v := .ref (ma 20)) (C := RX10) (T := TX10) (N := 43) hx hb hts lay_X10 hown hK.1 hP 0 rfl rfl 20 (by decide) (hts _ fl_X10_43) (fun _ h9 => h9) rfl dX10_isValley_4 ?_
  refine lv_iconst (v := 0) hx hb dX10_isValley_7 (by decide) ?_
  refine va_iald hx hb hK.1 hP 1 1 rfl rfl (i := 0) (vp_in_iff.mpr (by decide)) dX10_isValley_8 ?_
  refine W.eq (g2 := F0 m 9 ls [.int 0, .long 0, .long z_1]) rfl ?_
  refine lv_iconst (v := 1) hx hb dX10_isValley_9 (by decide) ?_
  refine lv_isub hx hb dX10_isValley_10 ?_
  refine lv_topi (fun z_2 ez_2 => ?_)
  have ez_2 : z_2 = (-1) := ez_2.trans (by decide)
  subst ez_2
  refine lv_i2l hx hb dX10_isValley_11 rfl ?_
  refine lv_topl (fun z_3 ez_3 => ?_)
  have ez_3 : z_3 = (-1) := ez_3.trans (by decide)
  subst ez_3
  refine pu_calli (runS (As := [.long z_1, .long 0, .long (-1)]) (rest := []) ⟨hx, hb, hml, hown, hts⟩ (m_in l D cy z_1 0 (-1) ) sS_X10_116 hK (hP.sub (ws' := []) [] rfl) ⟨Nat.le_of_ble_eq_true rfl, Nat.le_of_ble_eq_true rfl⟩ rfl hl.1 rfl (Nat.le_of_ble_eq_true rfl) dX10_isValley_12 ⟨Nat.le_of_ble_eq_true rfl, Nat.le_of_ble_eq_true rfl⟩) (fun r_4 hr_4 => ?_)
  rcases hr_4 with hr_4_0 | hr_4_1
  · skip
    obtain ⟨er_4, hr_4_0_f0, hr_4_0_f1⟩ := hr_4_0
    have hr_4_0_f0 : 0 ≤ z_1.toInt := hr_4_0_f0
    have hr_4_0_f1 : z_1.toInt ≤ -1 := hr_4_0_f1
    subst er_4
    exfalso; omega
  · skip
    obtain ⟨er_4, hr_4_1_f0⟩ := hr_4_1
    have hr_4_1_f0 : (z_1.toInt < 0 ∨ -1 < z_1.toInt) := hr_4_1_f0
    subst er_4
    refine W.eq (g2 := F0 m 15 ls [.int 0]) rfl ?_
    exact ret_z (ty := .boolean) hx hb hr rfl hlocks ⟨rfl, _, rfl, rfl⟩ (fun _ h => absurd h List.not_mem_nil) (Nat.le_refl _) (Nat.le_refl _) dX10_isValley_15
set_option maxHeartbeats 4000000 in
set_option maxRecDepth 100000 in
theorem m_isThing (l : Launch) (D : va_G) (cy : Nat → ClassId) (ma : Nat → Nat) (v : Int32) : MM l yX10_isThing cX10_isThing 2 (some .boolean) 1 0 0 D cy [.ref (ma 0), .int v] (fun H => va_P D vwCl [((ma 0), .inr (10, [.int 0, .ref (ma 1), .ref (ma 2), .ref (ma 3), .ref (ma 4), .ref (ma 5), .int 0, .int 0, .int 0, .int 0, .int 0, .long 0, .int 0, .int 0, .int 0, .int (-1), .ref (ma 16), .ref (ma 17), .ref (ma 18), .ref (ma 19), .ref (ma 20), .ref (ma 21), .ref (ma 22), .ref (ma 23), .ref (ma 24), .ref (ma 25), .ref (ma 26), .ref (ma 27), .ref (ma 28), .ref (ma 29), .ref (ma 30), .ref (ma 31), .ref (ma 32), .ref (ma 33), .ref (ma 34), .ref (ma 35), .ref (ma 36), .ref (ma 37), .ref (ma 38), .ref (ma 39), .ref (ma 40), .ref (ma 41), .long 0])), ((ma 18), .inl (cy 1, 5, .inl (fun _ => 0)))] H) (PuI (fun r => r = 0)) noF := by
  refine MM.of (by decide) (Nat.le_of_ble_eq_true rfl) ?_
  intro p e s m below meth c C hP ls hl
  obtain ⟨hx, hb, hr, hml, hown, hts, hlocks, hK, hnm⟩ := C
  have hP : va_P D vwCl [((ma 0), .inr (10, [.int 0, .ref (ma 1), .ref (ma 2), .ref (ma 3), .ref (ma 4), .ref (ma 5), .int 0, .int 0, .int 0, .int 0, .int 0, .long 0, .int 0, .int 0, .int 0, .int (-1), .ref (ma 16), .ref (ma 17), .ref (ma 18), .ref (ma 19), .ref (ma 20), .ref (ma 21), .ref (ma 22), .ref (ma 23), .ref (ma 24), .ref (ma 25), .ref (ma 26), .ref (ma 27), .ref (ma 28), .ref (ma 29), .ref (ma 30), .ref (ma 31), .ref (ma 32), .ref (ma 33), .ref (ma 34), .ref (ma 35), .ref (ma 36), .ref (ma 37), .ref (ma 38), .ref (ma 39), .ref (ma 40), .ref (ma 41), .long 0])), ((ma 18), .inl (cy 1, 5, .inl (fun _ => 0)))] s.heap := hP
  have hl : lv_has ls 2 [(0, .ref (ma 0)), (1, .int v)] := hl
  refine lv_iload_n hx hb dX10_isThing_0 rfl (lv_at hl 1 rfl) ?_
  refine lv_i2l hx hb dX10_isThing_1 rfl ?_
  refine lv_topl (fun z_1 ez_1 => ?_)
  have tz_1 : z_1.toInt = v.toInt := by rw [ez_1]; exact wide_t v
  refine lv_lconst (v := 0) hx hb dX10_isThing_2 (by decide) ?_
  refine lv_aload_n hx hb dX10_isThing_3 rfl (lv_at hl 0 rfl) ?_
  refine va_get (D := D) (ci := 10) (v := .ref (ma 18)) (C := RX10) (T := TX10) (N := 43) hx hb hts lay_X10 hown hK.1 hP 0 rfl rfl 18 (by decide) (hts _ fl_X10_37) (fun _ h9 => h9) rfl dX10_isThing_4 ?_
  refine lv_iconst (v := 0) hx hb dX10_isThing_7 (by decide) ?_
  refine va_iald hx hb hK.1 hP 1 1 rfl rfl (i := 0) (vp_in_iff.mpr (by decide)) dX10_isThing_8 ?_
  refine W.eq (g2 := F0 m 9 ls [.int 0, .long 0, .long z_1]) rfl ?_
  refine lv_iconst (v := 1) hx hb dX10_isThing_9 (by decide) ?_
  refine lv_isub hx hb dX10_isThing_10 ?_
  refine lv_topi (fun z_2 ez_2 => ?_)
  have ez_2 : z_2 = (-1) := ez_2.trans (by decide)
  subst ez_2
  refine lv_i2l hx hb dX10_isThing_11 rfl ?_
  refine lv_topl (fun z_3 ez_3 => ?_)
  have ez_3 : z_3 = (-1) := ez_3.trans (by decide)
  subst ez_3
  refine pu_calli (runS (As := [.long z_1, .long 0, .long (-1)]) (rest := []) ⟨hx, hb, hml, hown, hts⟩ (m_in l D cy z_1 0 (-1) ) sS_X10_116 hK (hP.sub (ws' := []) [] rfl) ⟨Nat.le_of_ble_eq_true rfl, Nat.le_of_ble_eq_true rfl⟩ rfl hl.1 rfl (Nat.le_of_ble_eq_true rfl) dX10_isThing_12 ⟨Nat.le_of_ble_eq_true rfl, Nat.le_of_ble_eq_true rfl⟩) (fun r_4 hr_4 => ?_)
  rcases hr_4 with hr_4_0 | hr_4_1
  · skip
    obtain ⟨er_4, hr_4_0_f0, hr_4_0_f1⟩ := hr_4_0
    have hr_4_0_f0 : 0 ≤ z_1.toInt := hr_4_0_f0
    have hr_4_0_f1 : z_1.toInt ≤ -1 := hr_4_0_f1
    subst er_4
    exfalso; omega
  · skip
    obtain ⟨er_4, hr_4_1_f0⟩ := hr_4_1
    have hr_4_1_f0 : (z_1.toInt < 0 ∨ -1 < z_1.toInt) := hr_4_1_f0
    subst er_4
    refine W.eq (g2 := F0 m 15 ls [.int 0]) rfl ?_
    exact ret_z (ty := .boolean) hx hb hr rfl hlocks ⟨rfl, _, rfl, rfl⟩ (fun _ h => absurd h List.not_mem_nil) (Nat.le_refl _) (Nat.le_refl _) dX10_isThing_15
set_option maxHeartbeats 4000000 in
set_option maxRecDepth 100000 in
theorem m_areTwo (l : Launch) (D : va_G) (cy : Nat → ClassId) (ma : Nat → Nat) (v : Int32) (w : Int32) : MM l yX10_areTwo cX10_areTwo 3 (some .boolean) 2 0 0 D cy [.ref (ma 0), .int v, .int w] (fun H => va_P D vwCl [((ma 0), .inr (10, [.int 0, .ref (ma 1), .ref (ma 2), .ref (ma 3), .ref (ma 4), .ref (ma 5), .int 0, .int 0, .int 0, .int 0, .int 0, .long 0, .int 0, .int 0, .int 0, .int (-1), .ref (ma 16), .ref (ma 17), .ref (ma 18), .ref (ma 19), .ref (ma 20), .ref (ma 21), .ref (ma 22), .ref (ma 23), .ref (ma 24), .ref (ma 25), .ref (ma 26), .ref (ma 27), .ref (ma 28), .ref (ma 29), .ref (ma 30), .ref (ma 31), .ref (ma 32), .ref (ma 33), .ref (ma 34), .ref (ma 35), .ref (ma 36), .ref (ma 37), .ref (ma 38), .ref (ma 39), .ref (ma 40), .ref (ma 41), .long 0])), ((ma 20), .inl (cy 1, 5, .inl (fun _ => 0)))] H) (PuI (fun r => r = 0)) noF := by
  refine MM.of (by decide) (Nat.le_of_ble_eq_true rfl) ?_
  intro p e s m below meth c C hP ls hl
  obtain ⟨hx, hb, hr, hml, hown, hts, hlocks, hK, hnm⟩ := C
  have hP : va_P D vwCl [((ma 0), .inr (10, [.int 0, .ref (ma 1), .ref (ma 2), .ref (ma 3), .ref (ma 4), .ref (ma 5), .int 0, .int 0, .int 0, .int 0, .int 0, .long 0, .int 0, .int 0, .int 0, .int (-1), .ref (ma 16), .ref (ma 17), .ref (ma 18), .ref (ma 19), .ref (ma 20), .ref (ma 21), .ref (ma 22), .ref (ma 23), .ref (ma 24), .ref (ma 25), .ref (ma 26), .ref (ma 27), .ref (ma 28), .ref (ma 29), .ref (ma 30), .ref (ma 31), .ref (ma 32), .ref (ma 33), .ref (ma 34), .ref (ma 35), .ref (ma 36), .ref (ma 37), .ref (ma 38), .ref (ma 39), .ref (ma 40), .ref (ma 41), .long 0])), ((ma 20), .inl (cy 1, 5, .inl (fun _ => 0)))] s.heap := hP
  have hl : lv_has ls 3 [(0, .ref (ma 0)), (1, .int v), (2, .int w)] := hl
  refine lv_aload_n hx hb dX10_areTwo_0 rfl (lv_at hl 0 rfl) ?_
  refine lv_iload_n hx hb dX10_areTwo_1 rfl (lv_at hl 1 rfl) ?_
  refine pu_calli (runV (As := [.int v]) (rest := []) ⟨hx, hb, hml, hown, hts⟩ (m_isValley l D cy ma v ) sV_X10_297 hK (va_recv hK.1 hP (ci := 10) (q0 := 0) rfl rfl) (hP.sub (ws' := [((ma 0), .inr (10, [.int 0, .ref (ma 1), .ref (ma 2), .ref (ma 3), .ref (ma 4), .ref (ma 5), .int 0, .int 0, .int 0, .int 0, .int 0, .long 0, .int 0, .int 0, .int 0, .int (-1), .ref (ma 16), .ref (ma 17), .ref (ma 18), .ref (ma 19), .ref (ma 20), .ref (ma 21), .ref (ma 22), .ref (ma 23), .ref (ma 24), .ref (ma 25), .ref (ma 26), .ref (ma 27), .ref (ma 28), .ref (ma 29), .ref (ma 30), .ref (ma 31), .ref (ma 32), .ref (ma 33), .ref (ma 34), .ref (ma 35), .ref (ma 36), .ref (ma 37), .ref (ma 38), .ref (ma 39), .ref (ma 40), .ref (ma 41), .long 0])), ((ma 20), .inl (cy 1, 5, .inl (fun _ => 0)))]) [0, 1] rfl) ⟨Nat.le_of_ble_eq_true rfl, Nat.le_of_ble_eq_true rfl⟩ rfl hl.1 rfl (Nat.le_of_ble_eq_true rfl) dX10_areTwo_2 ⟨Nat.le_of_ble_eq_true rfl, Nat.le_of_ble_eq_true rfl⟩) (fun r_1 hr_1 => ?_)
  have er_1 := hr_1
  subst er_1
  refine W.eq (g2 := F0 m 5 ls [.int 0]) rfl ?_
  refine lv_if_eq (tgt := 25) hx hb dX10_areTwo_5 (by decide) (fun _ => ?_) (fun c_2 => absurd (by decide) c_2)
  refine lv_iconst (v := 0) hx hb dX10_areTwo_25 (by decide) ?_
  exact ret_z (ty := .boolean) hx hb hr rfl hlocks ⟨rfl, _, rfl, rfl⟩ (fun _ h => absurd h List.not_mem_nil) (Nat.le_refl _) (Nat.le_refl _) dX10_areTwo_26
set_option maxHeartbeats 4000000 in
set_option maxRecDepth 100000 in
theorem m_isStore (l : Launch) (D : va_G) (cy : Nat → ClassId) (ma : Nat → Nat) (v : Int32) (w : Int32) (z : Int32) : MM l yX10_isStore cX10_isStore 4 (some .boolean) 2 0 0 D cy [.ref (ma 0), .int v, .int w, .int z] (fun H => va_P D vwCl [((ma 0), .inr (10, [.int 0, .ref (ma 1), .ref (ma 2), .ref (ma 3), .ref (ma 4), .ref (ma 5), .int 0, .int 0, .int 0, .int 0, .int 0, .long 0, .int 0, .int 0, .int 0, .int (-1), .ref (ma 16), .ref (ma 17), .ref (ma 18), .ref (ma 19), .ref (ma 20), .ref (ma 21), .ref (ma 22), .ref (ma 23), .ref (ma 24), .ref (ma 25), .ref (ma 26), .ref (ma 27), .ref (ma 28), .ref (ma 29), .ref (ma 30), .ref (ma 31), .ref (ma 32), .ref (ma 33), .ref (ma 34), .ref (ma 35), .ref (ma 36), .ref (ma 37), .ref (ma 38), .ref (ma 39), .ref (ma 40), .ref (ma 41), .long 0])), ((ma 20), .inl (cy 1, 5, .inl (fun _ => 0))), ((ma 18), .inl (cy 1, 5, .inl (fun _ => 0)))] H) (PuI (fun r => r = 0)) noF := by
  refine MM.of (by decide) (Nat.le_of_ble_eq_true rfl) ?_
  intro p e s m below meth c C hP ls hl
  obtain ⟨hx, hb, hr, hml, hown, hts, hlocks, hK, hnm⟩ := C
  have hP : va_P D vwCl [((ma 0), .inr (10, [.int 0, .ref (ma 1), .ref (ma 2), .ref (ma 3), .ref (ma 4), .ref (ma 5), .int 0, .int 0, .int 0, .int 0, .int 0, .long 0, .int 0, .int 0, .int 0, .int (-1), .ref (ma 16), .ref (ma 17), .ref (ma 18), .ref (ma 19), .ref (ma 20), .ref (ma 21), .ref (ma 22), .ref (ma 23), .ref (ma 24), .ref (ma 25), .ref (ma 26), .ref (ma 27), .ref (ma 28), .ref (ma 29), .ref (ma 30), .ref (ma 31), .ref (ma 32), .ref (ma 33), .ref (ma 34), .ref (ma 35), .ref (ma 36), .ref (ma 37), .ref (ma 38), .ref (ma 39), .ref (ma 40), .ref (ma 41), .long 0])), ((ma 20), .inl (cy 1, 5, .inl (fun _ => 0))), ((ma 18), .inl (cy 1, 5, .inl (fun _ => 0)))] s.heap := hP
  have hl : lv_has ls 4 [(0, .ref (ma 0)), (1, .int v), (2, .int w), (3, .int z)] := hl
  refine lv_aload_n hx hb dX10_isStore_0 rfl (lv_at hl 0 rfl) ?_
  refine lv_iload_n hx hb dX10_isStore_1 rfl (lv_at hl 1 rfl) ?_
  refine pu_calli (runV (As := [.int v]) (rest := []) ⟨hx, hb, hml, hown, hts⟩ (m_isValley l D cy ma v ) sV_X10_297 hK (va_recv hK.1 hP (ci := 10) (q0 := 0) rfl rfl) (hP.sub (ws' := [((ma 0), .inr (10, [.int 0, .ref (ma 1), .ref (ma 2), .ref (ma 3), .ref (ma 4), .ref (ma 5), .int 0, .int 0, .int 0, .int 0, .int 0, .long 0, .int 0, .int 0, .int 0, .int (-1), .ref (ma 16), .ref (ma 17), .ref (ma 18), .ref (ma 19), .ref (ma 20), .ref (ma 21), .ref (ma 22), .ref (ma 23), .ref (ma 24), .ref (ma 25), .ref (ma 26), .ref (ma 27), .ref (ma 28), .ref (ma 29), .ref (ma 30), .ref (ma 31), .ref (ma 32), .ref (ma 33), .ref (ma 34), .ref (ma 35), .ref (ma 36), .ref (ma 37), .ref (ma 38), .ref (ma 39), .ref (ma 40), .ref (ma 41), .long 0])), ((ma 20), .inl (cy 1, 5, .inl (fun _ => 0)))]) [0, 1] rfl) ⟨Nat.le_of_ble_eq_true rfl, Nat.le_of_ble_eq_true rfl⟩ rfl hl.1 rfl (Nat.le_of_ble_eq_true rfl) dX10_isStore_2 ⟨Nat.le_of_ble_eq_true rfl, Nat.le_of_ble_eq_true rfl⟩) (fun r_1 hr_1 => ?_)
  have er_1 := hr_1
  subst er_1
  refine W.eq (g2 := F0 m 5 ls [.int 0]) rfl ?_
  refine lv_if_eq (tgt := 28) hx hb dX10_isStore_5 (by decide) (fun _ => ?_) (fun c_2 => absurd (by decide) c_2)
  refine lv_iconst (v := 0) hx hb dX10_isStore_28 (by decide) ?_
  exact ret_z (ty := .boolean) hx hb hr rfl hlocks ⟨rfl, _, rfl, rfl⟩ (fun _ h => absurd h List.not_mem_nil) (Nat.le_refl _) (Nat.le_refl _) dX10_isStore_29
set_option maxHeartbeats 4000000 in
set_option maxRecDepth 100000 in
theorem m_whyNot (l : Launch) (D : va_G) (cy : Nat → ClassId) (ma : Nat → Nat) (v : Int32) (w : Int32) (z : Int32) (y : Int32) : MM l yX10_whyNot cX10_whyNot 5 (some .int) 2 0 0 D cy [.ref (ma 0), .int v, .int w, .int z, .int y] (fun H => va_P D vwCl [((ma 0), .inr (10, [.int 0, .ref (ma 1), .ref (ma 2), .ref (ma 3), .ref (ma 4), .ref (ma 5), .int 0, .int 0, .int 0, .int 0, .int 0, .long 0, .int 0, .int 0, .int 0, .int (-1), .ref (ma 16), .ref (ma 17), .ref (ma 18), .ref (ma 19), .ref (ma 20), .ref (ma 21), .ref (ma 22), .ref (ma 23), .ref (ma 24), .ref (ma 25), .ref (ma 26), .ref (ma 27), .ref (ma 28), .ref (ma 29), .ref (ma 30), .ref (ma 31), .ref (ma 32), .ref (ma 33), .ref (ma 34), .ref (ma 35), .ref (ma 36), .ref (ma 37), .ref (ma 38), .ref (ma 39), .ref (ma 40), .ref (ma 41), .long 0])), ((ma 20), .inl (cy 1, 5, .inl (fun _ => 0)))] H) (PuI (fun r => r = (-2))) noF := by
  refine MM.of (by decide) (Nat.le_of_ble_eq_true rfl) ?_
  intro p e s m below meth c C hP ls hl
  obtain ⟨hx, hb, hr, hml, hown, hts, hlocks, hK, hnm⟩ := C
  have hP : va_P D vwCl [((ma 0), .inr (10, [.int 0, .ref (ma 1), .ref (ma 2), .ref (ma 3), .ref (ma 4), .ref (ma 5), .int 0, .int 0, .int 0, .int 0, .int 0, .long 0, .int 0, .int 0, .int 0, .int (-1), .ref (ma 16), .ref (ma 17), .ref (ma 18), .ref (ma 19), .ref (ma 20), .ref (ma 21), .ref (ma 22), .ref (ma 23), .ref (ma 24), .ref (ma 25), .ref (ma 26), .ref (ma 27), .ref (ma 28), .ref (ma 29), .ref (ma 30), .ref (ma 31), .ref (ma 32), .ref (ma 33), .ref (ma 34), .ref (ma 35), .ref (ma 36), .ref (ma 37), .ref (ma 38), .ref (ma 39), .ref (ma 40), .ref (ma 41), .long 0])), ((ma 20), .inl (cy 1, 5, .inl (fun _ => 0)))] s.heap := hP
  have hl : lv_has ls 5 [(0, .ref (ma 0)), (1, .int v), (2, .int w), (3, .int z), (4, .int y)] := hl
  refine lv_iload_n hx hb dX10_whyNot_0 rfl (lv_at hl 1 rfl) ?_
  refine pu_calli (runS (As := [.int v]) (rest := []) ⟨hx, hb, hml, hown, hts⟩ (m_isSlot l D cy v ) sS_X10_120 hK (hP.sub (ws' := []) [] rfl) ⟨Nat.le_of_ble_eq_true rfl, Nat.le_of_ble_eq_true rfl⟩ rfl hl.1 rfl (Nat.le_of_ble_eq_true rfl) dX10_whyNot_1 ⟨Nat.le_of_ble_eq_true rfl, Nat.le_of_ble_eq_true rfl⟩) (fun r_1 hr_1 => ?_)
  rcases hr_1 with hr_1_0 | hr_1_1
  · skip
    obtain ⟨er_1, hr_1_0_f0, hr_1_0_f1⟩ := hr_1_0
    have hr_1_0_f0 : 0 ≤ v.toInt := hr_1_0_f0
    have hr_1_0_f1 : v.toInt ≤ 3 := hr_1_0_f1
    subst er_1
    refine W.eq (g2 := F0 m 4 ls [.int 1]) rfl ?_
    refine lv_if_eq (tgt := 38) hx hb dX10_whyNot_4 (by decide) (fun c_2 => absurd c_2 (by decide)) (fun _ => ?_)
    refine lv_iload_n hx hb dX10_whyNot_7 rfl (lv_at hl 2 rfl) ?_
    refine lv_i2l hx hb dX10_whyNot_8 rfl ?_
    refine lv_topl (fun z_3 ez_3 => ?_)
    have tz_3 : z_3.toInt = w.toInt := by rw [ez_3]; exact wide_t w
    refine lv_lconst (v := 0) hx hb dX10_whyNot_9 (by decide) ?_
    refine lv_lconst (v := 1) hx hb dX10_whyNot_10 (by decide) ?_
    refine pu_calli (runS (As := [.long z_3, .long 0, .long 1]) (rest := []) ⟨hx, hb, hml, hown, hts⟩ (m_in l D cy z_3 0 1 ) sS_X10_116 hK (hP.sub (ws' := []) [] rfl) ⟨Nat.le_of_ble_eq_true rfl, Nat.le_of_ble_eq_true rfl⟩ rfl hl.1 rfl (Nat.le_of_ble_eq_true rfl) dX10_whyNot_11 ⟨Nat.le_of_ble_eq_true rfl, Nat.le_of_ble_eq_true rfl⟩) (fun r_4 hr_4 => ?_)
    rcases hr_4 with hr_4_0 | hr_4_1
    · skip
      obtain ⟨er_4, hr_4_0_f0, hr_4_0_f1⟩ := hr_4_0
      have hr_4_0_f0 : 0 ≤ z_3.toInt := hr_4_0_f0
      have hr_4_0_f1 : z_3.toInt ≤ 1 := hr_4_0_f1
      subst er_4
      refine W.eq (g2 := F0 m 14 ls [.int 1]) rfl ?_
      refine lv_if_eq (tgt := 38) hx hb dX10_whyNot_14 (by decide) (fun c_5 => absurd c_5 (by decide)) (fun _ => ?_)
      refine lv_iload_n hx hb dX10_whyNot_17 rfl (lv_at hl 3 rfl) ?_
      refine lv_i2l hx hb dX10_whyNot_18 rfl ?_
      refine lv_topl (fun z_6 ez_6 => ?_)
      have tz_6 : z_6.toInt = z.toInt := by rw [ez_6]; exact wide_t z
      refine lv_lconst (v := 0) hx hb dX10_whyNot_19 (by decide) ?_
      refine lv_ldc2 (v := 99999) hx hb hown (hts _ kl_X10_446) dX10_whyNot_20 ?_
      refine pu_calli (runS (As := [.long z_6, .long 0, .long 99999]) (rest := []) ⟨hx, hb, hml, hown, hts⟩ (m_in l D cy z_6 0 99999 ) sS_X10_116 hK (hP.sub (ws' := []) [] rfl) ⟨Nat.le_of_ble_eq_true rfl, Nat.le_of_ble_eq_true rfl⟩ rfl hl.1 rfl (Nat.le_of_ble_eq_true rfl) dX10_whyNot_23 ⟨Nat.le_of_ble_eq_true rfl, Nat.le_of_ble_eq_true rfl⟩) (fun r_7 hr_7 => ?_)
      rcases hr_7 with hr_7_0 | hr_7_1
      · skip
        obtain ⟨er_7, hr_7_0_f0, hr_7_0_f1⟩ := hr_7_0
        have hr_7_0_f0 : 0 ≤ z_6.toInt := hr_7_0_f0
        have hr_7_0_f1 : z_6.toInt ≤ 99999 := hr_7_0_f1
        subst er_7
        refine W.eq (g2 := F0 m 26 ls [.int 1]) rfl ?_
        refine lv_if_eq (tgt := 38) hx hb dX10_whyNot_26 (by decide) (fun c_8 => absurd c_8 (by decide)) (fun _ => ?_)
        refine lv_aload_n hx hb dX10_whyNot_29 rfl (lv_at hl 0 rfl) ?_
        refine lv_iload hx hb dX10_whyNot_30 (lv_at hl 4 rfl) ?_
        refine pu_calli (runV (As := [.int y]) (rest := []) ⟨hx, hb, hml, hown, hts⟩ (m_isValley l D cy ma y ) sV_X10_297 hK (va_recv hK.1 hP (ci := 10) (q0 := 0) rfl rfl) (hP.sub (ws' := [((ma 0), .inr (10, [.int 0, .ref (ma 1), .ref (ma 2), .ref (ma 3), .ref (ma 4), .ref (ma 5), .int 0, .int 0, .int 0, .int 0, .int 0, .long 0, .int 0, .int 0, .int 0, .int (-1), .ref (ma 16), .ref (ma 17), .ref (ma 18), .ref (ma 19), .ref (ma 20), .ref (ma 21), .ref (ma 22), .ref (ma 23), .ref (ma 24), .ref (ma 25), .ref (ma 26), .ref (ma 27), .ref (ma 28), .ref (ma 29), .ref (ma 30), .ref (ma 31), .ref (ma 32), .ref (ma 33), .ref (ma 34), .ref (ma 35), .ref (ma 36), .ref (ma 37), .ref (ma 38), .ref (ma 39), .ref (ma 40), .ref (ma 41), .long 0])), ((ma 20), .inl (cy 1, 5, .inl (fun _ => 0)))]) [0, 1] rfl) ⟨Nat.le_of_ble_eq_true rfl, Nat.le_of_ble_eq_true rfl⟩ rfl hl.1 rfl (Nat.le_of_ble_eq_true rfl) dX10_whyNot_32 ⟨Nat.le_of_ble_eq_true rfl, Nat.le_of_ble_eq_true rfl⟩) (fun r_9 hr_9 => ?_)
        have er_9 := hr_9
        subst er_9
        refine W.eq (g2 := F0 m 35 ls [.int 0]) rfl ?_
        refine lv_if_ne (tgt := 41) hx hb dX10_whyNot_35 (by decide) (fun c_10 => absurd c_10 (by decide)) (fun _ => ?_)
        refine lv_bipush (v := (-2)) hx hb dX10_whyNot_38 (by decide) ?_
        exact ret_i hx hb hr hlocks ⟨rfl, _, rfl, rfl⟩ (fun _ h => absurd h List.not_mem_nil) (Nat.le_refl _) (Nat.le_refl _) dX10_whyNot_40
      · skip
        obtain ⟨er_7, hr_7_1_f0⟩ := hr_7_1
        have hr_7_1_f0 : (z_6.toInt < 0 ∨ 99999 < z_6.toInt) := hr_7_1_f0
        subst er_7
        refine W.eq (g2 := F0 m 26 ls [.int 0]) rfl ?_
        refine lv_if_eq (tgt := 38) hx hb dX10_whyNot_26 (by decide) (fun _ => ?_) (fun c_11 => absurd (by decide) c_11)
        refine lv_bipush (v := (-2)) hx hb dX10_whyNot_38 (by decide) ?_
        exact ret_i hx hb hr hlocks ⟨rfl, _, rfl, rfl⟩ (fun _ h => absurd h List.not_mem_nil) (Nat.le_refl _) (Nat.le_refl _) dX10_whyNot_40
    · skip
      obtain ⟨er_4, hr_4_1_f0⟩ := hr_4_1
      have hr_4_1_f0 : (z_3.toInt < 0 ∨ 1 < z_3.toInt) := hr_4_1_f0
      subst er_4
      refine W.eq (g2 := F0 m 14 ls [.int 0]) rfl ?_
      refine lv_if_eq (tgt := 38) hx hb dX10_whyNot_14 (by decide) (fun _ => ?_) (fun c_12 => absurd (by decide) c_12)
      refine lv_bipush (v := (-2)) hx hb dX10_whyNot_38 (by decide) ?_
      exact ret_i hx hb hr hlocks ⟨rfl, _, rfl, rfl⟩ (fun _ h => absurd h List.not_mem_nil) (Nat.le_refl _) (Nat.le_refl _) dX10_whyNot_40
  · skip
    obtain ⟨er_1, hr_1_1_f0⟩ := hr_1_1
    have hr_1_1_f0 : (v.toInt < 0 ∨ 3 < v.toInt) := hr_1_1_f0
    subst er_1
    refine W.eq (g2 := F0 m 4 ls [.int 0]) rfl ?_
    refine lv_if_eq (tgt := 38) hx hb dX10_whyNot_4 (by decide) (fun _ => ?_) (fun c_13 => absurd (by decide) c_13)
    refine lv_bipush (v := (-2)) hx hb dX10_whyNot_38 (by decide) ?_
    exact ret_i hx hb hr hlocks ⟨rfl, _, rfl, rfl⟩ (fun _ h => absurd h List.not_mem_nil) (Nat.le_refl _) (Nat.le_refl _) dX10_whyNot_40
set_option maxHeartbeats 4000000 in
set_option maxRecDepth 100000 in
theorem m_whyNotJudged (l : Launch) (D : va_G) (cy : Nat → ClassId) (ma : Nat → Nat) (v : Int32) (w : Int32) : MM l yX10_whyNotJudged cX10_whyNotJudged 3 (some .int) 2 0 0 D cy [.ref (ma 0), .int v, .int w] (fun H => va_P D vwCl [((ma 0), .inr (10, [.int 0, .ref (ma 1), .ref (ma 2), .ref (ma 3), .ref (ma 4), .ref (ma 5), .int 0, .int 0, .int 0, .int 0, .int 0, .long 0, .int 0, .int 0, .int 0, .int (-1), .ref (ma 16), .ref (ma 17), .ref (ma 18), .ref (ma 19), .ref (ma 20), .ref (ma 21), .ref (ma 22), .ref (ma 23), .ref (ma 24), .ref (ma 25), .ref (ma 26), .ref (ma 27), .ref (ma 28), .ref (ma 29), .ref (ma 30), .ref (ma 31), .ref (ma 32), .ref (ma 33), .ref (ma 34), .ref (ma 35), .ref (ma 36), .ref (ma 37), .ref (ma 38), .ref (ma 39), .ref (ma 40), .ref (ma 41), .long 0])), ((ma 20), .inl (cy 1, 5, .inl (fun _ => 0)))] H) (PuI (fun r => r = (-2))) noF := by
  refine MM.of (by decide) (Nat.le_of_ble_eq_true rfl) ?_
  intro p e s m below meth c C hP ls hl
  obtain ⟨hx, hb, hr, hml, hown, hts, hlocks, hK, hnm⟩ := C
  have hP : va_P D vwCl [((ma 0), .inr (10, [.int 0, .ref (ma 1), .ref (ma 2), .ref (ma 3), .ref (ma 4), .ref (ma 5), .int 0, .int 0, .int 0, .int 0, .int 0, .long 0, .int 0, .int 0, .int 0, .int (-1), .ref (ma 16), .ref (ma 17), .ref (ma 18), .ref (ma 19), .ref (ma 20), .ref (ma 21), .ref (ma 22), .ref (ma 23), .ref (ma 24), .ref (ma 25), .ref (ma 26), .ref (ma 27), .ref (ma 28), .ref (ma 29), .ref (ma 30), .ref (ma 31), .ref (ma 32), .ref (ma 33), .ref (ma 34), .ref (ma 35), .ref (ma 36), .ref (ma 37), .ref (ma 38), .ref (ma 39), .ref (ma 40), .ref (ma 41), .long 0])), ((ma 20), .inl (cy 1, 5, .inl (fun _ => 0)))] s.heap := hP
  have hl : lv_has ls 3 [(0, .ref (ma 0)), (1, .int v), (2, .int w)] := hl
  refine lv_iload_n hx hb dX10_whyNotJudged_0 rfl (lv_at hl 1 rfl) ?_
  refine pu_calli (runS (As := [.int v]) (rest := []) ⟨hx, hb, hml, hown, hts⟩ (m_isSlot l D cy v ) sS_X10_120 hK (hP.sub (ws' := []) [] rfl) ⟨Nat.le_of_ble_eq_true rfl, Nat.le_of_ble_eq_true rfl⟩ rfl hl.1 rfl (Nat.le_of_ble_eq_true rfl) dX10_whyNotJudged_1 ⟨Nat.le_of_ble_eq_true rfl, Nat.le_of_ble_eq_true rfl⟩) (fun r_1 hr_1 => ?_)
  rcases hr_1 with hr_1_0 | hr_1_1
  · skip
    obtain ⟨er_1, hr_1_0_f0, hr_1_0_f1⟩ := hr_1_0
    have hr_1_0_f0 : 0 ≤ v.toInt := hr_1_0_f0
    have hr_1_0_f1 : v.toInt ≤ 3 := hr_1_0_f1
    subst er_1
    refine W.eq (g2 := F0 m 4 ls [.int 1]) rfl ?_
    refine lv_if_eq (tgt := 15) hx hb dX10_whyNotJudged_4 (by decide) (fun c_2 => absurd c_2 (by decide)) (fun _ => ?_)
    refine lv_aload_n hx hb dX10_whyNotJudged_7 rfl (lv_at hl 0 rfl) ?_
    refine lv_iload_n hx hb dX10_whyNotJudged_8 rfl (lv_at hl 2 rfl) ?_
    refine pu_calli (runV (As := [.int w]) (rest := []) ⟨hx, hb, hml, hown, hts⟩ (m_isValley l D cy ma w ) sV_X10_297 hK (va_recv hK.1 hP (ci := 10) (q0 := 0) rfl rfl) (hP.sub (ws' := [((ma 0), .inr (10, [.int 0, .ref (ma 1), .ref (ma 2), .ref (ma 3), .ref (ma 4), .ref (ma 5), .int 0, .int 0, .int 0, .int 0, .int 0, .long 0, .int 0, .int 0, .int 0, .int (-1), .ref (ma 16), .ref (ma 17), .ref (ma 18), .ref (ma 19), .ref (ma 20), .ref (ma 21), .ref (ma 22), .ref (ma 23), .ref (ma 24), .ref (ma 25), .ref (ma 26), .ref (ma 27), .ref (ma 28), .ref (ma 29), .ref (ma 30), .ref (ma 31), .ref (ma 32), .ref (ma 33), .ref (ma 34), .ref (ma 35), .ref (ma 36), .ref (ma 37), .ref (ma 38), .ref (ma 39), .ref (ma 40), .ref (ma 41), .long 0])), ((ma 20), .inl (cy 1, 5, .inl (fun _ => 0)))]) [0, 1] rfl) ⟨Nat.le_of_ble_eq_true rfl, Nat.le_of_ble_eq_true rfl⟩ rfl hl.1 rfl (Nat.le_of_ble_eq_true rfl) dX10_whyNotJudged_9 ⟨Nat.le_of_ble_eq_true rfl, Nat.le_of_ble_eq_true rfl⟩) (fun r_3 hr_3 => ?_)
    have er_3 := hr_3
    subst er_3
    refine W.eq (g2 := F0 m 12 ls [.int 0]) rfl ?_
    refine lv_if_ne (tgt := 18) hx hb dX10_whyNotJudged_12 (by decide) (fun c_4 => absurd c_4 (by decide)) (fun _ => ?_)
    refine lv_bipush (v := (-2)) hx hb dX10_whyNotJudged_15 (by decide) ?_
    exact ret_i hx hb hr hlocks ⟨rfl, _, rfl, rfl⟩ (fun _ h => absurd h List.not_mem_nil) (Nat.le_refl _) (Nat.le_refl _) dX10_whyNotJudged_17
  · skip
    obtain ⟨er_1, hr_1_1_f0⟩ := hr_1_1
    have hr_1_1_f0 : (v.toInt < 0 ∨ 3 < v.toInt) := hr_1_1_f0
    subst er_1
    refine W.eq (g2 := F0 m 4 ls [.int 0]) rfl ?_
    refine lv_if_eq (tgt := 15) hx hb dX10_whyNotJudged_4 (by decide) (fun _ => ?_) (fun c_5 => absurd (by decide) c_5)
    refine lv_bipush (v := (-2)) hx hb dX10_whyNotJudged_15 (by decide) ?_
    exact ret_i hx hb hr hlocks ⟨rfl, _, rfl, rfl⟩ (fun _ h => absurd h List.not_mem_nil) (Nat.le_refl _) (Nat.le_refl _) dX10_whyNotJudged_17
end
section
theorem dX10_shuts_0 : decode cX10_shuts 0 = .ok (.aload_n 0, 1) := by decide +kernel
theorem dX10_shuts_1 : decode cX10_shuts 1 = .ok (.iconst 0, 1) := by decide +kernel
theorem dX10_shuts_2 : decode cX10_shuts 2 = .ok (.putfield 111, 3) := by decide +kernel
theorem dX10_shuts_5 : decode cX10_shuts 5 = .ok (.aload_n 0, 1) := by decide +kernel
theorem dX10_shuts_6 : decode cX10_shuts 6 = .ok (.iload_n 1, 1) := by decide +kernel
theorem dX10_shuts_7 : decode cX10_shuts 7 = .ok (.invokevirtual 297, 3) := by decide +kernel
theorem dX10_shuts_10 : decode cX10_shuts 10 = .ok (.ifCond .eq 17, 3) := by decide +kernel
theorem dX10_shuts_27 : decode cX10_shuts 27 = .ok (.ldc2_w 300, 3) := by decide +kernel
theorem dX10_shuts_30 : decode cX10_shuts 30 = .ok (.lreturn, 1) := by decide +kernel
theorem dX10_by_0 : decode cX10_by 0 = .ok (.aload_n 0, 1) := by decide +kernel
theorem dX10_by_1 : decode cX10_by 1 = .ok (.iconst 0, 1) := by decide +kernel
theorem dX10_by_2 : decode cX10_by 2 = .ok (.putfield 111, 3) := by decide +kernel
theorem dX10_by_5 : decode cX10_by 5 = .ok (.aload_n 0, 1) := by decide +kernel
theorem dX10_by_6 : decode cX10_by 6 = .ok (.iload_n 1, 1) := by decide +kernel
theorem dX10_by_7 : decode cX10_by 7 = .ok (.invokevirtual 297, 3) := by decide +kernel
theorem dX10_by_10 : decode cX10_by 10 = .ok (.ifCond .eq 11, 3) := by decide +kernel
theorem dX10_by_21 : decode cX10_by 21 = .ok (.ldc2_w 300, 3) := by decide +kernel
theorem dX10_by_24 : decode cX10_by 24 = .ok (.lreturn, 1) := by decide +kernel
theorem dX10_both_0 : decode cX10_both 0 = .ok (.aload_n 0, 1) := by decide +kernel
theorem dX10_both_1 : decode cX10_both 1 = .ok (.iconst 0, 1) := by decide +kernel
theorem dX10_both_2 : decode cX10_both 2 = .ok (.putfield 111, 3) := by decide +kernel
theorem dX10_both_5 : decode cX10_both 5 = .ok (.aload_n 0, 1) := by decide +kernel
theorem dX10_both_6 : decode cX10_both 6 = .ok (.iload_n 1, 1) := by decide +kernel
theorem dX10_both_7 : decode cX10_both 7 = .ok (.iload_n 3, 1) := by decide +kernel
theorem dX10_both_8 : decode cX10_both 8 = .ok (.invokevirtual 323, 3) := by decide +kernel
theorem dX10_both_11 : decode cX10_both 11 = .ok (.ifCond .eq 32, 3) := by decide +kernel
theorem dX10_both_43 : decode cX10_both 43 = .ok (.ldc2_w 300, 3) := by decide +kernel
theorem dX10_both_46 : decode cX10_both 46 = .ok (.lreturn, 1) := by decide +kernel
theorem dX10_together_0 : decode cX10_together 0 = .ok (.aload_n 0, 1) := by decide +kernel
theorem dX10_together_1 : decode cX10_together 1 = .ok (.iconst 0, 1) := by decide +kernel
theorem dX10_together_2 : decode cX10_together 2 = .ok (.putfield 111, 3) := by decide +kernel
theorem dX10_together_5 : decode cX10_together 5 = .ok (.aload_n 0, 1) := by decide +kernel
theorem dX10_together_6 : decode cX10_together 6 = .ok (.iload_n 1, 1) := by decide +kernel
theorem dX10_together_7 : decode cX10_together 7 = .ok (.invokevirtual 305, 3) := by decide +kernel
theorem dX10_together_10 : decode cX10_together 10 = .ok (.ifCond .eq 19, 3) := by decide +kernel
theorem dX10_together_29 : decode cX10_together 29 = .ok (.ldc2_w 300, 3) := by decide +kernel
theorem dX10_together_32 : decode cX10_together 32 = .ok (.lreturn, 1) := by decide +kernel
theorem dX10_set_0 : decode cX10_set 0 = .ok (.aload_n 0, 1) := by decide +kernel
theorem dX10_set_1 : decode cX10_set 1 = .ok (.iconst 0, 1) := by decide +kernel
theorem dX10_set_2 : decode cX10_set 2 = .ok (.putfield 111, 3) := by decide +kernel
theorem dX10_set_5 : decode cX10_set 5 = .ok (.aload_n 0, 1) := by decide +kernel
theorem dX10_set_6 : decode cX10_set 6 = .ok (.iload_n 1, 1) := by decide +kernel
theorem dX10_set_7 : decode cX10_set 7 = .ok (.invokevirtual 305, 3) := by decide +kernel
theorem dX10_set_10 : decode cX10_set 10 = .ok (.ifCond .eq 23, 3) := by decide +kernel
theorem dX10_set_33 : decode cX10_set 33 = .ok (.ldc2_w 300, 3) := by decide +kernel
theorem dX10_set_36 : decode cX10_set 36 = .ok (.lreturn, 1) := by decide +kernel
theorem dX10_when_0 : decode cX10_when 0 = .ok (.aload_n 0, 1) := by decide +kernel
theorem dX10_when_1 : decode cX10_when 1 = .ok (.iconst 0, 1) := by decide +kernel
theorem dX10_when_2 : decode cX10_when 2 = .ok (.putfield 111, 3) := by decide +kernel
theorem dX10_when_5 : decode cX10_when 5 = .ok (.aload_n 0, 1) := by decide +kernel
theorem dX10_when_6 : decode cX10_when 6 = .ok (.iload_n 1, 1) := by decide +kernel
theorem dX10_when_7 : decode cX10_when 7 = .ok (.invokevirtual 297, 3) := by decide +kernel
theorem dX10_when_10 : decode cX10_when 10 = .ok (.ifCond .eq 15, 3) := by decide +kernel
theorem dX10_when_25 : decode cX10_when 25 = .ok (.bipush (-2), 2) := by decide +kernel
theorem dX10_when_27 : decode cX10_when 27 = .ok (.ireturn, 1) := by decide +kernel
theorem dX10_wants_0 : decode cX10_wants 0 = .ok (.aload_n 0, 1) := by decide +kernel
theorem dX10_wants_1 : decode cX10_wants 1 = .ok (.iconst 0, 1) := by decide +kernel
theorem dX10_wants_2 : decode cX10_wants 2 = .ok (.putfield 111, 3) := by decide +kernel
theorem dX10_wants_5 : decode cX10_wants 5 = .ok (.aload_n 0, 1) := by decide +kernel
theorem dX10_wants_6 : decode cX10_wants 6 = .ok (.iload_n 1, 1) := by decide +kernel
theorem dX10_wants_7 : decode cX10_wants 7 = .ok (.invokevirtual 297, 3) := by decide +kernel
theorem dX10_wants_10 : decode cX10_wants 10 = .ok (.ifCond .eq 35, 3) := by decide +kernel
theorem dX10_wants_45 : decode cX10_wants 45 = .ok (.bipush (-2), 2) := by decide +kernel
theorem dX10_wants_47 : decode cX10_wants 47 = .ok (.ireturn, 1) := by decide +kernel
theorem dX10_cost_0 : decode cX10_cost 0 = .ok (.aload_n 0, 1) := by decide +kernel
theorem dX10_cost_1 : decode cX10_cost 1 = .ok (.iconst 0, 1) := by decide +kernel
theorem dX10_cost_2 : decode cX10_cost 2 = .ok (.putfield 111, 3) := by decide +kernel
theorem dX10_cost_5 : decode cX10_cost 5 = .ok (.aload_n 0, 1) := by decide +kernel
theorem dX10_cost_6 : decode cX10_cost 6 = .ok (.iload_n 1, 1) := by decide +kernel
theorem dX10_cost_7 : decode cX10_cost 7 = .ok (.iload_n 2, 1) := by decide +kernel
theorem dX10_cost_8 : decode cX10_cost 8 = .ok (.iload_n 3, 1) := by decide +kernel
theorem dX10_cost_9 : decode cX10_cost 9 = .ok (.invokevirtual 375, 3) := by decide +kernel
theorem dX10_cost_12 : decode cX10_cost 12 = .ok (.ifCond .ne 7, 3) := by decide +kernel
theorem dX10_cost_15 : decode cX10_cost 15 = .ok (.ldc2_w 300, 3) := by decide +kernel
theorem dX10_cost_18 : decode cX10_cost 18 = .ok (.lreturn, 1) := by decide +kernel
theorem dX10_worth_0 : decode cX10_worth 0 = .ok (.aload_n 0, 1) := by decide +kernel
theorem dX10_worth_1 : decode cX10_worth 1 = .ok (.iconst 0, 1) := by decide +kernel
theorem dX10_worth_2 : decode cX10_worth 2 = .ok (.putfield 111, 3) := by decide +kernel
theorem dX10_worth_5 : decode cX10_worth 5 = .ok (.aload_n 0, 1) := by decide +kernel
theorem dX10_worth_6 : decode cX10_worth 6 = .ok (.iload_n 1, 1) := by decide +kernel
theorem dX10_worth_7 : decode cX10_worth 7 = .ok (.iload_n 2, 1) := by decide +kernel
theorem dX10_worth_8 : decode cX10_worth 8 = .ok (.iload_n 3, 1) := by decide +kernel
theorem dX10_worth_9 : decode cX10_worth 9 = .ok (.invokevirtual 375, 3) := by decide +kernel
theorem dX10_worth_12 : decode cX10_worth 12 = .ok (.ifCond .eq 10, 3) := by decide +kernel
theorem dX10_worth_22 : decode cX10_worth 22 = .ok (.ldc2_w 381, 3) := by decide +kernel
theorem dX10_worth_25 : decode cX10_worth 25 = .ok (.lreturn, 1) := by decide +kernel
theorem dX10_best_0 : decode cX10_best 0 = .ok (.aload_n 0, 1) := by decide +kernel
theorem dX10_best_1 : decode cX10_best 1 = .ok (.iconst 0, 1) := by decide +kernel
theorem dX10_best_2 : decode cX10_best 2 = .ok (.putfield 111, 3) := by decide +kernel
theorem dX10_best_5 : decode cX10_best 5 = .ok (.aload_n 0, 1) := by decide +kernel
theorem dX10_best_6 : decode cX10_best 6 = .ok (.iload_n 1, 1) := by decide +kernel
theorem dX10_best_7 : decode cX10_best 7 = .ok (.iload_n 2, 1) := by decide +kernel
theorem dX10_best_8 : decode cX10_best 8 = .ok (.iconst 0, 1) := by decide +kernel
theorem dX10_best_9 : decode cX10_best 9 = .ok (.invokevirtual 375, 3) := by decide +kernel
theorem dX10_best_12 : decode cX10_best 12 = .ok (.ifCond .ne 6, 3) := by decide +kernel
theorem dX10_best_15 : decode cX10_best 15 = .ok (.bipush (-2), 2) := by decide +kernel
theorem dX10_best_17 : decode cX10_best 17 = .ok (.ireturn, 1) := by decide +kernel
theorem dX10_sure_0 : decode cX10_sure 0 = .ok (.aload_n 0, 1) := by decide +kernel
theorem dX10_sure_1 : decode cX10_sure 1 = .ok (.iconst 0, 1) := by decide +kernel
theorem dX10_sure_2 : decode cX10_sure 2 = .ok (.putfield 111, 3) := by decide +kernel
theorem dX10_sure_5 : decode cX10_sure 5 = .ok (.aload_n 0, 1) := by decide +kernel
theorem dX10_sure_6 : decode cX10_sure 6 = .ok (.iload_n 1, 1) := by decide +kernel
theorem dX10_sure_7 : decode cX10_sure 7 = .ok (.iload_n 2, 1) := by decide +kernel
theorem dX10_sure_8 : decode cX10_sure 8 = .ok (.iload_n 3, 1) := by decide +kernel
theorem dX10_sure_9 : decode cX10_sure 9 = .ok (.invokevirtual 375, 3) := by decide +kernel
theorem dX10_sure_12 : decode cX10_sure 12 = .ok (.ifCond .ne 7, 3) := by decide +kernel
theorem dX10_sure_15 : decode cX10_sure 15 = .ok (.ldc2_w 300, 3) := by decide +kernel
theorem dX10_sure_18 : decode cX10_sure 18 = .ok (.lreturn, 1) := by decide +kernel
theorem dX10_need_0 : decode cX10_need 0 = .ok (.aload_n 0, 1) := by decide +kernel
theorem dX10_need_1 : decode cX10_need 1 = .ok (.iconst 0, 1) := by decide +kernel
theorem dX10_need_2 : decode cX10_need 2 = .ok (.putfield 111, 3) := by decide +kernel
theorem dX10_need_5 : decode cX10_need 5 = .ok (.aload_n 0, 1) := by decide +kernel
theorem dX10_need_6 : decode cX10_need 6 = .ok (.iload_n 1, 1) := by decide +kernel
theorem dX10_need_7 : decode cX10_need 7 = .ok (.iload_n 2, 1) := by decide +kernel
theorem dX10_need_8 : decode cX10_need 8 = .ok (.iconst 0, 1) := by decide +kernel
theorem dX10_need_9 : decode cX10_need 9 = .ok (.invokevirtual 375, 3) := by decide +kernel
theorem dX10_need_12 : decode cX10_need 12 = .ok (.ifCond .eq 15, 3) := by decide +kernel
theorem dX10_need_27 : decode cX10_need 27 = .ok (.bipush (-2), 2) := by decide +kernel
theorem dX10_need_29 : decode cX10_need 29 = .ok (.ireturn, 1) := by decide +kernel
theorem dX10_packed_0 : decode cX10_packed 0 = .ok (.aload_n 0, 1) := by decide +kernel
theorem dX10_packed_1 : decode cX10_packed 1 = .ok (.iconst 0, 1) := by decide +kernel
theorem dX10_packed_2 : decode cX10_packed 2 = .ok (.putfield 111, 3) := by decide +kernel
theorem dX10_packed_5 : decode cX10_packed 5 = .ok (.aload_n 0, 1) := by decide +kernel
theorem dX10_packed_6 : decode cX10_packed 6 = .ok (.iload_n 1, 1) := by decide +kernel
theorem dX10_packed_7 : decode cX10_packed 7 = .ok (.invokevirtual 297, 3) := by decide +kernel
theorem dX10_packed_10 : decode cX10_packed 10 = .ok (.ifCond .ne 7, 3) := by decide +kernel
theorem dX10_packed_13 : decode cX10_packed 13 = .ok (.ldc2_w 300, 3) := by decide +kernel
theorem dX10_packed_16 : decode cX10_packed 16 = .ok (.lreturn, 1) := by decide +kernel
theorem dX10_pack_0 : decode cX10_pack 0 = .ok (.aload_n 0, 1) := by decide +kernel
theorem dX10_pack_1 : decode cX10_pack 1 = .ok (.iconst 0, 1) := by decide +kernel
theorem dX10_pack_2 : decode cX10_pack 2 = .ok (.putfield 111, 3) := by decide +kernel
theorem dX10_pack_5 : decode cX10_pack 5 = .ok (.aload_n 0, 1) := by decide +kernel
theorem dX10_pack_6 : decode cX10_pack 6 = .ok (.iload_n 1, 1) := by decide +kernel
theorem dX10_pack_7 : decode cX10_pack 7 = .ok (.iload_n 2, 1) := by decide +kernel
theorem dX10_pack_8 : decode cX10_pack 8 = .ok (.iconst 0, 1) := by decide +kernel
theorem dX10_pack_9 : decode cX10_pack 9 = .ok (.invokevirtual 375, 3) := by decide +kernel
theorem dX10_pack_12 : decode cX10_pack 12 = .ok (.ifCond .ne 6, 3) := by decide +kernel
theorem dX10_pack_15 : decode cX10_pack 15 = .ok (.bipush (-2), 2) := by decide +kernel
theorem dX10_pack_17 : decode cX10_pack 17 = .ok (.ireturn, 1) := by decide +kernel
theorem dX10_gap_0 : decode cX10_gap 0 = .ok (.aload_n 0, 1) := by decide +kernel
theorem dX10_gap_1 : decode cX10_gap 1 = .ok (.iconst 0, 1) := by decide +kernel
theorem dX10_gap_2 : decode cX10_gap 2 = .ok (.putfield 111, 3) := by decide +kernel
theorem dX10_gap_5 : decode cX10_gap 5 = .ok (.aload_n 0, 1) := by decide +kernel
theorem dX10_gap_6 : decode cX10_gap 6 = .ok (.iload_n 1, 1) := by decide +kernel
theorem dX10_gap_7 : decode cX10_gap 7 = .ok (.invokevirtual 297, 3) := by decide +kernel
theorem dX10_gap_10 : decode cX10_gap 10 = .ok (.ifCond .ne 7, 3) := by decide +kernel
theorem dX10_gap_13 : decode cX10_gap 13 = .ok (.ldc2_w 300, 3) := by decide +kernel
theorem dX10_gap_16 : decode cX10_gap 16 = .ok (.lreturn, 1) := by decide +kernel
theorem dX10_late_0 : decode cX10_late 0 = .ok (.aload_n 0, 1) := by decide +kernel
theorem dX10_late_1 : decode cX10_late 1 = .ok (.iconst 0, 1) := by decide +kernel
theorem dX10_late_2 : decode cX10_late 2 = .ok (.putfield 111, 3) := by decide +kernel
theorem dX10_late_5 : decode cX10_late 5 = .ok (.aload_n 0, 1) := by decide +kernel
theorem dX10_late_6 : decode cX10_late 6 = .ok (.iload_n 1, 1) := by decide +kernel
theorem dX10_late_7 : decode cX10_late 7 = .ok (.iload_n 2, 1) := by decide +kernel
theorem dX10_late_8 : decode cX10_late 8 = .ok (.iconst 0, 1) := by decide +kernel
theorem dX10_late_9 : decode cX10_late 9 = .ok (.invokevirtual 375, 3) := by decide +kernel
theorem dX10_late_12 : decode cX10_late 12 = .ok (.ifCond .eq 12, 3) := by decide +kernel
theorem dX10_late_24 : decode cX10_late 24 = .ok (.ldc2_w 300, 3) := by decide +kernel
theorem dX10_late_27 : decode cX10_late 27 = .ok (.lreturn, 1) := by decide +kernel
theorem dX10_today_0 : decode cX10_today 0 = .ok (.aload_n 0, 1) := by decide +kernel
theorem dX10_today_1 : decode cX10_today 1 = .ok (.iconst 0, 1) := by decide +kernel
theorem dX10_today_2 : decode cX10_today 2 = .ok (.putfield 111, 3) := by decide +kernel
theorem dX10_today_5 : decode cX10_today 5 = .ok (.aload_n 0, 1) := by decide +kernel
theorem dX10_today_6 : decode cX10_today 6 = .ok (.iload_n 1, 1) := by decide +kernel
theorem dX10_today_7 : decode cX10_today 7 = .ok (.iload_n 2, 1) := by decide +kernel
theorem dX10_today_8 : decode cX10_today 8 = .ok (.iconst 0, 1) := by decide +kernel
theorem dX10_today_9 : decode cX10_today 9 = .ok (.invokevirtual 375, 3) := by decide +kernel
theorem dX10_today_12 : decode cX10_today 12 = .ok (.ifCond .eq 24, 3) := by decide +kernel
theorem dX10_today_36 : decode cX10_today 36 = .ok (.bipush (-2), 2) := by decide +kernel
theorem dX10_today_38 : decode cX10_today 38 = .ok (.ireturn, 1) := by decide +kernel
theorem dX10_last_0 : decode cX10_last 0 = .ok (.aload_n 0, 1) := by decide +kernel
theorem dX10_last_1 : decode cX10_last 1 = .ok (.iconst 0, 1) := by decide +kernel
theorem dX10_last_2 : decode cX10_last 2 = .ok (.putfield 111, 3) := by decide +kernel
theorem dX10_last_5 : decode cX10_last 5 = .ok (.aload_n 0, 1) := by decide +kernel
theorem dX10_last_6 : decode cX10_last 6 = .ok (.iload_n 1, 1) := by decide +kernel
theorem dX10_last_7 : decode cX10_last 7 = .ok (.iload_n 2, 1) := by decide +kernel
theorem dX10_last_8 : decode cX10_last 8 = .ok (.iconst 0, 1) := by decide +kernel
theorem dX10_last_9 : decode cX10_last 9 = .ok (.invokevirtual 375, 3) := by decide +kernel
theorem dX10_last_12 : decode cX10_last 12 = .ok (.ifCond .ne 6, 3) := by decide +kernel
theorem dX10_last_15 : decode cX10_last 15 = .ok (.bipush (-2), 2) := by decide +kernel
theorem dX10_last_17 : decode cX10_last 17 = .ok (.ireturn, 1) := by decide +kernel
theorem dX10_signs_0 : decode cX10_signs 0 = .ok (.aload_n 0, 1) := by decide +kernel
theorem dX10_signs_1 : decode cX10_signs 1 = .ok (.iconst 0, 1) := by decide +kernel
theorem dX10_signs_2 : decode cX10_signs 2 = .ok (.putfield 111, 3) := by decide +kernel
theorem dX10_signs_5 : decode cX10_signs 5 = .ok (.aload_n 0, 1) := by decide +kernel
theorem dX10_signs_6 : decode cX10_signs 6 = .ok (.iload_n 1, 1) := by decide +kernel
theorem dX10_signs_7 : decode cX10_signs 7 = .ok (.iload_n 2, 1) := by decide +kernel
theorem dX10_signs_8 : decode cX10_signs 8 = .ok (.iconst 0, 1) := by decide +kernel
theorem dX10_signs_9 : decode cX10_signs 9 = .ok (.invokevirtual 375, 3) := by decide +kernel
theorem dX10_signs_12 : decode cX10_signs 12 = .ok (.ifCond .ne 7, 3) := by decide +kernel
theorem dX10_signs_15 : decode cX10_signs 15 = .ok (.ldc2_w 381, 3) := by decide +kernel
theorem dX10_signs_18 : decode cX10_signs 18 = .ok (.lreturn, 1) := by decide +kernel
theorem dX10_fork_0 : decode cX10_fork 0 = .ok (.aload_n 0, 1) := by decide +kernel
theorem dX10_fork_1 : decode cX10_fork 1 = .ok (.iconst 0, 1) := by decide +kernel
theorem dX10_fork_2 : decode cX10_fork 2 = .ok (.putfield 111, 3) := by decide +kernel
theorem dX10_fork_5 : decode cX10_fork 5 = .ok (.aload_n 0, 1) := by decide +kernel
theorem dX10_fork_6 : decode cX10_fork 6 = .ok (.iload_n 1, 1) := by decide +kernel
theorem dX10_fork_7 : decode cX10_fork 7 = .ok (.iload_n 2, 1) := by decide +kernel
theorem dX10_fork_8 : decode cX10_fork 8 = .ok (.invokevirtual 323, 3) := by decide +kernel
theorem dX10_fork_11 : decode cX10_fork 11 = .ok (.ifCond .eq 20, 3) := by decide +kernel
theorem dX10_fork_31 : decode cX10_fork 31 = .ok (.ldc2_w 300, 3) := by decide +kernel
theorem dX10_fork_34 : decode cX10_fork 34 = .ok (.lreturn, 1) := by decide +kernel
theorem dX10_middle_0 : decode cX10_middle 0 = .ok (.aload_n 0, 1) := by decide +kernel
theorem dX10_middle_1 : decode cX10_middle 1 = .ok (.iconst 0, 1) := by decide +kernel
theorem dX10_middle_2 : decode cX10_middle 2 = .ok (.putfield 111, 3) := by decide +kernel
theorem dX10_middle_5 : decode cX10_middle 5 = .ok (.aload_n 0, 1) := by decide +kernel
theorem dX10_middle_6 : decode cX10_middle 6 = .ok (.iload_n 1, 1) := by decide +kernel
theorem dX10_middle_7 : decode cX10_middle 7 = .ok (.iload_n 2, 1) := by decide +kernel
theorem dX10_middle_8 : decode cX10_middle 8 = .ok (.invokevirtual 323, 3) := by decide +kernel
theorem dX10_middle_11 : decode cX10_middle 11 = .ok (.ifCond .eq 11, 3) := by decide +kernel
theorem dX10_middle_22 : decode cX10_middle 22 = .ok (.bipush (-2), 2) := by decide +kernel
theorem dX10_middle_24 : decode cX10_middle 24 = .ok (.ireturn, 1) := by decide +kernel
theorem dX10_shares_0 : decode cX10_shares 0 = .ok (.aload_n 0, 1) := by decide +kernel
theorem dX10_shares_1 : decode cX10_shares 1 = .ok (.iconst 0, 1) := by decide +kernel
theorem dX10_shares_2 : decode cX10_shares 2 = .ok (.putfield 111, 3) := by decide +kernel
theorem dX10_shares_5 : decode cX10_shares 5 = .ok (.aload_n 0, 1) := by decide +kernel
theorem dX10_shares_6 : decode cX10_shares 6 = .ok (.iload_n 1, 1) := by decide +kernel
theorem dX10_shares_7 : decode cX10_shares 7 = .ok (.iload_n 2, 1) := by decide +kernel
theorem dX10_shares_8 : decode cX10_shares 8 = .ok (.invokevirtual 323, 3) := by decide +kernel
theorem dX10_shares_11 : decode cX10_shares 11 = .ok (.ifCond .eq 11, 3) := by decide +kernel
theorem dX10_shares_22 : decode cX10_shares 22 = .ok (.ldc2_w 381, 3) := by decide +kernel
theorem dX10_shares_25 : decode cX10_shares 25 = .ok (.lreturn, 1) := by decide +kernel
theorem dX10_flown_0 : decode cX10_flown 0 = .ok (.aload_n 0, 1) := by decide +kernel
theorem dX10_flown_1 : decode cX10_flown 1 = .ok (.iconst 0, 1) := by decide +kernel
theorem dX10_flown_2 : decode cX10_flown 2 = .ok (.putfield 111, 3) := by decide +kernel
theorem dX10_flown_5 : decode cX10_flown 5 = .ok (.aload_n 0, 1) := by decide +kernel
theorem dX10_flown_6 : decode cX10_flown 6 = .ok (.iload_n 1, 1) := by decide +kernel
theorem dX10_flown_7 : decode cX10_flown 7 = .ok (.iload_n 2, 1) := by decide +kernel
theorem dX10_flown_8 : decode cX10_flown 8 = .ok (.iload_n 3, 1) := by decide +kernel
theorem dX10_flown_9 : decode cX10_flown 9 = .ok (.invokevirtual 375, 3) := by decide +kernel
theorem dX10_flown_12 : decode cX10_flown 12 = .ok (.ifCond .ne 7, 3) := by decide +kernel
theorem dX10_flown_15 : decode cX10_flown 15 = .ok (.ldc2_w 300, 3) := by decide +kernel
theorem dX10_flown_18 : decode cX10_flown 18 = .ok (.lreturn, 1) := by decide +kernel
theorem dX10_plane_0 : decode cX10_plane 0 = .ok (.aload_n 0, 1) := by decide +kernel
theorem dX10_plane_1 : decode cX10_plane 1 = .ok (.iconst 0, 1) := by decide +kernel
theorem dX10_plane_2 : decode cX10_plane 2 = .ok (.putfield 111, 3) := by decide +kernel
theorem dX10_plane_5 : decode cX10_plane 5 = .ok (.aload_n 0, 1) := by decide +kernel
theorem dX10_plane_6 : decode cX10_plane 6 = .ok (.iload_n 1, 1) := by decide +kernel
theorem dX10_plane_7 : decode cX10_plane 7 = .ok (.iload_n 2, 1) := by decide +kernel
theorem dX10_plane_8 : decode cX10_plane 8 = .ok (.iconst 0, 1) := by decide +kernel
theorem dX10_plane_9 : decode cX10_plane 9 = .ok (.invokevirtual 375, 3) := by decide +kernel
theorem dX10_plane_12 : decode cX10_plane 12 = .ok (.ifCond .ne 6, 3) := by decide +kernel
theorem dX10_plane_15 : decode cX10_plane 15 = .ok (.bipush (-2), 2) := by decide +kernel
theorem dX10_plane_17 : decode cX10_plane 17 = .ok (.ireturn, 1) := by decide +kernel
theorem dX10_edge_0 : decode cX10_edge 0 = .ok (.aload_n 0, 1) := by decide +kernel
theorem dX10_edge_1 : decode cX10_edge 1 = .ok (.iconst 0, 1) := by decide +kernel
theorem dX10_edge_2 : decode cX10_edge 2 = .ok (.putfield 111, 3) := by decide +kernel
theorem dX10_edge_5 : decode cX10_edge 5 = .ok (.aload_n 0, 1) := by decide +kernel
theorem dX10_edge_6 : decode cX10_edge 6 = .ok (.iload_n 1, 1) := by decide +kernel
theorem dX10_edge_7 : decode cX10_edge 7 = .ok (.invokevirtual 350, 3) := by decide +kernel
theorem dX10_edge_10 : decode cX10_edge 10 = .ok (.ifCond .ne 6, 3) := by decide +kernel
theorem dX10_edge_13 : decode cX10_edge 13 = .ok (.bipush (-2), 2) := by decide +kernel
theorem dX10_edge_15 : decode cX10_edge 15 = .ok (.ireturn, 1) := by decide +kernel
theorem dX10_path_0 : decode cX10_path 0 = .ok (.aload_n 0, 1) := by decide +kernel
theorem dX10_path_1 : decode cX10_path 1 = .ok (.iconst 0, 1) := by decide +kernel
theorem dX10_path_2 : decode cX10_path 2 = .ok (.putfield 111, 3) := by decide +kernel
theorem dX10_path_5 : decode cX10_path 5 = .ok (.aload_n 0, 1) := by decide +kernel
theorem dX10_path_6 : decode cX10_path 6 = .ok (.iload_n 1, 1) := by decide +kernel
theorem dX10_path_7 : decode cX10_path 7 = .ok (.iload_n 2, 1) := by decide +kernel
theorem dX10_path_8 : decode cX10_path 8 = .ok (.invokevirtual 323, 3) := by decide +kernel
theorem dX10_path_11 : decode cX10_path 11 = .ok (.ifCond .eq 20, 3) := by decide +kernel
theorem dX10_path_31 : decode cX10_path 31 = .ok (.ldc2_w 300, 3) := by decide +kernel
theorem dX10_path_34 : decode cX10_path 34 = .ok (.lreturn, 1) := by decide +kernel
theorem dX10_fed_0 : decode cX10_fed 0 = .ok (.aload_n 0, 1) := by decide +kernel
theorem dX10_fed_1 : decode cX10_fed 1 = .ok (.iconst 0, 1) := by decide +kernel
theorem dX10_fed_2 : decode cX10_fed 2 = .ok (.putfield 111, 3) := by decide +kernel
theorem dX10_fed_5 : decode cX10_fed 5 = .ok (.aload_n 0, 1) := by decide +kernel
theorem dX10_fed_6 : decode cX10_fed 6 = .ok (.iload_n 1, 1) := by decide +kernel
theorem dX10_fed_7 : decode cX10_fed 7 = .ok (.iload_n 2, 1) := by decide +kernel
theorem dX10_fed_8 : decode cX10_fed 8 = .ok (.invokevirtual 323, 3) := by decide +kernel
theorem dX10_fed_11 : decode cX10_fed 11 = .ok (.ifCond .ne 6, 3) := by decide +kernel
theorem dX10_fed_14 : decode cX10_fed 14 = .ok (.bipush (-2), 2) := by decide +kernel
theorem dX10_fed_16 : decode cX10_fed 16 = .ok (.ireturn, 1) := by decide +kernel
theorem dX10_given_0 : decode cX10_given 0 = .ok (.aload_n 0, 1) := by decide +kernel
theorem dX10_given_1 : decode cX10_given 1 = .ok (.iconst 0, 1) := by decide +kernel
theorem dX10_given_2 : decode cX10_given 2 = .ok (.putfield 111, 3) := by decide +kernel
theorem dX10_given_5 : decode cX10_given 5 = .ok (.aload_n 0, 1) := by decide +kernel
theorem dX10_given_6 : decode cX10_given 6 = .ok (.iload_n 1, 1) := by decide +kernel
theorem dX10_given_7 : decode cX10_given 7 = .ok (.iload_n 2, 1) := by decide +kernel
theorem dX10_given_8 : decode cX10_given 8 = .ok (.iload_n 3, 1) := by decide +kernel
theorem dX10_given_9 : decode cX10_given 9 = .ok (.iload 4, 2) := by decide +kernel
theorem dX10_given_11 : decode cX10_given 11 = .ok (.invokevirtual 451, 3) := by decide +kernel
theorem dX10_given_14 : decode cX10_given 14 = .ok (.istore 5, 2) := by decide +kernel
theorem dX10_given_16 : decode cX10_given 16 = .ok (.iload 5, 2) := by decide +kernel
theorem dX10_given_18 : decode cX10_given 18 = .ok (.ifCond .eq 8, 3) := by decide +kernel
theorem dX10_given_21 : decode cX10_given 21 = .ok (.iload 5, 2) := by decide +kernel
theorem dX10_given_23 : decode cX10_given 23 = .ok (.goto 11, 3) := by decide +kernel
theorem dX10_given_34 : decode cX10_given 34 = .ok (.ireturn, 1) := by decide +kernel
theorem dX10_asks__0 : decode cX10_asks_ 0 = .ok (.aload_n 0, 1) := by decide +kernel
theorem dX10_asks__1 : decode cX10_asks_ 1 = .ok (.iconst 0, 1) := by decide +kernel
theorem dX10_asks__2 : decode cX10_asks_ 2 = .ok (.putfield 111, 3) := by decide +kernel
theorem dX10_asks__5 : decode cX10_asks_ 5 = .ok (.aload_n 0, 1) := by decide +kernel
theorem dX10_asks__6 : decode cX10_asks_ 6 = .ok (.iload 5, 2) := by decide +kernel
theorem dX10_asks__8 : decode cX10_asks_ 8 = .ok (.invokevirtual 350, 3) := by decide +kernel
theorem dX10_asks__11 : decode cX10_asks_ 11 = .ok (.ifCond .ne 6, 3) := by decide +kernel
theorem dX10_asks__14 : decode cX10_asks_ 14 = .ok (.bipush (-2), 2) := by decide +kernel
theorem dX10_asks__16 : decode cX10_asks_ 16 = .ok (.ireturn, 1) := by decide +kernel
theorem dX10_pays_0 : decode cX10_pays 0 = .ok (.aload_n 0, 1) := by decide +kernel
theorem dX10_pays_1 : decode cX10_pays 1 = .ok (.iconst 0, 1) := by decide +kernel
theorem dX10_pays_2 : decode cX10_pays 2 = .ok (.putfield 111, 3) := by decide +kernel
theorem dX10_pays_5 : decode cX10_pays 5 = .ok (.aload_n 0, 1) := by decide +kernel
theorem dX10_pays_6 : decode cX10_pays 6 = .ok (.iload 5, 2) := by decide +kernel
theorem dX10_pays_8 : decode cX10_pays 8 = .ok (.invokevirtual 350, 3) := by decide +kernel
theorem dX10_pays_11 : decode cX10_pays 11 = .ok (.ifCond .ne 7, 3) := by decide +kernel
theorem dX10_pays_14 : decode cX10_pays 14 = .ok (.ldc2_w 300, 3) := by decide +kernel
theorem dX10_pays_17 : decode cX10_pays 17 = .ok (.lreturn, 1) := by decide +kernel
theorem dX10_burnt_0 : decode cX10_burnt 0 = .ok (.aload_n 0, 1) := by decide +kernel
theorem dX10_burnt_1 : decode cX10_burnt 1 = .ok (.iconst 0, 1) := by decide +kernel
theorem dX10_burnt_2 : decode cX10_burnt 2 = .ok (.putfield 111, 3) := by decide +kernel
theorem dX10_burnt_5 : decode cX10_burnt 5 = .ok (.aload_n 0, 1) := by decide +kernel
theorem dX10_burnt_6 : decode cX10_burnt 6 = .ok (.iload_n 1, 1) := by decide +kernel
theorem dX10_burnt_7 : decode cX10_burnt 7 = .ok (.iload_n 2, 1) := by decide +kernel
theorem dX10_burnt_8 : decode cX10_burnt 8 = .ok (.iload_n 3, 1) := by decide +kernel
theorem dX10_burnt_9 : decode cX10_burnt 9 = .ok (.invokevirtual 375, 3) := by decide +kernel
theorem dX10_burnt_12 : decode cX10_burnt 12 = .ok (.ifCond .eq 11, 3) := by decide +kernel
theorem dX10_burnt_23 : decode cX10_burnt 23 = .ok (.ldc2_w 300, 3) := by decide +kernel
theorem dX10_burnt_26 : decode cX10_burnt 26 = .ok (.lreturn, 1) := by decide +kernel
theorem dX10_spread_0 : decode cX10_spread 0 = .ok (.aload_n 0, 1) := by decide +kernel
theorem dX10_spread_1 : decode cX10_spread 1 = .ok (.iconst 0, 1) := by decide +kernel
theorem dX10_spread_2 : decode cX10_spread 2 = .ok (.putfield 111, 3) := by decide +kernel
theorem dX10_spread_5 : decode cX10_spread 5 = .ok (.aload_n 0, 1) := by decide +kernel
theorem dX10_spread_6 : decode cX10_spread 6 = .ok (.iload_n 1, 1) := by decide +kernel
theorem dX10_spread_7 : decode cX10_spread 7 = .ok (.iload_n 2, 1) := by decide +kernel
theorem dX10_spread_8 : decode cX10_spread 8 = .ok (.iload_n 3, 1) := by decide +kernel
theorem dX10_spread_9 : decode cX10_spread 9 = .ok (.invokevirtual 375, 3) := by decide +kernel
theorem dX10_spread_12 : decode cX10_spread 12 = .ok (.ifCond .eq 11, 3) := by decide +kernel
theorem dX10_spread_23 : decode cX10_spread 23 = .ok (.ldc2_w 300, 3) := by decide +kernel
theorem dX10_spread_26 : decode cX10_spread 26 = .ok (.lreturn, 1) := by decide +kernel
theorem dX10_bear_0 : decode cX10_bear 0 = .ok (.aload_n 0, 1) := by decide +kernel
theorem dX10_bear_1 : decode cX10_bear 1 = .ok (.iconst 0, 1) := by decide +kernel
theorem dX10_bear_2 : decode cX10_bear 2 = .ok (.putfield 111, 3) := by decide +kernel
theorem dX10_bear_5 : decode cX10_bear 5 = .ok (.aload_n 0, 1) := by decide +kernel
theorem dX10_bear_6 : decode cX10_bear 6 = .ok (.iload_n 1, 1) := by decide +kernel
theorem dX10_bear_7 : decode cX10_bear 7 = .ok (.iload_n 2, 1) := by decide +kernel
theorem dX10_bear_8 : decode cX10_bear 8 = .ok (.iconst 0, 1) := by decide +kernel
theorem dX10_bear_9 : decode cX10_bear 9 = .ok (.invokevirtual 375, 3) := by decide +kernel
theorem dX10_bear_12 : decode cX10_bear 12 = .ok (.ifCond .eq 10, 3) := by decide +kernel
theorem dX10_bear_22 : decode cX10_bear 22 = .ok (.bipush (-2), 2) := by decide +kernel
theorem dX10_bear_24 : decode cX10_bear 24 = .ok (.ireturn, 1) := by decide +kernel
theorem dX10_run_0 : decode cX10_run 0 = .ok (.aload_n 0, 1) := by decide +kernel
theorem dX10_run_1 : decode cX10_run 1 = .ok (.iconst 0, 1) := by decide +kernel
theorem dX10_run_2 : decode cX10_run 2 = .ok (.putfield 111, 3) := by decide +kernel
theorem dX10_run_5 : decode cX10_run 5 = .ok (.iload_n 1, 1) := by decide +kernel
theorem dX10_run_6 : decode cX10_run 6 = .ok (.invokestatic 492, 3) := by decide +kernel
theorem dX10_run_9 : decode cX10_run 9 = .ok (.ifCond .eq 10, 3) := by decide +kernel
theorem dX10_run_12 : decode cX10_run 12 = .ok (.aload_n 0, 1) := by decide +kernel
theorem dX10_run_13 : decode cX10_run 13 = .ok (.invokevirtual 278, 3) := by decide +kernel
theorem dX10_run_16 : decode cX10_run 16 = .ok (.ifCond .ne 6, 3) := by decide +kernel
theorem dX10_run_19 : decode cX10_run 19 = .ok (.bipush (-2), 2) := by decide +kernel
theorem dX10_run_21 : decode cX10_run 21 = .ok (.ireturn, 1) := by decide +kernel
theorem dX10_told_0 : decode cX10_told 0 = .ok (.aload_n 0, 1) := by decide +kernel
theorem dX10_told_1 : decode cX10_told 1 = .ok (.iconst 0, 1) := by decide +kernel
theorem dX10_told_2 : decode cX10_told 2 = .ok (.putfield 111, 3) := by decide +kernel
theorem dX10_told_5 : decode cX10_told 5 = .ok (.iload_n 1, 1) := by decide +kernel
theorem dX10_told_6 : decode cX10_told 6 = .ok (.invokestatic 120, 3) := by decide +kernel
theorem dX10_told_9 : decode cX10_told 9 = .ok (.ifCond .eq 10, 3) := by decide +kernel
theorem dX10_told_12 : decode cX10_told 12 = .ok (.aload_n 0, 1) := by decide +kernel
theorem dX10_told_13 : decode cX10_told 13 = .ok (.invokevirtual 278, 3) := by decide +kernel
theorem dX10_told_16 : decode cX10_told 16 = .ok (.ifCond .ne 6, 3) := by decide +kernel
theorem dX10_told_19 : decode cX10_told 19 = .ok (.bipush (-2), 2) := by decide +kernel
theorem dX10_told_21 : decode cX10_told 21 = .ok (.ireturn, 1) := by decide +kernel
theorem dX10_shut_0 : decode cX10_shut 0 = .ok (.aload_n 0, 1) := by decide +kernel
theorem dX10_shut_1 : decode cX10_shut 1 = .ok (.iconst 0, 1) := by decide +kernel
theorem dX10_shut_2 : decode cX10_shut 2 = .ok (.putfield 111, 3) := by decide +kernel
theorem dX10_shut_5 : decode cX10_shut 5 = .ok (.aload_n 0, 1) := by decide +kernel
theorem dX10_shut_6 : decode cX10_shut 6 = .ok (.iload_n 1, 1) := by decide +kernel
theorem dX10_shut_7 : decode cX10_shut 7 = .ok (.invokevirtual 297, 3) := by decide +kernel
theorem dX10_shut_10 : decode cX10_shut 10 = .ok (.ifCond .ne 8, 3) := by decide +kernel
theorem dX10_shut_13 : decode cX10_shut 13 = .ok (.bipush (-2), 2) := by decide +kernel
theorem dX10_shut_15 : decode cX10_shut 15 = .ok (.goto 22, 3) := by decide +kernel
theorem dX10_shut_37 : decode cX10_shut 37 = .ok (.ireturn, 1) := by decide +kernel
theorem dX10_lacks_0 : decode cX10_lacks 0 = .ok (.aload_n 0, 1) := by decide +kernel
theorem dX10_lacks_1 : decode cX10_lacks 1 = .ok (.iconst 0, 1) := by decide +kernel
theorem dX10_lacks_2 : decode cX10_lacks 2 = .ok (.putfield 111, 3) := by decide +kernel
theorem dX10_lacks_5 : decode cX10_lacks 5 = .ok (.aload_n 0, 1) := by decide +kernel
theorem dX10_lacks_6 : decode cX10_lacks 6 = .ok (.iload_n 1, 1) := by decide +kernel
theorem dX10_lacks_7 : decode cX10_lacks 7 = .ok (.iload_n 2, 1) := by decide +kernel
theorem dX10_lacks_8 : decode cX10_lacks 8 = .ok (.iload_n 3, 1) := by decide +kernel
theorem dX10_lacks_9 : decode cX10_lacks 9 = .ok (.invokevirtual 375, 3) := by decide +kernel
theorem dX10_lacks_12 : decode cX10_lacks 12 = .ok (.ifCond .eq 16, 3) := by decide +kernel
theorem dX10_lacks_28 : decode cX10_lacks 28 = .ok (.bipush (-2), 2) := by decide +kernel
theorem dX10_lacks_30 : decode cX10_lacks 30 = .ok (.ireturn, 1) := by decide +kernel
theorem dX10_judge_0 : decode cX10_judge 0 = .ok (.aload_n 0, 1) := by decide +kernel
theorem dX10_judge_1 : decode cX10_judge 1 = .ok (.iconst 0, 1) := by decide +kernel
theorem dX10_judge_2 : decode cX10_judge 2 = .ok (.putfield 111, 3) := by decide +kernel
theorem dX10_judge_5 : decode cX10_judge 5 = .ok (.aload_n 0, 1) := by decide +kernel
theorem dX10_judge_6 : decode cX10_judge 6 = .ok (.iload_n 1, 1) := by decide +kernel
theorem dX10_judge_7 : decode cX10_judge 7 = .ok (.iload_n 2, 1) := by decide +kernel
theorem dX10_judge_8 : decode cX10_judge 8 = .ok (.invokevirtual 510, 3) := by decide +kernel
theorem dX10_judge_11 : decode cX10_judge 11 = .ok (.istore_n 3, 1) := by decide +kernel
theorem dX10_judge_12 : decode cX10_judge 12 = .ok (.iload_n 3, 1) := by decide +kernel
theorem dX10_judge_13 : decode cX10_judge 13 = .ok (.ifCond .eq 7, 3) := by decide +kernel
theorem dX10_judge_16 : decode cX10_judge 16 = .ok (.iload_n 3, 1) := by decide +kernel
theorem dX10_judge_17 : decode cX10_judge 17 = .ok (.goto 9, 3) := by decide +kernel
theorem dX10_judge_26 : decode cX10_judge 26 = .ok (.ireturn, 1) := by decide +kernel
theorem dX10_paid_0 : decode cX10_paid 0 = .ok (.aload_n 0, 1) := by decide +kernel
theorem dX10_paid_1 : decode cX10_paid 1 = .ok (.iconst 0, 1) := by decide +kernel
theorem dX10_paid_2 : decode cX10_paid 2 = .ok (.putfield 111, 3) := by decide +kernel
theorem dX10_paid_5 : decode cX10_paid 5 = .ok (.aload_n 0, 1) := by decide +kernel
theorem dX10_paid_6 : decode cX10_paid 6 = .ok (.iload_n 3, 1) := by decide +kernel
theorem dX10_paid_7 : decode cX10_paid 7 = .ok (.invokevirtual 350, 3) := by decide +kernel
theorem dX10_paid_10 : decode cX10_paid 10 = .ok (.ifCond .eq 21, 3) := by decide +kernel
theorem dX10_paid_31 : decode cX10_paid 31 = .ok (.ldc2_w 381, 3) := by decide +kernel
theorem dX10_paid_34 : decode cX10_paid 34 = .ok (.lreturn, 1) := by decide +kernel
theorem dX10_years_0 : decode cX10_years 0 = .ok (.aload_n 0, 1) := by decide +kernel
theorem dX10_years_1 : decode cX10_years 1 = .ok (.iconst 0, 1) := by decide +kernel
theorem dX10_years_2 : decode cX10_years 2 = .ok (.putfield 111, 3) := by decide +kernel
theorem dX10_years_5 : decode cX10_years 5 = .ok (.iload_n 1, 1) := by decide +kernel
theorem dX10_years_6 : decode cX10_years 6 = .ok (.invokestatic 492, 3) := by decide +kernel
theorem dX10_years_9 : decode cX10_years 9 = .ok (.ifCond .eq 40, 3) := by decide +kernel
theorem dX10_years_12 : decode cX10_years 12 = .ok (.iload_n 2, 1) := by decide +kernel
theorem dX10_years_13 : decode cX10_years 13 = .ok (.i2l, 1) := by decide +kernel
theorem dX10_years_14 : decode cX10_years 14 = .ok (.lconst 1, 1) := by decide +kernel
theorem dX10_years_15 : decode cX10_years 15 = .ok (.ldc2_w 282, 3) := by decide +kernel
theorem dX10_years_18 : decode cX10_years 18 = .ok (.invokestatic 116, 3) := by decide +kernel
theorem dX10_years_21 : decode cX10_years 21 = .ok (.ifCond .eq 28, 3) := by decide +kernel
theorem dX10_years_24 : decode cX10_years 24 = .ok (.aload_n 0, 1) := by decide +kernel
theorem dX10_years_25 : decode cX10_years 25 = .ok (.iload_n 3, 1) := by decide +kernel
theorem dX10_years_26 : decode cX10_years 26 = .ok (.iload 4, 2) := by decide +kernel
theorem dX10_years_28 : decode cX10_years 28 = .ok (.iload 5, 2) := by decide +kernel
theorem dX10_years_30 : decode cX10_years 30 = .ok (.invokevirtual 375, 3) := by decide +kernel
theorem dX10_years_33 : decode cX10_years 33 = .ok (.ifCond .eq 16, 3) := by decide +kernel
theorem dX10_years_49 : decode cX10_years 49 = .ok (.bipush (-2), 2) := by decide +kernel
theorem dX10_years_51 : decode cX10_years 51 = .ok (.ireturn, 1) := by decide +kernel
theorem sV_X10_323 : SiteV RX10 323 yX10_areTwo cX10_areTwo 3 (some .boolean) 2 := ⟨ml_X10_323, im_X10_areTwo, se_X10_areTwo, ini_X10, co_X10_areTwo, by decide +kernel⟩
theorem sV_X10_305 : SiteV RX10 305 yX10_isDay cX10_isDay 2 (some .boolean) 1 := ⟨ml_X10_305, im_X10_isDay, se_X10_isDay, ini_X10, co_X10_isDay, by decide +kernel⟩
theorem sV_X10_375 : SiteV RX10 375 yX10_isStore cX10_isStore 4 (some .boolean) 3 := ⟨ml_X10_375, im_X10_isStore, se_X10_isStore, ini_X10, co_X10_isStore, by decide +kernel⟩
theorem sV_X10_350 : SiteV RX10 350 yX10_isThing cX10_isThing 2 (some .boolean) 1 := ⟨ml_X10_350, im_X10_isThing, se_X10_isThing, ini_X10, co_X10_isThing, by decide +kernel⟩
theorem sV_X10_451 : SiteV RX10 451 yX10_whyNot cX10_whyNot 5 (some .int) 4 := ⟨ml_X10_451, im_X10_whyNot, se_X10_whyNot, ini_X10, co_X10_whyNot, by decide +kernel⟩
theorem sS_X10_492 : SiteS RX10 492 yX10_isSeed cX10_isSeed 1 (some .boolean) 1 := ⟨ml_X10_492, st_X10_isSeed, ini_X10, co_X10_isSeed, by decide +kernel⟩
theorem sV_X10_510 : SiteV RX10 510 yX10_whyNotJudged cX10_whyNotJudged 3 (some .int) 2 := ⟨ml_X10_510, im_X10_whyNotJudged, se_X10_whyNotJudged, ini_X10, co_X10_whyNotJudged, by decide +kernel⟩
set_option maxHeartbeats 4000000 in
set_option maxRecDepth 100000 in
theorem g_X10_shuts (l : Launch) (D : va_G) (cy : Nat → ClassId) (ma : Nat → Nat) (n0 : Int32) (n1 : Int32) (sz : Nat) : MM l yX10_shuts cX10_shuts 3 (some .long) 2 0 0 D cy [.ref (ma 0), .int n0, .int n1] (PW D [((ma 0), .inr (10, [.int 0, .ref (ma 1), .ref (ma 2), .ref (ma 3), .ref (ma 4), .ref (ma 5), .int 0, .int 0, .int 0, .int 0, .int 0, .long 0, .int 0, .int 0, .int 0, .int (-1), .ref (ma 16), .ref (ma 17), .ref (ma 18), .ref (ma 19), .ref (ma 20), .ref (ma 21), .ref (ma 22), .ref (ma 23), .ref (ma 24), .ref (ma 25), .ref (ma 26), .ref (ma 27), .ref (ma 28), .ref (ma 29), .ref (ma 30), .ref (ma 31), .ref (ma 32), .ref (ma 33), .ref (ma 34), .ref (ma 35), .ref (ma 36), .ref (ma 37), .ref (ma 38), .ref (ma 39), .ref (ma 40), .ref (ma 41), .long 0])), ((ma 20), .inl (cy 1, 5, .inl (fun _ => 0))), ((ma 18), .inl (cy 1, 5, .inl (fun _ => 0))), ((ma 17), .inl (cy 1, 20, .inl (fun _ => 0)))] sz) (QW D (va_A [((ma 0), .inr (10, [.int 0, .ref (ma 1), .ref (ma 2), .ref (ma 3), .ref (ma 4), .ref (ma 5), .int 0, .int 0, .int 0, .int 0, .int 0, .long 0, .int 0, .int 0, .int 0, .int (-1), .ref (ma 16), .ref (ma 17), .ref (ma 18), .ref (ma 19), .ref (ma 20), .ref (ma 21), .ref (ma 22), .ref (ma 23), .ref (ma 24), .ref (ma 25), .ref (ma 26), .ref (ma 27), .ref (ma 28), .ref (ma 29), .ref (ma 30), .ref (ma 31), .ref (ma 32), .ref (ma 33), .ref (ma 34), .ref (ma 35), .ref (ma 36), .ref (ma 37), .ref (ma 38), .ref (ma 39), .ref (ma 40), .ref (ma 41), .long 0])), ((ma 20), .inl (cy 1, 5, .inl (fun _ => 0))), ((ma 18), .inl (cy 1, 5, .inl (fun _ => 0))), ((ma 17), .inl (cy 1, 20, .inl (fun _ => 0)))] sz) (S := Unit) (fun v u => (∃ r : Int64, v = some (.long r) ∧ (r = (-2)))) (fun u => [])) (va_A [((ma 0), .inr (10, [.int 0, .ref (ma 1), .ref (ma 2), .ref (ma 3), .ref (ma 4), .ref (ma 5), .int 0, .int 0, .int 0, .int 0, .int 0, .long 0, .int 0, .int 0, .int 0, .int (-1), .ref (ma 16), .ref (ma 17), .ref (ma 18), .ref (ma 19), .ref (ma 20), .ref (ma 21), .ref (ma 22), .ref (ma 23), .ref (ma 24), .ref (ma 25), .ref (ma 26), .ref (ma 27), .ref (ma 28), .ref (ma 29), .ref (ma 30), .ref (ma 31), .ref (ma 32), .ref (ma 33), .ref (ma 34), .ref (ma 35), .ref (ma 36), .ref (ma 37), .ref (ma 38), .ref (ma 39), .ref (ma 40), .ref (ma 41), .long 0])), ((ma 20), .inl (cy 1, 5, .inl (fun _ => 0))), ((ma 18), .inl (cy 1, 5, .inl (fun _ => 0))), ((ma 17), .inl (cy 1, 20, .inl (fun _ => 0)))] sz) := by
  refine MM.of (by decide) (Nat.le_of_ble_eq_true rfl) ?_
  intro p e s m below meth c C hPW ls hl
  obtain ⟨hx, hb, hr, hml, hown, hts, hlocks, hK, hnm⟩ := C
  obtain ⟨rfl, hP, hD0⟩ := hPW
  have hD := hD0.self (sz := s.heap.size)
  have hA : ∀ q : Nat, s.heap.size ≤ q → (va_A [((ma 0), .inr (10, [.int 0, .ref (ma 1), .ref (ma 2), .ref (ma 3), .ref (ma 4), .ref (ma 5), .int 0, .int 0, .int 0, .int 0, .int 0, .long 0, .int 0, .int 0, .int 0, .int (-1), .ref (ma 16), .ref (ma 17), .ref (ma 18), .ref (ma 19), .ref (ma 20), .ref (ma 21), .ref (ma 22), .ref (ma 23), .ref (ma 24), .ref (ma 25), .ref (ma 26), .ref (ma 27), .ref (ma 28), .ref (ma 29), .ref (ma 30), .ref (ma 31), .ref (ma 32), .ref (ma 33), .ref (ma 34), .ref (ma 35), .ref (ma 36), .ref (ma 37), .ref (ma 38), .ref (ma 39), .ref (ma 40), .ref (ma 41), .long 0])), ((ma 20), .inl (cy 1, 5, .inl (fun _ => 0))), ((ma 18), .inl (cy 1, 5, .inl (fun _ => 0))), ((ma 17), .inl (cy 1, 20, .inl (fun _ => 0)))] s.heap.size) q := fun q h => Or.inr h
  have hS : va_S (va_A [((ma 0), .inr (10, [.int 0, .ref (ma 1), .ref (ma 2), .ref (ma 3), .ref (ma 4), .ref (ma 5), .int 0, .int 0, .int 0, .int 0, .int 0, .long 0, .int 0, .int 0, .int 0, .int (-1), .ref (ma 16), .ref (ma 17), .ref (ma 18), .ref (ma 19), .ref (ma 20), .ref (ma 21), .ref (ma 22), .ref (ma 23), .ref (ma 24), .ref (ma 25), .ref (ma 26), .ref (ma 27), .ref (ma 28), .ref (ma 29), .ref (ma 30), .ref (ma 31), .ref (ma 32), .ref (ma 33), .ref (ma 34), .ref (ma 35), .ref (ma 36), .ref (ma 37), .ref (ma 38), .ref (ma 39), .ref (ma 40), .ref (ma 41), .long 0])), ((ma 20), .inl (cy 1, 5, .inl (fun _ => 0))), ((ma 18), .inl (cy 1, 5, .inl (fun _ => 0))), ((ma 17), .inl (cy 1, 20, .inl (fun _ => 0)))] s.heap.size) s.heap s.heap [] := va_S.rf
  generalize va_A [((ma 0), .inr (10, [.int 0, .ref (ma 1), .ref (ma 2), .ref (ma 3), .ref (ma 4), .ref (ma 5), .int 0, .int 0, .int 0, .int 0, .int 0, .long 0, .int 0, .int 0, .int 0, .int (-1), .ref (ma 16), .ref (ma 17), .ref (ma 18), .ref (ma 19), .ref (ma 20), .ref (ma 21), .ref (ma 22), .ref (ma 23), .ref (ma 24), .ref (ma 25), .ref (ma 26), .ref (ma 27), .ref (ma 28), .ref (ma 29), .ref (ma 30), .ref (ma 31), .ref (ma 32), .ref (ma 33), .ref (ma 34), .ref (ma 35), .ref (ma 36), .ref (ma 37), .ref (ma 38), .ref (ma 39), .ref (ma 40), .ref (ma 41), .long 0])), ((ma 20), .inl (cy 1, 5, .inl (fun _ => 0))), ((ma 18), .inl (cy 1, 5, .inl (fun _ => 0))), ((ma 17), .inl (cy 1, 20, .inl (fun _ => 0)))] s.heap.size = A at hD hA hS ⊢
  have hP : va_P D vwCl [((ma 0), .inr (10, [.int 0, .ref (ma 1), .ref (ma 2), .ref (ma 3), .ref (ma 4), .ref (ma 5), .int 0, .int 0, .int 0, .int 0, .int 0, .long 0, .int 0, .int 0, .int 0, .int (-1), .ref (ma 16), .ref (ma 17), .ref (ma 18), .ref (ma 19), .ref (ma 20), .ref (ma 21), .ref (ma 22), .ref (ma 23), .ref (ma 24), .ref (ma 25), .ref (ma 26), .ref (ma 27), .ref (ma 28), .ref (ma 29), .ref (ma 30), .ref (ma 31), .ref (ma 32), .ref (ma 33), .ref (ma 34), .ref (ma 35), .ref (ma 36), .ref (ma 37), .ref (ma 38), .ref (ma 39), .ref (ma 40), .ref (ma 41), .long 0])), ((ma 20), .inl (cy 1, 5, .inl (fun _ => 0))), ((ma 18), .inl (cy 1, 5, .inl (fun _ => 0))), ((ma 17), .inl (cy 1, 20, .inl (fun _ => 0)))] s.heap := hP
  have hl : lv_has ls 3 [(0, .ref (ma 0)), (1, .int n0), (2, .int n1)] := hl
  refine lv_aload_n hx hb dX10_shuts_0 rfl (lv_at hl 0 rfl) ?_
  refine lv_iconst (v := 0) hx hb dX10_shuts_1 (by decide) ?_
  refine va_put (D := D) (ci := 10) (v := .int 0) (ty := tyX10 0) (C := RX10) (T := TX10) (N := 43) hx hb hts lay_X10 tyX10 tyX10_ok nmX10 hown hK.1 hP hD hS 0 rfl rfl 0 (by decide) (hts _ fl_X10_111) (fun _ h9 => h9) rfl (tyX10_ok 0 (by decide)) rfl rfl (Nat.le_of_ble_eq_true rfl) dX10_shuts_2 (fun H locs hP hD hS => ?_)
  have hP : va_P D vwCl [((ma 0), .inr (10, [.int 0, .ref (ma 1), .ref (ma 2), .ref (ma 3), .ref (ma 4), .ref (ma 5), .int 0, .int 0, .int 0, .int 0, .int 0, .long 0, .int 0, .int 0, .int 0, .int (-1), .ref (ma 16), .ref (ma 17), .ref (ma 18), .ref (ma 19), .ref (ma 20), .ref (ma 21), .ref (ma 22), .ref (ma 23), .ref (ma 24), .ref (ma 25), .ref (ma 26), .ref (ma 27), .ref (ma 28), .ref (ma 29), .ref (ma 30), .ref (ma 31), .ref (ma 32), .ref (ma 33), .ref (ma 34), .ref (ma 35), .ref (ma 36), .ref (ma 37), .ref (ma 38), .ref (ma 39), .ref (ma 40), .ref (ma 41), .long 0])), ((ma 20), .inl (cy 1, 5, .inl (fun _ => 0))), ((ma 18), .inl (cy 1, 5, .inl (fun _ => 0))), ((ma 17), .inl (cy 1, 20, .inl (fun _ => 0)))] H := hP
  have hD : va_D A [((ma 0), .inr (10, [.int 0, .ref (ma 1), .ref (ma 2), .ref (ma 3), .ref (ma 4), .ref (ma 5), .int 0, .int 0, .int 0, .int 0, .int 0, .long 0, .int 0, .int 0, .int 0, .int (-1), .ref (ma 16), .ref (ma 17), .ref (ma 18), .ref (ma 19), .ref (ma 20), .ref (ma 21), .ref (ma 22), .ref (ma 23), .ref (ma 24), .ref (ma 25), .ref (ma 26), .ref (ma 27), .ref (ma 28), .ref (ma 29), .ref (ma 30), .ref (ma 31), .ref (ma 32), .ref (ma 33), .ref (ma 34), .ref (ma 35), .ref (ma 36), .ref (ma 37), .ref (ma 38), .ref (ma 39), .ref (ma 40), .ref (ma 41), .long 0])), ((ma 20), .inl (cy 1, 5, .inl (fun _ => 0))), ((ma 18), .inl (cy 1, 5, .inl (fun _ => 0))), ((ma 17), .inl (cy 1, 20, .inl (fun _ => 0)))] := hD
  refine lv_aload_n hx hb dX10_shuts_5 rfl (lv_at hl 0 rfl) ?_
  refine lv_iload_n hx hb dX10_shuts_6 rfl (lv_at hl 1 rfl) ?_
  refine pu_calli (runV (As := [.int n0]) (rest := []) ⟨hx, hb, hml, hown, hts⟩ (m_isValley l D cy ma n0 ) sV_X10_297 hK (va_recv hK.1 hP (ci := 10) (q0 := 0) rfl rfl) (hP.sub (ws' := [((ma 0), .inr (10, [.int 0, .ref (ma 1), .ref (ma 2), .ref (ma 3), .ref (ma 4), .ref (ma 5), .int 0, .int 0, .int 0, .int 0, .int 0, .long 0, .int 0, .int 0, .int 0, .int (-1), .ref (ma 16), .ref (ma 17), .ref (ma 18), .ref (ma 19), .ref (ma 20), .ref (ma 21), .ref (ma 22), .ref (ma 23), .ref (ma 24), .ref (ma 25), .ref (ma 26), .ref (ma 27), .ref (ma 28), .ref (ma 29), .ref (ma 30), .ref (ma 31), .ref (ma 32), .ref (ma 33), .ref (ma 34), .ref (ma 35), .ref (ma 36), .ref (ma 37), .ref (ma 38), .ref (ma 39), .ref (ma 40), .ref (ma 41), .long 0])), ((ma 20), .inl (cy 1, 5, .inl (fun _ => 0)))]) [0, 1] rfl) ⟨Nat.le_of_ble_eq_true rfl, Nat.le_of_ble_eq_true rfl⟩ rfl hl.1 rfl (Nat.le_of_ble_eq_true rfl) dX10_shuts_7 ⟨Nat.le_of_ble_eq_true rfl, Nat.le_of_ble_eq_true rfl⟩) (fun r_1 hr_1 => ?_)
  have er_1 := hr_1
  subst er_1
  refine W.eq (g2 := F0 m 10 ls [.int 0]) rfl ?_
  refine lv_if_eq (tgt := 27) hx hb dX10_shuts_10 (by decide) (fun _ => ?_) (fun c_2 => absurd (by decide) c_2)
  refine lv_ldc2 (v := (-2)) hx hb hown (hts _ kl_X10_300) dX10_shuts_27 ?_
  exact ret_l hx hb hr hlocks ⟨⟨hS.1, hS.2.1⟩, (), ⟨_, rfl, rfl⟩, hP.sub [] rfl, hD.sub [] (by decide) rfl⟩ hS.2.2 (Nat.le_of_ble_eq_true rfl) (Nat.le_of_ble_eq_true rfl) dX10_shuts_30
set_option maxHeartbeats 4000000 in
set_option maxRecDepth 100000 in
theorem g_X10_by (l : Launch) (D : va_G) (cy : Nat → ClassId) (ma : Nat → Nat) (n0 : Int32) (n1 : Int32) (sz : Nat) : MM l yX10_by cX10_by 3 (some .long) 2 0 0 D cy [.ref (ma 0), .int n0, .int n1] (PW D [((ma 0), .inr (10, [.int 0, .ref (ma 1), .ref (ma 2), .ref (ma 3), .ref (ma 4), .ref (ma 5), .int 0, .int 0, .int 0, .int 0, .int 0, .long 0, .int 0, .int 0, .int 0, .int (-1), .ref (ma 16), .ref (ma 17), .ref (ma 18), .ref (ma 19), .ref (ma 20), .ref (ma 21), .ref (ma 22), .ref (ma 23), .ref (ma 24), .ref (ma 25), .ref (ma 26), .ref (ma 27), .ref (ma 28), .ref (ma 29), .ref (ma 30), .ref (ma 31), .ref (ma 32), .ref (ma 33), .ref (ma 34), .ref (ma 35), .ref (ma 36), .ref (ma 37), .ref (ma 38), .ref (ma 39), .ref (ma 40), .ref (ma 41), .long 0])), ((ma 20), .inl (cy 1, 5, .inl (fun _ => 0))), ((ma 18), .inl (cy 1, 5, .inl (fun _ => 0))), ((ma 17), .inl (cy 1, 20, .inl (fun _ => 0)))] sz) (QW D (va_A [((ma 0), .inr (10, [.int 0, .ref (ma 1), .ref (ma 2), .ref (ma 3), .ref (ma 4), .ref (ma 5), .int 0, .int 0, .int 0, .int 0, .int 0, .long 0, .int 0, .int 0, .int 0, .int (-1), .ref (ma 16), .ref (ma 17), .ref (ma 18), .ref (ma 19), .ref (ma 20), .ref (ma 21), .ref (ma 22), .ref (ma 23), .ref (ma 24), .ref (ma 25), .ref (ma 26), .ref (ma 27), .ref (ma 28), .ref (ma 29), .ref (ma 30), .ref (ma 31), .ref (ma 32), .ref (ma 33), .ref (ma 34), .ref (ma 35), .ref (ma 36), .ref (ma 37), .ref (ma 38), .ref (ma 39), .ref (ma 40), .ref (ma 41), .long 0])), ((ma 20), .inl (cy 1, 5, .inl (fun _ => 0))), ((ma 18), .inl (cy 1, 5, .inl (fun _ => 0))), ((ma 17), .inl (cy 1, 20, .inl (fun _ => 0)))] sz) (S := Unit) (fun v u => (∃ r : Int64, v = some (.long r) ∧ (r = (-2)))) (fun u => [])) (va_A [((ma 0), .inr (10, [.int 0, .ref (ma 1), .ref (ma 2), .ref (ma 3), .ref (ma 4), .ref (ma 5), .int 0, .int 0, .int 0, .int 0, .int 0, .long 0, .int 0, .int 0, .int 0, .int (-1), .ref (ma 16), .ref (ma 17), .ref (ma 18), .ref (ma 19), .ref (ma 20), .ref (ma 21), .ref (ma 22), .ref (ma 23), .ref (ma 24), .ref (ma 25), .ref (ma 26), .ref (ma 27), .ref (ma 28), .ref (ma 29), .ref (ma 30), .ref (ma 31), .ref (ma 32), .ref (ma 33), .ref (ma 34), .ref (ma 35), .ref (ma 36), .ref (ma 37), .ref (ma 38), .ref (ma 39), .ref (ma 40), .ref (ma 41), .long 0])), ((ma 20), .inl (cy 1, 5, .inl (fun _ => 0))), ((ma 18), .inl (cy 1, 5, .inl (fun _ => 0))), ((ma 17), .inl (cy 1, 20, .inl (fun _ => 0)))] sz) := by
  refine MM.of (by decide) (Nat.le_of_ble_eq_true rfl) ?_
  intro p e s m below meth c C hPW ls hl
  obtain ⟨hx, hb, hr, hml, hown, hts, hlocks, hK, hnm⟩ := C
  obtain ⟨rfl, hP, hD0⟩ := hPW
  have hD := hD0.self (sz := s.heap.size)
  have hA : ∀ q : Nat, s.heap.size ≤ q → (va_A [((ma 0), .inr (10, [.int 0, .ref (ma 1), .ref (ma 2), .ref (ma 3), .ref (ma 4), .ref (ma 5), .int 0, .int 0, .int 0, .int 0, .int 0, .long 0, .int 0, .int 0, .int 0, .int (-1), .ref (ma 16), .ref (ma 17), .ref (ma 18), .ref (ma 19), .ref (ma 20), .ref (ma 21), .ref (ma 22), .ref (ma 23), .ref (ma 24), .ref (ma 25), .ref (ma 26), .ref (ma 27), .ref (ma 28), .ref (ma 29), .ref (ma 30), .ref (ma 31), .ref (ma 32), .ref (ma 33), .ref (ma 34), .ref (ma 35), .ref (ma 36), .ref (ma 37), .ref (ma 38), .ref (ma 39), .ref (ma 40), .ref (ma 41), .long 0])), ((ma 20), .inl (cy 1, 5, .inl (fun _ => 0))), ((ma 18), .inl (cy 1, 5, .inl (fun _ => 0))), ((ma 17), .inl (cy 1, 20, .inl (fun _ => 0)))] s.heap.size) q := fun q h => Or.inr h
  have hS : va_S (va_A [((ma 0), .inr (10, [.int 0, .ref (ma 1), .ref (ma 2), .ref (ma 3), .ref (ma 4), .ref (ma 5), .int 0, .int 0, .int 0, .int 0, .int 0, .long 0, .int 0, .int 0, .int 0, .int (-1), .ref (ma 16), .ref (ma 17), .ref (ma 18), .ref (ma 19), .ref (ma 20), .ref (ma 21), .ref (ma 22), .ref (ma 23), .ref (ma 24), .ref (ma 25), .ref (ma 26), .ref (ma 27), .ref (ma 28), .ref (ma 29), .ref (ma 30), .ref (ma 31), .ref (ma 32), .ref (ma 33), .ref (ma 34), .ref (ma 35), .ref (ma 36), .ref (ma 37), .ref (ma 38), .ref (ma 39), .ref (ma 40), .ref (ma 41), .long 0])), ((ma 20), .inl (cy 1, 5, .inl (fun _ => 0))), ((ma 18), .inl (cy 1, 5, .inl (fun _ => 0))), ((ma 17), .inl (cy 1, 20, .inl (fun _ => 0)))] s.heap.size) s.heap s.heap [] := va_S.rf
  generalize va_A [((ma 0), .inr (10, [.int 0, .ref (ma 1), .ref (ma 2), .ref (ma 3), .ref (ma 4), .ref (ma 5), .int 0, .int 0, .int 0, .int 0, .int 0, .long 0, .int 0, .int 0, .int 0, .int (-1), .ref (ma 16), .ref (ma 17), .ref (ma 18), .ref (ma 19), .ref (ma 20), .ref (ma 21), .ref (ma 22), .ref (ma 23), .ref (ma 24), .ref (ma 25), .ref (ma 26), .ref (ma 27), .ref (ma 28), .ref (ma 29), .ref (ma 30), .ref (ma 31), .ref (ma 32), .ref (ma 33), .ref (ma 34), .ref (ma 35), .ref (ma 36), .ref (ma 37), .ref (ma 38), .ref (ma 39), .ref (ma 40), .ref (ma 41), .long 0])), ((ma 20), .inl (cy 1, 5, .inl (fun _ => 0))), ((ma 18), .inl (cy 1, 5, .inl (fun _ => 0))), ((ma 17), .inl (cy 1, 20, .inl (fun _ => 0)))] s.heap.size = A at hD hA hS ⊢
  have hP : va_P D vwCl [((ma 0), .inr (10, [.int 0, .ref (ma 1), .ref (ma 2), .ref (ma 3), .ref (ma 4), .ref (ma 5), .int 0, .int 0, .int 0, .int 0, .int 0, .long 0, .int 0, .int 0, .int 0, .int (-1), .ref (ma 16), .ref (ma 17), .ref (ma 18), .ref (ma 19), .ref (ma 20), .ref (ma 21), .ref (ma 22), .ref (ma 23), .ref (ma 24), .ref (ma 25), .ref (ma 26), .ref (ma 27), .ref (ma 28), .ref (ma 29), .ref (ma 30), .ref (ma 31), .ref (ma 32), .ref (ma 33), .ref (ma 34), .ref (ma 35), .ref (ma 36), .ref (ma 37), .ref (ma 38), .ref (ma 39), .ref (ma 40), .ref (ma 41), .long 0])), ((ma 20), .inl (cy 1, 5, .inl (fun _ => 0))), ((ma 18), .inl (cy 1, 5, .inl (fun _ => 0))), ((ma 17), .inl (cy 1, 20, .inl (fun _ => 0)))] s.heap := hP
  have hl : lv_has ls 3 [(0, .ref (ma 0)), (1, .int n0), (2, .int n1)] := hl
  refine lv_aload_n hx hb dX10_by_0 rfl (lv_at hl 0 rfl) ?_
  refine lv_iconst (v := 0) hx hb dX10_by_1 (by decide) ?_
  refine va_put (D := D) (ci := 10) (v := .int 0) (ty := tyX10 0) (C := RX10) (T := TX10) (N := 43) hx hb hts lay_X10 tyX10 tyX10_ok nmX10 hown hK.1 hP hD hS 0 rfl rfl 0 (by decide) (hts _ fl_X10_111) (fun _ h9 => h9) rfl (tyX10_ok 0 (by decide)) rfl rfl (Nat.le_of_ble_eq_true rfl) dX10_by_2 (fun H locs hP hD hS => ?_)
  have hP : va_P D vwCl [((ma 0), .inr (10, [.int 0, .ref (ma 1), .ref (ma 2), .ref (ma 3), .ref (ma 4), .ref (ma 5), .int 0, .int 0, .int 0, .int 0, .int 0, .long 0, .int 0, .int 0, .int 0, .int (-1), .ref (ma 16), .ref (ma 17), .ref (ma 18), .ref (ma 19), .ref (ma 20), .ref (ma 21), .ref (ma 22), .ref (ma 23), .ref (ma 24), .ref (ma 25), .ref (ma 26), .ref (ma 27), .ref (ma 28), .ref (ma 29), .ref (ma 30), .ref (ma 31), .ref (ma 32), .ref (ma 33), .ref (ma 34), .ref (ma 35), .ref (ma 36), .ref (ma 37), .ref (ma 38), .ref (ma 39), .ref (ma 40), .ref (ma 41), .long 0])), ((ma 20), .inl (cy 1, 5, .inl (fun _ => 0))), ((ma 18), .inl (cy 1, 5, .inl (fun _ => 0))), ((ma 17), .inl (cy 1, 20, .inl (fun _ => 0)))] H := hP
  have hD : va_D A [((ma 0), .inr (10, [.int 0, .ref (ma 1), .ref (ma 2), .ref (ma 3), .ref (ma 4), .ref (ma 5), .int 0, .int 0, .int 0, .int 0, .int 0, .long 0, .int 0, .int 0, .int 0, .int (-1), .ref (ma 16), .ref (ma 17), .ref (ma 18), .ref (ma 19), .ref (ma 20), .ref (ma 21), .ref (ma 22), .ref (ma 23), .ref (ma 24), .ref (ma 25), .ref (ma 26), .ref (ma 27), .ref (ma 28), .ref (ma 29), .ref (ma 30), .ref (ma 31), .ref (ma 32), .ref (ma 33), .ref (ma 34), .ref (ma 35), .ref (ma 36), .ref (ma 37), .ref (ma 38), .ref (ma 39), .ref (ma 40), .ref (ma 41), .long 0])), ((ma 20), .inl (cy 1, 5, .inl (fun _ => 0))), ((ma 18), .inl (cy 1, 5, .inl (fun _ => 0))), ((ma 17), .inl (cy 1, 20, .inl (fun _ => 0)))] := hD
  refine lv_aload_n hx hb dX10_by_5 rfl (lv_at hl 0 rfl) ?_
  refine lv_iload_n hx hb dX10_by_6 rfl (lv_at hl 1 rfl) ?_
  refine pu_calli (runV (As := [.int n0]) (rest := []) ⟨hx, hb, hml, hown, hts⟩ (m_isValley l D cy ma n0 ) sV_X10_297 hK (va_recv hK.1 hP (ci := 10) (q0 := 0) rfl rfl) (hP.sub (ws' := [((ma 0), .inr (10, [.int 0, .ref (ma 1), .ref (ma 2), .ref (ma 3), .ref (ma 4), .ref (ma 5), .int 0, .int 0, .int 0, .int 0, .int 0, .long 0, .int 0, .int 0, .int 0, .int (-1), .ref (ma 16), .ref (ma 17), .ref (ma 18), .ref (ma 19), .ref (ma 20), .ref (ma 21), .ref (ma 22), .ref (ma 23), .ref (ma 24), .ref (ma 25), .ref (ma 26), .ref (ma 27), .ref (ma 28), .ref (ma 29), .ref (ma 30), .ref (ma 31), .ref (ma 32), .ref (ma 33), .ref (ma 34), .ref (ma 35), .ref (ma 36), .ref (ma 37), .ref (ma 38), .ref (ma 39), .ref (ma 40), .ref (ma 41), .long 0])), ((ma 20), .inl (cy 1, 5, .inl (fun _ => 0)))]) [0, 1] rfl) ⟨Nat.le_of_ble_eq_true rfl, Nat.le_of_ble_eq_true rfl⟩ rfl hl.1 rfl (Nat.le_of_ble_eq_true rfl) dX10_by_7 ⟨Nat.le_of_ble_eq_true rfl, Nat.le_of_ble_eq_true rfl⟩) (fun r_1 hr_1 => ?_)
  have er_1 := hr_1
  subst er_1
  refine W.eq (g2 := F0 m 10 ls [.int 0]) rfl ?_
  refine lv_if_eq (tgt := 21) hx hb dX10_by_10 (by decide) (fun _ => ?_) (fun c_2 => absurd (by decide) c_2)
  refine lv_ldc2 (v := (-2)) hx hb hown (hts _ kl_X10_300) dX10_by_21 ?_
  exact ret_l hx hb hr hlocks ⟨⟨hS.1, hS.2.1⟩, (), ⟨_, rfl, rfl⟩, hP.sub [] rfl, hD.sub [] (by decide) rfl⟩ hS.2.2 (Nat.le_of_ble_eq_true rfl) (Nat.le_of_ble_eq_true rfl) dX10_by_24
set_option maxHeartbeats 4000000 in
set_option maxRecDepth 100000 in
theorem g_X10_both (l : Launch) (D : va_G) (cy : Nat → ClassId) (ma : Nat → Nat) (n0 : Int32) (n1 : Int32) (n2 : Int32) (n3 : Int32) (sz : Nat) : MM l yX10_both cX10_both 5 (some .long) 3 0 0 D cy [.ref (ma 0), .int n0, .int n1, .int n2, .int n3] (PW D [((ma 0), .inr (10, [.int 0, .ref (ma 1), .ref (ma 2), .ref (ma 3), .ref (ma 4), .ref (ma 5), .int 0, .int 0, .int 0, .int 0, .int 0, .long 0, .int 0, .int 0, .int 0, .int (-1), .ref (ma 16), .ref (ma 17), .ref (ma 18), .ref (ma 19), .ref (ma 20), .ref (ma 21), .ref (ma 22), .ref (ma 23), .ref (ma 24), .ref (ma 25), .ref (ma 26), .ref (ma 27), .ref (ma 28), .ref (ma 29), .ref (ma 30), .ref (ma 31), .ref (ma 32), .ref (ma 33), .ref (ma 34), .ref (ma 35), .ref (ma 36), .ref (ma 37), .ref (ma 38), .ref (ma 39), .ref (ma 40), .ref (ma 41), .long 0])), ((ma 20), .inl (cy 1, 5, .inl (fun _ => 0))), ((ma 18), .inl (cy 1, 5, .inl (fun _ => 0))), ((ma 17), .inl (cy 1, 20, .inl (fun _ => 0)))] sz) (QW D (va_A [((ma 0), .inr (10, [.int 0, .ref (ma 1), .ref (ma 2), .ref (ma 3), .ref (ma 4), .ref (ma 5), .int 0, .int 0, .int 0, .int 0, .int 0, .long 0, .int 0, .int 0, .int 0, .int (-1), .ref (ma 16), .ref (ma 17), .ref (ma 18), .ref (ma 19), .ref (ma 20), .ref (ma 21), .ref (ma 22), .ref (ma 23), .ref (ma 24), .ref (ma 25), .ref (ma 26), .ref (ma 27), .ref (ma 28), .ref (ma 29), .ref (ma 30), .ref (ma 31), .ref (ma 32), .ref (ma 33), .ref (ma 34), .ref (ma 35), .ref (ma 36), .ref (ma 37), .ref (ma 38), .ref (ma 39), .ref (ma 40), .ref (ma 41), .long 0])), ((ma 20), .inl (cy 1, 5, .inl (fun _ => 0))), ((ma 18), .inl (cy 1, 5, .inl (fun _ => 0))), ((ma 17), .inl (cy 1, 20, .inl (fun _ => 0)))] sz) (S := Unit) (fun v u => (∃ r : Int64, v = some (.long r) ∧ (r = (-2)))) (fun u => [])) (va_A [((ma 0), .inr (10, [.int 0, .ref (ma 1), .ref (ma 2), .ref (ma 3), .ref (ma 4), .ref (ma 5), .int 0, .int 0, .int 0, .int 0, .int 0, .long 0, .int 0, .int 0, .int 0, .int (-1), .ref (ma 16), .ref (ma 17), .ref (ma 18), .ref (ma 19), .ref (ma 20), .ref (ma 21), .ref (ma 22), .ref (ma 23), .ref (ma 24), .ref (ma 25), .ref (ma 26), .ref (ma 27), .ref (ma 28), .ref (ma 29), .ref (ma 30), .ref (ma 31), .ref (ma 32), .ref (ma 33), .ref (ma 34), .ref (ma 35), .ref (ma 36), .ref (ma 37), .ref (ma 38), .ref (ma 39), .ref (ma 40), .ref (ma 41), .long 0])), ((ma 20), .inl (cy 1, 5, .inl (fun _ => 0))), ((ma 18), .inl (cy 1, 5, .inl (fun _ => 0))), ((ma 17), .inl (cy 1, 20, .inl (fun _ => 0)))] sz) := by
  refine MM.of (by decide) (Nat.le_of_ble_eq_true rfl) ?_
  intro p e s m below meth c C hPW ls hl
  obtain ⟨hx, hb, hr, hml, hown, hts, hlocks, hK, hnm⟩ := C
  obtain ⟨rfl, hP, hD0⟩ := hPW
  have hD := hD0.self (sz := s.heap.size)
  have hA : ∀ q : Nat, s.heap.size ≤ q → (va_A [((ma 0), .inr (10, [.int 0, .ref (ma 1), .ref (ma 2), .ref (ma 3), .ref (ma 4), .ref (ma 5), .int 0, .int 0, .int 0, .int 0, .int 0, .long 0, .int 0, .int 0, .int 0, .int (-1), .ref (ma 16), .ref (ma 17), .ref (ma 18), .ref (ma 19), .ref (ma 20), .ref (ma 21), .ref (ma 22), .ref (ma 23), .ref (ma 24), .ref (ma 25), .ref (ma 26), .ref (ma 27), .ref (ma 28), .ref (ma 29), .ref (ma 30), .ref (ma 31), .ref (ma 32), .ref (ma 33), .ref (ma 34), .ref (ma 35), .ref (ma 36), .ref (ma 37), .ref (ma 38), .ref (ma 39), .ref (ma 40), .ref (ma 41), .long 0])), ((ma 20), .inl (cy 1, 5, .inl (fun _ => 0))), ((ma 18), .inl (cy 1, 5, .inl (fun _ => 0))), ((ma 17), .inl (cy 1, 20, .inl (fun _ => 0)))] s.heap.size) q := fun q h => Or.inr h
  have hS : va_S (va_A [((ma 0), .inr (10, [.int 0, .ref (ma 1), .ref (ma 2), .ref (ma 3), .ref (ma 4), .ref (ma 5), .int 0, .int 0, .int 0, .int 0, .int 0, .long 0, .int 0, .int 0, .int 0, .int (-1), .ref (ma 16), .ref (ma 17), .ref (ma 18), .ref (ma 19), .ref (ma 20), .ref (ma 21), .ref (ma 22), .ref (ma 23), .ref (ma 24), .ref (ma 25), .ref (ma 26), .ref (ma 27), .ref (ma 28), .ref (ma 29), .ref (ma 30), .ref (ma 31), .ref (ma 32), .ref (ma 33), .ref (ma 34), .ref (ma 35), .ref (ma 36), .ref (ma 37), .ref (ma 38), .ref (ma 39), .ref (ma 40), .ref (ma 41), .long 0])), ((ma 20), .inl (cy 1, 5, .inl (fun _ => 0))), ((ma 18), .inl (cy 1, 5, .inl (fun _ => 0))), ((ma 17), .inl (cy 1, 20, .inl (fun _ => 0)))] s.heap.size) s.heap s.heap [] := va_S.rf
  generalize va_A [((ma 0), .inr (10, [.int 0, .ref (ma 1), .ref (ma 2), .ref (ma 3), .ref (ma 4), .ref (ma 5), .int 0, .int 0, .int 0, .int 0, .int 0, .long 0, .int 0, .int 0, .int 0, .int (-1), .ref (ma 16), .ref (ma 17), .ref (ma 18), .ref (ma 19), .ref (ma 20), .ref (ma 21), .ref (ma 22), .ref (ma 23), .ref (ma 24), .ref (ma 25), .ref (ma 26), .ref (ma 27), .ref (ma 28), .ref (ma 29), .ref (ma 30), .ref (ma 31), .ref (ma 32), .ref (ma 33), .ref (ma 34), .ref (ma 35), .ref (ma 36), .ref (ma 37), .ref (ma 38), .ref (ma 39), .ref (ma 40), .ref (ma 41), .long 0])), ((ma 20), .inl (cy 1, 5, .inl (fun _ => 0))), ((ma 18), .inl (cy 1, 5, .inl (fun _ => 0))), ((ma 17), .inl (cy 1, 20, .inl (fun _ => 0)))] s.heap.size = A at hD hA hS ⊢
  have hP : va_P D vwCl [((ma 0), .inr (10, [.int 0, .ref (ma 1), .ref (ma 2), .ref (ma 3), .ref (ma 4), .ref (ma 5), .int 0, .int 0, .int 0, .int 0, .int 0, .long 0, .int 0, .int 0, .int 0, .int (-1), .ref (ma 16), .ref (ma 17), .ref (ma 18), .ref (ma 19), .ref (ma 20), .ref (ma 21), .ref (ma 22), .ref (ma 23), .ref (ma 24), .ref (ma 25), .ref (ma 26), .ref (ma 27), .ref (ma 28), .ref (ma 29), .ref (ma 30), .ref (ma 31), .ref (ma 32), .ref (ma 33), .ref (ma 34), .ref (ma 35), .ref (ma 36), .ref (ma 37), .ref (ma 38), .ref (ma 39), .ref (ma 40), .ref (ma 41), .long 0])), ((ma 20), .inl (cy 1, 5, .inl (fun _ => 0))), ((ma 18), .inl (cy 1, 5, .inl (fun _ => 0))), ((ma 17), .inl (cy 1, 20, .inl (fun _ => 0)))] s.heap := hP
  have hl : lv_has ls 5 [(0, .ref (ma 0)), (1, .int n0), (2, .int n1), (3, .int n2), (4, .int n3)] := hl
  refine lv_aload_n hx hb dX10_both_0 rfl (lv_at hl 0 rfl) ?_
  refine lv_iconst (v := 0) hx hb dX10_both_1 (by decide) ?_
  refine va_put (D := D) (ci := 10) (v := .int 0) (ty := tyX10 0) (C := RX10) (T := TX10) (N := 43) hx hb hts lay_X10 tyX10 tyX10_ok nmX10 hown hK.1 hP hD hS 0 rfl rfl 0 (by decide) (hts _ fl_X10_111) (fun _ h9 => h9) rfl (tyX10_ok 0 (by decide)) rfl rfl (Nat.le_of_ble_eq_true rfl) dX10_both_2 (fun H locs hP hD hS => ?_)
  have hP : va_P D vwCl [((ma 0), .inr (10, [.int 0, .ref (ma 1), .ref (ma 2), .ref (ma 3), .ref (ma 4), .ref (ma 5), .int 0, .int 0, .int 0, .int 0, .int 0, .long 0, .int 0, .int 0, .int 0, .int (-1), .ref (ma 16), .ref (ma 17), .ref (ma 18), .ref (ma 19), .ref (ma 20), .ref (ma 21), .ref (ma 22), .ref (ma 23), .ref (ma 24), .ref (ma 25), .ref (ma 26), .ref (ma 27), .ref (ma 28), .ref (ma 29), .ref (ma 30), .ref (ma 31), .ref (ma 32), .ref (ma 33), .ref (ma 34), .ref (ma 35), .ref (ma 36), .ref (ma 37), .ref (ma 38), .ref (ma 39), .ref (ma 40), .ref (ma 41), .long 0])), ((ma 20), .inl (cy 1, 5, .inl (fun _ => 0))), ((ma 18), .inl (cy 1, 5, .inl (fun _ => 0))), ((ma 17), .inl (cy 1, 20, .inl (fun _ => 0)))] H := hP
  have hD : va_D A [((ma 0), .inr (10, [.int 0, .ref (ma 1), .ref (ma 2), .ref (ma 3), .ref (ma 4), .ref (ma 5), .int 0, .int 0, .int 0, .int 0, .int 0, .long 0, .int 0, .int 0, .int 0, .int (-1), .ref (ma 16), .ref (ma 17), .ref (ma 18), .ref (ma 19), .ref (ma 20), .ref (ma 21), .ref (ma 22), .ref (ma 23), .ref (ma 24), .ref (ma 25), .ref (ma 26), .ref (ma 27), .ref (ma 28), .ref (ma 29), .ref (ma 30), .ref (ma 31), .ref (ma 32), .ref (ma 33), .ref (ma 34), .ref (ma 35), .ref (ma 36), .ref (ma 37), .ref (ma 38), .ref (ma 39), .ref (ma 40), .ref (ma 41), .long 0])), ((ma 20), .inl (cy 1, 5, .inl (fun _ => 0))), ((ma 18), .inl (cy 1, 5, .inl (fun _ => 0))), ((ma 17), .inl (cy 1, 20, .inl (fun _ => 0)))] := hD
  refine lv_aload_n hx hb dX10_both_5 rfl (lv_at hl 0 rfl) ?_
  refine lv_iload_n hx hb dX10_both_6 rfl (lv_at hl 1 rfl) ?_
  refine lv_iload_n hx hb dX10_both_7 rfl (lv_at hl 3 rfl) ?_
  refine pu_calli (runV (As := [.int n0, .int n2]) (rest := []) ⟨hx, hb, hml, hown, hts⟩ (m_areTwo l D cy ma n0 n2 ) sV_X10_323 hK (va_recv hK.1 hP (ci := 10) (q0 := 0) rfl rfl) (hP.sub (ws' := [((ma 0), .inr (10, [.int 0, .ref (ma 1), .ref (ma 2), .ref (ma 3), .ref (ma 4), .ref (ma 5), .int 0, .int 0, .int 0, .int 0, .int 0, .long 0, .int 0, .int 0, .int 0, .int (-1), .ref (ma 16), .ref (ma 17), .ref (ma 18), .ref (ma 19), .ref (ma 20), .ref (ma 21), .ref (ma 22), .ref (ma 23), .ref (ma 24), .ref (ma 25), .ref (ma 26), .ref (ma 27), .ref (ma 28), .ref (ma 29), .ref (ma 30), .ref (ma 31), .ref (ma 32), .ref (ma 33), .ref (ma 34), .ref (ma 35), .ref (ma 36), .ref (ma 37), .ref (ma 38), .ref (ma 39), .ref (ma 40), .ref (ma 41), .long 0])), ((ma 20), .inl (cy 1, 5, .inl (fun _ => 0)))]) [0, 1] rfl) ⟨Nat.le_of_ble_eq_true rfl, Nat.le_of_ble_eq_true rfl⟩ rfl hl.1 rfl (Nat.le_of_ble_eq_true rfl) dX10_both_8 ⟨Nat.le_of_ble_eq_true rfl, Nat.le_of_ble_eq_true rfl⟩) (fun r_1 hr_1 => ?_)
  have er_1 := hr_1
  subst er_1
  refine W.eq (g2 := F0 m 11 ls [.int 0]) rfl ?_
  refine lv_if_eq (tgt := 43) hx hb dX10_both_11 (by decide) (fun _ => ?_) (fun c_2 => absurd (by decide) c_2)
  refine lv_ldc2 (v := (-2)) hx hb hown (hts _ kl_X10_300) dX10_both_43 ?_
  exact ret_l hx hb hr hlocks ⟨⟨hS.1, hS.2.1⟩, (), ⟨_, rfl, rfl⟩, hP.sub [] rfl, hD.sub [] (by decide) rfl⟩ hS.2.2 (Nat.le_of_ble_eq_true rfl) (Nat.le_of_ble_eq_true rfl) dX10_both_46
set_option maxHeartbeats 4000000 in
set_option maxRecDepth 100000 in
theorem g_X10_together (l : Launch) (D : va_G) (cy : Nat → ClassId) (ma : Nat → Nat) (n0 : Int32) (n1 : Int32) (sz : Nat) : MM l yX10_together cX10_together 6 (some .long) 2 0 0 D cy [.ref (ma 0), .int n0, .int n1] (PW D [((ma 0), .inr (10, [.int 0, .ref (ma 1), .ref (ma 2), .ref (ma 3), .ref (ma 4), .ref (ma 5), .int 0, .int 0, .int 0, .int 0, .int 0, .long 0, .int 0, .int 0, .int 0, .int (-1), .ref (ma 16), .ref (ma 17), .ref (ma 18), .ref (ma 19), .ref (ma 20), .ref (ma 21), .ref (ma 22), .ref (ma 23), .ref (ma 24), .ref (ma 25), .ref (ma 26), .ref (ma 27), .ref (ma 28), .ref (ma 29), .ref (ma 30), .ref (ma 31), .ref (ma 32), .ref (ma 33), .ref (ma 34), .ref (ma 35), .ref (ma 36), .ref (ma 37), .ref (ma 38), .ref (ma 39), .ref (ma 40), .ref (ma 41), .long 0])), ((ma 20), .inl (cy 1, 5, .inl (fun _ => 0))), ((ma 18), .inl (cy 1, 5, .inl (fun _ => 0))), ((ma 17), .inl (cy 1, 20, .inl (fun _ => 0)))] sz) (QW D (va_A [((ma 0), .inr (10, [.int 0, .ref (ma 1), .ref (ma 2), .ref (ma 3), .ref (ma 4), .ref (ma 5), .int 0, .int 0, .int 0, .int 0, .int 0, .long 0, .int 0, .int 0, .int 0, .int (-1), .ref (ma 16), .ref (ma 17), .ref (ma 18), .ref (ma 19), .ref (ma 20), .ref (ma 21), .ref (ma 22), .ref (ma 23), .ref (ma 24), .ref (ma 25), .ref (ma 26), .ref (ma 27), .ref (ma 28), .ref (ma 29), .ref (ma 30), .ref (ma 31), .ref (ma 32), .ref (ma 33), .ref (ma 34), .ref (ma 35), .ref (ma 36), .ref (ma 37), .ref (ma 38), .ref (ma 39), .ref (ma 40), .ref (ma 41), .long 0])), ((ma 20), .inl (cy 1, 5, .inl (fun _ => 0))), ((ma 18), .inl (cy 1, 5, .inl (fun _ => 0))), ((ma 17), .inl (cy 1, 20, .inl (fun _ => 0)))] sz) (S := Unit) (fun v u => (∃ r : Int64, v = some (.long r) ∧ (r = (-2)))) (fun u => [])) (va_A [((ma 0), .inr (10, [.int 0, .ref (ma 1), .ref (ma 2), .ref (ma 3), .ref (ma 4), .ref (ma 5), .int 0, .int 0, .int 0, .int 0, .int 0, .long 0, .int 0, .int 0, .int 0, .int (-1), .ref (ma 16), .ref (ma 17), .ref (ma 18), .ref (ma 19), .ref (ma 20), .ref (ma 21), .ref (ma 22), .ref (ma 23), .ref (ma 24), .ref (ma 25), .ref (ma 26), .ref (ma 27), .ref (ma 28), .ref (ma 29), .ref (ma 30), .ref (ma 31), .ref (ma 32), .ref (ma 33), .ref (ma 34), .ref (ma 35), .ref (ma 36), .ref (ma 37), .ref (ma 38), .ref (ma 39), .ref (ma 40), .ref (ma 41), .long 0])), ((ma 20), .inl (cy 1, 5, .inl (fun _ => 0))), ((ma 18), .inl (cy 1, 5, .inl (fun _ => 0))), ((ma 17), .inl (cy 1, 20, .inl (fun _ => 0)))] sz) := by
  refine MM.of (by decide) (Nat.le_of_ble_eq_true rfl) ?_
  intro p e s m below meth c C hPW ls hl
  obtain ⟨hx, hb, hr, hml, hown, hts, hlocks, hK, hnm⟩ := C
  obtain ⟨rfl, hP, hD0⟩ := hPW
  have hD := hD0.self (sz := s.heap.size)
  have hA : ∀ q : Nat, s.heap.size ≤ q → (va_A [((ma 0), .inr (10, [.int 0, .ref (ma 1), .ref (ma 2), .ref (ma 3), .ref (ma 4), .ref (ma 5), .int 0, .int 0, .int 0, .int 0, .int 0, .long 0, .int 0, .int 0, .int 0, .int (-1), .ref (ma 16), .ref (ma 17), .ref (ma 18), .ref (ma 19), .ref (ma 20), .ref (ma 21), .ref (ma 22), .ref (ma 23), .ref (ma 24), .ref (ma 25), .ref (ma 26), .ref (ma 27), .ref (ma 28), .ref (ma 29), .ref (ma 30), .ref (ma 31), .ref (ma 32), .ref (ma 33), .ref (ma 34), .ref (ma 35), .ref (ma 36), .ref (ma 37), .ref (ma 38), .ref (ma 39), .ref (ma 40), .ref (ma 41), .long 0])), ((ma 20), .inl (cy 1, 5, .inl (fun _ => 0))), ((ma 18), .inl (cy 1, 5, .inl (fun _ => 0))), ((ma 17), .inl (cy 1, 20, .inl (fun _ => 0)))] s.heap.size) q := fun q h => Or.inr h
  have hS : va_S (va_A [((ma 0), .inr (10, [.int 0, .ref (ma 1), .ref (ma 2), .ref (ma 3), .ref (ma 4), .ref (ma 5), .int 0, .int 0, .int 0, .int 0, .int 0, .long 0, .int 0, .int 0, .int 0, .int (-1), .ref (ma 16), .ref (ma 17), .ref (ma 18), .ref (ma 19), .ref (ma 20), .ref (ma 21), .ref (ma 22), .ref (ma 23), .ref (ma 24), .ref (ma 25), .ref (ma 26), .ref (ma 27), .ref (ma 28), .ref (ma 29), .ref (ma 30), .ref (ma 31), .ref (ma 32), .ref (ma 33), .ref (ma 34), .ref (ma 35), .ref (ma 36), .ref (ma 37), .ref (ma 38), .ref (ma 39), .ref (ma 40), .ref (ma 41), .long 0])), ((ma 20), .inl (cy 1, 5, .inl (fun _ => 0))), ((ma 18), .inl (cy 1, 5, .inl (fun _ => 0))), ((ma 17), .inl (cy 1, 20, .inl (fun _ => 0)))] s.heap.size) s.heap s.heap [] := va_S.rf
  generalize va_A [((ma 0), .inr (10, [.int 0, .ref (ma 1), .ref (ma 2), .ref (ma 3), .ref (ma 4), .ref (ma 5), .int 0, .int 0, .int 0, .int 0, .int 0, .long 0, .int 0, .int 0, .int 0, .int (-1), .ref (ma 16), .ref (ma 17), .ref (ma 18), .ref (ma 19), .ref (ma 20), .ref (ma 21), .ref (ma 22), .ref (ma 23), .ref (ma 24), .ref (ma 25), .ref (ma 26), .ref (ma 27), .ref (ma 28), .ref (ma 29), .ref (ma 30), .ref (ma 31), .ref (ma 32), .ref (ma 33), .ref (ma 34), .ref (ma 35), .ref (ma 36), .ref (ma 37), .ref (ma 38), .ref (ma 39), .ref (ma 40), .ref (ma 41), .long 0])), ((ma 20), .inl (cy 1, 5, .inl (fun _ => 0))), ((ma 18), .inl (cy 1, 5, .inl (fun _ => 0))), ((ma 17), .inl (cy 1, 20, .inl (fun _ => 0)))] s.heap.size = A at hD hA hS ⊢
  have hP : va_P D vwCl [((ma 0), .inr (10, [.int 0, .ref (ma 1), .ref (ma 2), .ref (ma 3), .ref (ma 4), .ref (ma 5), .int 0, .int 0, .int 0, .int 0, .int 0, .long 0, .int 0, .int 0, .int 0, .int (-1), .ref (ma 16), .ref (ma 17), .ref (ma 18), .ref (ma 19), .ref (ma 20), .ref (ma 21), .ref (ma 22), .ref (ma 23), .ref (ma 24), .ref (ma 25), .ref (ma 26), .ref (ma 27), .ref (ma 28), .ref (ma 29), .ref (ma 30), .ref (ma 31), .ref (ma 32), .ref (ma 33), .ref (ma 34), .ref (ma 35), .ref (ma 36), .ref (ma 37), .ref (ma 38), .ref (ma 39), .ref (ma 40), .ref (ma 41), .long 0])), ((ma 20), .inl (cy 1, 5, .inl (fun _ => 0))), ((ma 18), .inl (cy 1, 5, .inl (fun _ => 0))), ((ma 17), .inl (cy 1, 20, .inl (fun _ => 0)))] s.heap := hP
  have hl : lv_has ls 6 [(0, .ref (ma 0)), (1, .int n0), (2, .int n1)] := hl
  refine lv_aload_n hx hb dX10_together_0 rfl (lv_at hl 0 rfl) ?_
  refine lv_iconst (v := 0) hx hb dX10_together_1 (by decide) ?_
  refine va_put (D := D) (ci := 10) (v := .int 0) (ty := tyX10 0) (C := RX10) (T := TX10) (N := 43) hx hb hts lay_X10 tyX10 tyX10_ok nmX10 hown hK.1 hP hD hS 0 rfl rfl 0 (by decide) (hts _ fl_X10_111) (fun _ h9 => h9) rfl (tyX10_ok 0 (by decide)) rfl rfl (Nat.le_of_ble_eq_true rfl) dX10_together_2 (fun H locs hP hD hS => ?_)
  have hP : va_P D vwCl [((ma 0), .inr (10, [.int 0, .ref (ma 1), .ref (ma 2), .ref (ma 3), .ref (ma 4), .ref (ma 5), .int 0, .int 0, .int 0, .int 0, .int 0, .long 0, .int 0, .int 0, .int 0, .int (-1), .ref (ma 16), .ref (ma 17), .ref (ma 18), .ref (ma 19), .ref (ma 20), .ref (ma 21), .ref (ma 22), .ref (ma 23), .ref (ma 24), .ref (ma 25), .ref (ma 26), .ref (ma 27), .ref (ma 28), .ref (ma 29), .ref (ma 30), .ref (ma 31), .ref (ma 32), .ref (ma 33), .ref (ma 34), .ref (ma 35), .ref (ma 36), .ref (ma 37), .ref (ma 38), .ref (ma 39), .ref (ma 40), .ref (ma 41), .long 0])), ((ma 20), .inl (cy 1, 5, .inl (fun _ => 0))), ((ma 18), .inl (cy 1, 5, .inl (fun _ => 0))), ((ma 17), .inl (cy 1, 20, .inl (fun _ => 0)))] H := hP
  have hD : va_D A [((ma 0), .inr (10, [.int 0, .ref (ma 1), .ref (ma 2), .ref (ma 3), .ref (ma 4), .ref (ma 5), .int 0, .int 0, .int 0, .int 0, .int 0, .long 0, .int 0, .int 0, .int 0, .int (-1), .ref (ma 16), .ref (ma 17), .ref (ma 18), .ref (ma 19), .ref (ma 20), .ref (ma 21), .ref (ma 22), .ref (ma 23), .ref (ma 24), .ref (ma 25), .ref (ma 26), .ref (ma 27), .ref (ma 28), .ref (ma 29), .ref (ma 30), .ref (ma 31), .ref (ma 32), .ref (ma 33), .ref (ma 34), .ref (ma 35), .ref (ma 36), .ref (ma 37), .ref (ma 38), .ref (ma 39), .ref (ma 40), .ref (ma 41), .long 0])), ((ma 20), .inl (cy 1, 5, .inl (fun _ => 0))), ((ma 18), .inl (cy 1, 5, .inl (fun _ => 0))), ((ma 17), .inl (cy 1, 20, .inl (fun _ => 0)))] := hD
  refine lv_aload_n hx hb dX10_together_5 rfl (lv_at hl 0 rfl) ?_
  refine lv_iload_n hx hb dX10_together_6 rfl (lv_at hl 1 rfl) ?_
  refine pu_calli (runV (As := [.int n0]) (rest := []) ⟨hx, hb, hml, hown, hts⟩ (m_isDay l D cy ma n0 ) sV_X10_305 hK (va_recv hK.1 hP (ci := 10) (q0 := 0) rfl rfl) (hP.sub (ws' := [((ma 0), .inr (10, [.int 0, .ref (ma 1), .ref (ma 2), .ref (ma 3), .ref (ma 4), .ref (ma 5), .int 0, .int 0, .int 0, .int 0, .int 0, .long 0, .int 0, .int 0, .int 0, .int (-1), .ref (ma 16), .ref (ma 17), .ref (ma 18), .ref (ma 19), .ref (ma 20), .ref (ma 21), .ref (ma 22), .ref (ma 23), .ref (ma 24), .ref (ma 25), .ref (ma 26), .ref (ma 27), .ref (ma 28), .ref (ma 29), .ref (ma 30), .ref (ma 31), .ref (ma 32), .ref (ma 33), .ref (ma 34), .ref (ma 35), .ref (ma 36), .ref (ma 37), .ref (ma 38), .ref (ma 39), .ref (ma 40), .ref (ma 41), .long 0])), ((ma 17), .inl (cy 1, 20, .inl (fun _ => 0)))]) [0, 3] rfl) ⟨Nat.le_of_ble_eq_true rfl, Nat.le_of_ble_eq_true rfl⟩ rfl hl.1 rfl (Nat.le_of_ble_eq_true rfl) dX10_together_7 ⟨Nat.le_of_ble_eq_true rfl, Nat.le_of_ble_eq_true rfl⟩) (fun r_1 hr_1 => ?_)
  have er_1 := hr_1
  subst er_1
  refine W.eq (g2 := F0 m 10 ls [.int 0]) rfl ?_
  refine lv_if_eq (tgt := 29) hx hb dX10_together_10 (by decide) (fun _ => ?_) (fun c_2 => absurd (by decide) c_2)
  refine lv_ldc2 (v := (-2)) hx hb hown (hts _ kl_X10_300) dX10_together_29 ?_
  exact ret_l hx hb hr hlocks ⟨⟨hS.1, hS.2.1⟩, (), ⟨_, rfl, rfl⟩, hP.sub [] rfl, hD.sub [] (by decide) rfl⟩ hS.2.2 (Nat.le_of_ble_eq_true rfl) (Nat.le_of_ble_eq_true rfl) dX10_together_32
set_option maxHeartbeats 4000000 in
set_option maxRecDepth 100000 in
theorem g_X10_set (l : Launch) (D : va_G) (cy : Nat → ClassId) (ma : Nat → Nat) (n0 : Int32) (n1 : Int32) (sz : Nat) : MM l yX10_set cX10_set 3 (some .long) 2 0 0 D cy [.ref (ma 0), .int n0, .int n1] (PW D [((ma 0), .inr (10, [.int 0, .ref (ma 1), .ref (ma 2), .ref (ma 3), .ref (ma 4), .ref (ma 5), .int 0, .int 0, .int 0, .int 0, .int 0, .long 0, .int 0, .int 0, .int 0, .int (-1), .ref (ma 16), .ref (ma 17), .ref (ma 18), .ref (ma 19), .ref (ma 20), .ref (ma 21), .ref (ma 22), .ref (ma 23), .ref (ma 24), .ref (ma 25), .ref (ma 26), .ref (ma 27), .ref (ma 28), .ref (ma 29), .ref (ma 30), .ref (ma 31), .ref (ma 32), .ref (ma 33), .ref (ma 34), .ref (ma 35), .ref (ma 36), .ref (ma 37), .ref (ma 38), .ref (ma 39), .ref (ma 40), .ref (ma 41), .long 0])), ((ma 20), .inl (cy 1, 5, .inl (fun _ => 0))), ((ma 18), .inl (cy 1, 5, .inl (fun _ => 0))), ((ma 17), .inl (cy 1, 20, .inl (fun _ => 0)))] sz) (QW D (va_A [((ma 0), .inr (10, [.int 0, .ref (ma 1), .ref (ma 2), .ref (ma 3), .ref (ma 4), .ref (ma 5), .int 0, .int 0, .int 0, .int 0, .int 0, .long 0, .int 0, .int 0, .int 0, .int (-1), .ref (ma 16), .ref (ma 17), .ref (ma 18), .ref (ma 19), .ref (ma 20), .ref (ma 21), .ref (ma 22), .ref (ma 23), .ref (ma 24), .ref (ma 25), .ref (ma 26), .ref (ma 27), .ref (ma 28), .ref (ma 29), .ref (ma 30), .ref (ma 31), .ref (ma 32), .ref (ma 33), .ref (ma 34), .ref (ma 35), .ref (ma 36), .ref (ma 37), .ref (ma 38), .ref (ma 39), .ref (ma 40), .ref (ma 41), .long 0])), ((ma 20), .inl (cy 1, 5, .inl (fun _ => 0))), ((ma 18), .inl (cy 1, 5, .inl (fun _ => 0))), ((ma 17), .inl (cy 1, 20, .inl (fun _ => 0)))] sz) (S := Unit) (fun v u => (∃ r : Int64, v = some (.long r) ∧ (r = (-2)))) (fun u => [])) (va_A [((ma 0), .inr (10, [.int 0, .ref (ma 1), .ref (ma 2), .ref (ma 3), .ref (ma 4), .ref (ma 5), .int 0, .int 0, .int 0, .int 0, .int 0, .long 0, .int 0, .int 0, .int 0, .int (-1), .ref (ma 16), .ref (ma 17), .ref (ma 18), .ref (ma 19), .ref (ma 20), .ref (ma 21), .ref (ma 22), .ref (ma 23), .ref (ma 24), .ref (ma 25), .ref (ma 26), .ref (ma 27), .ref (ma 28), .ref (ma 29), .ref (ma 30), .ref (ma 31), .ref (ma 32), .ref (ma 33), .ref (ma 34), .ref (ma 35), .ref (ma 36), .ref (ma 37), .ref (ma 38), .ref (ma 39), .ref (ma 40), .ref (ma 41), .long 0])), ((ma 20), .inl (cy 1, 5, .inl (fun _ => 0))), ((ma 18), .inl (cy 1, 5, .inl (fun _ => 0))), ((ma 17), .inl (cy 1, 20, .inl (fun _ => 0)))] sz) := by
  refine MM.of (by decide) (Nat.le_of_ble_eq_true rfl) ?_
  intro p e s m below meth c C hPW ls hl
  obtain ⟨hx, hb, hr, hml, hown, hts, hlocks, hK, hnm⟩ := C
  obtain ⟨rfl, hP, hD0⟩ := hPW
  have hD := hD0.self (sz := s.heap.size)
  have hA : ∀ q : Nat, s.heap.size ≤ q → (va_A [((ma 0), .inr (10, [.int 0, .ref (ma 1), .ref (ma 2), .ref (ma 3), .ref (ma 4), .ref (ma 5), .int 0, .int 0, .int 0, .int 0, .int 0, .long 0, .int 0, .int 0, .int 0, .int (-1), .ref (ma 16), .ref (ma 17), .ref (ma 18), .ref (ma 19), .ref (ma 20), .ref (ma 21), .ref (ma 22), .ref (ma 23), .ref (ma 24), .ref (ma 25), .ref (ma 26), .ref (ma 27), .ref (ma 28), .ref (ma 29), .ref (ma 30), .ref (ma 31), .ref (ma 32), .ref (ma 33), .ref (ma 34), .ref (ma 35), .ref (ma 36), .ref (ma 37), .ref (ma 38), .ref (ma 39), .ref (ma 40), .ref (ma 41), .long 0])), ((ma 20), .inl (cy 1, 5, .inl (fun _ => 0))), ((ma 18), .inl (cy 1, 5, .inl (fun _ => 0))), ((ma 17), .inl (cy 1, 20, .inl (fun _ => 0)))] s.heap.size) q := fun q h => Or.inr h
  have hS : va_S (va_A [((ma 0), .inr (10, [.int 0, .ref (ma 1), .ref (ma 2), .ref (ma 3), .ref (ma 4), .ref (ma 5), .int 0, .int 0, .int 0, .int 0, .int 0, .long 0, .int 0, .int 0, .int 0, .int (-1), .ref (ma 16), .ref (ma 17), .ref (ma 18), .ref (ma 19), .ref (ma 20), .ref (ma 21), .ref (ma 22), .ref (ma 23), .ref (ma 24), .ref (ma 25), .ref (ma 26), .ref (ma 27), .ref (ma 28), .ref (ma 29), .ref (ma 30), .ref (ma 31), .ref (ma 32), .ref (ma 33), .ref (ma 34), .ref (ma 35), .ref (ma 36), .ref (ma 37), .ref (ma 38), .ref (ma 39), .ref (ma 40), .ref (ma 41), .long 0])), ((ma 20), .inl (cy 1, 5, .inl (fun _ => 0))), ((ma 18), .inl (cy 1, 5, .inl (fun _ => 0))), ((ma 17), .inl (cy 1, 20, .inl (fun _ => 0)))] s.heap.size) s.heap s.heap [] := va_S.rf
  generalize va_A [((ma 0), .inr (10, [.int 0, .ref (ma 1), .ref (ma 2), .ref (ma 3), .ref (ma 4), .ref (ma 5), .int 0, .int 0, .int 0, .int 0, .int 0, .long 0, .int 0, .int 0, .int 0, .int (-1), .ref (ma 16), .ref (ma 17), .ref (ma 18), .ref (ma 19), .ref (ma 20), .ref (ma 21), .ref (ma 22), .ref (ma 23), .ref (ma 24), .ref (ma 25), .ref (ma 26), .ref (ma 27), .ref (ma 28), .ref (ma 29), .ref (ma 30), .ref (ma 31), .ref (ma 32), .ref (ma 33), .ref (ma 34), .ref (ma 35), .ref (ma 36), .ref (ma 37), .ref (ma 38), .ref (ma 39), .ref (ma 40), .ref (ma 41), .long 0])), ((ma 20), .inl (cy 1, 5, .inl (fun _ => 0))), ((ma 18), .inl (cy 1, 5, .inl (fun _ => 0))), ((ma 17), .inl (cy 1, 20, .inl (fun _ => 0)))] s.heap.size = A at hD hA hS ⊢
  have hP : va_P D vwCl [((ma 0), .inr (10, [.int 0, .ref (ma 1), .ref (ma 2), .ref (ma 3), .ref (ma 4), .ref (ma 5), .int 0, .int 0, .int 0, .int 0, .int 0, .long 0, .int 0, .int 0, .int 0, .int (-1), .ref (ma 16), .ref (ma 17), .ref (ma 18), .ref (ma 19), .ref (ma 20), .ref (ma 21), .ref (ma 22), .ref (ma 23), .ref (ma 24), .ref (ma 25), .ref (ma 26), .ref (ma 27), .ref (ma 28), .ref (ma 29), .ref (ma 30), .ref (ma 31), .ref (ma 32), .ref (ma 33), .ref (ma 34), .ref (ma 35), .ref (ma 36), .ref (ma 37), .ref (ma 38), .ref (ma 39), .ref (ma 40), .ref (ma 41), .long 0])), ((ma 20), .inl (cy 1, 5, .inl (fun _ => 0))), ((ma 18), .inl (cy 1, 5, .inl (fun _ => 0))), ((ma 17), .inl (cy 1, 20, .inl (fun _ => 0)))] s.heap := hP
  have hl : lv_has ls 3 [(0, .ref (ma 0)), (1, .int n0), (2, .int n1)] := hl
  refine lv_aload_n hx hb dX10_set_0 rfl (lv_at hl 0 rfl) ?_
  refine lv_iconst (v := 0) hx hb dX10_set_1 (by decide) ?_
  refine va_put (D := D) (ci := 10) (v := .int 0) (ty := tyX10 0) (C := RX10) (T := TX10) (N := 43) hx hb hts lay_X10 tyX10 tyX10_ok nmX10 hown hK.1 hP hD hS 0 rfl rfl 0 (by decide) (hts _ fl_X10_111) (fun _ h9 => h9) rfl (tyX10_ok 0 (by decide)) rfl rfl (Nat.le_of_ble_eq_true rfl) dX10_set_2 (fun H locs hP hD hS => ?_)
  have hP : va_P D vwCl [((ma 0), .inr (10, [.int 0, .ref (ma 1), .ref (ma 2), .ref (ma 3), .ref (ma 4), .ref (ma 5), .int 0, .int 0, .int 0, .int 0, .int 0, .long 0, .int 0, .int 0, .int 0, .int (-1), .ref (ma 16), .ref (ma 17), .ref (ma 18), .ref (ma 19), .ref (ma 20), .ref (ma 21), .ref (ma 22), .ref (ma 23), .ref (ma 24), .ref (ma 25), .ref (ma 26), .ref (ma 27), .ref (ma 28), .ref (ma 29), .ref (ma 30), .ref (ma 31), .ref (ma 32), .ref (ma 33), .ref (ma 34), .ref (ma 35), .ref (ma 36), .ref (ma 37), .ref (ma 38), .ref (ma 39), .ref (ma 40), .ref (ma 41), .long 0])), ((ma 20), .inl (cy 1, 5, .inl (fun _ => 0))), ((ma 18), .inl (cy 1, 5, .inl (fun _ => 0))), ((ma 17), .inl (cy 1, 20, .inl (fun _ => 0)))] H := hP
  have hD : va_D A [((ma 0), .inr (10, [.int 0, .ref (ma 1), .ref (ma 2), .ref (ma 3), .ref (ma 4), .ref (ma 5), .int 0, .int 0, .int 0, .int 0, .int 0, .long 0, .int 0, .int 0, .int 0, .int (-1), .ref (ma 16), .ref (ma 17), .ref (ma 18), .ref (ma 19), .ref (ma 20), .ref (ma 21), .ref (ma 22), .ref (ma 23), .ref (ma 24), .ref (ma 25), .ref (ma 26), .ref (ma 27), .ref (ma 28), .ref (ma 29), .ref (ma 30), .ref (ma 31), .ref (ma 32), .ref (ma 33), .ref (ma 34), .ref (ma 35), .ref (ma 36), .ref (ma 37), .ref (ma 38), .ref (ma 39), .ref (ma 40), .ref (ma 41), .long 0])), ((ma 20), .inl (cy 1, 5, .inl (fun _ => 0))), ((ma 18), .inl (cy 1, 5, .inl (fun _ => 0))), ((ma 17), .inl (cy 1, 20, .inl (fun _ => 0)))] := hD
  refine lv_aload_n hx hb dX10_set_5 rfl (lv_at hl 0 rfl) ?_
  refine lv_iload_n hx hb dX10_set_6 rfl (lv_at hl 1 rfl) ?_
  refine pu_calli (runV (As := [.int n0]) (rest := []) ⟨hx, hb, hml, hown, hts⟩ (m_isDay l D cy ma n0 ) sV_X10_305 hK (va_recv hK.1 hP (ci := 10) (q0 := 0) rfl rfl) (hP.sub (ws' := [((ma 0), .inr (10, [.int 0, .ref (ma 1), .ref (ma 2), .ref (ma 3), .ref (ma 4), .ref (ma 5), .int 0, .int 0, .int 0, .int 0, .int 0, .long 0, .int 0, .int 0, .int 0, .int (-1), .ref (ma 16), .ref (ma 17), .ref (ma 18), .ref (ma 19), .ref (ma 20), .ref (ma 21), .ref (ma 22), .ref (ma 23), .ref (ma 24), .ref (ma 25), .ref (ma 26), .ref (ma 27), .ref (ma 28), .ref (ma 29), .ref (ma 30), .ref (ma 31), .ref (ma 32), .ref (ma 33), .ref (ma 34), .ref (ma 35), .ref (ma 36), .ref (ma 37), .ref (ma 38), .ref (ma 39), .ref (ma 40), .ref (ma 41), .long 0])), ((ma 17), .inl (cy 1, 20, .inl (fun _ => 0)))]) [0, 3] rfl) ⟨Nat.le_of_ble_eq_true rfl, Nat.le_of_ble_eq_true rfl⟩ rfl hl.1 rfl (Nat.le_of_ble_eq_true rfl) dX10_set_7 ⟨Nat.le_of_ble_eq_true rfl, Nat.le_of_ble_eq_true rfl⟩) (fun r_1 hr_1 => ?_)
  have er_1 := hr_1
  subst er_1
  refine W.eq (g2 := F0 m 10 ls [.int 0]) rfl ?_
  refine lv_if_eq (tgt := 33) hx hb dX10_set_10 (by decide) (fun _ => ?_) (fun c_2 => absurd (by decide) c_2)
  refine lv_ldc2 (v := (-2)) hx hb hown (hts _ kl_X10_300) dX10_set_33 ?_
  exact ret_l hx hb hr hlocks ⟨⟨hS.1, hS.2.1⟩, (), ⟨_, rfl, rfl⟩, hP.sub [] rfl, hD.sub [] (by decide) rfl⟩ hS.2.2 (Nat.le_of_ble_eq_true rfl) (Nat.le_of_ble_eq_true rfl) dX10_set_36
set_option maxHeartbeats 4000000 in
set_option maxRecDepth 100000 in
theorem g_X10_when (l : Launch) (D : va_G) (cy : Nat → ClassId) (ma : Nat → Nat) (n0 : Int32) (n1 : Int32) (sz : Nat) : MM l yX10_when cX10_when 4 (some .int) 2 0 0 D cy [.ref (ma 0), .int n0, .int n1] (PW D [((ma 0), .inr (10, [.int 0, .ref (ma 1), .ref (ma 2), .ref (ma 3), .ref (ma 4), .ref (ma 5), .int 0, .int 0, .int 0, .int 0, .int 0, .long 0, .int 0, .int 0, .int 0, .int (-1), .ref (ma 16), .ref (ma 17), .ref (ma 18), .ref (ma 19), .ref (ma 20), .ref (ma 21), .ref (ma 22), .ref (ma 23), .ref (ma 24), .ref (ma 25), .ref (ma 26), .ref (ma 27), .ref (ma 28), .ref (ma 29), .ref (ma 30), .ref (ma 31), .ref (ma 32), .ref (ma 33), .ref (ma 34), .ref (ma 35), .ref (ma 36), .ref (ma 37), .ref (ma 38), .ref (ma 39), .ref (ma 40), .ref (ma 41), .long 0])), ((ma 20), .inl (cy 1, 5, .inl (fun _ => 0))), ((ma 18), .inl (cy 1, 5, .inl (fun _ => 0))), ((ma 17), .inl (cy 1, 20, .inl (fun _ => 0)))] sz) (QW D (va_A [((ma 0), .inr (10, [.int 0, .ref (ma 1), .ref (ma 2), .ref (ma 3), .ref (ma 4), .ref (ma 5), .int 0, .int 0, .int 0, .int 0, .int 0, .long 0, .int 0, .int 0, .int 0, .int (-1), .ref (ma 16), .ref (ma 17), .ref (ma 18), .ref (ma 19), .ref (ma 20), .ref (ma 21), .ref (ma 22), .ref (ma 23), .ref (ma 24), .ref (ma 25), .ref (ma 26), .ref (ma 27), .ref (ma 28), .ref (ma 29), .ref (ma 30), .ref (ma 31), .ref (ma 32), .ref (ma 33), .ref (ma 34), .ref (ma 35), .ref (ma 36), .ref (ma 37), .ref (ma 38), .ref (ma 39), .ref (ma 40), .ref (ma 41), .long 0])), ((ma 20), .inl (cy 1, 5, .inl (fun _ => 0))), ((ma 18), .inl (cy 1, 5, .inl (fun _ => 0))), ((ma 17), .inl (cy 1, 20, .inl (fun _ => 0)))] sz) (S := Unit) (fun v u => (∃ r : Int32, v = some (.int r) ∧ (r = (-2)))) (fun u => [])) (va_A [((ma 0), .inr (10, [.int 0, .ref (ma 1), .ref (ma 2), .ref (ma 3), .ref (ma 4), .ref (ma 5), .int 0, .int 0, .int 0, .int 0, .int 0, .long 0, .int 0, .int 0, .int 0, .int (-1), .ref (ma 16), .ref (ma 17), .ref (ma 18), .ref (ma 19), .ref (ma 20), .ref (ma 21), .ref (ma 22), .ref (ma 23), .ref (ma 24), .ref (ma 25), .ref (ma 26), .ref (ma 27), .ref (ma 28), .ref (ma 29), .ref (ma 30), .ref (ma 31), .ref (ma 32), .ref (ma 33), .ref (ma 34), .ref (ma 35), .ref (ma 36), .ref (ma 37), .ref (ma 38), .ref (ma 39), .ref (ma 40), .ref (ma 41), .long 0])), ((ma 20), .inl (cy 1, 5, .inl (fun _ => 0))), ((ma 18), .inl (cy 1, 5, .inl (fun _ => 0))), ((ma 17), .inl (cy 1, 20, .inl (fun _ => 0)))] sz) := by
  refine MM.of (by decide) (Nat.le_of_ble_eq_true rfl) ?_
  intro p e s m below meth c C hPW ls hl
  obtain ⟨hx, hb, hr, hml, hown, hts, hlocks, hK, hnm⟩ := C
  obtain ⟨rfl, hP, hD0⟩ := hPW
  have hD := hD0.self (sz := s.heap.size)
  have hA : ∀ q : Nat, s.heap.size ≤ q → (va_A [((ma 0), .inr (10, [.int 0, .ref (ma 1), .ref (ma 2), .ref (ma 3), .ref (ma 4), .ref (ma 5), .int 0, .int 0, .int 0, .int 0, .int 0, .long 0, .int 0, .int 0, .int 0, .int (-1), .ref (ma 16), .ref (ma 17), .ref (ma 18), .ref (ma 19), .ref (ma 20), .ref (ma 21), .ref (ma 22), .ref (ma 23), .ref (ma 24), .ref (ma 25), .ref (ma 26), .ref (ma 27), .ref (ma 28), .ref (ma 29), .ref (ma 30), .ref (ma 31), .ref (ma 32), .ref (ma 33), .ref (ma 34), .ref (ma 35), .ref (ma 36), .ref (ma 37), .ref (ma 38), .ref (ma 39), .ref (ma 40), .ref (ma 41), .long 0])), ((ma 20), .inl (cy 1, 5, .inl (fun _ => 0))), ((ma 18), .inl (cy 1, 5, .inl (fun _ => 0))), ((ma 17), .inl (cy 1, 20, .inl (fun _ => 0)))] s.heap.size) q := fun q h => Or.inr h
  have hS : va_S (va_A [((ma 0), .inr (10, [.int 0, .ref (ma 1), .ref (ma 2), .ref (ma 3), .ref (ma 4), .ref (ma 5), .int 0, .int 0, .int 0, .int 0, .int 0, .long 0, .int 0, .int 0, .int 0, .int (-1), .ref (ma 16), .ref (ma 17), .ref (ma 18), .ref (ma 19), .ref (ma 20), .ref (ma 21), .ref (ma 22), .ref (ma 23), .ref (ma 24), .ref (ma 25), .ref (ma 26), .ref (ma 27), .ref (ma 28), .ref (ma 29), .ref (ma 30), .ref (ma 31), .ref (ma 32), .ref (ma 33), .ref (ma 34), .ref (ma 35), .ref (ma 36), .ref (ma 37), .ref (ma 38), .ref (ma 39), .ref (ma 40), .ref (ma 41), .long 0])), ((ma 20), .inl (cy 1, 5, .inl (fun _ => 0))), ((ma 18), .inl (cy 1, 5, .inl (fun _ => 0))), ((ma 17), .inl (cy 1, 20, .inl (fun _ => 0)))] s.heap.size) s.heap s.heap [] := va_S.rf
  generalize va_A [((ma 0), .inr (10, [.int 0, .ref (ma 1), .ref (ma 2), .ref (ma 3), .ref (ma 4), .ref (ma 5), .int 0, .int 0, .int 0, .int 0, .int 0, .long 0, .int 0, .int 0, .int 0, .int (-1), .ref (ma 16), .ref (ma 17), .ref (ma 18), .ref (ma 19), .ref (ma 20), .ref (ma 21), .ref (ma 22), .ref (ma 23), .ref (ma 24), .ref (ma 25), .ref (ma 26), .ref (ma 27), .ref (ma 28), .ref (ma 29), .ref (ma 30), .ref (ma 31), .ref (ma 32), .ref (ma 33), .ref (ma 34), .ref (ma 35), .ref (ma 36), .ref (ma 37), .ref (ma 38), .ref (ma 39), .ref (ma 40), .ref (ma 41), .long 0])), ((ma 20), .inl (cy 1, 5, .inl (fun _ => 0))), ((ma 18), .inl (cy 1, 5, .inl (fun _ => 0))), ((ma 17), .inl (cy 1, 20, .inl (fun _ => 0)))] s.heap.size = A at hD hA hS ⊢
  have hP : va_P D vwCl [((ma 0), .inr (10, [.int 0, .ref (ma 1), .ref (ma 2), .ref (ma 3), .ref (ma 4), .ref (ma 5), .int 0, .int 0, .int 0, .int 0, .int 0, .long 0, .int 0, .int 0, .int 0, .int (-1), .ref (ma 16), .ref (ma 17), .ref (ma 18), .ref (ma 19), .ref (ma 20), .ref (ma 21), .ref (ma 22), .ref (ma 23), .ref (ma 24), .ref (ma 25), .ref (ma 26), .ref (ma 27), .ref (ma 28), .ref (ma 29), .ref (ma 30), .ref (ma 31), .ref (ma 32), .ref (ma 33), .ref (ma 34), .ref (ma 35), .ref (ma 36), .ref (ma 37), .ref (ma 38), .ref (ma 39), .ref (ma 40), .ref (ma 41), .long 0])), ((ma 20), .inl (cy 1, 5, .inl (fun _ => 0))), ((ma 18), .inl (cy 1, 5, .inl (fun _ => 0))), ((ma 17), .inl (cy 1, 20, .inl (fun _ => 0)))] s.heap := hP
  have hl : lv_has ls 4 [(0, .ref (ma 0)), (1, .int n0), (2, .int n1)] := hl
  refine lv_aload_n hx hb dX10_when_0 rfl (lv_at hl 0 rfl) ?_
  refine lv_iconst (v := 0) hx hb dX10_when_1 (by decide) ?_
  refine va_put (D := D) (ci := 10) (v := .int 0) (ty := tyX10 0) (C := RX10) (T := TX10) (N := 43) hx hb hts lay_X10 tyX10 tyX10_ok nmX10 hown hK.1 hP hD hS 0 rfl rfl 0 (by decide) (hts _ fl_X10_111) (fun _ h9 => h9) rfl (tyX10_ok 0 (by decide)) rfl rfl (Nat.le_of_ble_eq_true rfl) dX10_when_2 (fun H locs hP hD hS => ?_)
  have hP : va_P D vwCl [((ma 0), .inr (10, [.int 0, .ref (ma 1), .ref (ma 2), .ref (ma 3), .ref (ma 4), .ref (ma 5), .int 0, .int 0, .int 0, .int 0, .int 0, .long 0, .int 0, .int 0, .int 0, .int (-1), .ref (ma 16), .ref (ma 17), .ref (ma 18), .ref (ma 19), .ref (ma 20), .ref (ma 21), .ref (ma 22), .ref (ma 23), .ref (ma 24), .ref (ma 25), .ref (ma 26), .ref (ma 27), .ref (ma 28), .ref (ma 29), .ref (ma 30), .ref (ma 31), .ref (ma 32), .ref (ma 33), .ref (ma 34), .ref (ma 35), .ref (ma 36), .ref (ma 37), .ref (ma 38), .ref (ma 39), .ref (ma 40), .ref (ma 41), .long 0])), ((ma 20), .inl (cy 1, 5, .inl (fun _ => 0))), ((ma 18), .inl (cy 1, 5, .inl (fun _ => 0))), ((ma 17), .inl (cy 1, 20, .inl (fun _ => 0)))] H := hP
  have hD : va_D A [((ma 0), .inr (10, [.int 0, .ref (ma 1), .ref (ma 2), .ref (ma 3), .ref (ma 4), .ref (ma 5), .int 0, .int 0, .int 0, .int 0, .int 0, .long 0, .int 0, .int 0, .int 0, .int (-1), .ref (ma 16), .ref (ma 17), .ref (ma 18), .ref (ma 19), .ref (ma 20), .ref (ma 21), .ref (ma 22), .ref (ma 23), .ref (ma 24), .ref (ma 25), .ref (ma 26), .ref (ma 27), .ref (ma 28), .ref (ma 29), .ref (ma 30), .ref (ma 31), .ref (ma 32), .ref (ma 33), .ref (ma 34), .ref (ma 35), .ref (ma 36), .ref (ma 37), .ref (ma 38), .ref (ma 39), .ref (ma 40), .ref (ma 41), .long 0])), ((ma 20), .inl (cy 1, 5, .inl (fun _ => 0))), ((ma 18), .inl (cy 1, 5, .inl (fun _ => 0))), ((ma 17), .inl (cy 1, 20, .inl (fun _ => 0)))] := hD
  refine lv_aload_n hx hb dX10_when_5 rfl (lv_at hl 0 rfl) ?_
  refine lv_iload_n hx hb dX10_when_6 rfl (lv_at hl 1 rfl) ?_
  refine pu_calli (runV (As := [.int n0]) (rest := []) ⟨hx, hb, hml, hown, hts⟩ (m_isValley l D cy ma n0 ) sV_X10_297 hK (va_recv hK.1 hP (ci := 10) (q0 := 0) rfl rfl) (hP.sub (ws' := [((ma 0), .inr (10, [.int 0, .ref (ma 1), .ref (ma 2), .ref (ma 3), .ref (ma 4), .ref (ma 5), .int 0, .int 0, .int 0, .int 0, .int 0, .long 0, .int 0, .int 0, .int 0, .int (-1), .ref (ma 16), .ref (ma 17), .ref (ma 18), .ref (ma 19), .ref (ma 20), .ref (ma 21), .ref (ma 22), .ref (ma 23), .ref (ma 24), .ref (ma 25), .ref (ma 26), .ref (ma 27), .ref (ma 28), .ref (ma 29), .ref (ma 30), .ref (ma 31), .ref (ma 32), .ref (ma 33), .ref (ma 34), .ref (ma 35), .ref (ma 36), .ref (ma 37), .ref (ma 38), .ref (ma 39), .ref (ma 40), .ref (ma 41), .long 0])), ((ma 20), .inl (cy 1, 5, .inl (fun _ => 0)))]) [0, 1] rfl) ⟨Nat.le_of_ble_eq_true rfl, Nat.le_of_ble_eq_true rfl⟩ rfl hl.1 rfl (Nat.le_of_ble_eq_true rfl) dX10_when_7 ⟨Nat.le_of_ble_eq_true rfl, Nat.le_of_ble_eq_true rfl⟩) (fun r_1 hr_1 => ?_)
  have er_1 := hr_1
  subst er_1
  refine W.eq (g2 := F0 m 10 ls [.int 0]) rfl ?_
  refine lv_if_eq (tgt := 25) hx hb dX10_when_10 (by decide) (fun _ => ?_) (fun c_2 => absurd (by decide) c_2)
  refine lv_bipush (v := (-2)) hx hb dX10_when_25 (by decide) ?_
  exact ret_i hx hb hr hlocks ⟨⟨hS.1, hS.2.1⟩, (), ⟨_, rfl, rfl⟩, hP.sub [] rfl, hD.sub [] (by decide) rfl⟩ hS.2.2 (Nat.le_of_ble_eq_true rfl) (Nat.le_of_ble_eq_true rfl) dX10_when_27
set_option maxHeartbeats 4000000 in
set_option maxRecDepth 100000 in
theorem g_X10_wants (l : Launch) (D : va_G) (cy : Nat → ClassId) (ma : Nat → Nat) (n0 : Int32) (n1 : Int32) (n2 : Int32) (sz : Nat) : MM l yX10_wants cX10_wants 4 (some .int) 2 0 0 D cy [.ref (ma 0), .int n0, .int n1, .int n2] (PW D [((ma 0), .inr (10, [.int 0, .ref (ma 1), .ref (ma 2), .ref (ma 3), .ref (ma 4), .ref (ma 5), .int 0, .int 0, .int 0, .int 0, .int 0, .long 0, .int 0, .int 0, .int 0, .int (-1), .ref (ma 16), .ref (ma 17), .ref (ma 18), .ref (ma 19), .ref (ma 20), .ref (ma 21), .ref (ma 22), .ref (ma 23), .ref (ma 24), .ref (ma 25), .ref (ma 26), .ref (ma 27), .ref (ma 28), .ref (ma 29), .ref (ma 30), .ref (ma 31), .ref (ma 32), .ref (ma 33), .ref (ma 34), .ref (ma 35), .ref (ma 36), .ref (ma 37), .ref (ma 38), .ref (ma 39), .ref (ma 40), .ref (ma 41), .long 0])), ((ma 20), .inl (cy 1, 5, .inl (fun _ => 0))), ((ma 18), .inl (cy 1, 5, .inl (fun _ => 0))), ((ma 17), .inl (cy 1, 20, .inl (fun _ => 0)))] sz) (QW D (va_A [((ma 0), .inr (10, [.int 0, .ref (ma 1), .ref (ma 2), .ref (ma 3), .ref (ma 4), .ref (ma 5), .int 0, .int 0, .int 0, .int 0, .int 0, .long 0, .int 0, .int 0, .int 0, .int (-1), .ref (ma 16), .ref (ma 17), .ref (ma 18), .ref (ma 19), .ref (ma 20), .ref (ma 21), .ref (ma 22), .ref (ma 23), .ref (ma 24), .ref (ma 25), .ref (ma 26), .ref (ma 27), .ref (ma 28), .ref (ma 29), .ref (ma 30), .ref (ma 31), .ref (ma 32), .ref (ma 33), .ref (ma 34), .ref (ma 35), .ref (ma 36), .ref (ma 37), .ref (ma 38), .ref (ma 39), .ref (ma 40), .ref (ma 41), .long 0])), ((ma 20), .inl (cy 1, 5, .inl (fun _ => 0))), ((ma 18), .inl (cy 1, 5, .inl (fun _ => 0))), ((ma 17), .inl (cy 1, 20, .inl (fun _ => 0)))] sz) (S := Unit) (fun v u => (∃ r : Int32, v = some (.int r) ∧ (r = (-2)))) (fun u => [])) (va_A [((ma 0), .inr (10, [.int 0, .ref (ma 1), .ref (ma 2), .ref (ma 3), .ref (ma 4), .ref (ma 5), .int 0, .int 0, .int 0, .int 0, .int 0, .long 0, .int 0, .int 0, .int 0, .int (-1), .ref (ma 16), .ref (ma 17), .ref (ma 18), .ref (ma 19), .ref (ma 20), .ref (ma 21), .ref (ma 22), .ref (ma 23), .ref (ma 24), .ref (ma 25), .ref (ma 26), .ref (ma 27), .ref (ma 28), .ref (ma 29), .ref (ma 30), .ref (ma 31), .ref (ma 32), .ref (ma 33), .ref (ma 34), .ref (ma 35), .ref (ma 36), .ref (ma 37), .ref (ma 38), .ref (ma 39), .ref (ma 40), .ref (ma 41), .long 0])), ((ma 20), .inl (cy 1, 5, .inl (fun _ => 0))), ((ma 18), .inl (cy 1, 5, .inl (fun _ => 0))), ((ma 17), .inl (cy 1, 20, .inl (fun _ => 0)))] sz) := by
  refine MM.of (by decide) (Nat.le_of_ble_eq_true rfl) ?_
  intro p e s m below meth c C hPW ls hl
  obtain ⟨hx, hb, hr, hml, hown, hts, hlocks, hK, hnm⟩ := C
  obtain ⟨rfl, hP, hD0⟩ := hPW
  have hD := hD0.self (sz := s.heap.size)
  have hA : ∀ q : Nat, s.heap.size ≤ q → (va_A [((ma 0), .inr (10, [.int 0, .ref (ma 1), .ref (ma 2), .ref (ma 3), .ref (ma 4), .ref (ma 5), .int 0, .int 0, .int 0, .int 0, .int 0, .long 0, .int 0, .int 0, .int 0, .int (-1), .ref (ma 16), .ref (ma 17), .ref (ma 18), .ref (ma 19), .ref (ma 20), .ref (ma 21), .ref (ma 22), .ref (ma 23), .ref (ma 24), .ref (ma 25), .ref (ma 26), .ref (ma 27), .ref (ma 28), .ref (ma 29), .ref (ma 30), .ref (ma 31), .ref (ma 32), .ref (ma 33), .ref (ma 34), .ref (ma 35), .ref (ma 36), .ref (ma 37), .ref (ma 38), .ref (ma 39), .ref (ma 40), .ref (ma 41), .long 0])), ((ma 20), .inl (cy 1, 5, .inl (fun _ => 0))), ((ma 18), .inl (cy 1, 5, .inl (fun _ => 0))), ((ma 17), .inl (cy 1, 20, .inl (fun _ => 0)))] s.heap.size) q := fun q h => Or.inr h
  have hS : va_S (va_A [((ma 0), .inr (10, [.int 0, .ref (ma 1), .ref (ma 2), .ref (ma 3), .ref (ma 4), .ref (ma 5), .int 0, .int 0, .int 0, .int 0, .int 0, .long 0, .int 0, .int 0, .int 0, .int (-1), .ref (ma 16), .ref (ma 17), .ref (ma 18), .ref (ma 19), .ref (ma 20), .ref (ma 21), .ref (ma 22), .ref (ma 23), .ref (ma 24), .ref (ma 25), .ref (ma 26), .ref (ma 27), .ref (ma 28), .ref (ma 29), .ref (ma 30), .ref (ma 31), .ref (ma 32), .ref (ma 33), .ref (ma 34), .ref (ma 35), .ref (ma 36), .ref (ma 37), .ref (ma 38), .ref (ma 39), .ref (ma 40), .ref (ma 41), .long 0])), ((ma 20), .inl (cy 1, 5, .inl (fun _ => 0))), ((ma 18), .inl (cy 1, 5, .inl (fun _ => 0))), ((ma 17), .inl (cy 1, 20, .inl (fun _ => 0)))] s.heap.size) s.heap s.heap [] := va_S.rf
  generalize va_A [((ma 0), .inr (10, [.int 0, .ref (ma 1), .ref (ma 2), .ref (ma 3), .ref (ma 4), .ref (ma 5), .int 0, .int 0, .int 0, .int 0, .int 0, .long 0, .int 0, .int 0, .int 0, .int (-1), .ref (ma 16), .ref (ma 17), .ref (ma 18), .ref (ma 19), .ref (ma 20), .ref (ma 21), .ref (ma 22), .ref (ma 23), .ref (ma 24), .ref (ma 25), .ref (ma 26), .ref (ma 27), .ref (ma 28), .ref (ma 29), .ref (ma 30), .ref (ma 31), .ref (ma 32), .ref (ma 33), .ref (ma 34), .ref (ma 35), .ref (ma 36), .ref (ma 37), .ref (ma 38), .ref (ma 39), .ref (ma 40), .ref (ma 41), .long 0])), ((ma 20), .inl (cy 1, 5, .inl (fun _ => 0))), ((ma 18), .inl (cy 1, 5, .inl (fun _ => 0))), ((ma 17), .inl (cy 1, 20, .inl (fun _ => 0)))] s.heap.size = A at hD hA hS ⊢
  have hP : va_P D vwCl [((ma 0), .inr (10, [.int 0, .ref (ma 1), .ref (ma 2), .ref (ma 3), .ref (ma 4), .ref (ma 5), .int 0, .int 0, .int 0, .int 0, .int 0, .long 0, .int 0, .int 0, .int 0, .int (-1), .ref (ma 16), .ref (ma 17), .ref (ma 18), .ref (ma 19), .ref (ma 20), .ref (ma 21), .ref (ma 22), .ref (ma 23), .ref (ma 24), .ref (ma 25), .ref (ma 26), .ref (ma 27), .ref (ma 28), .ref (ma 29), .ref (ma 30), .ref (ma 31), .ref (ma 32), .ref (ma 33), .ref (ma 34), .ref (ma 35), .ref (ma 36), .ref (ma 37), .ref (ma 38), .ref (ma 39), .ref (ma 40), .ref (ma 41), .long 0])), ((ma 20), .inl (cy 1, 5, .inl (fun _ => 0))), ((ma 18), .inl (cy 1, 5, .inl (fun _ => 0))), ((ma 17), .inl (cy 1, 20, .inl (fun _ => 0)))] s.heap := hP
  have hl : lv_has ls 4 [(0, .ref (ma 0)), (1, .int n0), (2, .int n1), (3, .int n2)] := hl
  refine lv_aload_n hx hb dX10_wants_0 rfl (lv_at hl 0 rfl) ?_
  refine lv_iconst (v := 0) hx hb dX10_wants_1 (by decide) ?_
  refine va_put (D := D) (ci := 10) (v := .int 0) (ty := tyX10 0) (C := RX10) (T := TX10) (N := 43) hx hb hts lay_X10 tyX10 tyX10_ok nmX10 hown hK.1 hP hD hS 0 rfl rfl 0 (by decide) (hts _ fl_X10_111) (fun _ h9 => h9) rfl (tyX10_ok 0 (by decide)) rfl rfl (Nat.le_of_ble_eq_true rfl) dX10_wants_2 (fun H locs hP hD hS => ?_)
  have hP : va_P D vwCl [((ma 0), .inr (10, [.int 0, .ref (ma 1), .ref (ma 2), .ref (ma 3), .ref (ma 4), .ref (ma 5), .int 0, .int 0, .int 0, .int 0, .int 0, .long 0, .int 0, .int 0, .int 0, .int (-1), .ref (ma 16), .ref (ma 17), .ref (ma 18), .ref (ma 19), .ref (ma 20), .ref (ma 21), .ref (ma 22), .ref (ma 23), .ref (ma 24), .ref (ma 25), .ref (ma 26), .ref (ma 27), .ref (ma 28), .ref (ma 29), .ref (ma 30), .ref (ma 31), .ref (ma 32), .ref (ma 33), .ref (ma 34), .ref (ma 35), .ref (ma 36), .ref (ma 37), .ref (ma 38), .ref (ma 39), .ref (ma 40), .ref (ma 41), .long 0])), ((ma 20), .inl (cy 1, 5, .inl (fun _ => 0))), ((ma 18), .inl (cy 1, 5, .inl (fun _ => 0))), ((ma 17), .inl (cy 1, 20, .inl (fun _ => 0)))] H := hP
  have hD : va_D A [((ma 0), .inr (10, [.int 0, .ref (ma 1), .ref (ma 2), .ref (ma 3), .ref (ma 4), .ref (ma 5), .int 0, .int 0, .int 0, .int 0, .int 0, .long 0, .int 0, .int 0, .int 0, .int (-1), .ref (ma 16), .ref (ma 17), .ref (ma 18), .ref (ma 19), .ref (ma 20), .ref (ma 21), .ref (ma 22), .ref (ma 23), .ref (ma 24), .ref (ma 25), .ref (ma 26), .ref (ma 27), .ref (ma 28), .ref (ma 29), .ref (ma 30), .ref (ma 31), .ref (ma 32), .ref (ma 33), .ref (ma 34), .ref (ma 35), .ref (ma 36), .ref (ma 37), .ref (ma 38), .ref (ma 39), .ref (ma 40), .ref (ma 41), .long 0])), ((ma 20), .inl (cy 1, 5, .inl (fun _ => 0))), ((ma 18), .inl (cy 1, 5, .inl (fun _ => 0))), ((ma 17), .inl (cy 1, 20, .inl (fun _ => 0)))] := hD
  refine lv_aload_n hx hb dX10_wants_5 rfl (lv_at hl 0 rfl) ?_
  refine lv_iload_n hx hb dX10_wants_6 rfl (lv_at hl 1 rfl) ?_
  refine pu_calli (runV (As := [.int n0]) (rest := []) ⟨hx, hb, hml, hown, hts⟩ (m_isValley l D cy ma n0 ) sV_X10_297 hK (va_recv hK.1 hP (ci := 10) (q0 := 0) rfl rfl) (hP.sub (ws' := [((ma 0), .inr (10, [.int 0, .ref (ma 1), .ref (ma 2), .ref (ma 3), .ref (ma 4), .ref (ma 5), .int 0, .int 0, .int 0, .int 0, .int 0, .long 0, .int 0, .int 0, .int 0, .int (-1), .ref (ma 16), .ref (ma 17), .ref (ma 18), .ref (ma 19), .ref (ma 20), .ref (ma 21), .ref (ma 22), .ref (ma 23), .ref (ma 24), .ref (ma 25), .ref (ma 26), .ref (ma 27), .ref (ma 28), .ref (ma 29), .ref (ma 30), .ref (ma 31), .ref (ma 32), .ref (ma 33), .ref (ma 34), .ref (ma 35), .ref (ma 36), .ref (ma 37), .ref (ma 38), .ref (ma 39), .ref (ma 40), .ref (ma 41), .long 0])), ((ma 20), .inl (cy 1, 5, .inl (fun _ => 0)))]) [0, 1] rfl) ⟨Nat.le_of_ble_eq_true rfl, Nat.le_of_ble_eq_true rfl⟩ rfl hl.1 rfl (Nat.le_of_ble_eq_true rfl) dX10_wants_7 ⟨Nat.le_of_ble_eq_true rfl, Nat.le_of_ble_eq_true rfl⟩) (fun r_1 hr_1 => ?_)
  have er_1 := hr_1
  subst er_1
  refine W.eq (g2 := F0 m 10 ls [.int 0]) rfl ?_
  refine lv_if_eq (tgt := 45) hx hb dX10_wants_10 (by decide) (fun _ => ?_) (fun c_2 => absurd (by decide) c_2)
  refine lv_bipush (v := (-2)) hx hb dX10_wants_45 (by decide) ?_
  exact ret_i hx hb hr hlocks ⟨⟨hS.1, hS.2.1⟩, (), ⟨_, rfl, rfl⟩, hP.sub [] rfl, hD.sub [] (by decide) rfl⟩ hS.2.2 (Nat.le_of_ble_eq_true rfl) (Nat.le_of_ble_eq_true rfl) dX10_wants_47
set_option maxHeartbeats 4000000 in
set_option maxRecDepth 100000 in
theorem g_X10_cost (l : Launch) (D : va_G) (cy : Nat → ClassId) (ma : Nat → Nat) (n0 : Int32) (n1 : Int32) (n2 : Int32) (sz : Nat) : MM l yX10_cost cX10_cost 4 (some .long) 3 0 0 D cy [.ref (ma 0), .int n0, .int n1, .int n2] (PW D [((ma 0), .inr (10, [.int 0, .ref (ma 1), .ref (ma 2), .ref (ma 3), .ref (ma 4), .ref (ma 5), .int 0, .int 0, .int 0, .int 0, .int 0, .long 0, .int 0, .int 0, .int 0, .int (-1), .ref (ma 16), .ref (ma 17), .ref (ma 18), .ref (ma 19), .ref (ma 20), .ref (ma 21), .ref (ma 22), .ref (ma 23), .ref (ma 24), .ref (ma 25), .ref (ma 26), .ref (ma 27), .ref (ma 28), .ref (ma 29), .ref (ma 30), .ref (ma 31), .ref (ma 32), .ref (ma 33), .ref (ma 34), .ref (ma 35), .ref (ma 36), .ref (ma 37), .ref (ma 38), .ref (ma 39), .ref (ma 40), .ref (ma 41), .long 0])), ((ma 20), .inl (cy 1, 5, .inl (fun _ => 0))), ((ma 18), .inl (cy 1, 5, .inl (fun _ => 0))), ((ma 17), .inl (cy 1, 20, .inl (fun _ => 0)))] sz) (QW D (va_A [((ma 0), .inr (10, [.int 0, .ref (ma 1), .ref (ma 2), .ref (ma 3), .ref (ma 4), .ref (ma 5), .int 0, .int 0, .int 0, .int 0, .int 0, .long 0, .int 0, .int 0, .int 0, .int (-1), .ref (ma 16), .ref (ma 17), .ref (ma 18), .ref (ma 19), .ref (ma 20), .ref (ma 21), .ref (ma 22), .ref (ma 23), .ref (ma 24), .ref (ma 25), .ref (ma 26), .ref (ma 27), .ref (ma 28), .ref (ma 29), .ref (ma 30), .ref (ma 31), .ref (ma 32), .ref (ma 33), .ref (ma 34), .ref (ma 35), .ref (ma 36), .ref (ma 37), .ref (ma 38), .ref (ma 39), .ref (ma 40), .ref (ma 41), .long 0])), ((ma 20), .inl (cy 1, 5, .inl (fun _ => 0))), ((ma 18), .inl (cy 1, 5, .inl (fun _ => 0))), ((ma 17), .inl (cy 1, 20, .inl (fun _ => 0)))] sz) (S := Unit) (fun v u => (∃ r : Int64, v = some (.long r) ∧ (r = (-2)))) (fun u => [])) (va_A [((ma 0), .inr (10, [.int 0, .ref (ma 1), .ref (ma 2), .ref (ma 3), .ref (ma 4), .ref (ma 5), .int 0, .int 0, .int 0, .int 0, .int 0, .long 0, .int 0, .int 0, .int 0, .int (-1), .ref (ma 16), .ref (ma 17), .ref (ma 18), .ref (ma 19), .ref (ma 20), .ref (ma 21), .ref (ma 22), .ref (ma 23), .ref (ma 24), .ref (ma 25), .ref (ma 26), .ref (ma 27), .ref (ma 28), .ref (ma 29), .ref (ma 30), .ref (ma 31), .ref (ma 32), .ref (ma 33), .ref (ma 34), .ref (ma 35), .ref (ma 36), .ref (ma 37), .ref (ma 38), .ref (ma 39), .ref (ma 40), .ref (ma 41), .long 0])), ((ma 20), .inl (cy 1, 5, .inl (fun _ => 0))), ((ma 18), .inl (cy 1, 5, .inl (fun _ => 0))), ((ma 17), .inl (cy 1, 20, .inl (fun _ => 0)))] sz) := by
  refine MM.of (by decide) (Nat.le_of_ble_eq_true rfl) ?_
  intro p e s m below meth c C hPW ls hl
  obtain ⟨hx, hb, hr, hml, hown, hts, hlocks, hK, hnm⟩ := C
  obtain ⟨rfl, hP, hD0⟩ := hPW
  have hD := hD0.self (sz := s.heap.size)
  have hA : ∀ q : Nat, s.heap.size ≤ q → (va_A [((ma 0), .inr (10, [.int 0, .ref (ma 1), .ref (ma 2), .ref (ma 3), .ref (ma 4), .ref (ma 5), .int 0, .int 0, .int 0, .int 0, .int 0, .long 0, .int 0, .int 0, .int 0, .int (-1), .ref (ma 16), .ref (ma 17), .ref (ma 18), .ref (ma 19), .ref (ma 20), .ref (ma 21), .ref (ma 22), .ref (ma 23), .ref (ma 24), .ref (ma 25), .ref (ma 26), .ref (ma 27), .ref (ma 28), .ref (ma 29), .ref (ma 30), .ref (ma 31), .ref (ma 32), .ref (ma 33), .ref (ma 34), .ref (ma 35), .ref (ma 36), .ref (ma 37), .ref (ma 38), .ref (ma 39), .ref (ma 40), .ref (ma 41), .long 0])), ((ma 20), .inl (cy 1, 5, .inl (fun _ => 0))), ((ma 18), .inl (cy 1, 5, .inl (fun _ => 0))), ((ma 17), .inl (cy 1, 20, .inl (fun _ => 0)))] s.heap.size) q := fun q h => Or.inr h
  have hS : va_S (va_A [((ma 0), .inr (10, [.int 0, .ref (ma 1), .ref (ma 2), .ref (ma 3), .ref (ma 4), .ref (ma 5), .int 0, .int 0, .int 0, .int 0, .int 0, .long 0, .int 0, .int 0, .int 0, .int (-1), .ref (ma 16), .ref (ma 17), .ref (ma 18), .ref (ma 19), .ref (ma 20), .ref (ma 21), .ref (ma 22), .ref (ma 23), .ref (ma 24), .ref (ma 25), .ref (ma 26), .ref (ma 27), .ref (ma 28), .ref (ma 29), .ref (ma 30), .ref (ma 31), .ref (ma 32), .ref (ma 33), .ref (ma 34), .ref (ma 35), .ref (ma 36), .ref (ma 37), .ref (ma 38), .ref (ma 39), .ref (ma 40), .ref (ma 41), .long 0])), ((ma 20), .inl (cy 1, 5, .inl (fun _ => 0))), ((ma 18), .inl (cy 1, 5, .inl (fun _ => 0))), ((ma 17), .inl (cy 1, 20, .inl (fun _ => 0)))] s.heap.size) s.heap s.heap [] := va_S.rf
  generalize va_A [((ma 0), .inr (10, [.int 0, .ref (ma 1), .ref (ma 2), .ref (ma 3), .ref (ma 4), .ref (ma 5), .int 0, .int 0, .int 0, .int 0, .int 0, .long 0, .int 0, .int 0, .int 0, .int (-1), .ref (ma 16), .ref (ma 17), .ref (ma 18), .ref (ma 19), .ref (ma 20), .ref (ma 21), .ref (ma 22), .ref (ma 23), .ref (ma 24), .ref (ma 25), .ref (ma 26), .ref (ma 27), .ref (ma 28), .ref (ma 29), .ref (ma 30), .ref (ma 31), .ref (ma 32), .ref (ma 33), .ref (ma 34), .ref (ma 35), .ref (ma 36), .ref (ma 37), .ref (ma 38), .ref (ma 39), .ref (ma 40), .ref (ma 41), .long 0])), ((ma 20), .inl (cy 1, 5, .inl (fun _ => 0))), ((ma 18), .inl (cy 1, 5, .inl (fun _ => 0))), ((ma 17), .inl (cy 1, 20, .inl (fun _ => 0)))] s.heap.size = A at hD hA hS ⊢
  have hP : va_P D vwCl [((ma 0), .inr (10, [.int 0, .ref (ma 1), .ref (ma 2), .ref (ma 3), .ref (ma 4), .ref (ma 5), .int 0, .int 0, .int 0, .int 0, .int 0, .long 0, .int 0, .int 0, .int 0, .int (-1), .ref (ma 16), .ref (ma 17), .ref (ma 18), .ref (ma 19), .ref (ma 20), .ref (ma 21), .ref (ma 22), .ref (ma 23), .ref (ma 24), .ref (ma 25), .ref (ma 26), .ref (ma 27), .ref (ma 28), .ref (ma 29), .ref (ma 30), .ref (ma 31), .ref (ma 32), .ref (ma 33), .ref (ma 34), .ref (ma 35), .ref (ma 36), .ref (ma 37), .ref (ma 38), .ref (ma 39), .ref (ma 40), .ref (ma 41), .long 0])), ((ma 20), .inl (cy 1, 5, .inl (fun _ => 0))), ((ma 18), .inl (cy 1, 5, .inl (fun _ => 0))), ((ma 17), .inl (cy 1, 20, .inl (fun _ => 0)))] s.heap := hP
  have hl : lv_has ls 4 [(0, .ref (ma 0)), (1, .int n0), (2, .int n1), (3, .int n2)] := hl
  refine lv_aload_n hx hb dX10_cost_0 rfl (lv_at hl 0 rfl) ?_
  refine lv_iconst (v := 0) hx hb dX10_cost_1 (by decide) ?_
  refine va_put (D := D) (ci := 10) (v := .int 0) (ty := tyX10 0) (C := RX10) (T := TX10) (N := 43) hx hb hts lay_X10 tyX10 tyX10_ok nmX10 hown hK.1 hP hD hS 0 rfl rfl 0 (by decide) (hts _ fl_X10_111) (fun _ h9 => h9) rfl (tyX10_ok 0 (by decide)) rfl rfl (Nat.le_of_ble_eq_true rfl) dX10_cost_2 (fun H locs hP hD hS => ?_)
  have hP : va_P D vwCl [((ma 0), .inr (10, [.int 0, .ref (ma 1), .ref (ma 2), .ref (ma 3), .ref (ma 4), .ref (ma 5), .int 0, .int 0, .int 0, .int 0, .int 0, .long 0, .int 0, .int 0, .int 0, .int (-1), .ref (ma 16), .ref (ma 17), .ref (ma 18), .ref (ma 19), .ref (ma 20), .ref (ma 21), .ref (ma 22), .ref (ma 23), .ref (ma 24), .ref (ma 25), .ref (ma 26), .ref (ma 27), .ref (ma 28), .ref (ma 29), .ref (ma 30), .ref (ma 31), .ref (ma 32), .ref (ma 33), .ref (ma 34), .ref (ma 35), .ref (ma 36), .ref (ma 37), .ref (ma 38), .ref (ma 39), .ref (ma 40), .ref (ma 41), .long 0])), ((ma 20), .inl (cy 1, 5, .inl (fun _ => 0))), ((ma 18), .inl (cy 1, 5, .inl (fun _ => 0))), ((ma 17), .inl (cy 1, 20, .inl (fun _ => 0)))] H := hP
  have hD : va_D A [((ma 0), .inr (10, [.int 0, .ref (ma 1), .ref (ma 2), .ref (ma 3), .ref (ma 4), .ref (ma 5), .int 0, .int 0, .int 0, .int 0, .int 0, .long 0, .int 0, .int 0, .int 0, .int (-1), .ref (ma 16), .ref (ma 17), .ref (ma 18), .ref (ma 19), .ref (ma 20), .ref (ma 21), .ref (ma 22), .ref (ma 23), .ref (ma 24), .ref (ma 25), .ref (ma 26), .ref (ma 27), .ref (ma 28), .ref (ma 29), .ref (ma 30), .ref (ma 31), .ref (ma 32), .ref (ma 33), .ref (ma 34), .ref (ma 35), .ref (ma 36), .ref (ma 37), .ref (ma 38), .ref (ma 39), .ref (ma 40), .ref (ma 41), .long 0])), ((ma 20), .inl (cy 1, 5, .inl (fun _ => 0))), ((ma 18), .inl (cy 1, 5, .inl (fun _ => 0))), ((ma 17), .inl (cy 1, 20, .inl (fun _ => 0)))] := hD
  refine lv_aload_n hx hb dX10_cost_5 rfl (lv_at hl 0 rfl) ?_
  refine lv_iload_n hx hb dX10_cost_6 rfl (lv_at hl 1 rfl) ?_
  refine lv_iload_n hx hb dX10_cost_7 rfl (lv_at hl 2 rfl) ?_
  refine lv_iload_n hx hb dX10_cost_8 rfl (lv_at hl 3 rfl) ?_
  refine pu_calli (runV (As := [.int n0, .int n1, .int n2]) (rest := []) ⟨hx, hb, hml, hown, hts⟩ (m_isStore l D cy ma n0 n1 n2 ) sV_X10_375 hK (va_recv hK.1 hP (ci := 10) (q0 := 0) rfl rfl) (hP.sub (ws' := [((ma 0), .inr (10, [.int 0, .ref (ma 1), .ref (ma 2), .ref (ma 3), .ref (ma 4), .ref (ma 5), .int 0, .int 0, .int 0, .int 0, .int 0, .long 0, .int 0, .int 0, .int 0, .int (-1), .ref (ma 16), .ref (ma 17), .ref (ma 18), .ref (ma 19), .ref (ma 20), .ref (ma 21), .ref (ma 22), .ref (ma 23), .ref (ma 24), .ref (ma 25), .ref (ma 26), .ref (ma 27), .ref (ma 28), .ref (ma 29), .ref (ma 30), .ref (ma 31), .ref (ma 32), .ref (ma 33), .ref (ma 34), .ref (ma 35), .ref (ma 36), .ref (ma 37), .ref (ma 38), .ref (ma 39), .ref (ma 40), .ref (ma 41), .long 0])), ((ma 20), .inl (cy 1, 5, .inl (fun _ => 0))), ((ma 18), .inl (cy 1, 5, .inl (fun _ => 0)))]) [0, 1, 2] rfl) ⟨Nat.le_of_ble_eq_true rfl, Nat.le_of_ble_eq_true rfl⟩ rfl hl.1 rfl (Nat.le_of_ble_eq_true rfl) dX10_cost_9 ⟨Nat.le_of_ble_eq_true rfl, Nat.le_of_ble_eq_true rfl⟩) (fun r_1 hr_1 => ?_)
  have er_1 := hr_1
  subst er_1
  refine W.eq (g2 := F0 m 12 ls [.int 0]) rfl ?_
  refine lv_if_ne (tgt := 19) hx hb dX10_cost_12 (by decide) (fun c_2 => absurd c_2 (by decide)) (fun _ => ?_)
  refine lv_ldc2 (v := (-2)) hx hb hown (hts _ kl_X10_300) dX10_cost_15 ?_
  exact ret_l hx hb hr hlocks ⟨⟨hS.1, hS.2.1⟩, (), ⟨_, rfl, rfl⟩, hP.sub [] rfl, hD.sub [] (by decide) rfl⟩ hS.2.2 (Nat.le_of_ble_eq_true rfl) (Nat.le_of_ble_eq_true rfl) dX10_cost_18
set_option maxHeartbeats 4000000 in
set_option maxRecDepth 100000 in
theorem g_X10_worth (l : Launch) (D : va_G) (cy : Nat → ClassId) (ma : Nat → Nat) (n0 : Int32) (n1 : Int32) (n2 : Int32) (sz : Nat) : MM l yX10_worth cX10_worth 4 (some .long) 3 0 0 D cy [.ref (ma 0), .int n0, .int n1, .int n2] (PW D [((ma 0), .inr (10, [.int 0, .ref (ma 1), .ref (ma 2), .ref (ma 3), .ref (ma 4), .ref (ma 5), .int 0, .int 0, .int 0, .int 0, .int 0, .long 0, .int 0, .int 0, .int 0, .int (-1), .ref (ma 16), .ref (ma 17), .ref (ma 18), .ref (ma 19), .ref (ma 20), .ref (ma 21), .ref (ma 22), .ref (ma 23), .ref (ma 24), .ref (ma 25), .ref (ma 26), .ref (ma 27), .ref (ma 28), .ref (ma 29), .ref (ma 30), .ref (ma 31), .ref (ma 32), .ref (ma 33), .ref (ma 34), .ref (ma 35), .ref (ma 36), .ref (ma 37), .ref (ma 38), .ref (ma 39), .ref (ma 40), .ref (ma 41), .long 0])), ((ma 20), .inl (cy 1, 5, .inl (fun _ => 0))), ((ma 18), .inl (cy 1, 5, .inl (fun _ => 0))), ((ma 17), .inl (cy 1, 20, .inl (fun _ => 0)))] sz) (QW D (va_A [((ma 0), .inr (10, [.int 0, .ref (ma 1), .ref (ma 2), .ref (ma 3), .ref (ma 4), .ref (ma 5), .int 0, .int 0, .int 0, .int 0, .int 0, .long 0, .int 0, .int 0, .int 0, .int (-1), .ref (ma 16), .ref (ma 17), .ref (ma 18), .ref (ma 19), .ref (ma 20), .ref (ma 21), .ref (ma 22), .ref (ma 23), .ref (ma 24), .ref (ma 25), .ref (ma 26), .ref (ma 27), .ref (ma 28), .ref (ma 29), .ref (ma 30), .ref (ma 31), .ref (ma 32), .ref (ma 33), .ref (ma 34), .ref (ma 35), .ref (ma 36), .ref (ma 37), .ref (ma 38), .ref (ma 39), .ref (ma 40), .ref (ma 41), .long 0])), ((ma 20), .inl (cy 1, 5, .inl (fun _ => 0))), ((ma 18), .inl (cy 1, 5, .inl (fun _ => 0))), ((ma 17), .inl (cy 1, 20, .inl (fun _ => 0)))] sz) (S := Unit) (fun v u => (∃ r : Int64, v = some (.long r) ∧ (r = (-1000000000000)))) (fun u => [])) (va_A [((ma 0), .inr (10, [.int 0, .ref (ma 1), .ref (ma 2), .ref (ma 3), .ref (ma 4), .ref (ma 5), .int 0, .int 0, .int 0, .int 0, .int 0, .long 0, .int 0, .int 0, .int 0, .int (-1), .ref (ma 16), .ref (ma 17), .ref (ma 18), .ref (ma 19), .ref (ma 20), .ref (ma 21), .ref (ma 22), .ref (ma 23), .ref (ma 24), .ref (ma 25), .ref (ma 26), .ref (ma 27), .ref (ma 28), .ref (ma 29), .ref (ma 30), .ref (ma 31), .ref (ma 32), .ref (ma 33), .ref (ma 34), .ref (ma 35), .ref (ma 36), .ref (ma 37), .ref (ma 38), .ref (ma 39), .ref (ma 40), .ref (ma 41), .long 0])), ((ma 20), .inl (cy 1, 5, .inl (fun _ => 0))), ((ma 18), .inl (cy 1, 5, .inl (fun _ => 0))), ((ma 17), .inl (cy 1, 20, .inl (fun _ => 0)))] sz) := by
  refine MM.of (by decide) (Nat.le_of_ble_eq_true rfl) ?_
  intro p e s m below meth c C hPW ls hl
  obtain ⟨hx, hb, hr, hml, hown, hts, hlocks, hK, hnm⟩ := C
  obtain ⟨rfl, hP, hD0⟩ := hPW
  have hD := hD0.self (sz := s.heap.size)
  have hA : ∀ q : Nat, s.heap.size ≤ q → (va_A [((ma 0), .inr (10, [.int 0, .ref (ma 1), .ref (ma 2), .ref (ma 3), .ref (ma 4), .ref (ma 5), .int 0, .int 0, .int 0, .int 0, .int 0, .long 0, .int 0, .int 0, .int 0, .int (-1), .ref (ma 16), .ref (ma 17), .ref (ma 18), .ref (ma 19), .ref (ma 20), .ref (ma 21), .ref (ma 22), .ref (ma 23), .ref (ma 24), .ref (ma 25), .ref (ma 26), .ref (ma 27), .ref (ma 28), .ref (ma 29), .ref (ma 30), .ref (ma 31), .ref (ma 32), .ref (ma 33), .ref (ma 34), .ref (ma 35), .ref (ma 36), .ref (ma 37), .ref (ma 38), .ref (ma 39), .ref (ma 40), .ref (ma 41), .long 0])), ((ma 20), .inl (cy 1, 5, .inl (fun _ => 0))), ((ma 18), .inl (cy 1, 5, .inl (fun _ => 0))), ((ma 17), .inl (cy 1, 20, .inl (fun _ => 0)))] s.heap.size) q := fun q h => Or.inr h
  have hS : va_S (va_A [((ma 0), .inr (10, [.int 0, .ref (ma 1), .ref (ma 2), .ref (ma 3), .ref (ma 4), .ref (ma 5), .int 0, .int 0, .int 0, .int 0, .int 0, .long 0, .int 0, .int 0, .int 0, .int (-1), .ref (ma 16), .ref (ma 17), .ref (ma 18), .ref (ma 19), .ref (ma 20), .ref (ma 21), .ref (ma 22), .ref (ma 23), .ref (ma 24), .ref (ma 25), .ref (ma 26), .ref (ma 27), .ref (ma 28), .ref (ma 29), .ref (ma 30), .ref (ma 31), .ref (ma 32), .ref (ma 33), .ref (ma 34), .ref (ma 35), .ref (ma 36), .ref (ma 37), .ref (ma 38), .ref (ma 39), .ref (ma 40), .ref (ma 41), .long 0])), ((ma 20), .inl (cy 1, 5, .inl (fun _ => 0))), ((ma 18), .inl (cy 1, 5, .inl (fun _ => 0))), ((ma 17), .inl (cy 1, 20, .inl (fun _ => 0)))] s.heap.size) s.heap s.heap [] := va_S.rf
  generalize va_A [((ma 0), .inr (10, [.int 0, .ref (ma 1), .ref (ma 2), .ref (ma 3), .ref (ma 4), .ref (ma 5), .int 0, .int 0, .int 0, .int 0, .int 0, .long 0, .int 0, .int 0, .int 0, .int (-1), .ref (ma 16), .ref (ma 17), .ref (ma 18), .ref (ma 19), .ref (ma 20), .ref (ma 21), .ref (ma 22), .ref (ma 23), .ref (ma 24), .ref (ma 25), .ref (ma 26), .ref (ma 27), .ref (ma 28), .ref (ma 29), .ref (ma 30), .ref (ma 31), .ref (ma 32), .ref (ma 33), .ref (ma 34), .ref (ma 35), .ref (ma 36), .ref (ma 37), .ref (ma 38), .ref (ma 39), .ref (ma 40), .ref (ma 41), .long 0])), ((ma 20), .inl (cy 1, 5, .inl (fun _ => 0))), ((ma 18), .inl (cy 1, 5, .inl (fun _ => 0))), ((ma 17), .inl (cy 1, 20, .inl (fun _ => 0)))] s.heap.size = A at hD hA hS ⊢
  have hP : va_P D vwCl [((ma 0), .inr (10, [.int 0, .ref (ma 1), .ref (ma 2), .ref (ma 3), .ref (ma 4), .ref (ma 5), .int 0, .int 0, .int 0, .int 0, .int 0, .long 0, .int 0, .int 0, .int 0, .int (-1), .ref (ma 16), .ref (ma 17), .ref (ma 18), .ref (ma 19), .ref (ma 20), .ref (ma 21), .ref (ma 22), .ref (ma 23), .ref (ma 24), .ref (ma 25), .ref (ma 26), .ref (ma 27), .ref (ma 28), .ref (ma 29), .ref (ma 30), .ref (ma 31), .ref (ma 32), .ref (ma 33), .ref (ma 34), .ref (ma 35), .ref (ma 36), .ref (ma 37), .ref (ma 38), .ref (ma 39), .ref (ma 40), .ref (ma 41), .long 0])), ((ma 20), .inl (cy 1, 5, .inl (fun _ => 0))), ((ma 18), .inl (cy 1, 5, .inl (fun _ => 0))), ((ma 17), .inl (cy 1, 20, .inl (fun _ => 0)))] s.heap := hP
  have hl : lv_has ls 4 [(0, .ref (ma 0)), (1, .int n0), (2, .int n1), (3, .int n2)] := hl
  refine lv_aload_n hx hb dX10_worth_0 rfl (lv_at hl 0 rfl) ?_
  refine lv_iconst (v := 0) hx hb dX10_worth_1 (by decide) ?_
  refine va_put (D := D) (ci := 10) (v := .int 0) (ty := tyX10 0) (C := RX10) (T := TX10) (N := 43) hx hb hts lay_X10 tyX10 tyX10_ok nmX10 hown hK.1 hP hD hS 0 rfl rfl 0 (by decide) (hts _ fl_X10_111) (fun _ h9 => h9) rfl (tyX10_ok 0 (by decide)) rfl rfl (Nat.le_of_ble_eq_true rfl) dX10_worth_2 (fun H locs hP hD hS => ?_)
  have hP : va_P D vwCl [((ma 0), .inr (10, [.int 0, .ref (ma 1), .ref (ma 2), .ref (ma 3), .ref (ma 4), .ref (ma 5), .int 0, .int 0, .int 0, .int 0, .int 0, .long 0, .int 0, .int 0, .int 0, .int (-1), .ref (ma 16), .ref (ma 17), .ref (ma 18), .ref (ma 19), .ref (ma 20), .ref (ma 21), .ref (ma 22), .ref (ma 23), .ref (ma 24), .ref (ma 25), .ref (ma 26), .ref (ma 27), .ref (ma 28), .ref (ma 29), .ref (ma 30), .ref (ma 31), .ref (ma 32), .ref (ma 33), .ref (ma 34), .ref (ma 35), .ref (ma 36), .ref (ma 37), .ref (ma 38), .ref (ma 39), .ref (ma 40), .ref (ma 41), .long 0])), ((ma 20), .inl (cy 1, 5, .inl (fun _ => 0))), ((ma 18), .inl (cy 1, 5, .inl (fun _ => 0))), ((ma 17), .inl (cy 1, 20, .inl (fun _ => 0)))] H := hP
  have hD : va_D A [((ma 0), .inr (10, [.int 0, .ref (ma 1), .ref (ma 2), .ref (ma 3), .ref (ma 4), .ref (ma 5), .int 0, .int 0, .int 0, .int 0, .int 0, .long 0, .int 0, .int 0, .int 0, .int (-1), .ref (ma 16), .ref (ma 17), .ref (ma 18), .ref (ma 19), .ref (ma 20), .ref (ma 21), .ref (ma 22), .ref (ma 23), .ref (ma 24), .ref (ma 25), .ref (ma 26), .ref (ma 27), .ref (ma 28), .ref (ma 29), .ref (ma 30), .ref (ma 31), .ref (ma 32), .ref (ma 33), .ref (ma 34), .ref (ma 35), .ref (ma 36), .ref (ma 37), .ref (ma 38), .ref (ma 39), .ref (ma 40), .ref (ma 41), .long 0])), ((ma 20), .inl (cy 1, 5, .inl (fun _ => 0))), ((ma 18), .inl (cy 1, 5, .inl (fun _ => 0))), ((ma 17), .inl (cy 1, 20, .inl (fun _ => 0)))] := hD
  refine lv_aload_n hx hb dX10_worth_5 rfl (lv_at hl 0 rfl) ?_
  refine lv_iload_n hx hb dX10_worth_6 rfl (lv_at hl 1 rfl) ?_
  refine lv_iload_n hx hb dX10_worth_7 rfl (lv_at hl 2 rfl) ?_
  refine lv_iload_n hx hb dX10_worth_8 rfl (lv_at hl 3 rfl) ?_
  refine pu_calli (runV (As := [.int n0, .int n1, .int n2]) (rest := []) ⟨hx, hb, hml, hown, hts⟩ (m_isStore l D cy ma n0 n1 n2 ) sV_X10_375 hK (va_recv hK.1 hP (ci := 10) (q0 := 0) rfl rfl) (hP.sub (ws' := [((ma 0), .inr (10, [.int 0, .ref (ma 1), .ref (ma 2), .ref (ma 3), .ref (ma 4), .ref (ma 5), .int 0, .int 0, .int 0, .int 0, .int 0, .long 0, .int 0, .int 0, .int 0, .int (-1), .ref (ma 16), .ref (ma 17), .ref (ma 18), .ref (ma 19), .ref (ma 20), .ref (ma 21), .ref (ma 22), .ref (ma 23), .ref (ma 24), .ref (ma 25), .ref (ma 26), .ref (ma 27), .ref (ma 28), .ref (ma 29), .ref (ma 30), .ref (ma 31), .ref (ma 32), .ref (ma 33), .ref (ma 34), .ref (ma 35), .ref (ma 36), .ref (ma 37), .ref (ma 38), .ref (ma 39), .ref (ma 40), .ref (ma 41), .long 0])), ((ma 20), .inl (cy 1, 5, .inl (fun _ => 0))), ((ma 18), .inl (cy 1, 5, .inl (fun _ => 0)))]) [0, 1, 2] rfl) ⟨Nat.le_of_ble_eq_true rfl, Nat.le_of_ble_eq_true rfl⟩ rfl hl.1 rfl (Nat.le_of_ble_eq_true rfl) dX10_worth_9 ⟨Nat.le_of_ble_eq_true rfl, Nat.le_of_ble_eq_true rfl⟩) (fun r_1 hr_1 => ?_)
  have er_1 := hr_1
  subst er_1
  refine W.eq (g2 := F0 m 12 ls [.int 0]) rfl ?_
  refine lv_if_eq (tgt := 22) hx hb dX10_worth_12 (by decide) (fun _ => ?_) (fun c_2 => absurd (by decide) c_2)
  refine lv_ldc2 (v := (-1000000000000)) hx hb hown (hts _ kl_X10_381) dX10_worth_22 ?_
  exact ret_l hx hb hr hlocks ⟨⟨hS.1, hS.2.1⟩, (), ⟨_, rfl, rfl⟩, hP.sub [] rfl, hD.sub [] (by decide) rfl⟩ hS.2.2 (Nat.le_of_ble_eq_true rfl) (Nat.le_of_ble_eq_true rfl) dX10_worth_25
set_option maxHeartbeats 4000000 in
set_option maxRecDepth 100000 in
theorem g_X10_best (l : Launch) (D : va_G) (cy : Nat → ClassId) (ma : Nat → Nat) (n0 : Int32) (n1 : Int32) (sz : Nat) : MM l yX10_best cX10_best 3 (some .int) 3 0 0 D cy [.ref (ma 0), .int n0, .int n1] (PW D [((ma 0), .inr (10, [.int 0, .ref (ma 1), .ref (ma 2), .ref (ma 3), .ref (ma 4), .ref (ma 5), .int 0, .int 0, .int 0, .int 0, .int 0, .long 0, .int 0, .int 0, .int 0, .int (-1), .ref (ma 16), .ref (ma 17), .ref (ma 18), .ref (ma 19), .ref (ma 20), .ref (ma 21), .ref (ma 22), .ref (ma 23), .ref (ma 24), .ref (ma 25), .ref (ma 26), .ref (ma 27), .ref (ma 28), .ref (ma 29), .ref (ma 30), .ref (ma 31), .ref (ma 32), .ref (ma 33), .ref (ma 34), .ref (ma 35), .ref (ma 36), .ref (ma 37), .ref (ma 38), .ref (ma 39), .ref (ma 40), .ref (ma 41), .long 0])), ((ma 20), .inl (cy 1, 5, .inl (fun _ => 0))), ((ma 18), .inl (cy 1, 5, .inl (fun _ => 0))), ((ma 17), .inl (cy 1, 20, .inl (fun _ => 0)))] sz) (QW D (va_A [((ma 0), .inr (10, [.int 0, .ref (ma 1), .ref (ma 2), .ref (ma 3), .ref (ma 4), .ref (ma 5), .int 0, .int 0, .int 0, .int 0, .int 0, .long 0, .int 0, .int 0, .int 0, .int (-1), .ref (ma 16), .ref (ma 17), .ref (ma 18), .ref (ma 19), .ref (ma 20), .ref (ma 21), .ref (ma 22), .ref (ma 23), .ref (ma 24), .ref (ma 25), .ref (ma 26), .ref (ma 27), .ref (ma 28), .ref (ma 29), .ref (ma 30), .ref (ma 31), .ref (ma 32), .ref (ma 33), .ref (ma 34), .ref (ma 35), .ref (ma 36), .ref (ma 37), .ref (ma 38), .ref (ma 39), .ref (ma 40), .ref (ma 41), .long 0])), ((ma 20), .inl (cy 1, 5, .inl (fun _ => 0))), ((ma 18), .inl (cy 1, 5, .inl (fun _ => 0))), ((ma 17), .inl (cy 1, 20, .inl (fun _ => 0)))] sz) (S := Unit) (fun v u => (∃ r : Int32, v = some (.int r) ∧ (r = (-2)))) (fun u => [])) (va_A [((ma 0), .inr (10, [.int 0, .ref (ma 1), .ref (ma 2), .ref (ma 3), .ref (ma 4), .ref (ma 5), .int 0, .int 0, .int 0, .int 0, .int 0, .long 0, .int 0, .int 0, .int 0, .int (-1), .ref (ma 16), .ref (ma 17), .ref (ma 18), .ref (ma 19), .ref (ma 20), .ref (ma 21), .ref (ma 22), .ref (ma 23), .ref (ma 24), .ref (ma 25), .ref (ma 26), .ref (ma 27), .ref (ma 28), .ref (ma 29), .ref (ma 30), .ref (ma 31), .ref (ma 32), .ref (ma 33), .ref (ma 34), .ref (ma 35), .ref (ma 36), .ref (ma 37), .ref (ma 38), .ref (ma 39), .ref (ma 40), .ref (ma 41), .long 0])), ((ma 20), .inl (cy 1, 5, .inl (fun _ => 0))), ((ma 18), .inl (cy 1, 5, .inl (fun _ => 0))), ((ma 17), .inl (cy 1, 20, .inl (fun _ => 0)))] sz) := by
  refine MM.of (by decide) (Nat.le_of_ble_eq_true rfl) ?_
  intro p e s m below meth c C hPW ls hl
  obtain ⟨hx, hb, hr, hml, hown, hts, hlocks, hK, hnm⟩ := C
  obtain ⟨rfl, hP, hD0⟩ := hPW
  have hD := hD0.self (sz := s.heap.size)
  have hA : ∀ q : Nat, s.heap.size ≤ q → (va_A [((ma 0), .inr (10, [.int 0, .ref (ma 1), .ref (ma 2), .ref (ma 3), .ref (ma 4), .ref (ma 5), .int 0, .int 0, .int 0, .int 0, .int 0, .long 0, .int 0, .int 0, .int 0, .int (-1), .ref (ma 16), .ref (ma 17), .ref (ma 18), .ref (ma 19), .ref (ma 20), .ref (ma 21), .ref (ma 22), .ref (ma 23), .ref (ma 24), .ref (ma 25), .ref (ma 26), .ref (ma 27), .ref (ma 28), .ref (ma 29), .ref (ma 30), .ref (ma 31), .ref (ma 32), .ref (ma 33), .ref (ma 34), .ref (ma 35), .ref (ma 36), .ref (ma 37), .ref (ma 38), .ref (ma 39), .ref (ma 40), .ref (ma 41), .long 0])), ((ma 20), .inl (cy 1, 5, .inl (fun _ => 0))), ((ma 18), .inl (cy 1, 5, .inl (fun _ => 0))), ((ma 17), .inl (cy 1, 20, .inl (fun _ => 0)))] s.heap.size) q := fun q h => Or.inr h
  have hS : va_S (va_A [((ma 0), .inr (10, [.int 0, .ref (ma 1), .ref (ma 2), .ref (ma 3), .ref (ma 4), .ref (ma 5), .int 0, .int 0, .int 0, .int 0, .int 0, .long 0, .int 0, .int 0, .int 0, .int (-1), .ref (ma 16), .ref (ma 17), .ref (ma 18), .ref (ma 19), .ref (ma 20), .ref (ma 21), .ref (ma 22), .ref (ma 23), .ref (ma 24), .ref (ma 25), .ref (ma 26), .ref (ma 27), .ref (ma 28), .ref (ma 29), .ref (ma 30), .ref (ma 31), .ref (ma 32), .ref (ma 33), .ref (ma 34), .ref (ma 35), .ref (ma 36), .ref (ma 37), .ref (ma 38), .ref (ma 39), .ref (ma 40), .ref (ma 41), .long 0])), ((ma 20), .inl (cy 1, 5, .inl (fun _ => 0))), ((ma 18), .inl (cy 1, 5, .inl (fun _ => 0))), ((ma 17), .inl (cy 1, 20, .inl (fun _ => 0)))] s.heap.size) s.heap s.heap [] := va_S.rf
  generalize va_A [((ma 0), .inr (10, [.int 0, .ref (ma 1), .ref (ma 2), .ref (ma 3), .ref (ma 4), .ref (ma 5), .int 0, .int 0, .int 0, .int 0, .int 0, .long 0, .int 0, .int 0, .int 0, .int (-1), .ref (ma 16), .ref (ma 17), .ref (ma 18), .ref (ma 19), .ref (ma 20), .ref (ma 21), .ref (ma 22), .ref (ma 23), .ref (ma 24), .ref (ma 25), .ref (ma 26), .ref (ma 27), .ref (ma 28), .ref (ma 29), .ref (ma 30), .ref (ma 31), .ref (ma 32), .ref (ma 33), .ref (ma 34), .ref (ma 35), .ref (ma 36), .ref (ma 37), .ref (ma 38), .ref (ma 39), .ref (ma 40), .ref (ma 41), .long 0])), ((ma 20), .inl (cy 1, 5, .inl (fun _ => 0))), ((ma 18), .inl (cy 1, 5, .inl (fun _ => 0))), ((ma 17), .inl (cy 1, 20, .inl (fun _ => 0)))] s.heap.size = A at hD hA hS ⊢
  have hP : va_P D vwCl [((ma 0), .inr (10, [.int 0, .ref (ma 1), .ref (ma 2), .ref (ma 3), .ref (ma 4), .ref (ma 5), .int 0, .int 0, .int 0, .int 0, .int 0, .long 0, .int 0, .int 0, .int 0, .int (-1), .ref (ma 16), .ref (ma 17), .ref (ma 18), .ref (ma 19), .ref (ma 20), .ref (ma 21), .ref (ma 22), .ref (ma 23), .ref (ma 24), .ref (ma 25), .ref (ma 26), .ref (ma 27), .ref (ma 28), .ref (ma 29), .ref (ma 30), .ref (ma 31), .ref (ma 32), .ref (ma 33), .ref (ma 34), .ref (ma 35), .ref (ma 36), .ref (ma 37), .ref (ma 38), .ref (ma 39), .ref (ma 40), .ref (ma 41), .long 0])), ((ma 20), .inl (cy 1, 5, .inl (fun _ => 0))), ((ma 18), .inl (cy 1, 5, .inl (fun _ => 0))), ((ma 17), .inl (cy 1, 20, .inl (fun _ => 0)))] s.heap := hP
  have hl : lv_has ls 3 [(0, .ref (ma 0)), (1, .int n0), (2, .int n1)] := hl
  refine lv_aload_n hx hb dX10_best_0 rfl (lv_at hl 0 rfl) ?_
  refine lv_iconst (v := 0) hx hb dX10_best_1 (by decide) ?_
  refine va_put (D := D) (ci := 10) (v := .int 0) (ty := tyX10 0) (C := RX10) (T := TX10) (N := 43) hx hb hts lay_X10 tyX10 tyX10_ok nmX10 hown hK.1 hP hD hS 0 rfl rfl 0 (by decide) (hts _ fl_X10_111) (fun _ h9 => h9) rfl (tyX10_ok 0 (by decide)) rfl rfl (Nat.le_of_ble_eq_true rfl) dX10_best_2 (fun H locs hP hD hS => ?_)
  have hP : va_P D vwCl [((ma 0), .inr (10, [.int 0, .ref (ma 1), .ref (ma 2), .ref (ma 3), .ref (ma 4), .ref (ma 5), .int 0, .int 0, .int 0, .int 0, .int 0, .long 0, .int 0, .int 0, .int 0, .int (-1), .ref (ma 16), .ref (ma 17), .ref (ma 18), .ref (ma 19), .ref (ma 20), .ref (ma 21), .ref (ma 22), .ref (ma 23), .ref (ma 24), .ref (ma 25), .ref (ma 26), .ref (ma 27), .ref (ma 28), .ref (ma 29), .ref (ma 30), .ref (ma 31), .ref (ma 32), .ref (ma 33), .ref (ma 34), .ref (ma 35), .ref (ma 36), .ref (ma 37), .ref (ma 38), .ref (ma 39), .ref (ma 40), .ref (ma 41), .long 0])), ((ma 20), .inl (cy 1, 5, .inl (fun _ => 0))), ((ma 18), .inl (cy 1, 5, .inl (fun _ => 0))), ((ma 17), .inl (cy 1, 20, .inl (fun _ => 0)))] H := hP
  have hD : va_D A [((ma 0), .inr (10, [.int 0, .ref (ma 1), .ref (ma 2), .ref (ma 3), .ref (ma 4), .ref (ma 5), .int 0, .int 0, .int 0, .int 0, .int 0, .long 0, .int 0, .int 0, .int 0, .int (-1), .ref (ma 16), .ref (ma 17), .ref (ma 18), .ref (ma 19), .ref (ma 20), .ref (ma 21), .ref (ma 22), .ref (ma 23), .ref (ma 24), .ref (ma 25), .ref (ma 26), .ref (ma 27), .ref (ma 28), .ref (ma 29), .ref (ma 30), .ref (ma 31), .ref (ma 32), .ref (ma 33), .ref (ma 34), .ref (ma 35), .ref (ma 36), .ref (ma 37), .ref (ma 38), .ref (ma 39), .ref (ma 40), .ref (ma 41), .long 0])), ((ma 20), .inl (cy 1, 5, .inl (fun _ => 0))), ((ma 18), .inl (cy 1, 5, .inl (fun _ => 0))), ((ma 17), .inl (cy 1, 20, .inl (fun _ => 0)))] := hD
  refine lv_aload_n hx hb dX10_best_5 rfl (lv_at hl 0 rfl) ?_
  refine lv_iload_n hx hb dX10_best_6 rfl (lv_at hl 1 rfl) ?_
  refine lv_iload_n hx hb dX10_best_7 rfl (lv_at hl 2 rfl) ?_
  refine lv_iconst (v := 0) hx hb dX10_best_8 (by decide) ?_
  refine pu_calli (runV (As := [.int n0, .int n1, .int 0]) (rest := []) ⟨hx, hb, hml, hown, hts⟩ (m_isStore l D cy ma n0 n1 0 ) sV_X10_375 hK (va_recv hK.1 hP (ci := 10) (q0 := 0) rfl rfl) (hP.sub (ws' := [((ma 0), .inr (10, [.int 0, .ref (ma 1), .ref (ma 2), .ref (ma 3), .ref (ma 4), .ref (ma 5), .int 0, .int 0, .int 0, .int 0, .int 0, .long 0, .int 0, .int 0, .int 0, .int (-1), .ref (ma 16), .ref (ma 17), .ref (ma 18), .ref (ma 19), .ref (ma 20), .ref (ma 21), .ref (ma 22), .ref (ma 23), .ref (ma 24), .ref (ma 25), .ref (ma 26), .ref (ma 27), .ref (ma 28), .ref (ma 29), .ref (ma 30), .ref (ma 31), .ref (ma 32), .ref (ma 33), .ref (ma 34), .ref (ma 35), .ref (ma 36), .ref (ma 37), .ref (ma 38), .ref (ma 39), .ref (ma 40), .ref (ma 41), .long 0])), ((ma 20), .inl (cy 1, 5, .inl (fun _ => 0))), ((ma 18), .inl (cy 1, 5, .inl (fun _ => 0)))]) [0, 1, 2] rfl) ⟨Nat.le_of_ble_eq_true rfl, Nat.le_of_ble_eq_true rfl⟩ rfl hl.1 rfl (Nat.le_of_ble_eq_true rfl) dX10_best_9 ⟨Nat.le_of_ble_eq_true rfl, Nat.le_of_ble_eq_true rfl⟩) (fun r_1 hr_1 => ?_)
  have er_1 := hr_1
  subst er_1
  refine W.eq (g2 := F0 m 12 ls [.int 0]) rfl ?_
  refine lv_if_ne (tgt := 18) hx hb dX10_best_12 (by decide) (fun c_2 => absurd c_2 (by decide)) (fun _ => ?_)
  refine lv_bipush (v := (-2)) hx hb dX10_best_15 (by decide) ?_
  exact ret_i hx hb hr hlocks ⟨⟨hS.1, hS.2.1⟩, (), ⟨_, rfl, rfl⟩, hP.sub [] rfl, hD.sub [] (by decide) rfl⟩ hS.2.2 (Nat.le_of_ble_eq_true rfl) (Nat.le_of_ble_eq_true rfl) dX10_best_17
set_option maxHeartbeats 4000000 in
set_option maxRecDepth 100000 in
theorem g_X10_sure (l : Launch) (D : va_G) (cy : Nat → ClassId) (ma : Nat → Nat) (n0 : Int32) (n1 : Int32) (n2 : Int32) (sz : Nat) : MM l yX10_sure cX10_sure 4 (some .long) 3 0 0 D cy [.ref (ma 0), .int n0, .int n1, .int n2] (PW D [((ma 0), .inr (10, [.int 0, .ref (ma 1), .ref (ma 2), .ref (ma 3), .ref (ma 4), .ref (ma 5), .int 0, .int 0, .int 0, .int 0, .int 0, .long 0, .int 0, .int 0, .int 0, .int (-1), .ref (ma 16), .ref (ma 17), .ref (ma 18), .ref (ma 19), .ref (ma 20), .ref (ma 21), .ref (ma 22), .ref (ma 23), .ref (ma 24), .ref (ma 25), .ref (ma 26), .ref (ma 27), .ref (ma 28), .ref (ma 29), .ref (ma 30), .ref (ma 31), .ref (ma 32), .ref (ma 33), .ref (ma 34), .ref (ma 35), .ref (ma 36), .ref (ma 37), .ref (ma 38), .ref (ma 39), .ref (ma 40), .ref (ma 41), .long 0])), ((ma 20), .inl (cy 1, 5, .inl (fun _ => 0))), ((ma 18), .inl (cy 1, 5, .inl (fun _ => 0))), ((ma 17), .inl (cy 1, 20, .inl (fun _ => 0)))] sz) (QW D (va_A [((ma 0), .inr (10, [.int 0, .ref (ma 1), .ref (ma 2), .ref (ma 3), .ref (ma 4), .ref (ma 5), .int 0, .int 0, .int 0, .int 0, .int 0, .long 0, .int 0, .int 0, .int 0, .int (-1), .ref (ma 16), .ref (ma 17), .ref (ma 18), .ref (ma 19), .ref (ma 20), .ref (ma 21), .ref (ma 22), .ref (ma 23), .ref (ma 24), .ref (ma 25), .ref (ma 26), .ref (ma 27), .ref (ma 28), .ref (ma 29), .ref (ma 30), .ref (ma 31), .ref (ma 32), .ref (ma 33), .ref (ma 34), .ref (ma 35), .ref (ma 36), .ref (ma 37), .ref (ma 38), .ref (ma 39), .ref (ma 40), .ref (ma 41), .long 0])), ((ma 20), .inl (cy 1, 5, .inl (fun _ => 0))), ((ma 18), .inl (cy 1, 5, .inl (fun _ => 0))), ((ma 17), .inl (cy 1, 20, .inl (fun _ => 0)))] sz) (S := Unit) (fun v u => (∃ r : Int64, v = some (.long r) ∧ (r = (-2)))) (fun u => [])) (va_A [((ma 0), .inr (10, [.int 0, .ref (ma 1), .ref (ma 2), .ref (ma 3), .ref (ma 4), .ref (ma 5), .int 0, .int 0, .int 0, .int 0, .int 0, .long 0, .int 0, .int 0, .int 0, .int (-1), .ref (ma 16), .ref (ma 17), .ref (ma 18), .ref (ma 19), .ref (ma 20), .ref (ma 21), .ref (ma 22), .ref (ma 23), .ref (ma 24), .ref (ma 25), .ref (ma 26), .ref (ma 27), .ref (ma 28), .ref (ma 29), .ref (ma 30), .ref (ma 31), .ref (ma 32), .ref (ma 33), .ref (ma 34), .ref (ma 35), .ref (ma 36), .ref (ma 37), .ref (ma 38), .ref (ma 39), .ref (ma 40), .ref (ma 41), .long 0])), ((ma 20), .inl (cy 1, 5, .inl (fun _ => 0))), ((ma 18), .inl (cy 1, 5, .inl (fun _ => 0))), ((ma 17), .inl (cy 1, 20, .inl (fun _ => 0)))] sz) := by
  refine MM.of (by decide) (Nat.le_of_ble_eq_true rfl) ?_
  intro p e s m below meth c C hPW ls hl
  obtain ⟨hx, hb, hr, hml, hown, hts, hlocks, hK, hnm⟩ := C
  obtain ⟨rfl, hP, hD0⟩ := hPW
  have hD := hD0.self (sz := s.heap.size)
  have hA : ∀ q : Nat, s.heap.size ≤ q → (va_A [((ma 0), .inr (10, [.int 0, .ref (ma 1), .ref (ma 2), .ref (ma 3), .ref (ma 4), .ref (ma 5), .int 0, .int 0, .int 0, .int 0, .int 0, .long 0, .int 0, .int 0, .int 0, .int (-1), .ref (ma 16), .ref (ma 17), .ref (ma 18), .ref (ma 19), .ref (ma 20), .ref (ma 21), .ref (ma 22), .ref (ma 23), .ref (ma 24), .ref (ma 25), .ref (ma 26), .ref (ma 27), .ref (ma 28), .ref (ma 29), .ref (ma 30), .ref (ma 31), .ref (ma 32), .ref (ma 33), .ref (ma 34), .ref (ma 35), .ref (ma 36), .ref (ma 37), .ref (ma 38), .ref (ma 39), .ref (ma 40), .ref (ma 41), .long 0])), ((ma 20), .inl (cy 1, 5, .inl (fun _ => 0))), ((ma 18), .inl (cy 1, 5, .inl (fun _ => 0))), ((ma 17), .inl (cy 1, 20, .inl (fun _ => 0)))] s.heap.size) q := fun q h => Or.inr h
  have hS : va_S (va_A [((ma 0), .inr (10, [.int 0, .ref (ma 1), .ref (ma 2), .ref (ma 3), .ref (ma 4), .ref (ma 5), .int 0, .int 0, .int 0, .int 0, .int 0, .long 0, .int 0, .int 0, .int 0, .int (-1), .ref (ma 16), .ref (ma 17), .ref (ma 18), .ref (ma 19), .ref (ma 20), .ref (ma 21), .ref (ma 22), .ref (ma 23), .ref (ma 24), .ref (ma 25), .ref (ma 26), .ref (ma 27), .ref (ma 28), .ref (ma 29), .ref (ma 30), .ref (ma 31), .ref (ma 32), .ref (ma 33), .ref (ma 34), .ref (ma 35), .ref (ma 36), .ref (ma 37), .ref (ma 38), .ref (ma 39), .ref (ma 40), .ref (ma 41), .long 0])), ((ma 20), .inl (cy 1, 5, .inl (fun _ => 0))), ((ma 18), .inl (cy 1, 5, .inl (fun _ => 0))), ((ma 17), .inl (cy 1, 20, .inl (fun _ => 0)))] s.heap.size) s.heap s.heap [] := va_S.rf
  generalize va_A [((ma 0), .inr (10, [.int 0, .ref (ma 1), .ref (ma 2), .ref (ma 3), .ref (ma 4), .ref (ma 5), .int 0, .int 0, .int 0, .int 0, .int 0, .long 0, .int 0, .int 0, .int 0, .int (-1), .ref (ma 16), .ref (ma 17), .ref (ma 18), .ref (ma 19), .ref (ma 20), .ref (ma 21), .ref (ma 22), .ref (ma 23), .ref (ma 24), .ref (ma 25), .ref (ma 26), .ref (ma 27), .ref (ma 28), .ref (ma 29), .ref (ma 30), .ref (ma 31), .ref (ma 32), .ref (ma 33), .ref (ma 34), .ref (ma 35), .ref (ma 36), .ref (ma 37), .ref (ma 38), .ref (ma 39), .ref (ma 40), .ref (ma 41), .long 0])), ((ma 20), .inl (cy 1, 5, .inl (fun _ => 0))), ((ma 18), .inl (cy 1, 5, .inl (fun _ => 0))), ((ma 17), .inl (cy 1, 20, .inl (fun _ => 0)))] s.heap.size = A at hD hA hS ⊢
  have hP : va_P D vwCl [((ma 0), .inr (10, [.int 0, .ref (ma 1), .ref (ma 2), .ref (ma 3), .ref (ma 4), .ref (ma 5), .int 0, .int 0, .int 0, .int 0, .int 0, .long 0, .int 0, .int 0, .int 0, .int (-1), .ref (ma 16), .ref (ma 17), .ref (ma 18), .ref (ma 19), .ref (ma 20), .ref (ma 21), .ref (ma 22), .ref (ma 23), .ref (ma 24), .ref (ma 25), .ref (ma 26), .ref (ma 27), .ref (ma 28), .ref (ma 29), .ref (ma 30), .ref (ma 31), .ref (ma 32), .ref (ma 33), .ref (ma 34), .ref (ma 35), .ref (ma 36), .ref (ma 37), .ref (ma 38), .ref (ma 39), .ref (ma 40), .ref (ma 41), .long 0])), ((ma 20), .inl (cy 1, 5, .inl (fun _ => 0))), ((ma 18), .inl (cy 1, 5, .inl (fun _ => 0))), ((ma 17), .inl (cy 1, 20, .inl (fun _ => 0)))] s.heap := hP
  have hl : lv_has ls 4 [(0, .ref (ma 0)), (1, .int n0), (2, .int n1), (3, .int n2)] := hl
  refine lv_aload_n hx hb dX10_sure_0 rfl (lv_at hl 0 rfl) ?_
  refine lv_iconst (v := 0) hx hb dX10_sure_1 (by decide) ?_
  refine va_put (D := D) (ci := 10) (v := .int 0) (ty := tyX10 0) (C := RX10) (T := TX10) (N := 43) hx hb hts lay_X10 tyX10 tyX10_ok nmX10 hown hK.1 hP hD hS 0 rfl rfl 0 (by decide) (hts _ fl_X10_111) (fun _ h9 => h9) rfl (tyX10_ok 0 (by decide)) rfl rfl (Nat.le_of_ble_eq_true rfl) dX10_sure_2 (fun H locs hP hD hS => ?_)
  have hP : va_P D vwCl [((ma 0), .inr (10, [.int 0, .ref (ma 1), .ref (ma 2), .ref (ma 3), .ref (ma 4), .ref (ma 5), .int 0, .int 0, .int 0, .int 0, .int 0, .long 0, .int 0, .int 0, .int 0, .int (-1), .ref (ma 16), .ref (ma 17), .ref (ma 18), .ref (ma 19), .ref (ma 20), .ref (ma 21), .ref (ma 22), .ref (ma 23), .ref (ma 24), .ref (ma 25), .ref (ma 26), .ref (ma 27), .ref (ma 28), .ref (ma 29), .ref (ma 30), .ref (ma 31), .ref (ma 32), .ref (ma 33), .ref (ma 34), .ref (ma 35), .ref (ma 36), .ref (ma 37), .ref (ma 38), .ref (ma 39), .ref (ma 40), .ref (ma 41), .long 0])), ((ma 20), .inl (cy 1, 5, .inl (fun _ => 0))), ((ma 18), .inl (cy 1, 5, .inl (fun _ => 0))), ((ma 17), .inl (cy 1, 20, .inl (fun _ => 0)))] H := hP
  have hD : va_D A [((ma 0), .inr (10, [.int 0, .ref (ma 1), .ref (ma 2), .ref (ma 3), .ref (ma 4), .ref (ma 5), .int 0, .int 0, .int 0, .int 0, .int 0, .long 0, .int 0, .int 0, .int 0, .int (-1), .ref (ma 16), .ref (ma 17), .ref (ma 18), .ref (ma 19), .ref (ma 20), .ref (ma 21), .ref (ma 22), .ref (ma 23), .ref (ma 24), .ref (ma 25), .ref (ma 26), .ref (ma 27), .ref (ma 28), .ref (ma 29), .ref (ma 30), .ref (ma 31), .ref (ma 32), .ref (ma 33), .ref (ma 34), .ref (ma 35), .ref (ma 36), .ref (ma 37), .ref (ma 38), .ref (ma 39), .ref (ma 40), .ref (ma 41), .long 0])), ((ma 20), .inl (cy 1, 5, .inl (fun _ => 0))), ((ma 18), .inl (cy 1, 5, .inl (fun _ => 0))), ((ma 17), .inl (cy 1, 20, .inl (fun _ => 0)))] := hD
  refine lv_aload_n hx hb dX10_sure_5 rfl (lv_at hl 0 rfl) ?_
  refine lv_iload_n hx hb dX10_sure_6 rfl (lv_at hl 1 rfl) ?_
  refine lv_iload_n hx hb dX10_sure_7 rfl (lv_at hl 2 rfl) ?_
  refine lv_iload_n hx hb dX10_sure_8 rfl (lv_at hl 3 rfl) ?_
  refine pu_calli (runV (As := [.int n0, .int n1, .int n2]) (rest := []) ⟨hx, hb, hml, hown, hts⟩ (m_isStore l D cy ma n0 n1 n2 ) sV_X10_375 hK (va_recv hK.1 hP (ci := 10) (q0 := 0) rfl rfl) (hP.sub (ws' := [((ma 0), .inr (10, [.int 0, .ref (ma 1), .ref (ma 2), .ref (ma 3), .ref (ma 4), .ref (ma 5), .int 0, .int 0, .int 0, .int 0, .int 0, .long 0, .int 0, .int 0, .int 0, .int (-1), .ref (ma 16), .ref (ma 17), .ref (ma 18), .ref (ma 19), .ref (ma 20), .ref (ma 21), .ref (ma 22), .ref (ma 23), .ref (ma 24), .ref (ma 25), .ref (ma 26), .ref (ma 27), .ref (ma 28), .ref (ma 29), .ref (ma 30), .ref (ma 31), .ref (ma 32), .ref (ma 33), .ref (ma 34), .ref (ma 35), .ref (ma 36), .ref (ma 37), .ref (ma 38), .ref (ma 39), .ref (ma 40), .ref (ma 41), .long 0])), ((ma 20), .inl (cy 1, 5, .inl (fun _ => 0))), ((ma 18), .inl (cy 1, 5, .inl (fun _ => 0)))]) [0, 1, 2] rfl) ⟨Nat.le_of_ble_eq_true rfl, Nat.le_of_ble_eq_true rfl⟩ rfl hl.1 rfl (Nat.le_of_ble_eq_true rfl) dX10_sure_9 ⟨Nat.le_of_ble_eq_true rfl, Nat.le_of_ble_eq_true rfl⟩) (fun r_1 hr_1 => ?_)
  have er_1 := hr_1
  subst er_1
  refine W.eq (g2 := F0 m 12 ls [.int 0]) rfl ?_
  refine lv_if_ne (tgt := 19) hx hb dX10_sure_12 (by decide) (fun c_2 => absurd c_2 (by decide)) (fun _ => ?_)
  refine lv_ldc2 (v := (-2)) hx hb hown (hts _ kl_X10_300) dX10_sure_15 ?_
  exact ret_l hx hb hr hlocks ⟨⟨hS.1, hS.2.1⟩, (), ⟨_, rfl, rfl⟩, hP.sub [] rfl, hD.sub [] (by decide) rfl⟩ hS.2.2 (Nat.le_of_ble_eq_true rfl) (Nat.le_of_ble_eq_true rfl) dX10_sure_18
set_option maxHeartbeats 4000000 in
set_option maxRecDepth 100000 in
theorem g_X10_need (l : Launch) (D : va_G) (cy : Nat → ClassId) (ma : Nat → Nat) (n0 : Int32) (n1 : Int32) (n2 : Int32) (sz : Nat) : MM l yX10_need cX10_need 5 (some .int) 3 0 0 D cy [.ref (ma 0), .int n0, .int n1, .int n2] (PW D [((ma 0), .inr (10, [.int 0, .ref (ma 1), .ref (ma 2), .ref (ma 3), .ref (ma 4), .ref (ma 5), .int 0, .int 0, .int 0, .int 0, .int 0, .long 0, .int 0, .int 0, .int 0, .int (-1), .ref (ma 16), .ref (ma 17), .ref (ma 18), .ref (ma 19), .ref (ma 20), .ref (ma 21), .ref (ma 22), .ref (ma 23), .ref (ma 24), .ref (ma 25), .ref (ma 26), .ref (ma 27), .ref (ma 28), .ref (ma 29), .ref (ma 30), .ref (ma 31), .ref (ma 32), .ref (ma 33), .ref (ma 34), .ref (ma 35), .ref (ma 36), .ref (ma 37), .ref (ma 38), .ref (ma 39), .ref (ma 40), .ref (ma 41), .long 0])), ((ma 20), .inl (cy 1, 5, .inl (fun _ => 0))), ((ma 18), .inl (cy 1, 5, .inl (fun _ => 0))), ((ma 17), .inl (cy 1, 20, .inl (fun _ => 0)))] sz) (QW D (va_A [((ma 0), .inr (10, [.int 0, .ref (ma 1), .ref (ma 2), .ref (ma 3), .ref (ma 4), .ref (ma 5), .int 0, .int 0, .int 0, .int 0, .int 0, .long 0, .int 0, .int 0, .int 0, .int (-1), .ref (ma 16), .ref (ma 17), .ref (ma 18), .ref (ma 19), .ref (ma 20), .ref (ma 21), .ref (ma 22), .ref (ma 23), .ref (ma 24), .ref (ma 25), .ref (ma 26), .ref (ma 27), .ref (ma 28), .ref (ma 29), .ref (ma 30), .ref (ma 31), .ref (ma 32), .ref (ma 33), .ref (ma 34), .ref (ma 35), .ref (ma 36), .ref (ma 37), .ref (ma 38), .ref (ma 39), .ref (ma 40), .ref (ma 41), .long 0])), ((ma 20), .inl (cy 1, 5, .inl (fun _ => 0))), ((ma 18), .inl (cy 1, 5, .inl (fun _ => 0))), ((ma 17), .inl (cy 1, 20, .inl (fun _ => 0)))] sz) (S := Unit) (fun v u => (∃ r : Int32, v = some (.int r) ∧ (r = (-2)))) (fun u => [])) (va_A [((ma 0), .inr (10, [.int 0, .ref (ma 1), .ref (ma 2), .ref (ma 3), .ref (ma 4), .ref (ma 5), .int 0, .int 0, .int 0, .int 0, .int 0, .long 0, .int 0, .int 0, .int 0, .int (-1), .ref (ma 16), .ref (ma 17), .ref (ma 18), .ref (ma 19), .ref (ma 20), .ref (ma 21), .ref (ma 22), .ref (ma 23), .ref (ma 24), .ref (ma 25), .ref (ma 26), .ref (ma 27), .ref (ma 28), .ref (ma 29), .ref (ma 30), .ref (ma 31), .ref (ma 32), .ref (ma 33), .ref (ma 34), .ref (ma 35), .ref (ma 36), .ref (ma 37), .ref (ma 38), .ref (ma 39), .ref (ma 40), .ref (ma 41), .long 0])), ((ma 20), .inl (cy 1, 5, .inl (fun _ => 0))), ((ma 18), .inl (cy 1, 5, .inl (fun _ => 0))), ((ma 17), .inl (cy 1, 20, .inl (fun _ => 0)))] sz) := by
  refine MM.of (by decide) (Nat.le_of_ble_eq_true rfl) ?_
  intro p e s m below meth c C hPW ls hl
  obtain ⟨hx, hb, hr, hml, hown, hts, hlocks, hK, hnm⟩ := C
  obtain ⟨rfl, hP, hD0⟩ := hPW
  have hD := hD0.self (sz := s.heap.size)
  have hA : ∀ q : Nat, s.heap.size ≤ q → (va_A [((ma 0), .inr (10, [.int 0, .ref (ma 1), .ref (ma 2), .ref (ma 3), .ref (ma 4), .ref (ma 5), .int 0, .int 0, .int 0, .int 0, .int 0, .long 0, .int 0, .int 0, .int 0, .int (-1), .ref (ma 16), .ref (ma 17), .ref (ma 18), .ref (ma 19), .ref (ma 20), .ref (ma 21), .ref (ma 22), .ref (ma 23), .ref (ma 24), .ref (ma 25), .ref (ma 26), .ref (ma 27), .ref (ma 28), .ref (ma 29), .ref (ma 30), .ref (ma 31), .ref (ma 32), .ref (ma 33), .ref (ma 34), .ref (ma 35), .ref (ma 36), .ref (ma 37), .ref (ma 38), .ref (ma 39), .ref (ma 40), .ref (ma 41), .long 0])), ((ma 20), .inl (cy 1, 5, .inl (fun _ => 0))), ((ma 18), .inl (cy 1, 5, .inl (fun _ => 0))), ((ma 17), .inl (cy 1, 20, .inl (fun _ => 0)))] s.heap.size) q := fun q h => Or.inr h
  have hS : va_S (va_A [((ma 0), .inr (10, [.int 0, .ref (ma 1), .ref (ma 2), .ref (ma 3), .ref (ma 4), .ref (ma 5), .int 0, .int 0, .int 0, .int 0, .int 0, .long 0, .int 0, .int 0, .int 0, .int (-1), .ref (ma 16), .ref (ma 17), .ref (ma 18), .ref (ma 19), .ref (ma 20), .ref (ma 21), .ref (ma 22), .ref (ma 23), .ref (ma 24), .ref (ma 25), .ref (ma 26), .ref (ma 27), .ref (ma 28), .ref (ma 29), .ref (ma 30), .ref (ma 31), .ref (ma 32), .ref (ma 33), .ref (ma 34), .ref (ma 35), .ref (ma 36), .ref (ma 37), .ref (ma 38), .ref (ma 39), .ref (ma 40), .ref (ma 41), .long 0])), ((ma 20), .inl (cy 1, 5, .inl (fun _ => 0))), ((ma 18), .inl (cy 1, 5, .inl (fun _ => 0))), ((ma 17), .inl (cy 1, 20, .inl (fun _ => 0)))] s.heap.size) s.heap s.heap [] := va_S.rf
  generalize va_A [((ma 0), .inr (10, [.int 0, .ref (ma 1), .ref (ma 2), .ref (ma 3), .ref (ma 4), .ref (ma 5), .int 0, .int 0, .int 0, .int 0, .int 0, .long 0, .int 0, .int 0, .int 0, .int (-1), .ref (ma 16), .ref (ma 17), .ref (ma 18), .ref (ma 19), .ref (ma 20), .ref (ma 21), .ref (ma 22), .ref (ma 23), .ref (ma 24), .ref (ma 25), .ref (ma 26), .ref (ma 27), .ref (ma 28), .ref (ma 29), .ref (ma 30), .ref (ma 31), .ref (ma 32), .ref (ma 33), .ref (ma 34), .ref (ma 35), .ref (ma 36), .ref (ma 37), .ref (ma 38), .ref (ma 39), .ref (ma 40), .ref (ma 41), .long 0])), ((ma 20), .inl (cy 1, 5, .inl (fun _ => 0))), ((ma 18), .inl (cy 1, 5, .inl (fun _ => 0))), ((ma 17), .inl (cy 1, 20, .inl (fun _ => 0)))] s.heap.size = A at hD hA hS ⊢
  have hP : va_P D vwCl [((ma 0), .inr (10, [.int 0, .ref (ma 1), .ref (ma 2), .ref (ma 3), .ref (ma 4), .ref (ma 5), .int 0, .int 0, .int 0, .int 0, .int 0, .long 0, .int 0, .int 0, .int 0, .int (-1), .ref (ma 16), .ref (ma 17), .ref (ma 18), .ref (ma 19), .ref (ma 20), .ref (ma 21), .ref (ma 22), .ref (ma 23), .ref (ma 24), .ref (ma 25), .ref (ma 26), .ref (ma 27), .ref (ma 28), .ref (ma 29), .ref (ma 30), .ref (ma 31), .ref (ma 32), .ref (ma 33), .ref (ma 34), .ref (ma 35), .ref (ma 36), .ref (ma 37), .ref (ma 38), .ref (ma 39), .ref (ma 40), .ref (ma 41), .long 0])), ((ma 20), .inl (cy 1, 5, .inl (fun _ => 0))), ((ma 18), .inl (cy 1, 5, .inl (fun _ => 0))), ((ma 17), .inl (cy 1, 20, .inl (fun _ => 0)))] s.heap := hP
  have hl : lv_has ls 5 [(0, .ref (ma 0)), (1, .int n0), (2, .int n1), (3, .int n2)] := hl
  refine lv_aload_n hx hb dX10_need_0 rfl (lv_at hl 0 rfl) ?_
  refine lv_iconst (v := 0) hx hb dX10_need_1 (by decide) ?_
  refine va_put (D := D) (ci := 10) (v := .int 0) (ty := tyX10 0) (C := RX10) (T := TX10) (N := 43) hx hb hts lay_X10 tyX10 tyX10_ok nmX10 hown hK.1 hP hD hS 0 rfl rfl 0 (by decide) (hts _ fl_X10_111) (fun _ h9 => h9) rfl (tyX10_ok 0 (by decide)) rfl rfl (Nat.le_of_ble_eq_true rfl) dX10_need_2 (fun H locs hP hD hS => ?_)
  have hP : va_P D vwCl [((ma 0), .inr (10, [.int 0, .ref (ma 1), .ref (ma 2), .ref (ma 3), .ref (ma 4), .ref (ma 5), .int 0, .int 0, .int 0, .int 0, .int 0, .long 0, .int 0, .int 0, .int 0, .int (-1), .ref (ma 16), .ref (ma 17), .ref (ma 18), .ref (ma 19), .ref (ma 20), .ref (ma 21), .ref (ma 22), .ref (ma 23), .ref (ma 24), .ref (ma 25), .ref (ma 26), .ref (ma 27), .ref (ma 28), .ref (ma 29), .ref (ma 30), .ref (ma 31), .ref (ma 32), .ref (ma 33), .ref (ma 34), .ref (ma 35), .ref (ma 36), .ref (ma 37), .ref (ma 38), .ref (ma 39), .ref (ma 40), .ref (ma 41), .long 0])), ((ma 20), .inl (cy 1, 5, .inl (fun _ => 0))), ((ma 18), .inl (cy 1, 5, .inl (fun _ => 0))), ((ma 17), .inl (cy 1, 20, .inl (fun _ => 0)))] H := hP
  have hD : va_D A [((ma 0), .inr (10, [.int 0, .ref (ma 1), .ref (ma 2), .ref (ma 3), .ref (ma 4), .ref (ma 5), .int 0, .int 0, .int 0, .int 0, .int 0, .long 0, .int 0, .int 0, .int 0, .int (-1), .ref (ma 16), .ref (ma 17), .ref (ma 18), .ref (ma 19), .ref (ma 20), .ref (ma 21), .ref (ma 22), .ref (ma 23), .ref (ma 24), .ref (ma 25), .ref (ma 26), .ref (ma 27), .ref (ma 28), .ref (ma 29), .ref (ma 30), .ref (ma 31), .ref (ma 32), .ref (ma 33), .ref (ma 34), .ref (ma 35), .ref (ma 36), .ref (ma 37), .ref (ma 38), .ref (ma 39), .ref (ma 40), .ref (ma 41), .long 0])), ((ma 20), .inl (cy 1, 5, .inl (fun _ => 0))), ((ma 18), .inl (cy 1, 5, .inl (fun _ => 0))), ((ma 17), .inl (cy 1, 20, .inl (fun _ => 0)))] := hD
  refine lv_aload_n hx hb dX10_need_5 rfl (lv_at hl 0 rfl) ?_
  refine lv_iload_n hx hb dX10_need_6 rfl (lv_at hl 1 rfl) ?_
  refine lv_iload_n hx hb dX10_need_7 rfl (lv_at hl 2 rfl) ?_
  refine lv_iconst (v := 0) hx hb dX10_need_8 (by decide) ?_
  refine pu_calli (runV (As := [.int n0, .int n1, .int 0]) (rest := []) ⟨hx, hb, hml, hown, hts⟩ (m_isStore l D cy ma n0 n1 0 ) sV_X10_375 hK (va_recv hK.1 hP (ci := 10) (q0 := 0) rfl rfl) (hP.sub (ws' := [((ma 0), .inr (10, [.int 0, .ref (ma 1), .ref (ma 2), .ref (ma 3), .ref (ma 4), .ref (ma 5), .int 0, .int 0, .int 0, .int 0, .int 0, .long 0, .int 0, .int 0, .int 0, .int (-1), .ref (ma 16), .ref (ma 17), .ref (ma 18), .ref (ma 19), .ref (ma 20), .ref (ma 21), .ref (ma 22), .ref (ma 23), .ref (ma 24), .ref (ma 25), .ref (ma 26), .ref (ma 27), .ref (ma 28), .ref (ma 29), .ref (ma 30), .ref (ma 31), .ref (ma 32), .ref (ma 33), .ref (ma 34), .ref (ma 35), .ref (ma 36), .ref (ma 37), .ref (ma 38), .ref (ma 39), .ref (ma 40), .ref (ma 41), .long 0])), ((ma 20), .inl (cy 1, 5, .inl (fun _ => 0))), ((ma 18), .inl (cy 1, 5, .inl (fun _ => 0)))]) [0, 1, 2] rfl) ⟨Nat.le_of_ble_eq_true rfl, Nat.le_of_ble_eq_true rfl⟩ rfl hl.1 rfl (Nat.le_of_ble_eq_true rfl) dX10_need_9 ⟨Nat.le_of_ble_eq_true rfl, Nat.le_of_ble_eq_true rfl⟩) (fun r_1 hr_1 => ?_)
  have er_1 := hr_1
  subst er_1
  refine W.eq (g2 := F0 m 12 ls [.int 0]) rfl ?_
  refine lv_if_eq (tgt := 27) hx hb dX10_need_12 (by decide) (fun _ => ?_) (fun c_2 => absurd (by decide) c_2)
  refine lv_bipush (v := (-2)) hx hb dX10_need_27 (by decide) ?_
  exact ret_i hx hb hr hlocks ⟨⟨hS.1, hS.2.1⟩, (), ⟨_, rfl, rfl⟩, hP.sub [] rfl, hD.sub [] (by decide) rfl⟩ hS.2.2 (Nat.le_of_ble_eq_true rfl) (Nat.le_of_ble_eq_true rfl) dX10_need_29
set_option maxHeartbeats 4000000 in
set_option maxRecDepth 100000 in
theorem g_X10_packed (l : Launch) (D : va_G) (cy : Nat → ClassId) (ma : Nat → Nat) (n0 : Int32) (sz : Nat) : MM l yX10_packed cX10_packed 2 (some .long) 2 0 0 D cy [.ref (ma 0), .int n0] (PW D [((ma 0), .inr (10, [.int 0, .ref (ma 1), .ref (ma 2), .ref (ma 3), .ref (ma 4), .ref (ma 5), .int 0, .int 0, .int 0, .int 0, .int 0, .long 0, .int 0, .int 0, .int 0, .int (-1), .ref (ma 16), .ref (ma 17), .ref (ma 18), .ref (ma 19), .ref (ma 20), .ref (ma 21), .ref (ma 22), .ref (ma 23), .ref (ma 24), .ref (ma 25), .ref (ma 26), .ref (ma 27), .ref (ma 28), .ref (ma 29), .ref (ma 30), .ref (ma 31), .ref (ma 32), .ref (ma 33), .ref (ma 34), .ref (ma 35), .ref (ma 36), .ref (ma 37), .ref (ma 38), .ref (ma 39), .ref (ma 40), .ref (ma 41), .long 0])), ((ma 20), .inl (cy 1, 5, .inl (fun _ => 0))), ((ma 18), .inl (cy 1, 5, .inl (fun _ => 0))), ((ma 17), .inl (cy 1, 20, .inl (fun _ => 0)))] sz) (QW D (va_A [((ma 0), .inr (10, [.int 0, .ref (ma 1), .ref (ma 2), .ref (ma 3), .ref (ma 4), .ref (ma 5), .int 0, .int 0, .int 0, .int 0, .int 0, .long 0, .int 0, .int 0, .int 0, .int (-1), .ref (ma 16), .ref (ma 17), .ref (ma 18), .ref (ma 19), .ref (ma 20), .ref (ma 21), .ref (ma 22), .ref (ma 23), .ref (ma 24), .ref (ma 25), .ref (ma 26), .ref (ma 27), .ref (ma 28), .ref (ma 29), .ref (ma 30), .ref (ma 31), .ref (ma 32), .ref (ma 33), .ref (ma 34), .ref (ma 35), .ref (ma 36), .ref (ma 37), .ref (ma 38), .ref (ma 39), .ref (ma 40), .ref (ma 41), .long 0])), ((ma 20), .inl (cy 1, 5, .inl (fun _ => 0))), ((ma 18), .inl (cy 1, 5, .inl (fun _ => 0))), ((ma 17), .inl (cy 1, 20, .inl (fun _ => 0)))] sz) (S := Unit) (fun v u => (∃ r : Int64, v = some (.long r) ∧ (r = (-2)))) (fun u => [])) (va_A [((ma 0), .inr (10, [.int 0, .ref (ma 1), .ref (ma 2), .ref (ma 3), .ref (ma 4), .ref (ma 5), .int 0, .int 0, .int 0, .int 0, .int 0, .long 0, .int 0, .int 0, .int 0, .int (-1), .ref (ma 16), .ref (ma 17), .ref (ma 18), .ref (ma 19), .ref (ma 20), .ref (ma 21), .ref (ma 22), .ref (ma 23), .ref (ma 24), .ref (ma 25), .ref (ma 26), .ref (ma 27), .ref (ma 28), .ref (ma 29), .ref (ma 30), .ref (ma 31), .ref (ma 32), .ref (ma 33), .ref (ma 34), .ref (ma 35), .ref (ma 36), .ref (ma 37), .ref (ma 38), .ref (ma 39), .ref (ma 40), .ref (ma 41), .long 0])), ((ma 20), .inl (cy 1, 5, .inl (fun _ => 0))), ((ma 18), .inl (cy 1, 5, .inl (fun _ => 0))), ((ma 17), .inl (cy 1, 20, .inl (fun _ => 0)))] sz) := by
  refine MM.of (by decide) (Nat.le_of_ble_eq_true rfl) ?_
  intro p e s m below meth c C hPW ls hl
  obtain ⟨hx, hb, hr, hml, hown, hts, hlocks, hK, hnm⟩ := C
  obtain ⟨rfl, hP, hD0⟩ := hPW
  have hD := hD0.self (sz := s.heap.size)
  have hA : ∀ q : Nat, s.heap.size ≤ q → (va_A [((ma 0), .inr (10, [.int 0, .ref (ma 1), .ref (ma 2), .ref (ma 3), .ref (ma 4), .ref (ma 5), .int 0, .int 0, .int 0, .int 0, .int 0, .long 0, .int 0, .int 0, .int 0, .int (-1), .ref (ma 16), .ref (ma 17), .ref (ma 18), .ref (ma 19), .ref (ma 20), .ref (ma 21), .ref (ma 22), .ref (ma 23), .ref (ma 24), .ref (ma 25), .ref (ma 26), .ref (ma 27), .ref (ma 28), .ref (ma 29), .ref (ma 30), .ref (ma 31), .ref (ma 32), .ref (ma 33), .ref (ma 34), .ref (ma 35), .ref (ma 36), .ref (ma 37), .ref (ma 38), .ref (ma 39), .ref (ma 40), .ref (ma 41), .long 0])), ((ma 20), .inl (cy 1, 5, .inl (fun _ => 0))), ((ma 18), .inl (cy 1, 5, .inl (fun _ => 0))), ((ma 17), .inl (cy 1, 20, .inl (fun _ => 0)))] s.heap.size) q := fun q h => Or.inr h
  have hS : va_S (va_A [((ma 0), .inr (10, [.int 0, .ref (ma 1), .ref (ma 2), .ref (ma 3), .ref (ma 4), .ref (ma 5), .int 0, .int 0, .int 0, .int 0, .int 0, .long 0, .int 0, .int 0, .int 0, .int (-1), .ref (ma 16), .ref (ma 17), .ref (ma 18), .ref (ma 19), .ref (ma 20), .ref (ma 21), .ref (ma 22), .ref (ma 23), .ref (ma 24), .ref (ma 25), .ref (ma 26), .ref (ma 27), .ref (ma 28), .ref (ma 29), .ref (ma 30), .ref (ma 31), .ref (ma 32), .ref (ma 33), .ref (ma 34), .ref (ma 35), .ref (ma 36), .ref (ma 37), .ref (ma 38), .ref (ma 39), .ref (ma 40), .ref (ma 41), .long 0])), ((ma 20), .inl (cy 1, 5, .inl (fun _ => 0))), ((ma 18), .inl (cy 1, 5, .inl (fun _ => 0))), ((ma 17), .inl (cy 1, 20, .inl (fun _ => 0)))] s.heap.size) s.heap s.heap [] := va_S.rf
  generalize va_A [((ma 0), .inr (10, [.int 0, .ref (ma 1), .ref (ma 2), .ref (ma 3), .ref (ma 4), .ref (ma 5), .int 0, .int 0, .int 0, .int 0, .int 0, .long 0, .int 0, .int 0, .int 0, .int (-1), .ref (ma 16), .ref (ma 17), .ref (ma 18), .ref (ma 19), .ref (ma 20), .ref (ma 21), .ref (ma 22), .ref (ma 23), .ref (ma 24), .ref (ma 25), .ref (ma 26), .ref (ma 27), .ref (ma 28), .ref (ma 29), .ref (ma 30), .ref (ma 31), .ref (ma 32), .ref (ma 33), .ref (ma 34), .ref (ma 35), .ref (ma 36), .ref (ma 37), .ref (ma 38), .ref (ma 39), .ref (ma 40), .ref (ma 41), .long 0])), ((ma 20), .inl (cy 1, 5, .inl (fun _ => 0))), ((ma 18), .inl (cy 1, 5, .inl (fun _ => 0))), ((ma 17), .inl (cy 1, 20, .inl (fun _ => 0)))] s.heap.size = A at hD hA hS ⊢
  have hP : va_P D vwCl [((ma 0), .inr (10, [.int 0, .ref (ma 1), .ref (ma 2), .ref (ma 3), .ref (ma 4), .ref (ma 5), .int 0, .int 0, .int 0, .int 0, .int 0, .long 0, .int 0, .int 0, .int 0, .int (-1), .ref (ma 16), .ref (ma 17), .ref (ma 18), .ref (ma 19), .ref (ma 20), .ref (ma 21), .ref (ma 22), .ref (ma 23), .ref (ma 24), .ref (ma 25), .ref (ma 26), .ref (ma 27), .ref (ma 28), .ref (ma 29), .ref (ma 30), .ref (ma 31), .ref (ma 32), .ref (ma 33), .ref (ma 34), .ref (ma 35), .ref (ma 36), .ref (ma 37), .ref (ma 38), .ref (ma 39), .ref (ma 40), .ref (ma 41), .long 0])), ((ma 20), .inl (cy 1, 5, .inl (fun _ => 0))), ((ma 18), .inl (cy 1, 5, .inl (fun _ => 0))), ((ma 17), .inl (cy 1, 20, .inl (fun _ => 0)))] s.heap := hP
  have hl : lv_has ls 2 [(0, .ref (ma 0)), (1, .int n0)] := hl
  refine lv_aload_n hx hb dX10_packed_0 rfl (lv_at hl 0 rfl) ?_
  refine lv_iconst (v := 0) hx hb dX10_packed_1 (by decide) ?_
  refine va_put (D := D) (ci := 10) (v := .int 0) (ty := tyX10 0) (C := RX10) (T := TX10) (N := 43) hx hb hts lay_X10 tyX10 tyX10_ok nmX10 hown hK.1 hP hD hS 0 rfl rfl 0 (by decide) (hts _ fl_X10_111) (fun _ h9 => h9) rfl (tyX10_ok 0 (by decide)) rfl rfl (Nat.le_of_ble_eq_true rfl) dX10_packed_2 (fun H locs hP hD hS => ?_)
  have hP : va_P D vwCl [((ma 0), .inr (10, [.int 0, .ref (ma 1), .ref (ma 2), .ref (ma 3), .ref (ma 4), .ref (ma 5), .int 0, .int 0, .int 0, .int 0, .int 0, .long 0, .int 0, .int 0, .int 0, .int (-1), .ref (ma 16), .ref (ma 17), .ref (ma 18), .ref (ma 19), .ref (ma 20), .ref (ma 21), .ref (ma 22), .ref (ma 23), .ref (ma 24), .ref (ma 25), .ref (ma 26), .ref (ma 27), .ref (ma 28), .ref (ma 29), .ref (ma 30), .ref (ma 31), .ref (ma 32), .ref (ma 33), .ref (ma 34), .ref (ma 35), .ref (ma 36), .ref (ma 37), .ref (ma 38), .ref (ma 39), .ref (ma 40), .ref (ma 41), .long 0])), ((ma 20), .inl (cy 1, 5, .inl (fun _ => 0))), ((ma 18), .inl (cy 1, 5, .inl (fun _ => 0))), ((ma 17), .inl (cy 1, 20, .inl (fun _ => 0)))] H := hP
  have hD : va_D A [((ma 0), .inr (10, [.int 0, .ref (ma 1), .ref (ma 2), .ref (ma 3), .ref (ma 4), .ref (ma 5), .int 0, .int 0, .int 0, .int 0, .int 0, .long 0, .int 0, .int 0, .int 0, .int (-1), .ref (ma 16), .ref (ma 17), .ref (ma 18), .ref (ma 19), .ref (ma 20), .ref (ma 21), .ref (ma 22), .ref (ma 23), .ref (ma 24), .ref (ma 25), .ref (ma 26), .ref (ma 27), .ref (ma 28), .ref (ma 29), .ref (ma 30), .ref (ma 31), .ref (ma 32), .ref (ma 33), .ref (ma 34), .ref (ma 35), .ref (ma 36), .ref (ma 37), .ref (ma 38), .ref (ma 39), .ref (ma 40), .ref (ma 41), .long 0])), ((ma 20), .inl (cy 1, 5, .inl (fun _ => 0))), ((ma 18), .inl (cy 1, 5, .inl (fun _ => 0))), ((ma 17), .inl (cy 1, 20, .inl (fun _ => 0)))] := hD
  refine lv_aload_n hx hb dX10_packed_5 rfl (lv_at hl 0 rfl) ?_
  refine lv_iload_n hx hb dX10_packed_6 rfl (lv_at hl 1 rfl) ?_
  refine pu_calli (runV (As := [.int n0]) (rest := []) ⟨hx, hb, hml, hown, hts⟩ (m_isValley l D cy ma n0 ) sV_X10_297 hK (va_recv hK.1 hP (ci := 10) (q0 := 0) rfl rfl) (hP.sub (ws' := [((ma 0), .inr (10, [.int 0, .ref (ma 1), .ref (ma 2), .ref (ma 3), .ref (ma 4), .ref (ma 5), .int 0, .int 0, .int 0, .int 0, .int 0, .long 0, .int 0, .int 0, .int 0, .int (-1), .ref (ma 16), .ref (ma 17), .ref (ma 18), .ref (ma 19), .ref (ma 20), .ref (ma 21), .ref (ma 22), .ref (ma 23), .ref (ma 24), .ref (ma 25), .ref (ma 26), .ref (ma 27), .ref (ma 28), .ref (ma 29), .ref (ma 30), .ref (ma 31), .ref (ma 32), .ref (ma 33), .ref (ma 34), .ref (ma 35), .ref (ma 36), .ref (ma 37), .ref (ma 38), .ref (ma 39), .ref (ma 40), .ref (ma 41), .long 0])), ((ma 20), .inl (cy 1, 5, .inl (fun _ => 0)))]) [0, 1] rfl) ⟨Nat.le_of_ble_eq_true rfl, Nat.le_of_ble_eq_true rfl⟩ rfl hl.1 rfl (Nat.le_of_ble_eq_true rfl) dX10_packed_7 ⟨Nat.le_of_ble_eq_true rfl, Nat.le_of_ble_eq_true rfl⟩) (fun r_1 hr_1 => ?_)
  have er_1 := hr_1
  subst er_1
  refine W.eq (g2 := F0 m 10 ls [.int 0]) rfl ?_
  refine lv_if_ne (tgt := 17) hx hb dX10_packed_10 (by decide) (fun c_2 => absurd c_2 (by decide)) (fun _ => ?_)
  refine lv_ldc2 (v := (-2)) hx hb hown (hts _ kl_X10_300) dX10_packed_13 ?_
  exact ret_l hx hb hr hlocks ⟨⟨hS.1, hS.2.1⟩, (), ⟨_, rfl, rfl⟩, hP.sub [] rfl, hD.sub [] (by decide) rfl⟩ hS.2.2 (Nat.le_of_ble_eq_true rfl) (Nat.le_of_ble_eq_true rfl) dX10_packed_16
set_option maxHeartbeats 4000000 in
set_option maxRecDepth 100000 in
theorem g_X10_pack (l : Launch) (D : va_G) (cy : Nat → ClassId) (ma : Nat → Nat) (n0 : Int32) (n1 : Int32) (sz : Nat) : MM l yX10_pack cX10_pack 6 (some .int) 3 0 0 D cy [.ref (ma 0), .int n0, .int n1] (PW D [((ma 0), .inr (10, [.int 0, .ref (ma 1), .ref (ma 2), .ref (ma 3), .ref (ma 4), .ref (ma 5), .int 0, .int 0, .int 0, .int 0, .int 0, .long 0, .int 0, .int 0, .int 0, .int (-1), .ref (ma 16), .ref (ma 17), .ref (ma 18), .ref (ma 19), .ref (ma 20), .ref (ma 21), .ref (ma 22), .ref (ma 23), .ref (ma 24), .ref (ma 25), .ref (ma 26), .ref (ma 27), .ref (ma 28), .ref (ma 29), .ref (ma 30), .ref (ma 31), .ref (ma 32), .ref (ma 33), .ref (ma 34), .ref (ma 35), .ref (ma 36), .ref (ma 37), .ref (ma 38), .ref (ma 39), .ref (ma 40), .ref (ma 41), .long 0])), ((ma 20), .inl (cy 1, 5, .inl (fun _ => 0))), ((ma 18), .inl (cy 1, 5, .inl (fun _ => 0))), ((ma 17), .inl (cy 1, 20, .inl (fun _ => 0)))] sz) (QW D (va_A [((ma 0), .inr (10, [.int 0, .ref (ma 1), .ref (ma 2), .ref (ma 3), .ref (ma 4), .ref (ma 5), .int 0, .int 0, .int 0, .int 0, .int 0, .long 0, .int 0, .int 0, .int 0, .int (-1), .ref (ma 16), .ref (ma 17), .ref (ma 18), .ref (ma 19), .ref (ma 20), .ref (ma 21), .ref (ma 22), .ref (ma 23), .ref (ma 24), .ref (ma 25), .ref (ma 26), .ref (ma 27), .ref (ma 28), .ref (ma 29), .ref (ma 30), .ref (ma 31), .ref (ma 32), .ref (ma 33), .ref (ma 34), .ref (ma 35), .ref (ma 36), .ref (ma 37), .ref (ma 38), .ref (ma 39), .ref (ma 40), .ref (ma 41), .long 0])), ((ma 20), .inl (cy 1, 5, .inl (fun _ => 0))), ((ma 18), .inl (cy 1, 5, .inl (fun _ => 0))), ((ma 17), .inl (cy 1, 20, .inl (fun _ => 0)))] sz) (S := Unit) (fun v u => (∃ r : Int32, v = some (.int r) ∧ (r = (-2)))) (fun u => [])) (va_A [((ma 0), .inr (10, [.int 0, .ref (ma 1), .ref (ma 2), .ref (ma 3), .ref (ma 4), .ref (ma 5), .int 0, .int 0, .int 0, .int 0, .int 0, .long 0, .int 0, .int 0, .int 0, .int (-1), .ref (ma 16), .ref (ma 17), .ref (ma 18), .ref (ma 19), .ref (ma 20), .ref (ma 21), .ref (ma 22), .ref (ma 23), .ref (ma 24), .ref (ma 25), .ref (ma 26), .ref (ma 27), .ref (ma 28), .ref (ma 29), .ref (ma 30), .ref (ma 31), .ref (ma 32), .ref (ma 33), .ref (ma 34), .ref (ma 35), .ref (ma 36), .ref (ma 37), .ref (ma 38), .ref (ma 39), .ref (ma 40), .ref (ma 41), .long 0])), ((ma 20), .inl (cy 1, 5, .inl (fun _ => 0))), ((ma 18), .inl (cy 1, 5, .inl (fun _ => 0))), ((ma 17), .inl (cy 1, 20, .inl (fun _ => 0)))] sz) := by
  refine MM.of (by decide) (Nat.le_of_ble_eq_true rfl) ?_
  intro p e s m below meth c C hPW ls hl
  obtain ⟨hx, hb, hr, hml, hown, hts, hlocks, hK, hnm⟩ := C
  obtain ⟨rfl, hP, hD0⟩ := hPW
  have hD := hD0.self (sz := s.heap.size)
  have hA : ∀ q : Nat, s.heap.size ≤ q → (va_A [((ma 0), .inr (10, [.int 0, .ref (ma 1), .ref (ma 2), .ref (ma 3), .ref (ma 4), .ref (ma 5), .int 0, .int 0, .int 0, .int 0, .int 0, .long 0, .int 0, .int 0, .int 0, .int (-1), .ref (ma 16), .ref (ma 17), .ref (ma 18), .ref (ma 19), .ref (ma 20), .ref (ma 21), .ref (ma 22), .ref (ma 23), .ref (ma 24), .ref (ma 25), .ref (ma 26), .ref (ma 27), .ref (ma 28), .ref (ma 29), .ref (ma 30), .ref (ma 31), .ref (ma 32), .ref (ma 33), .ref (ma 34), .ref (ma 35), .ref (ma 36), .ref (ma 37), .ref (ma 38), .ref (ma 39), .ref (ma 40), .ref (ma 41), .long 0])), ((ma 20), .inl (cy 1, 5, .inl (fun _ => 0))), ((ma 18), .inl (cy 1, 5, .inl (fun _ => 0))), ((ma 17), .inl (cy 1, 20, .inl (fun _ => 0)))] s.heap.size) q := fun q h => Or.inr h
  have hS : va_S (va_A [((ma 0), .inr (10, [.int 0, .ref (ma 1), .ref (ma 2), .ref (ma 3), .ref (ma 4), .ref (ma 5), .int 0, .int 0, .int 0, .int 0, .int 0, .long 0, .int 0, .int 0, .int 0, .int (-1), .ref (ma 16), .ref (ma 17), .ref (ma 18), .ref (ma 19), .ref (ma 20), .ref (ma 21), .ref (ma 22), .ref (ma 23), .ref (ma 24), .ref (ma 25), .ref (ma 26), .ref (ma 27), .ref (ma 28), .ref (ma 29), .ref (ma 30), .ref (ma 31), .ref (ma 32), .ref (ma 33), .ref (ma 34), .ref (ma 35), .ref (ma 36), .ref (ma 37), .ref (ma 38), .ref (ma 39), .ref (ma 40), .ref (ma 41), .long 0])), ((ma 20), .inl (cy 1, 5, .inl (fun _ => 0))), ((ma 18), .inl (cy 1, 5, .inl (fun _ => 0))), ((ma 17), .inl (cy 1, 20, .inl (fun _ => 0)))] s.heap.size) s.heap s.heap [] := va_S.rf
  generalize va_A [((ma 0), .inr (10, [.int 0, .ref (ma 1), .ref (ma 2), .ref (ma 3), .ref (ma 4), .ref (ma 5), .int 0, .int 0, .int 0, .int 0, .int 0, .long 0, .int 0, .int 0, .int 0, .int (-1), .ref (ma 16), .ref (ma 17), .ref (ma 18), .ref (ma 19), .ref (ma 20), .ref (ma 21), .ref (ma 22), .ref (ma 23), .ref (ma 24), .ref (ma 25), .ref (ma 26), .ref (ma 27), .ref (ma 28), .ref (ma 29), .ref (ma 30), .ref (ma 31), .ref (ma 32), .ref (ma 33), .ref (ma 34), .ref (ma 35), .ref (ma 36), .ref (ma 37), .ref (ma 38), .ref (ma 39), .ref (ma 40), .ref (ma 41), .long 0])), ((ma 20), .inl (cy 1, 5, .inl (fun _ => 0))), ((ma 18), .inl (cy 1, 5, .inl (fun _ => 0))), ((ma 17), .inl (cy 1, 20, .inl (fun _ => 0)))] s.heap.size = A at hD hA hS ⊢
  have hP : va_P D vwCl [((ma 0), .inr (10, [.int 0, .ref (ma 1), .ref (ma 2), .ref (ma 3), .ref (ma 4), .ref (ma 5), .int 0, .int 0, .int 0, .int 0, .int 0, .long 0, .int 0, .int 0, .int 0, .int (-1), .ref (ma 16), .ref (ma 17), .ref (ma 18), .ref (ma 19), .ref (ma 20), .ref (ma 21), .ref (ma 22), .ref (ma 23), .ref (ma 24), .ref (ma 25), .ref (ma 26), .ref (ma 27), .ref (ma 28), .ref (ma 29), .ref (ma 30), .ref (ma 31), .ref (ma 32), .ref (ma 33), .ref (ma 34), .ref (ma 35), .ref (ma 36), .ref (ma 37), .ref (ma 38), .ref (ma 39), .ref (ma 40), .ref (ma 41), .long 0])), ((ma 20), .inl (cy 1, 5, .inl (fun _ => 0))), ((ma 18), .inl (cy 1, 5, .inl (fun _ => 0))), ((ma 17), .inl (cy 1, 20, .inl (fun _ => 0)))] s.heap := hP
  have hl : lv_has ls 6 [(0, .ref (ma 0)), (1, .int n0), (2, .int n1)] := hl
  refine lv_aload_n hx hb dX10_pack_0 rfl (lv_at hl 0 rfl) ?_
  refine lv_iconst (v := 0) hx hb dX10_pack_1 (by decide) ?_
  refine va_put (D := D) (ci := 10) (v := .int 0) (ty := tyX10 0) (C := RX10) (T := TX10) (N := 43) hx hb hts lay_X10 tyX10 tyX10_ok nmX10 hown hK.1 hP hD hS 0 rfl rfl 0 (by decide) (hts _ fl_X10_111) (fun _ h9 => h9) rfl (tyX10_ok 0 (by decide)) rfl rfl (Nat.le_of_ble_eq_true rfl) dX10_pack_2 (fun H locs hP hD hS => ?_)
  have hP : va_P D vwCl [((ma 0), .inr (10, [.int 0, .ref (ma 1), .ref (ma 2), .ref (ma 3), .ref (ma 4), .ref (ma 5), .int 0, .int 0, .int 0, .int 0, .int 0, .long 0, .int 0, .int 0, .int 0, .int (-1), .ref (ma 16), .ref (ma 17), .ref (ma 18), .ref (ma 19), .ref (ma 20), .ref (ma 21), .ref (ma 22), .ref (ma 23), .ref (ma 24), .ref (ma 25), .ref (ma 26), .ref (ma 27), .ref (ma 28), .ref (ma 29), .ref (ma 30), .ref (ma 31), .ref (ma 32), .ref (ma 33), .ref (ma 34), .ref (ma 35), .ref (ma 36), .ref (ma 37), .ref (ma 38), .ref (ma 39), .ref (ma 40), .ref (ma 41), .long 0])), ((ma 20), .inl (cy 1, 5, .inl (fun _ => 0))), ((ma 18), .inl (cy 1, 5, .inl (fun _ => 0))), ((ma 17), .inl (cy 1, 20, .inl (fun _ => 0)))] H := hP
  have hD : va_D A [((ma 0), .inr (10, [.int 0, .ref (ma 1), .ref (ma 2), .ref (ma 3), .ref (ma 4), .ref (ma 5), .int 0, .int 0, .int 0, .int 0, .int 0, .long 0, .int 0, .int 0, .int 0, .int (-1), .ref (ma 16), .ref (ma 17), .ref (ma 18), .ref (ma 19), .ref (ma 20), .ref (ma 21), .ref (ma 22), .ref (ma 23), .ref (ma 24), .ref (ma 25), .ref (ma 26), .ref (ma 27), .ref (ma 28), .ref (ma 29), .ref (ma 30), .ref (ma 31), .ref (ma 32), .ref (ma 33), .ref (ma 34), .ref (ma 35), .ref (ma 36), .ref (ma 37), .ref (ma 38), .ref (ma 39), .ref (ma 40), .ref (ma 41), .long 0])), ((ma 20), .inl (cy 1, 5, .inl (fun _ => 0))), ((ma 18), .inl (cy 1, 5, .inl (fun _ => 0))), ((ma 17), .inl (cy 1, 20, .inl (fun _ => 0)))] := hD
  refine lv_aload_n hx hb dX10_pack_5 rfl (lv_at hl 0 rfl) ?_
  refine lv_iload_n hx hb dX10_pack_6 rfl (lv_at hl 1 rfl) ?_
  refine lv_iload_n hx hb dX10_pack_7 rfl (lv_at hl 2 rfl) ?_
  refine lv_iconst (v := 0) hx hb dX10_pack_8 (by decide) ?_
  refine pu_calli (runV (As := [.int n0, .int n1, .int 0]) (rest := []) ⟨hx, hb, hml, hown, hts⟩ (m_isStore l D cy ma n0 n1 0 ) sV_X10_375 hK (va_recv hK.1 hP (ci := 10) (q0 := 0) rfl rfl) (hP.sub (ws' := [((ma 0), .inr (10, [.int 0, .ref (ma 1), .ref (ma 2), .ref (ma 3), .ref (ma 4), .ref (ma 5), .int 0, .int 0, .int 0, .int 0, .int 0, .long 0, .int 0, .int 0, .int 0, .int (-1), .ref (ma 16), .ref (ma 17), .ref (ma 18), .ref (ma 19), .ref (ma 20), .ref (ma 21), .ref (ma 22), .ref (ma 23), .ref (ma 24), .ref (ma 25), .ref (ma 26), .ref (ma 27), .ref (ma 28), .ref (ma 29), .ref (ma 30), .ref (ma 31), .ref (ma 32), .ref (ma 33), .ref (ma 34), .ref (ma 35), .ref (ma 36), .ref (ma 37), .ref (ma 38), .ref (ma 39), .ref (ma 40), .ref (ma 41), .long 0])), ((ma 20), .inl (cy 1, 5, .inl (fun _ => 0))), ((ma 18), .inl (cy 1, 5, .inl (fun _ => 0)))]) [0, 1, 2] rfl) ⟨Nat.le_of_ble_eq_true rfl, Nat.le_of_ble_eq_true rfl⟩ rfl hl.1 rfl (Nat.le_of_ble_eq_true rfl) dX10_pack_9 ⟨Nat.le_of_ble_eq_true rfl, Nat.le_of_ble_eq_true rfl⟩) (fun r_1 hr_1 => ?_)
  have er_1 := hr_1
  subst er_1
  refine W.eq (g2 := F0 m 12 ls [.int 0]) rfl ?_
  refine lv_if_ne (tgt := 18) hx hb dX10_pack_12 (by decide) (fun c_2 => absurd c_2 (by decide)) (fun _ => ?_)
  refine lv_bipush (v := (-2)) hx hb dX10_pack_15 (by decide) ?_
  exact ret_i hx hb hr hlocks ⟨⟨hS.1, hS.2.1⟩, (), ⟨_, rfl, rfl⟩, hP.sub [] rfl, hD.sub [] (by decide) rfl⟩ hS.2.2 (Nat.le_of_ble_eq_true rfl) (Nat.le_of_ble_eq_true rfl) dX10_pack_17
set_option maxHeartbeats 4000000 in
set_option maxRecDepth 100000 in
theorem g_X10_gap (l : Launch) (D : va_G) (cy : Nat → ClassId) (ma : Nat → Nat) (n0 : Int32) (sz : Nat) : MM l yX10_gap cX10_gap 5 (some .long) 2 0 0 D cy [.ref (ma 0), .int n0] (PW D [((ma 0), .inr (10, [.int 0, .ref (ma 1), .ref (ma 2), .ref (ma 3), .ref (ma 4), .ref (ma 5), .int 0, .int 0, .int 0, .int 0, .int 0, .long 0, .int 0, .int 0, .int 0, .int (-1), .ref (ma 16), .ref (ma 17), .ref (ma 18), .ref (ma 19), .ref (ma 20), .ref (ma 21), .ref (ma 22), .ref (ma 23), .ref (ma 24), .ref (ma 25), .ref (ma 26), .ref (ma 27), .ref (ma 28), .ref (ma 29), .ref (ma 30), .ref (ma 31), .ref (ma 32), .ref (ma 33), .ref (ma 34), .ref (ma 35), .ref (ma 36), .ref (ma 37), .ref (ma 38), .ref (ma 39), .ref (ma 40), .ref (ma 41), .long 0])), ((ma 20), .inl (cy 1, 5, .inl (fun _ => 0))), ((ma 18), .inl (cy 1, 5, .inl (fun _ => 0))), ((ma 17), .inl (cy 1, 20, .inl (fun _ => 0)))] sz) (QW D (va_A [((ma 0), .inr (10, [.int 0, .ref (ma 1), .ref (ma 2), .ref (ma 3), .ref (ma 4), .ref (ma 5), .int 0, .int 0, .int 0, .int 0, .int 0, .long 0, .int 0, .int 0, .int 0, .int (-1), .ref (ma 16), .ref (ma 17), .ref (ma 18), .ref (ma 19), .ref (ma 20), .ref (ma 21), .ref (ma 22), .ref (ma 23), .ref (ma 24), .ref (ma 25), .ref (ma 26), .ref (ma 27), .ref (ma 28), .ref (ma 29), .ref (ma 30), .ref (ma 31), .ref (ma 32), .ref (ma 33), .ref (ma 34), .ref (ma 35), .ref (ma 36), .ref (ma 37), .ref (ma 38), .ref (ma 39), .ref (ma 40), .ref (ma 41), .long 0])), ((ma 20), .inl (cy 1, 5, .inl (fun _ => 0))), ((ma 18), .inl (cy 1, 5, .inl (fun _ => 0))), ((ma 17), .inl (cy 1, 20, .inl (fun _ => 0)))] sz) (S := Unit) (fun v u => (∃ r : Int64, v = some (.long r) ∧ (r = (-2)))) (fun u => [])) (va_A [((ma 0), .inr (10, [.int 0, .ref (ma 1), .ref (ma 2), .ref (ma 3), .ref (ma 4), .ref (ma 5), .int 0, .int 0, .int 0, .int 0, .int 0, .long 0, .int 0, .int 0, .int 0, .int (-1), .ref (ma 16), .ref (ma 17), .ref (ma 18), .ref (ma 19), .ref (ma 20), .ref (ma 21), .ref (ma 22), .ref (ma 23), .ref (ma 24), .ref (ma 25), .ref (ma 26), .ref (ma 27), .ref (ma 28), .ref (ma 29), .ref (ma 30), .ref (ma 31), .ref (ma 32), .ref (ma 33), .ref (ma 34), .ref (ma 35), .ref (ma 36), .ref (ma 37), .ref (ma 38), .ref (ma 39), .ref (ma 40), .ref (ma 41), .long 0])), ((ma 20), .inl (cy 1, 5, .inl (fun _ => 0))), ((ma 18), .inl (cy 1, 5, .inl (fun _ => 0))), ((ma 17), .inl (cy 1, 20, .inl (fun _ => 0)))] sz) := by
  refine MM.of (by decide) (Nat.le_of_ble_eq_true rfl) ?_
  intro p e s m below meth c C hPW ls hl
  obtain ⟨hx, hb, hr, hml, hown, hts, hlocks, hK, hnm⟩ := C
  obtain ⟨rfl, hP, hD0⟩ := hPW
  have hD := hD0.self (sz := s.heap.size)
  have hA : ∀ q : Nat, s.heap.size ≤ q → (va_A [((ma 0), .inr (10, [.int 0, .ref (ma 1), .ref (ma 2), .ref (ma 3), .ref (ma 4), .ref (ma 5), .int 0, .int 0, .int 0, .int 0, .int 0, .long 0, .int 0, .int 0, .int 0, .int (-1), .ref (ma 16), .ref (ma 17), .ref (ma 18), .ref (ma 19), .ref (ma 20), .ref (ma 21), .ref (ma 22), .ref (ma 23), .ref (ma 24), .ref (ma 25), .ref (ma 26), .ref (ma 27), .ref (ma 28), .ref (ma 29), .ref (ma 30), .ref (ma 31), .ref (ma 32), .ref (ma 33), .ref (ma 34), .ref (ma 35), .ref (ma 36), .ref (ma 37), .ref (ma 38), .ref (ma 39), .ref (ma 40), .ref (ma 41), .long 0])), ((ma 20), .inl (cy 1, 5, .inl (fun _ => 0))), ((ma 18), .inl (cy 1, 5, .inl (fun _ => 0))), ((ma 17), .inl (cy 1, 20, .inl (fun _ => 0)))] s.heap.size) q := fun q h => Or.inr h
  have hS : va_S (va_A [((ma 0), .inr (10, [.int 0, .ref (ma 1), .ref (ma 2), .ref (ma 3), .ref (ma 4), .ref (ma 5), .int 0, .int 0, .int 0, .int 0, .int 0, .long 0, .int 0, .int 0, .int 0, .int (-1), .ref (ma 16), .ref (ma 17), .ref (ma 18), .ref (ma 19), .ref (ma 20), .ref (ma 21), .ref (ma 22), .ref (ma 23), .ref (ma 24), .ref (ma 25), .ref (ma 26), .ref (ma 27), .ref (ma 28), .ref (ma 29), .ref (ma 30), .ref (ma 31), .ref (ma 32), .ref (ma 33), .ref (ma 34), .ref (ma 35), .ref (ma 36), .ref (ma 37), .ref (ma 38), .ref (ma 39), .ref (ma 40), .ref (ma 41), .long 0])), ((ma 20), .inl (cy 1, 5, .inl (fun _ => 0))), ((ma 18), .inl (cy 1, 5, .inl (fun _ => 0))), ((ma 17), .inl (cy 1, 20, .inl (fun _ => 0)))] s.heap.size) s.heap s.heap [] := va_S.rf
  generalize va_A [((ma 0), .inr (10, [.int 0, .ref (ma 1), .ref (ma 2), .ref (ma 3), .ref (ma 4), .ref (ma 5), .int 0, .int 0, .int 0, .int 0, .int 0, .long 0, .int 0, .int 0, .int 0, .int (-1), .ref (ma 16), .ref (ma 17), .ref (ma 18), .ref (ma 19), .ref (ma 20), .ref (ma 21), .ref (ma 22), .ref (ma 23), .ref (ma 24), .ref (ma 25), .ref (ma 26), .ref (ma 27), .ref (ma 28), .ref (ma 29), .ref (ma 30), .ref (ma 31), .ref (ma 32), .ref (ma 33), .ref (ma 34), .ref (ma 35), .ref (ma 36), .ref (ma 37), .ref (ma 38), .ref (ma 39), .ref (ma 40), .ref (ma 41), .long 0])), ((ma 20), .inl (cy 1, 5, .inl (fun _ => 0))), ((ma 18), .inl (cy 1, 5, .inl (fun _ => 0))), ((ma 17), .inl (cy 1, 20, .inl (fun _ => 0)))] s.heap.size = A at hD hA hS ⊢
  have hP : va_P D vwCl [((ma 0), .inr (10, [.int 0, .ref (ma 1), .ref (ma 2), .ref (ma 3), .ref (ma 4), .ref (ma 5), .int 0, .int 0, .int 0, .int 0, .int 0, .long 0, .int 0, .int 0, .int 0, .int (-1), .ref (ma 16), .ref (ma 17), .ref (ma 18), .ref (ma 19), .ref (ma 20), .ref (ma 21), .ref (ma 22), .ref (ma 23), .ref (ma 24), .ref (ma 25), .ref (ma 26), .ref (ma 27), .ref (ma 28), .ref (ma 29), .ref (ma 30), .ref (ma 31), .ref (ma 32), .ref (ma 33), .ref (ma 34), .ref (ma 35), .ref (ma 36), .ref (ma 37), .ref (ma 38), .ref (ma 39), .ref (ma 40), .ref (ma 41), .long 0])), ((ma 20), .inl (cy 1, 5, .inl (fun _ => 0))), ((ma 18), .inl (cy 1, 5, .inl (fun _ => 0))), ((ma 17), .inl (cy 1, 20, .inl (fun _ => 0)))] s.heap := hP
  have hl : lv_has ls 5 [(0, .ref (ma 0)), (1, .int n0)] := hl
  refine lv_aload_n hx hb dX10_gap_0 rfl (lv_at hl 0 rfl) ?_
  refine lv_iconst (v := 0) hx hb dX10_gap_1 (by decide) ?_
  refine va_put (D := D) (ci := 10) (v := .int 0) (ty := tyX10 0) (C := RX10) (T := TX10) (N := 43) hx hb hts lay_X10 tyX10 tyX10_ok nmX10 hown hK.1 hP hD hS 0 rfl rfl 0 (by decide) (hts _ fl_X10_111) (fun _ h9 => h9) rfl (tyX10_ok 0 (by decide)) rfl rfl (Nat.le_of_ble_eq_true rfl) dX10_gap_2 (fun H locs hP hD hS => ?_)
  have hP : va_P D vwCl [((ma 0), .inr (10, [.int 0, .ref (ma 1), .ref (ma 2), .ref (ma 3), .ref (ma 4), .ref (ma 5), .int 0, .int 0, .int 0, .int 0, .int 0, .long 0, .int 0, .int 0, .int 0, .int (-1), .ref (ma 16), .ref (ma 17), .ref (ma 18), .ref (ma 19), .ref (ma 20), .ref (ma 21), .ref (ma 22), .ref (ma 23), .ref (ma 24), .ref (ma 25), .ref (ma 26), .ref (ma 27), .ref (ma 28), .ref (ma 29), .ref (ma 30), .ref (ma 31), .ref (ma 32), .ref (ma 33), .ref (ma 34), .ref (ma 35), .ref (ma 36), .ref (ma 37), .ref (ma 38), .ref (ma 39), .ref (ma 40), .ref (ma 41), .long 0])), ((ma 20), .inl (cy 1, 5, .inl (fun _ => 0))), ((ma 18), .inl (cy 1, 5, .inl (fun _ => 0))), ((ma 17), .inl (cy 1, 20, .inl (fun _ => 0)))] H := hP
  have hD : va_D A [((ma 0), .inr (10, [.int 0, .ref (ma 1), .ref (ma 2), .ref (ma 3), .ref (ma 4), .ref (ma 5), .int 0, .int 0, .int 0, .int 0, .int 0, .long 0, .int 0, .int 0, .int 0, .int (-1), .ref (ma 16), .ref (ma 17), .ref (ma 18), .ref (ma 19), .ref (ma 20), .ref (ma 21), .ref (ma 22), .ref (ma 23), .ref (ma 24), .ref (ma 25), .ref (ma 26), .ref (ma 27), .ref (ma 28), .ref (ma 29), .ref (ma 30), .ref (ma 31), .ref (ma 32), .ref (ma 33), .ref (ma 34), .ref (ma 35), .ref (ma 36), .ref (ma 37), .ref (ma 38), .ref (ma 39), .ref (ma 40), .ref (ma 41), .long 0])), ((ma 20), .inl (cy 1, 5, .inl (fun _ => 0))), ((ma 18), .inl (cy 1, 5, .inl (fun _ => 0))), ((ma 17), .inl (cy 1, 20, .inl (fun _ => 0)))] := hD
  refine lv_aload_n hx hb dX10_gap_5 rfl (lv_at hl 0 rfl) ?_
  refine lv_iload_n hx hb dX10_gap_6 rfl (lv_at hl 1 rfl) ?_
  refine pu_calli (runV (As := [.int n0]) (rest := []) ⟨hx, hb, hml, hown, hts⟩ (m_isValley l D cy ma n0 ) sV_X10_297 hK (va_recv hK.1 hP (ci := 10) (q0 := 0) rfl rfl) (hP.sub (ws' := [((ma 0), .inr (10, [.int 0, .ref (ma 1), .ref (ma 2), .ref (ma 3), .ref (ma 4), .ref (ma 5), .int 0, .int 0, .int 0, .int 0, .int 0, .long 0, .int 0, .int 0, .int 0, .int (-1), .ref (ma 16), .ref (ma 17), .ref (ma 18), .ref (ma 19), .ref (ma 20), .ref (ma 21), .ref (ma 22), .ref (ma 23), .ref (ma 24), .ref (ma 25), .ref (ma 26), .ref (ma 27), .ref (ma 28), .ref (ma 29), .ref (ma 30), .ref (ma 31), .ref (ma 32), .ref (ma 33), .ref (ma 34), .ref (ma 35), .ref (ma 36), .ref (ma 37), .ref (ma 38), .ref (ma 39), .ref (ma 40), .ref (ma 41), .long 0])), ((ma 20), .inl (cy 1, 5, .inl (fun _ => 0)))]) [0, 1] rfl) ⟨Nat.le_of_ble_eq_true rfl, Nat.le_of_ble_eq_true rfl⟩ rfl hl.1 rfl (Nat.le_of_ble_eq_true rfl) dX10_gap_7 ⟨Nat.le_of_ble_eq_true rfl, Nat.le_of_ble_eq_true rfl⟩) (fun r_1 hr_1 => ?_)
  have er_1 := hr_1
  subst er_1
  refine W.eq (g2 := F0 m 10 ls [.int 0]) rfl ?_
  refine lv_if_ne (tgt := 17) hx hb dX10_gap_10 (by decide) (fun c_2 => absurd c_2 (by decide)) (fun _ => ?_)
  refine lv_ldc2 (v := (-2)) hx hb hown (hts _ kl_X10_300) dX10_gap_13 ?_
  exact ret_l hx hb hr hlocks ⟨⟨hS.1, hS.2.1⟩, (), ⟨_, rfl, rfl⟩, hP.sub [] rfl, hD.sub [] (by decide) rfl⟩ hS.2.2 (Nat.le_of_ble_eq_true rfl) (Nat.le_of_ble_eq_true rfl) dX10_gap_16
set_option maxHeartbeats 4000000 in
set_option maxRecDepth 100000 in
theorem g_X10_late (l : Launch) (D : va_G) (cy : Nat → ClassId) (ma : Nat → Nat) (n0 : Int32) (n1 : Int32) (sz : Nat) : MM l yX10_late cX10_late 3 (some .long) 3 0 0 D cy [.ref (ma 0), .int n0, .int n1] (PW D [((ma 0), .inr (10, [.int 0, .ref (ma 1), .ref (ma 2), .ref (ma 3), .ref (ma 4), .ref (ma 5), .int 0, .int 0, .int 0, .int 0, .int 0, .long 0, .int 0, .int 0, .int 0, .int (-1), .ref (ma 16), .ref (ma 17), .ref (ma 18), .ref (ma 19), .ref (ma 20), .ref (ma 21), .ref (ma 22), .ref (ma 23), .ref (ma 24), .ref (ma 25), .ref (ma 26), .ref (ma 27), .ref (ma 28), .ref (ma 29), .ref (ma 30), .ref (ma 31), .ref (ma 32), .ref (ma 33), .ref (ma 34), .ref (ma 35), .ref (ma 36), .ref (ma 37), .ref (ma 38), .ref (ma 39), .ref (ma 40), .ref (ma 41), .long 0])), ((ma 20), .inl (cy 1, 5, .inl (fun _ => 0))), ((ma 18), .inl (cy 1, 5, .inl (fun _ => 0))), ((ma 17), .inl (cy 1, 20, .inl (fun _ => 0)))] sz) (QW D (va_A [((ma 0), .inr (10, [.int 0, .ref (ma 1), .ref (ma 2), .ref (ma 3), .ref (ma 4), .ref (ma 5), .int 0, .int 0, .int 0, .int 0, .int 0, .long 0, .int 0, .int 0, .int 0, .int (-1), .ref (ma 16), .ref (ma 17), .ref (ma 18), .ref (ma 19), .ref (ma 20), .ref (ma 21), .ref (ma 22), .ref (ma 23), .ref (ma 24), .ref (ma 25), .ref (ma 26), .ref (ma 27), .ref (ma 28), .ref (ma 29), .ref (ma 30), .ref (ma 31), .ref (ma 32), .ref (ma 33), .ref (ma 34), .ref (ma 35), .ref (ma 36), .ref (ma 37), .ref (ma 38), .ref (ma 39), .ref (ma 40), .ref (ma 41), .long 0])), ((ma 20), .inl (cy 1, 5, .inl (fun _ => 0))), ((ma 18), .inl (cy 1, 5, .inl (fun _ => 0))), ((ma 17), .inl (cy 1, 20, .inl (fun _ => 0)))] sz) (S := Unit) (fun v u => (∃ r : Int64, v = some (.long r) ∧ (r = (-2)))) (fun u => [])) (va_A [((ma 0), .inr (10, [.int 0, .ref (ma 1), .ref (ma 2), .ref (ma 3), .ref (ma 4), .ref (ma 5), .int 0, .int 0, .int 0, .int 0, .int 0, .long 0, .int 0, .int 0, .int 0, .int (-1), .ref (ma 16), .ref (ma 17), .ref (ma 18), .ref (ma 19), .ref (ma 20), .ref (ma 21), .ref (ma 22), .ref (ma 23), .ref (ma 24), .ref (ma 25), .ref (ma 26), .ref (ma 27), .ref (ma 28), .ref (ma 29), .ref (ma 30), .ref (ma 31), .ref (ma 32), .ref (ma 33), .ref (ma 34), .ref (ma 35), .ref (ma 36), .ref (ma 37), .ref (ma 38), .ref (ma 39), .ref (ma 40), .ref (ma 41), .long 0])), ((ma 20), .inl (cy 1, 5, .inl (fun _ => 0))), ((ma 18), .inl (cy 1, 5, .inl (fun _ => 0))), ((ma 17), .inl (cy 1, 20, .inl (fun _ => 0)))] sz) := by
  refine MM.of (by decide) (Nat.le_of_ble_eq_true rfl) ?_
  intro p e s m below meth c C hPW ls hl
  obtain ⟨hx, hb, hr, hml, hown, hts, hlocks, hK, hnm⟩ := C
  obtain ⟨rfl, hP, hD0⟩ := hPW
  have hD := hD0.self (sz := s.heap.size)
  have hA : ∀ q : Nat, s.heap.size ≤ q → (va_A [((ma 0), .inr (10, [.int 0, .ref (ma 1), .ref (ma 2), .ref (ma 3), .ref (ma 4), .ref (ma 5), .int 0, .int 0, .int 0, .int 0, .int 0, .long 0, .int 0, .int 0, .int 0, .int (-1), .ref (ma 16), .ref (ma 17), .ref (ma 18), .ref (ma 19), .ref (ma 20), .ref (ma 21), .ref (ma 22), .ref (ma 23), .ref (ma 24), .ref (ma 25), .ref (ma 26), .ref (ma 27), .ref (ma 28), .ref (ma 29), .ref (ma 30), .ref (ma 31), .ref (ma 32), .ref (ma 33), .ref (ma 34), .ref (ma 35), .ref (ma 36), .ref (ma 37), .ref (ma 38), .ref (ma 39), .ref (ma 40), .ref (ma 41), .long 0])), ((ma 20), .inl (cy 1, 5, .inl (fun _ => 0))), ((ma 18), .inl (cy 1, 5, .inl (fun _ => 0))), ((ma 17), .inl (cy 1, 20, .inl (fun _ => 0)))] s.heap.size) q := fun q h => Or.inr h
  have hS : va_S (va_A [((ma 0), .inr (10, [.int 0, .ref (ma 1), .ref (ma 2), .ref (ma 3), .ref (ma 4), .ref (ma 5), .int 0, .int 0, .int 0, .int 0, .int 0, .long 0, .int 0, .int 0, .int 0, .int (-1), .ref (ma 16), .ref (ma 17), .ref (ma 18), .ref (ma 19), .ref (ma 20), .ref (ma 21), .ref (ma 22), .ref (ma 23), .ref (ma 24), .ref (ma 25), .ref (ma 26), .ref (ma 27), .ref (ma 28), .ref (ma 29), .ref (ma 30), .ref (ma 31), .ref (ma 32), .ref (ma 33), .ref (ma 34), .ref (ma 35), .ref (ma 36), .ref (ma 37), .ref (ma 38), .ref (ma 39), .ref (ma 40), .ref (ma 41), .long 0])), ((ma 20), .inl (cy 1, 5, .inl (fun _ => 0))), ((ma 18), .inl (cy 1, 5, .inl (fun _ => 0))), ((ma 17), .inl (cy 1, 20, .inl (fun _ => 0)))] s.heap.size) s.heap s.heap [] := va_S.rf
  generalize va_A [((ma 0), .inr (10, [.int 0, .ref (ma 1), .ref (ma 2), .ref (ma 3), .ref (ma 4), .ref (ma 5), .int 0, .int 0, .int 0, .int 0, .int 0, .long 0, .int 0, .int 0, .int 0, .int (-1), .ref (ma 16), .ref (ma 17), .ref (ma 18), .ref (ma 19), .ref (ma 20), .ref (ma 21), .ref (ma 22), .ref (ma 23), .ref (ma 24), .ref (ma 25), .ref (ma 26), .ref (ma 27), .ref (ma 28), .ref (ma 29), .ref (ma 30), .ref (ma 31), .ref (ma 32), .ref (ma 33), .ref (ma 34), .ref (ma 35), .ref (ma 36), .ref (ma 37), .ref (ma 38), .ref (ma 39), .ref (ma 40), .ref (ma 41), .long 0])), ((ma 20), .inl (cy 1, 5, .inl (fun _ => 0))), ((ma 18), .inl (cy 1, 5, .inl (fun _ => 0))), ((ma 17), .inl (cy 1, 20, .inl (fun _ => 0)))] s.heap.size = A at hD hA hS ⊢
  have hP : va_P D vwCl [((ma 0), .inr (10, [.int 0, .ref (ma 1), .ref (ma 2), .ref (ma 3), .ref (ma 4), .ref (ma 5), .int 0, .int 0, .int 0, .int 0, .int 0, .long 0, .int 0, .int 0, .int 0, .int (-1), .ref (ma 16), .ref (ma 17), .ref (ma 18), .ref (ma 19), .ref (ma 20), .ref (ma 21), .ref (ma 22), .ref (ma 23), .ref (ma 24), .ref (ma 25), .ref (ma 26), .ref (ma 27), .ref (ma 28), .ref (ma 29), .ref (ma 30), .ref (ma 31), .ref (ma 32), .ref (ma 33), .ref (ma 34), .ref (ma 35), .ref (ma 36), .ref (ma 37), .ref (ma 38), .ref (ma 39), .ref (ma 40), .ref (ma 41), .long 0])), ((ma 20), .inl (cy 1, 5, .inl (fun _ => 0))), ((ma 18), .inl (cy 1, 5, .inl (fun _ => 0))), ((ma 17), .inl (cy 1, 20, .inl (fun _ => 0)))] s.heap := hP
  have hl : lv_has ls 3 [(0, .ref (ma 0)), (1, .int n0), (2, .int n1)] := hl
  refine lv_aload_n hx hb dX10_late_0 rfl (lv_at hl 0 rfl) ?_
  refine lv_iconst (v := 0) hx hb dX10_late_1 (by decide) ?_
  refine va_put (D := D) (ci := 10) (v := .int 0) (ty := tyX10 0) (C := RX10) (T := TX10) (N := 43) hx hb hts lay_X10 tyX10 tyX10_ok nmX10 hown hK.1 hP hD hS 0 rfl rfl 0 (by decide) (hts _ fl_X10_111) (fun _ h9 => h9) rfl (tyX10_ok 0 (by decide)) rfl rfl (Nat.le_of_ble_eq_true rfl) dX10_late_2 (fun H locs hP hD hS => ?_)
  have hP : va_P D vwCl [((ma 0), .inr (10, [.int 0, .ref (ma 1), .ref (ma 2), .ref (ma 3), .ref (ma 4), .ref (ma 5), .int 0, .int 0, .int 0, .int 0, .int 0, .long 0, .int 0, .int 0, .int 0, .int (-1), .ref (ma 16), .ref (ma 17), .ref (ma 18), .ref (ma 19), .ref (ma 20), .ref (ma 21), .ref (ma 22), .ref (ma 23), .ref (ma 24), .ref (ma 25), .ref (ma 26), .ref (ma 27), .ref (ma 28), .ref (ma 29), .ref (ma 30), .ref (ma 31), .ref (ma 32), .ref (ma 33), .ref (ma 34), .ref (ma 35), .ref (ma 36), .ref (ma 37), .ref (ma 38), .ref (ma 39), .ref (ma 40), .ref (ma 41), .long 0])), ((ma 20), .inl (cy 1, 5, .inl (fun _ => 0))), ((ma 18), .inl (cy 1, 5, .inl (fun _ => 0))), ((ma 17), .inl (cy 1, 20, .inl (fun _ => 0)))] H := hP
  have hD : va_D A [((ma 0), .inr (10, [.int 0, .ref (ma 1), .ref (ma 2), .ref (ma 3), .ref (ma 4), .ref (ma 5), .int 0, .int 0, .int 0, .int 0, .int 0, .long 0, .int 0, .int 0, .int 0, .int (-1), .ref (ma 16), .ref (ma 17), .ref (ma 18), .ref (ma 19), .ref (ma 20), .ref (ma 21), .ref (ma 22), .ref (ma 23), .ref (ma 24), .ref (ma 25), .ref (ma 26), .ref (ma 27), .ref (ma 28), .ref (ma 29), .ref (ma 30), .ref (ma 31), .ref (ma 32), .ref (ma 33), .ref (ma 34), .ref (ma 35), .ref (ma 36), .ref (ma 37), .ref (ma 38), .ref (ma 39), .ref (ma 40), .ref (ma 41), .long 0])), ((ma 20), .inl (cy 1, 5, .inl (fun _ => 0))), ((ma 18), .inl (cy 1, 5, .inl (fun _ => 0))), ((ma 17), .inl (cy 1, 20, .inl (fun _ => 0)))] := hD
  refine lv_aload_n hx hb dX10_late_5 rfl (lv_at hl 0 rfl) ?_
  refine lv_iload_n hx hb dX10_late_6 rfl (lv_at hl 1 rfl) ?_
  refine lv_iload_n hx hb dX10_late_7 rfl (lv_at hl 2 rfl) ?_
  refine lv_iconst (v := 0) hx hb dX10_late_8 (by decide) ?_
  refine pu_calli (runV (As := [.int n0, .int n1, .int 0]) (rest := []) ⟨hx, hb, hml, hown, hts⟩ (m_isStore l D cy ma n0 n1 0 ) sV_X10_375 hK (va_recv hK.1 hP (ci := 10) (q0 := 0) rfl rfl) (hP.sub (ws' := [((ma 0), .inr (10, [.int 0, .ref (ma 1), .ref (ma 2), .ref (ma 3), .ref (ma 4), .ref (ma 5), .int 0, .int 0, .int 0, .int 0, .int 0, .long 0, .int 0, .int 0, .int 0, .int (-1), .ref (ma 16), .ref (ma 17), .ref (ma 18), .ref (ma 19), .ref (ma 20), .ref (ma 21), .ref (ma 22), .ref (ma 23), .ref (ma 24), .ref (ma 25), .ref (ma 26), .ref (ma 27), .ref (ma 28), .ref (ma 29), .ref (ma 30), .ref (ma 31), .ref (ma 32), .ref (ma 33), .ref (ma 34), .ref (ma 35), .ref (ma 36), .ref (ma 37), .ref (ma 38), .ref (ma 39), .ref (ma 40), .ref (ma 41), .long 0])), ((ma 20), .inl (cy 1, 5, .inl (fun _ => 0))), ((ma 18), .inl (cy 1, 5, .inl (fun _ => 0)))]) [0, 1, 2] rfl) ⟨Nat.le_of_ble_eq_true rfl, Nat.le_of_ble_eq_true rfl⟩ rfl hl.1 rfl (Nat.le_of_ble_eq_true rfl) dX10_late_9 ⟨Nat.le_of_ble_eq_true rfl, Nat.le_of_ble_eq_true rfl⟩) (fun r_1 hr_1 => ?_)
  have er_1 := hr_1
  subst er_1
  refine W.eq (g2 := F0 m 12 ls [.int 0]) rfl ?_
  refine lv_if_eq (tgt := 24) hx hb dX10_late_12 (by decide) (fun _ => ?_) (fun c_2 => absurd (by decide) c_2)
  refine lv_ldc2 (v := (-2)) hx hb hown (hts _ kl_X10_300) dX10_late_24 ?_
  exact ret_l hx hb hr hlocks ⟨⟨hS.1, hS.2.1⟩, (), ⟨_, rfl, rfl⟩, hP.sub [] rfl, hD.sub [] (by decide) rfl⟩ hS.2.2 (Nat.le_of_ble_eq_true rfl) (Nat.le_of_ble_eq_true rfl) dX10_late_27
set_option maxHeartbeats 4000000 in
set_option maxRecDepth 100000 in
theorem g_X10_today (l : Launch) (D : va_G) (cy : Nat → ClassId) (ma : Nat → Nat) (n0 : Int32) (n1 : Int32) (n2 : Int32) (n3 : Int32) (n4 : Int32) (sz : Nat) : MM l yX10_today cX10_today 6 (some .int) 3 0 0 D cy [.ref (ma 0), .int n0, .int n1, .int n2, .int n3, .int n4] (PW D [((ma 0), .inr (10, [.int 0, .ref (ma 1), .ref (ma 2), .ref (ma 3), .ref (ma 4), .ref (ma 5), .int 0, .int 0, .int 0, .int 0, .int 0, .long 0, .int 0, .int 0, .int 0, .int (-1), .ref (ma 16), .ref (ma 17), .ref (ma 18), .ref (ma 19), .ref (ma 20), .ref (ma 21), .ref (ma 22), .ref (ma 23), .ref (ma 24), .ref (ma 25), .ref (ma 26), .ref (ma 27), .ref (ma 28), .ref (ma 29), .ref (ma 30), .ref (ma 31), .ref (ma 32), .ref (ma 33), .ref (ma 34), .ref (ma 35), .ref (ma 36), .ref (ma 37), .ref (ma 38), .ref (ma 39), .ref (ma 40), .ref (ma 41), .long 0])), ((ma 20), .inl (cy 1, 5, .inl (fun _ => 0))), ((ma 18), .inl (cy 1, 5, .inl (fun _ => 0))), ((ma 17), .inl (cy 1, 20, .inl (fun _ => 0)))] sz) (QW D (va_A [((ma 0), .inr (10, [.int 0, .ref (ma 1), .ref (ma 2), .ref (ma 3), .ref (ma 4), .ref (ma 5), .int 0, .int 0, .int 0, .int 0, .int 0, .long 0, .int 0, .int 0, .int 0, .int (-1), .ref (ma 16), .ref (ma 17), .ref (ma 18), .ref (ma 19), .ref (ma 20), .ref (ma 21), .ref (ma 22), .ref (ma 23), .ref (ma 24), .ref (ma 25), .ref (ma 26), .ref (ma 27), .ref (ma 28), .ref (ma 29), .ref (ma 30), .ref (ma 31), .ref (ma 32), .ref (ma 33), .ref (ma 34), .ref (ma 35), .ref (ma 36), .ref (ma 37), .ref (ma 38), .ref (ma 39), .ref (ma 40), .ref (ma 41), .long 0])), ((ma 20), .inl (cy 1, 5, .inl (fun _ => 0))), ((ma 18), .inl (cy 1, 5, .inl (fun _ => 0))), ((ma 17), .inl (cy 1, 20, .inl (fun _ => 0)))] sz) (S := Unit) (fun v u => (∃ r : Int32, v = some (.int r) ∧ (r = (-2)))) (fun u => [])) (va_A [((ma 0), .inr (10, [.int 0, .ref (ma 1), .ref (ma 2), .ref (ma 3), .ref (ma 4), .ref (ma 5), .int 0, .int 0, .int 0, .int 0, .int 0, .long 0, .int 0, .int 0, .int 0, .int (-1), .ref (ma 16), .ref (ma 17), .ref (ma 18), .ref (ma 19), .ref (ma 20), .ref (ma 21), .ref (ma 22), .ref (ma 23), .ref (ma 24), .ref (ma 25), .ref (ma 26), .ref (ma 27), .ref (ma 28), .ref (ma 29), .ref (ma 30), .ref (ma 31), .ref (ma 32), .ref (ma 33), .ref (ma 34), .ref (ma 35), .ref (ma 36), .ref (ma 37), .ref (ma 38), .ref (ma 39), .ref (ma 40), .ref (ma 41), .long 0])), ((ma 20), .inl (cy 1, 5, .inl (fun _ => 0))), ((ma 18), .inl (cy 1, 5, .inl (fun _ => 0))), ((ma 17), .inl (cy 1, 20, .inl (fun _ => 0)))] sz) := by
  refine MM.of (by decide) (Nat.le_of_ble_eq_true rfl) ?_
  intro p e s m below meth c C hPW ls hl
  obtain ⟨hx, hb, hr, hml, hown, hts, hlocks, hK, hnm⟩ := C
  obtain ⟨rfl, hP, hD0⟩ := hPW
  have hD := hD0.self (sz := s.heap.size)
  have hA : ∀ q : Nat, s.heap.size ≤ q → (va_A [((ma 0), .inr (10, [.int 0, .ref (ma 1), .ref (ma 2), .ref (ma 3), .ref (ma 4), .ref (ma 5), .int 0, .int 0, .int 0, .int 0, .int 0, .long 0, .int 0, .int 0, .int 0, .int (-1), .ref (ma 16), .ref (ma 17), .ref (ma 18), .ref (ma 19), .ref (ma 20), .ref (ma 21), .ref (ma 22), .ref (ma 23), .ref (ma 24), .ref (ma 25), .ref (ma 26), .ref (ma 27), .ref (ma 28), .ref (ma 29), .ref (ma 30), .ref (ma 31), .ref (ma 32), .ref (ma 33), .ref (ma 34), .ref (ma 35), .ref (ma 36), .ref (ma 37), .ref (ma 38), .ref (ma 39), .ref (ma 40), .ref (ma 41), .long 0])), ((ma 20), .inl (cy 1, 5, .inl (fun _ => 0))), ((ma 18), .inl (cy 1, 5, .inl (fun _ => 0))), ((ma 17), .inl (cy 1, 20, .inl (fun _ => 0)))] s.heap.size) q := fun q h => Or.inr h
  have hS : va_S (va_A [((ma 0), .inr (10, [.int 0, .ref (ma 1), .ref (ma 2), .ref (ma 3), .ref (ma 4), .ref (ma 5), .int 0, .int 0, .int 0, .int 0, .int 0, .long 0, .int 0, .int 0, .int 0, .int (-1), .ref (ma 16), .ref (ma 17), .ref (ma 18), .ref (ma 19), .ref (ma 20), .ref (ma 21), .ref (ma 22), .ref (ma 23), .ref (ma 24), .ref (ma 25), .ref (ma 26), .ref (ma 27), .ref (ma 28), .ref (ma 29), .ref (ma 30), .ref (ma 31), .ref (ma 32), .ref (ma 33), .ref (ma 34), .ref (ma 35), .ref (ma 36), .ref (ma 37), .ref (ma 38), .ref (ma 39), .ref (ma 40), .ref (ma 41), .long 0])), ((ma 20), .inl (cy 1, 5, .inl (fun _ => 0))), ((ma 18), .inl (cy 1, 5, .inl (fun _ => 0))), ((ma 17), .inl (cy 1, 20, .inl (fun _ => 0)))] s.heap.size) s.heap s.heap [] := va_S.rf
  generalize va_A [((ma 0), .inr (10, [.int 0, .ref (ma 1), .ref (ma 2), .ref (ma 3), .ref (ma 4), .ref (ma 5), .int 0, .int 0, .int 0, .int 0, .int 0, .long 0, .int 0, .int 0, .int 0, .int (-1), .ref (ma 16), .ref (ma 17), .ref (ma 18), .ref (ma 19), .ref (ma 20), .ref (ma 21), .ref (ma 22), .ref (ma 23), .ref (ma 24), .ref (ma 25), .ref (ma 26), .ref (ma 27), .ref (ma 28), .ref (ma 29), .ref (ma 30), .ref (ma 31), .ref (ma 32), .ref (ma 33), .ref (ma 34), .ref (ma 35), .ref (ma 36), .ref (ma 37), .ref (ma 38), .ref (ma 39), .ref (ma 40), .ref (ma 41), .long 0])), ((ma 20), .inl (cy 1, 5, .inl (fun _ => 0))), ((ma 18), .inl (cy 1, 5, .inl (fun _ => 0))), ((ma 17), .inl (cy 1, 20, .inl (fun _ => 0)))] s.heap.size = A at hD hA hS ⊢
  have hP : va_P D vwCl [((ma 0), .inr (10, [.int 0, .ref (ma 1), .ref (ma 2), .ref (ma 3), .ref (ma 4), .ref (ma 5), .int 0, .int 0, .int 0, .int 0, .int 0, .long 0, .int 0, .int 0, .int 0, .int (-1), .ref (ma 16), .ref (ma 17), .ref (ma 18), .ref (ma 19), .ref (ma 20), .ref (ma 21), .ref (ma 22), .ref (ma 23), .ref (ma 24), .ref (ma 25), .ref (ma 26), .ref (ma 27), .ref (ma 28), .ref (ma 29), .ref (ma 30), .ref (ma 31), .ref (ma 32), .ref (ma 33), .ref (ma 34), .ref (ma 35), .ref (ma 36), .ref (ma 37), .ref (ma 38), .ref (ma 39), .ref (ma 40), .ref (ma 41), .long 0])), ((ma 20), .inl (cy 1, 5, .inl (fun _ => 0))), ((ma 18), .inl (cy 1, 5, .inl (fun _ => 0))), ((ma 17), .inl (cy 1, 20, .inl (fun _ => 0)))] s.heap := hP
  have hl : lv_has ls 6 [(0, .ref (ma 0)), (1, .int n0), (2, .int n1), (3, .int n2), (4, .int n3), (5, .int n4)] := hl
  refine lv_aload_n hx hb dX10_today_0 rfl (lv_at hl 0 rfl) ?_
  refine lv_iconst (v := 0) hx hb dX10_today_1 (by decide) ?_
  refine va_put (D := D) (ci := 10) (v := .int 0) (ty := tyX10 0) (C := RX10) (T := TX10) (N := 43) hx hb hts lay_X10 tyX10 tyX10_ok nmX10 hown hK.1 hP hD hS 0 rfl rfl 0 (by decide) (hts _ fl_X10_111) (fun _ h9 => h9) rfl (tyX10_ok 0 (by decide)) rfl rfl (Nat.le_of_ble_eq_true rfl) dX10_today_2 (fun H locs hP hD hS => ?_)
  have hP : va_P D vwCl [((ma 0), .inr (10, [.int 0, .ref (ma 1), .ref (ma 2), .ref (ma 3), .ref (ma 4), .ref (ma 5), .int 0, .int 0, .int 0, .int 0, .int 0, .long 0, .int 0, .int 0, .int 0, .int (-1), .ref (ma 16), .ref (ma 17), .ref (ma 18), .ref (ma 19), .ref (ma 20), .ref (ma 21), .ref (ma 22), .ref (ma 23), .ref (ma 24), .ref (ma 25), .ref (ma 26), .ref (ma 27), .ref (ma 28), .ref (ma 29), .ref (ma 30), .ref (ma 31), .ref (ma 32), .ref (ma 33), .ref (ma 34), .ref (ma 35), .ref (ma 36), .ref (ma 37), .ref (ma 38), .ref (ma 39), .ref (ma 40), .ref (ma 41), .long 0])), ((ma 20), .inl (cy 1, 5, .inl (fun _ => 0))), ((ma 18), .inl (cy 1, 5, .inl (fun _ => 0))), ((ma 17), .inl (cy 1, 20, .inl (fun _ => 0)))] H := hP
  have hD : va_D A [((ma 0), .inr (10, [.int 0, .ref (ma 1), .ref (ma 2), .ref (ma 3), .ref (ma 4), .ref (ma 5), .int 0, .int 0, .int 0, .int 0, .int 0, .long 0, .int 0, .int 0, .int 0, .int (-1), .ref (ma 16), .ref (ma 17), .ref (ma 18), .ref (ma 19), .ref (ma 20), .ref (ma 21), .ref (ma 22), .ref (ma 23), .ref (ma 24), .ref (ma 25), .ref (ma 26), .ref (ma 27), .ref (ma 28), .ref (ma 29), .ref (ma 30), .ref (ma 31), .ref (ma 32), .ref (ma 33), .ref (ma 34), .ref (ma 35), .ref (ma 36), .ref (ma 37), .ref (ma 38), .ref (ma 39), .ref (ma 40), .ref (ma 41), .long 0])), ((ma 20), .inl (cy 1, 5, .inl (fun _ => 0))), ((ma 18), .inl (cy 1, 5, .inl (fun _ => 0))), ((ma 17), .inl (cy 1, 20, .inl (fun _ => 0)))] := hD
  refine lv_aload_n hx hb dX10_today_5 rfl (lv_at hl 0 rfl) ?_
  refine lv_iload_n hx hb dX10_today_6 rfl (lv_at hl 1 rfl) ?_
  refine lv_iload_n hx hb dX10_today_7 rfl (lv_at hl 2 rfl) ?_
  refine lv_iconst (v := 0) hx hb dX10_today_8 (by decide) ?_
  refine pu_calli (runV (As := [.int n0, .int n1, .int 0]) (rest := []) ⟨hx, hb, hml, hown, hts⟩ (m_isStore l D cy ma n0 n1 0 ) sV_X10_375 hK (va_recv hK.1 hP (ci := 10) (q0 := 0) rfl rfl) (hP.sub (ws' := [((ma 0), .inr (10, [.int 0, .ref (ma 1), .ref (ma 2), .ref (ma 3), .ref (ma 4), .ref (ma 5), .int 0, .int 0, .int 0, .int 0, .int 0, .long 0, .int 0, .int 0, .int 0, .int (-1), .ref (ma 16), .ref (ma 17), .ref (ma 18), .ref (ma 19), .ref (ma 20), .ref (ma 21), .ref (ma 22), .ref (ma 23), .ref (ma 24), .ref (ma 25), .ref (ma 26), .ref (ma 27), .ref (ma 28), .ref (ma 29), .ref (ma 30), .ref (ma 31), .ref (ma 32), .ref (ma 33), .ref (ma 34), .ref (ma 35), .ref (ma 36), .ref (ma 37), .ref (ma 38), .ref (ma 39), .ref (ma 40), .ref (ma 41), .long 0])), ((ma 20), .inl (cy 1, 5, .inl (fun _ => 0))), ((ma 18), .inl (cy 1, 5, .inl (fun _ => 0)))]) [0, 1, 2] rfl) ⟨Nat.le_of_ble_eq_true rfl, Nat.le_of_ble_eq_true rfl⟩ rfl hl.1 rfl (Nat.le_of_ble_eq_true rfl) dX10_today_9 ⟨Nat.le_of_ble_eq_true rfl, Nat.le_of_ble_eq_true rfl⟩) (fun r_1 hr_1 => ?_)
  have er_1 := hr_1
  subst er_1
  refine W.eq (g2 := F0 m 12 ls [.int 0]) rfl ?_
  refine lv_if_eq (tgt := 36) hx hb dX10_today_12 (by decide) (fun _ => ?_) (fun c_2 => absurd (by decide) c_2)
  refine lv_bipush (v := (-2)) hx hb dX10_today_36 (by decide) ?_
  exact ret_i hx hb hr hlocks ⟨⟨hS.1, hS.2.1⟩, (), ⟨_, rfl, rfl⟩, hP.sub [] rfl, hD.sub [] (by decide) rfl⟩ hS.2.2 (Nat.le_of_ble_eq_true rfl) (Nat.le_of_ble_eq_true rfl) dX10_today_38
set_option maxHeartbeats 4000000 in
set_option maxRecDepth 100000 in
theorem g_X10_last (l : Launch) (D : va_G) (cy : Nat → ClassId) (ma : Nat → Nat) (n0 : Int32) (n1 : Int32) (sz : Nat) : MM l yX10_last cX10_last 7 (some .int) 3 0 0 D cy [.ref (ma 0), .int n0, .int n1] (PW D [((ma 0), .inr (10, [.int 0, .ref (ma 1), .ref (ma 2), .ref (ma 3), .ref (ma 4), .ref (ma 5), .int 0, .int 0, .int 0, .int 0, .int 0, .long 0, .int 0, .int 0, .int 0, .int (-1), .ref (ma 16), .ref (ma 17), .ref (ma 18), .ref (ma 19), .ref (ma 20), .ref (ma 21), .ref (ma 22), .ref (ma 23), .ref (ma 24), .ref (ma 25), .ref (ma 26), .ref (ma 27), .ref (ma 28), .ref (ma 29), .ref (ma 30), .ref (ma 31), .ref (ma 32), .ref (ma 33), .ref (ma 34), .ref (ma 35), .ref (ma 36), .ref (ma 37), .ref (ma 38), .ref (ma 39), .ref (ma 40), .ref (ma 41), .long 0])), ((ma 20), .inl (cy 1, 5, .inl (fun _ => 0))), ((ma 18), .inl (cy 1, 5, .inl (fun _ => 0))), ((ma 17), .inl (cy 1, 20, .inl (fun _ => 0)))] sz) (QW D (va_A [((ma 0), .inr (10, [.int 0, .ref (ma 1), .ref (ma 2), .ref (ma 3), .ref (ma 4), .ref (ma 5), .int 0, .int 0, .int 0, .int 0, .int 0, .long 0, .int 0, .int 0, .int 0, .int (-1), .ref (ma 16), .ref (ma 17), .ref (ma 18), .ref (ma 19), .ref (ma 20), .ref (ma 21), .ref (ma 22), .ref (ma 23), .ref (ma 24), .ref (ma 25), .ref (ma 26), .ref (ma 27), .ref (ma 28), .ref (ma 29), .ref (ma 30), .ref (ma 31), .ref (ma 32), .ref (ma 33), .ref (ma 34), .ref (ma 35), .ref (ma 36), .ref (ma 37), .ref (ma 38), .ref (ma 39), .ref (ma 40), .ref (ma 41), .long 0])), ((ma 20), .inl (cy 1, 5, .inl (fun _ => 0))), ((ma 18), .inl (cy 1, 5, .inl (fun _ => 0))), ((ma 17), .inl (cy 1, 20, .inl (fun _ => 0)))] sz) (S := Unit) (fun v u => (∃ r : Int32, v = some (.int r) ∧ (r = (-2)))) (fun u => [])) (va_A [((ma 0), .inr (10, [.int 0, .ref (ma 1), .ref (ma 2), .ref (ma 3), .ref (ma 4), .ref (ma 5), .int 0, .int 0, .int 0, .int 0, .int 0, .long 0, .int 0, .int 0, .int 0, .int (-1), .ref (ma 16), .ref (ma 17), .ref (ma 18), .ref (ma 19), .ref (ma 20), .ref (ma 21), .ref (ma 22), .ref (ma 23), .ref (ma 24), .ref (ma 25), .ref (ma 26), .ref (ma 27), .ref (ma 28), .ref (ma 29), .ref (ma 30), .ref (ma 31), .ref (ma 32), .ref (ma 33), .ref (ma 34), .ref (ma 35), .ref (ma 36), .ref (ma 37), .ref (ma 38), .ref (ma 39), .ref (ma 40), .ref (ma 41), .long 0])), ((ma 20), .inl (cy 1, 5, .inl (fun _ => 0))), ((ma 18), .inl (cy 1, 5, .inl (fun _ => 0))), ((ma 17), .inl (cy 1, 20, .inl (fun _ => 0)))] sz) := by
  refine MM.of (by decide) (Nat.le_of_ble_eq_true rfl) ?_
  intro p e s m below meth c C hPW ls hl
  obtain ⟨hx, hb, hr, hml, hown, hts, hlocks, hK, hnm⟩ := C
  obtain ⟨rfl, hP, hD0⟩ := hPW
  have hD := hD0.self (sz := s.heap.size)
  have hA : ∀ q : Nat, s.heap.size ≤ q → (va_A [((ma 0), .inr (10, [.int 0, .ref (ma 1), .ref (ma 2), .ref (ma 3), .ref (ma 4), .ref (ma 5), .int 0, .int 0, .int 0, .int 0, .int 0, .long 0, .int 0, .int 0, .int 0, .int (-1), .ref (ma 16), .ref (ma 17), .ref (ma 18), .ref (ma 19), .ref (ma 20), .ref (ma 21), .ref (ma 22), .ref (ma 23), .ref (ma 24), .ref (ma 25), .ref (ma 26), .ref (ma 27), .ref (ma 28), .ref (ma 29), .ref (ma 30), .ref (ma 31), .ref (ma 32), .ref (ma 33), .ref (ma 34), .ref (ma 35), .ref (ma 36), .ref (ma 37), .ref (ma 38), .ref (ma 39), .ref (ma 40), .ref (ma 41), .long 0])), ((ma 20), .inl (cy 1, 5, .inl (fun _ => 0))), ((ma 18), .inl (cy 1, 5, .inl (fun _ => 0))), ((ma 17), .inl (cy 1, 20, .inl (fun _ => 0)))] s.heap.size) q := fun q h => Or.inr h
  have hS : va_S (va_A [((ma 0), .inr (10, [.int 0, .ref (ma 1), .ref (ma 2), .ref (ma 3), .ref (ma 4), .ref (ma 5), .int 0, .int 0, .int 0, .int 0, .int 0, .long 0, .int 0, .int 0, .int 0, .int (-1), .ref (ma 16), .ref (ma 17), .ref (ma 18), .ref (ma 19), .ref (ma 20), .ref (ma 21), .ref (ma 22), .ref (ma 23), .ref (ma 24), .ref (ma 25), .ref (ma 26), .ref (ma 27), .ref (ma 28), .ref (ma 29), .ref (ma 30), .ref (ma 31), .ref (ma 32), .ref (ma 33), .ref (ma 34), .ref (ma 35), .ref (ma 36), .ref (ma 37), .ref (ma 38), .ref (ma 39), .ref (ma 40), .ref (ma 41), .long 0])), ((ma 20), .inl (cy 1, 5, .inl (fun _ => 0))), ((ma 18), .inl (cy 1, 5, .inl (fun _ => 0))), ((ma 17), .inl (cy 1, 20, .inl (fun _ => 0)))] s.heap.size) s.heap s.heap [] := va_S.rf
  generalize va_A [((ma 0), .inr (10, [.int 0, .ref (ma 1), .ref (ma 2), .ref (ma 3), .ref (ma 4), .ref (ma 5), .int 0, .int 0, .int 0, .int 0, .int 0, .long 0, .int 0, .int 0, .int 0, .int (-1), .ref (ma 16), .ref (ma 17), .ref (ma 18), .ref (ma 19), .ref (ma 20), .ref (ma 21), .ref (ma 22), .ref (ma 23), .ref (ma 24), .ref (ma 25), .ref (ma 26), .ref (ma 27), .ref (ma 28), .ref (ma 29), .ref (ma 30), .ref (ma 31), .ref (ma 32), .ref (ma 33), .ref (ma 34), .ref (ma 35), .ref (ma 36), .ref (ma 37), .ref (ma 38), .ref (ma 39), .ref (ma 40), .ref (ma 41), .long 0])), ((ma 20), .inl (cy 1, 5, .inl (fun _ => 0))), ((ma 18), .inl (cy 1, 5, .inl (fun _ => 0))), ((ma 17), .inl (cy 1, 20, .inl (fun _ => 0)))] s.heap.size = A at hD hA hS ⊢
  have hP : va_P D vwCl [((ma 0), .inr (10, [.int 0, .ref (ma 1), .ref (ma 2), .ref (ma 3), .ref (ma 4), .ref (ma 5), .int 0, .int 0, .int 0, .int 0, .int 0, .long 0, .int 0, .int 0, .int 0, .int (-1), .ref (ma 16), .ref (ma 17), .ref (ma 18), .ref (ma 19), .ref (ma 20), .ref (ma 21), .ref (ma 22), .ref (ma 23), .ref (ma 24), .ref (ma 25), .ref (ma 26), .ref (ma 27), .ref (ma 28), .ref (ma 29), .ref (ma 30), .ref (ma 31), .ref (ma 32), .ref (ma 33), .ref (ma 34), .ref (ma 35), .ref (ma 36), .ref (ma 37), .ref (ma 38), .ref (ma 39), .ref (ma 40), .ref (ma 41), .long 0])), ((ma 20), .inl (cy 1, 5, .inl (fun _ => 0))), ((ma 18), .inl (cy 1, 5, .inl (fun _ => 0))), ((ma 17), .inl (cy 1, 20, .inl (fun _ => 0)))] s.heap := hP
  have hl : lv_has ls 7 [(0, .ref (ma 0)), (1, .int n0), (2, .int n1)] := hl
  refine lv_aload_n hx hb dX10_last_0 rfl (lv_at hl 0 rfl) ?_
  refine lv_iconst (v := 0) hx hb dX10_last_1 (by decide) ?_
  refine va_put (D := D) (ci := 10) (v := .int 0) (ty := tyX10 0) (C := RX10) (T := TX10) (N := 43) hx hb hts lay_X10 tyX10 tyX10_ok nmX10 hown hK.1 hP hD hS 0 rfl rfl 0 (by decide) (hts _ fl_X10_111) (fun _ h9 => h9) rfl (tyX10_ok 0 (by decide)) rfl rfl (Nat.le_of_ble_eq_true rfl) dX10_last_2 (fun H locs hP hD hS => ?_)
  have hP : va_P D vwCl [((ma 0), .inr (10, [.int 0, .ref (ma 1), .ref (ma 2), .ref (ma 3), .ref (ma 4), .ref (ma 5), .int 0, .int 0, .int 0, .int 0, .int 0, .long 0, .int 0, .int 0, .int 0, .int (-1), .ref (ma 16), .ref (ma 17), .ref (ma 18), .ref (ma 19), .ref (ma 20), .ref (ma 21), .ref (ma 22), .ref (ma 23), .ref (ma 24), .ref (ma 25), .ref (ma 26), .ref (ma 27), .ref (ma 28), .ref (ma 29), .ref (ma 30), .ref (ma 31), .ref (ma 32), .ref (ma 33), .ref (ma 34), .ref (ma 35), .ref (ma 36), .ref (ma 37), .ref (ma 38), .ref (ma 39), .ref (ma 40), .ref (ma 41), .long 0])), ((ma 20), .inl (cy 1, 5, .inl (fun _ => 0))), ((ma 18), .inl (cy 1, 5, .inl (fun _ => 0))), ((ma 17), .inl (cy 1, 20, .inl (fun _ => 0)))] H := hP
  have hD : va_D A [((ma 0), .inr (10, [.int 0, .ref (ma 1), .ref (ma 2), .ref (ma 3), .ref (ma 4), .ref (ma 5), .int 0, .int 0, .int 0, .int 0, .int 0, .long 0, .int 0, .int 0, .int 0, .int (-1), .ref (ma 16), .ref (ma 17), .ref (ma 18), .ref (ma 19), .ref (ma 20), .ref (ma 21), .ref (ma 22), .ref (ma 23), .ref (ma 24), .ref (ma 25), .ref (ma 26), .ref (ma 27), .ref (ma 28), .ref (ma 29), .ref (ma 30), .ref (ma 31), .ref (ma 32), .ref (ma 33), .ref (ma 34), .ref (ma 35), .ref (ma 36), .ref (ma 37), .ref (ma 38), .ref (ma 39), .ref (ma 40), .ref (ma 41), .long 0])), ((ma 20), .inl (cy 1, 5, .inl (fun _ => 0))), ((ma 18), .inl (cy 1, 5, .inl (fun _ => 0))), ((ma 17), .inl (cy 1, 20, .inl (fun _ => 0)))] := hD
  refine lv_aload_n hx hb dX10_last_5 rfl (lv_at hl 0 rfl) ?_
  refine lv_iload_n hx hb dX10_last_6 rfl (lv_at hl 1 rfl) ?_
  refine lv_iload_n hx hb dX10_last_7 rfl (lv_at hl 2 rfl) ?_
  refine lv_iconst (v := 0) hx hb dX10_last_8 (by decide) ?_
  refine pu_calli (runV (As := [.int n0, .int n1, .int 0]) (rest := []) ⟨hx, hb, hml, hown, hts⟩ (m_isStore l D cy ma n0 n1 0 ) sV_X10_375 hK (va_recv hK.1 hP (ci := 10) (q0 := 0) rfl rfl) (hP.sub (ws' := [((ma 0), .inr (10, [.int 0, .ref (ma 1), .ref (ma 2), .ref (ma 3), .ref (ma 4), .ref (ma 5), .int 0, .int 0, .int 0, .int 0, .int 0, .long 0, .int 0, .int 0, .int 0, .int (-1), .ref (ma 16), .ref (ma 17), .ref (ma 18), .ref (ma 19), .ref (ma 20), .ref (ma 21), .ref (ma 22), .ref (ma 23), .ref (ma 24), .ref (ma 25), .ref (ma 26), .ref (ma 27), .ref (ma 28), .ref (ma 29), .ref (ma 30), .ref (ma 31), .ref (ma 32), .ref (ma 33), .ref (ma 34), .ref (ma 35), .ref (ma 36), .ref (ma 37), .ref (ma 38), .ref (ma 39), .ref (ma 40), .ref (ma 41), .long 0])), ((ma 20), .inl (cy 1, 5, .inl (fun _ => 0))), ((ma 18), .inl (cy 1, 5, .inl (fun _ => 0)))]) [0, 1, 2] rfl) ⟨Nat.le_of_ble_eq_true rfl, Nat.le_of_ble_eq_true rfl⟩ rfl hl.1 rfl (Nat.le_of_ble_eq_true rfl) dX10_last_9 ⟨Nat.le_of_ble_eq_true rfl, Nat.le_of_ble_eq_true rfl⟩) (fun r_1 hr_1 => ?_)
  have er_1 := hr_1
  subst er_1
  refine W.eq (g2 := F0 m 12 ls [.int 0]) rfl ?_
  refine lv_if_ne (tgt := 18) hx hb dX10_last_12 (by decide) (fun c_2 => absurd c_2 (by decide)) (fun _ => ?_)
  refine lv_bipush (v := (-2)) hx hb dX10_last_15 (by decide) ?_
  exact ret_i hx hb hr hlocks ⟨⟨hS.1, hS.2.1⟩, (), ⟨_, rfl, rfl⟩, hP.sub [] rfl, hD.sub [] (by decide) rfl⟩ hS.2.2 (Nat.le_of_ble_eq_true rfl) (Nat.le_of_ble_eq_true rfl) dX10_last_17
set_option maxHeartbeats 4000000 in
set_option maxRecDepth 100000 in
theorem g_X10_signs (l : Launch) (D : va_G) (cy : Nat → ClassId) (ma : Nat → Nat) (n0 : Int32) (n1 : Int32) (sz : Nat) : MM l yX10_signs cX10_signs 8 (some .long) 3 0 0 D cy [.ref (ma 0), .int n0, .int n1] (PW D [((ma 0), .inr (10, [.int 0, .ref (ma 1), .ref (ma 2), .ref (ma 3), .ref (ma 4), .ref (ma 5), .int 0, .int 0, .int 0, .int 0, .int 0, .long 0, .int 0, .int 0, .int 0, .int (-1), .ref (ma 16), .ref (ma 17), .ref (ma 18), .ref (ma 19), .ref (ma 20), .ref (ma 21), .ref (ma 22), .ref (ma 23), .ref (ma 24), .ref (ma 25), .ref (ma 26), .ref (ma 27), .ref (ma 28), .ref (ma 29), .ref (ma 30), .ref (ma 31), .ref (ma 32), .ref (ma 33), .ref (ma 34), .ref (ma 35), .ref (ma 36), .ref (ma 37), .ref (ma 38), .ref (ma 39), .ref (ma 40), .ref (ma 41), .long 0])), ((ma 20), .inl (cy 1, 5, .inl (fun _ => 0))), ((ma 18), .inl (cy 1, 5, .inl (fun _ => 0))), ((ma 17), .inl (cy 1, 20, .inl (fun _ => 0)))] sz) (QW D (va_A [((ma 0), .inr (10, [.int 0, .ref (ma 1), .ref (ma 2), .ref (ma 3), .ref (ma 4), .ref (ma 5), .int 0, .int 0, .int 0, .int 0, .int 0, .long 0, .int 0, .int 0, .int 0, .int (-1), .ref (ma 16), .ref (ma 17), .ref (ma 18), .ref (ma 19), .ref (ma 20), .ref (ma 21), .ref (ma 22), .ref (ma 23), .ref (ma 24), .ref (ma 25), .ref (ma 26), .ref (ma 27), .ref (ma 28), .ref (ma 29), .ref (ma 30), .ref (ma 31), .ref (ma 32), .ref (ma 33), .ref (ma 34), .ref (ma 35), .ref (ma 36), .ref (ma 37), .ref (ma 38), .ref (ma 39), .ref (ma 40), .ref (ma 41), .long 0])), ((ma 20), .inl (cy 1, 5, .inl (fun _ => 0))), ((ma 18), .inl (cy 1, 5, .inl (fun _ => 0))), ((ma 17), .inl (cy 1, 20, .inl (fun _ => 0)))] sz) (S := Unit) (fun v u => (∃ r : Int64, v = some (.long r) ∧ (r = (-1000000000000)))) (fun u => [])) (va_A [((ma 0), .inr (10, [.int 0, .ref (ma 1), .ref (ma 2), .ref (ma 3), .ref (ma 4), .ref (ma 5), .int 0, .int 0, .int 0, .int 0, .int 0, .long 0, .int 0, .int 0, .int 0, .int (-1), .ref (ma 16), .ref (ma 17), .ref (ma 18), .ref (ma 19), .ref (ma 20), .ref (ma 21), .ref (ma 22), .ref (ma 23), .ref (ma 24), .ref (ma 25), .ref (ma 26), .ref (ma 27), .ref (ma 28), .ref (ma 29), .ref (ma 30), .ref (ma 31), .ref (ma 32), .ref (ma 33), .ref (ma 34), .ref (ma 35), .ref (ma 36), .ref (ma 37), .ref (ma 38), .ref (ma 39), .ref (ma 40), .ref (ma 41), .long 0])), ((ma 20), .inl (cy 1, 5, .inl (fun _ => 0))), ((ma 18), .inl (cy 1, 5, .inl (fun _ => 0))), ((ma 17), .inl (cy 1, 20, .inl (fun _ => 0)))] sz) := by
  refine MM.of (by decide) (Nat.le_of_ble_eq_true rfl) ?_
  intro p e s m below meth c C hPW ls hl
  obtain ⟨hx, hb, hr, hml, hown, hts, hlocks, hK, hnm⟩ := C
  obtain ⟨rfl, hP, hD0⟩ := hPW
  have hD := hD0.self (sz := s.heap.size)
  have hA : ∀ q : Nat, s.heap.size ≤ q → (va_A [((ma 0), .inr (10, [.int 0, .ref (ma 1), .ref (ma 2), .ref (ma 3), .ref (ma 4), .ref (ma 5), .int 0, .int 0, .int 0, .int 0, .int 0, .long 0, .int 0, .int 0, .int 0, .int (-1), .ref (ma 16), .ref (ma 17), .ref (ma 18), .ref (ma 19), .ref (ma 20), .ref (ma 21), .ref (ma 22), .ref (ma 23), .ref (ma 24), .ref (ma 25), .ref (ma 26), .ref (ma 27), .ref (ma 28), .ref (ma 29), .ref (ma 30), .ref (ma 31), .ref (ma 32), .ref (ma 33), .ref (ma 34), .ref (ma 35), .ref (ma 36), .ref (ma 37), .ref (ma 38), .ref (ma 39), .ref (ma 40), .ref (ma 41), .long 0])), ((ma 20), .inl (cy 1, 5, .inl (fun _ => 0))), ((ma 18), .inl (cy 1, 5, .inl (fun _ => 0))), ((ma 17), .inl (cy 1, 20, .inl (fun _ => 0)))] s.heap.size) q := fun q h => Or.inr h
  have hS : va_S (va_A [((ma 0), .inr (10, [.int 0, .ref (ma 1), .ref (ma 2), .ref (ma 3), .ref (ma 4), .ref (ma 5), .int 0, .int 0, .int 0, .int 0, .int 0, .long 0, .int 0, .int 0, .int 0, .int (-1), .ref (ma 16), .ref (ma 17), .ref (ma 18), .ref (ma 19), .ref (ma 20), .ref (ma 21), .ref (ma 22), .ref (ma 23), .ref (ma 24), .ref (ma 25), .ref (ma 26), .ref (ma 27), .ref (ma 28), .ref (ma 29), .ref (ma 30), .ref (ma 31), .ref (ma 32), .ref (ma 33), .ref (ma 34), .ref (ma 35), .ref (ma 36), .ref (ma 37), .ref (ma 38), .ref (ma 39), .ref (ma 40), .ref (ma 41), .long 0])), ((ma 20), .inl (cy 1, 5, .inl (fun _ => 0))), ((ma 18), .inl (cy 1, 5, .inl (fun _ => 0))), ((ma 17), .inl (cy 1, 20, .inl (fun _ => 0)))] s.heap.size) s.heap s.heap [] := va_S.rf
  generalize va_A [((ma 0), .inr (10, [.int 0, .ref (ma 1), .ref (ma 2), .ref (ma 3), .ref (ma 4), .ref (ma 5), .int 0, .int 0, .int 0, .int 0, .int 0, .long 0, .int 0, .int 0, .int 0, .int (-1), .ref (ma 16), .ref (ma 17), .ref (ma 18), .ref (ma 19), .ref (ma 20), .ref (ma 21), .ref (ma 22), .ref (ma 23), .ref (ma 24), .ref (ma 25), .ref (ma 26), .ref (ma 27), .ref (ma 28), .ref (ma 29), .ref (ma 30), .ref (ma 31), .ref (ma 32), .ref (ma 33), .ref (ma 34), .ref (ma 35), .ref (ma 36), .ref (ma 37), .ref (ma 38), .ref (ma 39), .ref (ma 40), .ref (ma 41), .long 0])), ((ma 20), .inl (cy 1, 5, .inl (fun _ => 0))), ((ma 18), .inl (cy 1, 5, .inl (fun _ => 0))), ((ma 17), .inl (cy 1, 20, .inl (fun _ => 0)))] s.heap.size = A at hD hA hS ⊢
  have hP : va_P D vwCl [((ma 0), .inr (10, [.int 0, .ref (ma 1), .ref (ma 2), .ref (ma 3), .ref (ma 4), .ref (ma 5), .int 0, .int 0, .int 0, .int 0, .int 0, .long 0, .int 0, .int 0, .int 0, .int (-1), .ref (ma 16), .ref (ma 17), .ref (ma 18), .ref (ma 19), .ref (ma 20), .ref (ma 21), .ref (ma 22), .ref (ma 23), .ref (ma 24), .ref (ma 25), .ref (ma 26), .ref (ma 27), .ref (ma 28), .ref (ma 29), .ref (ma 30), .ref (ma 31), .ref (ma 32), .ref (ma 33), .ref (ma 34), .ref (ma 35), .ref (ma 36), .ref (ma 37), .ref (ma 38), .ref (ma 39), .ref (ma 40), .ref (ma 41), .long 0])), ((ma 20), .inl (cy 1, 5, .inl (fun _ => 0))), ((ma 18), .inl (cy 1, 5, .inl (fun _ => 0))), ((ma 17), .inl (cy 1, 20, .inl (fun _ => 0)))] s.heap := hP
  have hl : lv_has ls 8 [(0, .ref (ma 0)), (1, .int n0), (2, .int n1)] := hl
  refine lv_aload_n hx hb dX10_signs_0 rfl (lv_at hl 0 rfl) ?_
  refine lv_iconst (v := 0) hx hb dX10_signs_1 (by decide) ?_
  refine va_put (D := D) (ci := 10) (v := .int 0) (ty := tyX10 0) (C := RX10) (T := TX10) (N := 43) hx hb hts lay_X10 tyX10 tyX10_ok nmX10 hown hK.1 hP hD hS 0 rfl rfl 0 (by decide) (hts _ fl_X10_111) (fun _ h9 => h9) rfl (tyX10_ok 0 (by decide)) rfl rfl (Nat.le_of_ble_eq_true rfl) dX10_signs_2 (fun H locs hP hD hS => ?_)
  have hP : va_P D vwCl [((ma 0), .inr (10, [.int 0, .ref (ma 1), .ref (ma 2), .ref (ma 3), .ref (ma 4), .ref (ma 5), .int 0, .int 0, .int 0, .int 0, .int 0, .long 0, .int 0, .int 0, .int 0, .int (-1), .ref (ma 16), .ref (ma 17), .ref (ma 18), .ref (ma 19), .ref (ma 20), .ref (ma 21), .ref (ma 22), .ref (ma 23), .ref (ma 24), .ref (ma 25), .ref (ma 26), .ref (ma 27), .ref (ma 28), .ref (ma 29), .ref (ma 30), .ref (ma 31), .ref (ma 32), .ref (ma 33), .ref (ma 34), .ref (ma 35), .ref (ma 36), .ref (ma 37), .ref (ma 38), .ref (ma 39), .ref (ma 40), .ref (ma 41), .long 0])), ((ma 20), .inl (cy 1, 5, .inl (fun _ => 0))), ((ma 18), .inl (cy 1, 5, .inl (fun _ => 0))), ((ma 17), .inl (cy 1, 20, .inl (fun _ => 0)))] H := hP
  have hD : va_D A [((ma 0), .inr (10, [.int 0, .ref (ma 1), .ref (ma 2), .ref (ma 3), .ref (ma 4), .ref (ma 5), .int 0, .int 0, .int 0, .int 0, .int 0, .long 0, .int 0, .int 0, .int 0, .int (-1), .ref (ma 16), .ref (ma 17), .ref (ma 18), .ref (ma 19), .ref (ma 20), .ref (ma 21), .ref (ma 22), .ref (ma 23), .ref (ma 24), .ref (ma 25), .ref (ma 26), .ref (ma 27), .ref (ma 28), .ref (ma 29), .ref (ma 30), .ref (ma 31), .ref (ma 32), .ref (ma 33), .ref (ma 34), .ref (ma 35), .ref (ma 36), .ref (ma 37), .ref (ma 38), .ref (ma 39), .ref (ma 40), .ref (ma 41), .long 0])), ((ma 20), .inl (cy 1, 5, .inl (fun _ => 0))), ((ma 18), .inl (cy 1, 5, .inl (fun _ => 0))), ((ma 17), .inl (cy 1, 20, .inl (fun _ => 0)))] := hD
  refine lv_aload_n hx hb dX10_signs_5 rfl (lv_at hl 0 rfl) ?_
  refine lv_iload_n hx hb dX10_signs_6 rfl (lv_at hl 1 rfl) ?_
  refine lv_iload_n hx hb dX10_signs_7 rfl (lv_at hl 2 rfl) ?_
  refine lv_iconst (v := 0) hx hb dX10_signs_8 (by decide) ?_
  refine pu_calli (runV (As := [.int n0, .int n1, .int 0]) (rest := []) ⟨hx, hb, hml, hown, hts⟩ (m_isStore l D cy ma n0 n1 0 ) sV_X10_375 hK (va_recv hK.1 hP (ci := 10) (q0 := 0) rfl rfl) (hP.sub (ws' := [((ma 0), .inr (10, [.int 0, .ref (ma 1), .ref (ma 2), .ref (ma 3), .ref (ma 4), .ref (ma 5), .int 0, .int 0, .int 0, .int 0, .int 0, .long 0, .int 0, .int 0, .int 0, .int (-1), .ref (ma 16), .ref (ma 17), .ref (ma 18), .ref (ma 19), .ref (ma 20), .ref (ma 21), .ref (ma 22), .ref (ma 23), .ref (ma 24), .ref (ma 25), .ref (ma 26), .ref (ma 27), .ref (ma 28), .ref (ma 29), .ref (ma 30), .ref (ma 31), .ref (ma 32), .ref (ma 33), .ref (ma 34), .ref (ma 35), .ref (ma 36), .ref (ma 37), .ref (ma 38), .ref (ma 39), .ref (ma 40), .ref (ma 41), .long 0])), ((ma 20), .inl (cy 1, 5, .inl (fun _ => 0))), ((ma 18), .inl (cy 1, 5, .inl (fun _ => 0)))]) [0, 1, 2] rfl) ⟨Nat.le_of_ble_eq_true rfl, Nat.le_of_ble_eq_true rfl⟩ rfl hl.1 rfl (Nat.le_of_ble_eq_true rfl) dX10_signs_9 ⟨Nat.le_of_ble_eq_true rfl, Nat.le_of_ble_eq_true rfl⟩) (fun r_1 hr_1 => ?_)
  have er_1 := hr_1
  subst er_1
  refine W.eq (g2 := F0 m 12 ls [.int 0]) rfl ?_
  refine lv_if_ne (tgt := 19) hx hb dX10_signs_12 (by decide) (fun c_2 => absurd c_2 (by decide)) (fun _ => ?_)
  refine lv_ldc2 (v := (-1000000000000)) hx hb hown (hts _ kl_X10_381) dX10_signs_15 ?_
  exact ret_l hx hb hr hlocks ⟨⟨hS.1, hS.2.1⟩, (), ⟨_, rfl, rfl⟩, hP.sub [] rfl, hD.sub [] (by decide) rfl⟩ hS.2.2 (Nat.le_of_ble_eq_true rfl) (Nat.le_of_ble_eq_true rfl) dX10_signs_18
set_option maxHeartbeats 4000000 in
set_option maxRecDepth 100000 in
theorem g_X10_fork (l : Launch) (D : va_G) (cy : Nat → ClassId) (ma : Nat → Nat) (n0 : Int32) (n1 : Int32) (n2 : Int32) (n3 : Int32) (sz : Nat) : MM l yX10_fork cX10_fork 5 (some .long) 3 0 0 D cy [.ref (ma 0), .int n0, .int n1, .int n2, .int n3] (PW D [((ma 0), .inr (10, [.int 0, .ref (ma 1), .ref (ma 2), .ref (ma 3), .ref (ma 4), .ref (ma 5), .int 0, .int 0, .int 0, .int 0, .int 0, .long 0, .int 0, .int 0, .int 0, .int (-1), .ref (ma 16), .ref (ma 17), .ref (ma 18), .ref (ma 19), .ref (ma 20), .ref (ma 21), .ref (ma 22), .ref (ma 23), .ref (ma 24), .ref (ma 25), .ref (ma 26), .ref (ma 27), .ref (ma 28), .ref (ma 29), .ref (ma 30), .ref (ma 31), .ref (ma 32), .ref (ma 33), .ref (ma 34), .ref (ma 35), .ref (ma 36), .ref (ma 37), .ref (ma 38), .ref (ma 39), .ref (ma 40), .ref (ma 41), .long 0])), ((ma 20), .inl (cy 1, 5, .inl (fun _ => 0))), ((ma 18), .inl (cy 1, 5, .inl (fun _ => 0))), ((ma 17), .inl (cy 1, 20, .inl (fun _ => 0)))] sz) (QW D (va_A [((ma 0), .inr (10, [.int 0, .ref (ma 1), .ref (ma 2), .ref (ma 3), .ref (ma 4), .ref (ma 5), .int 0, .int 0, .int 0, .int 0, .int 0, .long 0, .int 0, .int 0, .int 0, .int (-1), .ref (ma 16), .ref (ma 17), .ref (ma 18), .ref (ma 19), .ref (ma 20), .ref (ma 21), .ref (ma 22), .ref (ma 23), .ref (ma 24), .ref (ma 25), .ref (ma 26), .ref (ma 27), .ref (ma 28), .ref (ma 29), .ref (ma 30), .ref (ma 31), .ref (ma 32), .ref (ma 33), .ref (ma 34), .ref (ma 35), .ref (ma 36), .ref (ma 37), .ref (ma 38), .ref (ma 39), .ref (ma 40), .ref (ma 41), .long 0])), ((ma 20), .inl (cy 1, 5, .inl (fun _ => 0))), ((ma 18), .inl (cy 1, 5, .inl (fun _ => 0))), ((ma 17), .inl (cy 1, 20, .inl (fun _ => 0)))] sz) (S := Unit) (fun v u => (∃ r : Int64, v = some (.long r) ∧ (r = (-2)))) (fun u => [])) (va_A [((ma 0), .inr (10, [.int 0, .ref (ma 1), .ref (ma 2), .ref (ma 3), .ref (ma 4), .ref (ma 5), .int 0, .int 0, .int 0, .int 0, .int 0, .long 0, .int 0, .int 0, .int 0, .int (-1), .ref (ma 16), .ref (ma 17), .ref (ma 18), .ref (ma 19), .ref (ma 20), .ref (ma 21), .ref (ma 22), .ref (ma 23), .ref (ma 24), .ref (ma 25), .ref (ma 26), .ref (ma 27), .ref (ma 28), .ref (ma 29), .ref (ma 30), .ref (ma 31), .ref (ma 32), .ref (ma 33), .ref (ma 34), .ref (ma 35), .ref (ma 36), .ref (ma 37), .ref (ma 38), .ref (ma 39), .ref (ma 40), .ref (ma 41), .long 0])), ((ma 20), .inl (cy 1, 5, .inl (fun _ => 0))), ((ma 18), .inl (cy 1, 5, .inl (fun _ => 0))), ((ma 17), .inl (cy 1, 20, .inl (fun _ => 0)))] sz) := by
  refine MM.of (by decide) (Nat.le_of_ble_eq_true rfl) ?_
  intro p e s m below meth c C hPW ls hl
  obtain ⟨hx, hb, hr, hml, hown, hts, hlocks, hK, hnm⟩ := C
  obtain ⟨rfl, hP, hD0⟩ := hPW
  have hD := hD0.self (sz := s.heap.size)
  have hA : ∀ q : Nat, s.heap.size ≤ q → (va_A [((ma 0), .inr (10, [.int 0, .ref (ma 1), .ref (ma 2), .ref (ma 3), .ref (ma 4), .ref (ma 5), .int 0, .int 0, .int 0, .int 0, .int 0, .long 0, .int 0, .int 0, .int 0, .int (-1), .ref (ma 16), .ref (ma 17), .ref (ma 18), .ref (ma 19), .ref (ma 20), .ref (ma 21), .ref (ma 22), .ref (ma 23), .ref (ma 24), .ref (ma 25), .ref (ma 26), .ref (ma 27), .ref (ma 28), .ref (ma 29), .ref (ma 30), .ref (ma 31), .ref (ma 32), .ref (ma 33), .ref (ma 34), .ref (ma 35), .ref (ma 36), .ref (ma 37), .ref (ma 38), .ref (ma 39), .ref (ma 40), .ref (ma 41), .long 0])), ((ma 20), .inl (cy 1, 5, .inl (fun _ => 0))), ((ma 18), .inl (cy 1, 5, .inl (fun _ => 0))), ((ma 17), .inl (cy 1, 20, .inl (fun _ => 0)))] s.heap.size) q := fun q h => Or.inr h
  have hS : va_S (va_A [((ma 0), .inr (10, [.int 0, .ref (ma 1), .ref (ma 2), .ref (ma 3), .ref (ma 4), .ref (ma 5), .int 0, .int 0, .int 0, .int 0, .int 0, .long 0, .int 0, .int 0, .int 0, .int (-1), .ref (ma 16), .ref (ma 17), .ref (ma 18), .ref (ma 19), .ref (ma 20), .ref (ma 21), .ref (ma 22), .ref (ma 23), .ref (ma 24), .ref (ma 25), .ref (ma 26), .ref (ma 27), .ref (ma 28), .ref (ma 29), .ref (ma 30), .ref (ma 31), .ref (ma 32), .ref (ma 33), .ref (ma 34), .ref (ma 35), .ref (ma 36), .ref (ma 37), .ref (ma 38), .ref (ma 39), .ref (ma 40), .ref (ma 41), .long 0])), ((ma 20), .inl (cy 1, 5, .inl (fun _ => 0))), ((ma 18), .inl (cy 1, 5, .inl (fun _ => 0))), ((ma 17), .inl (cy 1, 20, .inl (fun _ => 0)))] s.heap.size) s.heap s.heap [] := va_S.rf
  generalize va_A [((ma 0), .inr (10, [.int 0, .ref (ma 1), .ref (ma 2), .ref (ma 3), .ref (ma 4), .ref (ma 5), .int 0, .int 0, .int 0, .int 0, .int 0, .long 0, .int 0, .int 0, .int 0, .int (-1), .ref (ma 16), .ref (ma 17), .ref (ma 18), .ref (ma 19), .ref (ma 20), .ref (ma 21), .ref (ma 22), .ref (ma 23), .ref (ma 24), .ref (ma 25), .ref (ma 26), .ref (ma 27), .ref (ma 28), .ref (ma 29), .ref (ma 30), .ref (ma 31), .ref (ma 32), .ref (ma 33), .ref (ma 34), .ref (ma 35), .ref (ma 36), .ref (ma 37), .ref (ma 38), .ref (ma 39), .ref (ma 40), .ref (ma 41), .long 0])), ((ma 20), .inl (cy 1, 5, .inl (fun _ => 0))), ((ma 18), .inl (cy 1, 5, .inl (fun _ => 0))), ((ma 17), .inl (cy 1, 20, .inl (fun _ => 0)))] s.heap.size = A at hD hA hS ⊢
  have hP : va_P D vwCl [((ma 0), .inr (10, [.int 0, .ref (ma 1), .ref (ma 2), .ref (ma 3), .ref (ma 4), .ref (ma 5), .int 0, .int 0, .int 0, .int 0, .int 0, .long 0, .int 0, .int 0, .int 0, .int (-1), .ref (ma 16), .ref (ma 17), .ref (ma 18), .ref (ma 19), .ref (ma 20), .ref (ma 21), .ref (ma 22), .ref (ma 23), .ref (ma 24), .ref (ma 25), .ref (ma 26), .ref (ma 27), .ref (ma 28), .ref (ma 29), .ref (ma 30), .ref (ma 31), .ref (ma 32), .ref (ma 33), .ref (ma 34), .ref (ma 35), .ref (ma 36), .ref (ma 37), .ref (ma 38), .ref (ma 39), .ref (ma 40), .ref (ma 41), .long 0])), ((ma 20), .inl (cy 1, 5, .inl (fun _ => 0))), ((ma 18), .inl (cy 1, 5, .inl (fun _ => 0))), ((ma 17), .inl (cy 1, 20, .inl (fun _ => 0)))] s.heap := hP
  have hl : lv_has ls 5 [(0, .ref (ma 0)), (1, .int n0), (2, .int n1), (3, .int n2), (4, .int n3)] := hl
  refine lv_aload_n hx hb dX10_fork_0 rfl (lv_at hl 0 rfl) ?_
  refine lv_iconst (v := 0) hx hb dX10_fork_1 (by decide) ?_
  refine va_put (D := D) (ci := 10) (v := .int 0) (ty := tyX10 0) (C := RX10) (T := TX10) (N := 43) hx hb hts lay_X10 tyX10 tyX10_ok nmX10 hown hK.1 hP hD hS 0 rfl rfl 0 (by decide) (hts _ fl_X10_111) (fun _ h9 => h9) rfl (tyX10_ok 0 (by decide)) rfl rfl (Nat.le_of_ble_eq_true rfl) dX10_fork_2 (fun H locs hP hD hS => ?_)
  have hP : va_P D vwCl [((ma 0), .inr (10, [.int 0, .ref (ma 1), .ref (ma 2), .ref (ma 3), .ref (ma 4), .ref (ma 5), .int 0, .int 0, .int 0, .int 0, .int 0, .long 0, .int 0, .int 0, .int 0, .int (-1), .ref (ma 16), .ref (ma 17), .ref (ma 18), .ref (ma 19), .ref (ma 20), .ref (ma 21), .ref (ma 22), .ref (ma 23), .ref (ma 24), .ref (ma 25), .ref (ma 26), .ref (ma 27), .ref (ma 28), .ref (ma 29), .ref (ma 30), .ref (ma 31), .ref (ma 32), .ref (ma 33), .ref (ma 34), .ref (ma 35), .ref (ma 36), .ref (ma 37), .ref (ma 38), .ref (ma 39), .ref (ma 40), .ref (ma 41), .long 0])), ((ma 20), .inl (cy 1, 5, .inl (fun _ => 0))), ((ma 18), .inl (cy 1, 5, .inl (fun _ => 0))), ((ma 17), .inl (cy 1, 20, .inl (fun _ => 0)))] H := hP
  have hD : va_D A [((ma 0), .inr (10, [.int 0, .ref (ma 1), .ref (ma 2), .ref (ma 3), .ref (ma 4), .ref (ma 5), .int 0, .int 0, .int 0, .int 0, .int 0, .long 0, .int 0, .int 0, .int 0, .int (-1), .ref (ma 16), .ref (ma 17), .ref (ma 18), .ref (ma 19), .ref (ma 20), .ref (ma 21), .ref (ma 22), .ref (ma 23), .ref (ma 24), .ref (ma 25), .ref (ma 26), .ref (ma 27), .ref (ma 28), .ref (ma 29), .ref (ma 30), .ref (ma 31), .ref (ma 32), .ref (ma 33), .ref (ma 34), .ref (ma 35), .ref (ma 36), .ref (ma 37), .ref (ma 38), .ref (ma 39), .ref (ma 40), .ref (ma 41), .long 0])), ((ma 20), .inl (cy 1, 5, .inl (fun _ => 0))), ((ma 18), .inl (cy 1, 5, .inl (fun _ => 0))), ((ma 17), .inl (cy 1, 20, .inl (fun _ => 0)))] := hD
  refine lv_aload_n hx hb dX10_fork_5 rfl (lv_at hl 0 rfl) ?_
  refine lv_iload_n hx hb dX10_fork_6 rfl (lv_at hl 1 rfl) ?_
  refine lv_iload_n hx hb dX10_fork_7 rfl (lv_at hl 2 rfl) ?_
  refine pu_calli (runV (As := [.int n0, .int n1]) (rest := []) ⟨hx, hb, hml, hown, hts⟩ (m_areTwo l D cy ma n0 n1 ) sV_X10_323 hK (va_recv hK.1 hP (ci := 10) (q0 := 0) rfl rfl) (hP.sub (ws' := [((ma 0), .inr (10, [.int 0, .ref (ma 1), .ref (ma 2), .ref (ma 3), .ref (ma 4), .ref (ma 5), .int 0, .int 0, .int 0, .int 0, .int 0, .long 0, .int 0, .int 0, .int 0, .int (-1), .ref (ma 16), .ref (ma 17), .ref (ma 18), .ref (ma 19), .ref (ma 20), .ref (ma 21), .ref (ma 22), .ref (ma 23), .ref (ma 24), .ref (ma 25), .ref (ma 26), .ref (ma 27), .ref (ma 28), .ref (ma 29), .ref (ma 30), .ref (ma 31), .ref (ma 32), .ref (ma 33), .ref (ma 34), .ref (ma 35), .ref (ma 36), .ref (ma 37), .ref (ma 38), .ref (ma 39), .ref (ma 40), .ref (ma 41), .long 0])), ((ma 20), .inl (cy 1, 5, .inl (fun _ => 0)))]) [0, 1] rfl) ⟨Nat.le_of_ble_eq_true rfl, Nat.le_of_ble_eq_true rfl⟩ rfl hl.1 rfl (Nat.le_of_ble_eq_true rfl) dX10_fork_8 ⟨Nat.le_of_ble_eq_true rfl, Nat.le_of_ble_eq_true rfl⟩) (fun r_1 hr_1 => ?_)
  have er_1 := hr_1
  subst er_1
  refine W.eq (g2 := F0 m 11 ls [.int 0]) rfl ?_
  refine lv_if_eq (tgt := 31) hx hb dX10_fork_11 (by decide) (fun _ => ?_) (fun c_2 => absurd (by decide) c_2)
  refine lv_ldc2 (v := (-2)) hx hb hown (hts _ kl_X10_300) dX10_fork_31 ?_
  exact ret_l hx hb hr hlocks ⟨⟨hS.1, hS.2.1⟩, (), ⟨_, rfl, rfl⟩, hP.sub [] rfl, hD.sub [] (by decide) rfl⟩ hS.2.2 (Nat.le_of_ble_eq_true rfl) (Nat.le_of_ble_eq_true rfl) dX10_fork_34
set_option maxHeartbeats 4000000 in
set_option maxRecDepth 100000 in
theorem g_X10_middle (l : Launch) (D : va_G) (cy : Nat → ClassId) (ma : Nat → Nat) (n0 : Int32) (n1 : Int32) (n2 : Int32) (sz : Nat) : MM l yX10_middle cX10_middle 4 (some .int) 3 0 0 D cy [.ref (ma 0), .int n0, .int n1, .int n2] (PW D [((ma 0), .inr (10, [.int 0, .ref (ma 1), .ref (ma 2), .ref (ma 3), .ref (ma 4), .ref (ma 5), .int 0, .int 0, .int 0, .int 0, .int 0, .long 0, .int 0, .int 0, .int 0, .int (-1), .ref (ma 16), .ref (ma 17), .ref (ma 18), .ref (ma 19), .ref (ma 20), .ref (ma 21), .ref (ma 22), .ref (ma 23), .ref (ma 24), .ref (ma 25), .ref (ma 26), .ref (ma 27), .ref (ma 28), .ref (ma 29), .ref (ma 30), .ref (ma 31), .ref (ma 32), .ref (ma 33), .ref (ma 34), .ref (ma 35), .ref (ma 36), .ref (ma 37), .ref (ma 38), .ref (ma 39), .ref (ma 40), .ref (ma 41), .long 0])), ((ma 20), .inl (cy 1, 5, .inl (fun _ => 0))), ((ma 18), .inl (cy 1, 5, .inl (fun _ => 0))), ((ma 17), .inl (cy 1, 20, .inl (fun _ => 0)))] sz) (QW D (va_A [((ma 0), .inr (10, [.int 0, .ref (ma 1), .ref (ma 2), .ref (ma 3), .ref (ma 4), .ref (ma 5), .int 0, .int 0, .int 0, .int 0, .int 0, .long 0, .int 0, .int 0, .int 0, .int (-1), .ref (ma 16), .ref (ma 17), .ref (ma 18), .ref (ma 19), .ref (ma 20), .ref (ma 21), .ref (ma 22), .ref (ma 23), .ref (ma 24), .ref (ma 25), .ref (ma 26), .ref (ma 27), .ref (ma 28), .ref (ma 29), .ref (ma 30), .ref (ma 31), .ref (ma 32), .ref (ma 33), .ref (ma 34), .ref (ma 35), .ref (ma 36), .ref (ma 37), .ref (ma 38), .ref (ma 39), .ref (ma 40), .ref (ma 41), .long 0])), ((ma 20), .inl (cy 1, 5, .inl (fun _ => 0))), ((ma 18), .inl (cy 1, 5, .inl (fun _ => 0))), ((ma 17), .inl (cy 1, 20, .inl (fun _ => 0)))] sz) (S := Unit) (fun v u => (∃ r : Int32, v = some (.int r) ∧ (r = (-2)))) (fun u => [])) (va_A [((ma 0), .inr (10, [.int 0, .ref (ma 1), .ref (ma 2), .ref (ma 3), .ref (ma 4), .ref (ma 5), .int 0, .int 0, .int 0, .int 0, .int 0, .long 0, .int 0, .int 0, .int 0, .int (-1), .ref (ma 16), .ref (ma 17), .ref (ma 18), .ref (ma 19), .ref (ma 20), .ref (ma 21), .ref (ma 22), .ref (ma 23), .ref (ma 24), .ref (ma 25), .ref (ma 26), .ref (ma 27), .ref (ma 28), .ref (ma 29), .ref (ma 30), .ref (ma 31), .ref (ma 32), .ref (ma 33), .ref (ma 34), .ref (ma 35), .ref (ma 36), .ref (ma 37), .ref (ma 38), .ref (ma 39), .ref (ma 40), .ref (ma 41), .long 0])), ((ma 20), .inl (cy 1, 5, .inl (fun _ => 0))), ((ma 18), .inl (cy 1, 5, .inl (fun _ => 0))), ((ma 17), .inl (cy 1, 20, .inl (fun _ => 0)))] sz) := by
  refine MM.of (by decide) (Nat.le_of_ble_eq_true rfl) ?_
  intro p e s m below meth c C hPW ls hl
  obtain ⟨hx, hb, hr, hml, hown, hts, hlocks, hK, hnm⟩ := C
  obtain ⟨rfl, hP, hD0⟩ := hPW
  have hD := hD0.self (sz := s.heap.size)
  have hA : ∀ q : Nat, s.heap.size ≤ q → (va_A [((ma 0), .inr (10, [.int 0, .ref (ma 1), .ref (ma 2), .ref (ma 3), .ref (ma 4), .ref (ma 5), .int 0, .int 0, .int 0, .int 0, .int 0, .long 0, .int 0, .int 0, .int 0, .int (-1), .ref (ma 16), .ref (ma 17), .ref (ma 18), .ref (ma 19), .ref (ma 20), .ref (ma 21), .ref (ma 22), .ref (ma 23), .ref (ma 24), .ref (ma 25), .ref (ma 26), .ref (ma 27), .ref (ma 28), .ref (ma 29), .ref (ma 30), .ref (ma 31), .ref (ma 32), .ref (ma 33), .ref (ma 34), .ref (ma 35), .ref (ma 36), .ref (ma 37), .ref (ma 38), .ref (ma 39), .ref (ma 40), .ref (ma 41), .long 0])), ((ma 20), .inl (cy 1, 5, .inl (fun _ => 0))), ((ma 18), .inl (cy 1, 5, .inl (fun _ => 0))), ((ma 17), .inl (cy 1, 20, .inl (fun _ => 0)))] s.heap.size) q := fun q h => Or.inr h
  have hS : va_S (va_A [((ma 0), .inr (10, [.int 0, .ref (ma 1), .ref (ma 2), .ref (ma 3), .ref (ma 4), .ref (ma 5), .int 0, .int 0, .int 0, .int 0, .int 0, .long 0, .int 0, .int 0, .int 0, .int (-1), .ref (ma 16), .ref (ma 17), .ref (ma 18), .ref (ma 19), .ref (ma 20), .ref (ma 21), .ref (ma 22), .ref (ma 23), .ref (ma 24), .ref (ma 25), .ref (ma 26), .ref (ma 27), .ref (ma 28), .ref (ma 29), .ref (ma 30), .ref (ma 31), .ref (ma 32), .ref (ma 33), .ref (ma 34), .ref (ma 35), .ref (ma 36), .ref (ma 37), .ref (ma 38), .ref (ma 39), .ref (ma 40), .ref (ma 41), .long 0])), ((ma 20), .inl (cy 1, 5, .inl (fun _ => 0))), ((ma 18), .inl (cy 1, 5, .inl (fun _ => 0))), ((ma 17), .inl (cy 1, 20, .inl (fun _ => 0)))] s.heap.size) s.heap s.heap [] := va_S.rf
  generalize va_A [((ma 0), .inr (10, [.int 0, .ref (ma 1), .ref (ma 2), .ref (ma 3), .ref (ma 4), .ref (ma 5), .int 0, .int 0, .int 0, .int 0, .int 0, .long 0, .int 0, .int 0, .int 0, .int (-1), .ref (ma 16), .ref (ma 17), .ref (ma 18), .ref (ma 19), .ref (ma 20), .ref (ma 21), .ref (ma 22), .ref (ma 23), .ref (ma 24), .ref (ma 25), .ref (ma 26), .ref (ma 27), .ref (ma 28), .ref (ma 29), .ref (ma 30), .ref (ma 31), .ref (ma 32), .ref (ma 33), .ref (ma 34), .ref (ma 35), .ref (ma 36), .ref (ma 37), .ref (ma 38), .ref (ma 39), .ref (ma 40), .ref (ma 41), .long 0])), ((ma 20), .inl (cy 1, 5, .inl (fun _ => 0))), ((ma 18), .inl (cy 1, 5, .inl (fun _ => 0))), ((ma 17), .inl (cy 1, 20, .inl (fun _ => 0)))] s.heap.size = A at hD hA hS ⊢
  have hP : va_P D vwCl [((ma 0), .inr (10, [.int 0, .ref (ma 1), .ref (ma 2), .ref (ma 3), .ref (ma 4), .ref (ma 5), .int 0, .int 0, .int 0, .int 0, .int 0, .long 0, .int 0, .int 0, .int 0, .int (-1), .ref (ma 16), .ref (ma 17), .ref (ma 18), .ref (ma 19), .ref (ma 20), .ref (ma 21), .ref (ma 22), .ref (ma 23), .ref (ma 24), .ref (ma 25), .ref (ma 26), .ref (ma 27), .ref (ma 28), .ref (ma 29), .ref (ma 30), .ref (ma 31), .ref (ma 32), .ref (ma 33), .ref (ma 34), .ref (ma 35), .ref (ma 36), .ref (ma 37), .ref (ma 38), .ref (ma 39), .ref (ma 40), .ref (ma 41), .long 0])), ((ma 20), .inl (cy 1, 5, .inl (fun _ => 0))), ((ma 18), .inl (cy 1, 5, .inl (fun _ => 0))), ((ma 17), .inl (cy 1, 20, .inl (fun _ => 0)))] s.heap := hP
  have hl : lv_has ls 4 [(0, .ref (ma 0)), (1, .int n0), (2, .int n1), (3, .int n2)] := hl
  refine lv_aload_n hx hb dX10_middle_0 rfl (lv_at hl 0 rfl) ?_
  refine lv_iconst (v := 0) hx hb dX10_middle_1 (by decide) ?_
  refine va_put (D := D) (ci := 10) (v := .int 0) (ty := tyX10 0) (C := RX10) (T := TX10) (N := 43) hx hb hts lay_X10 tyX10 tyX10_ok nmX10 hown hK.1 hP hD hS 0 rfl rfl 0 (by decide) (hts _ fl_X10_111) (fun _ h9 => h9) rfl (tyX10_ok 0 (by decide)) rfl rfl (Nat.le_of_ble_eq_true rfl) dX10_middle_2 (fun H locs hP hD hS => ?_)
  have hP : va_P D vwCl [((ma 0), .inr (10, [.int 0, .ref (ma 1), .ref (ma 2), .ref (ma 3), .ref (ma 4), .ref (ma 5), .int 0, .int 0, .int 0, .int 0, .int 0, .long 0, .int 0, .int 0, .int 0, .int (-1), .ref (ma 16), .ref (ma 17), .ref (ma 18), .ref (ma 19), .ref (ma 20), .ref (ma 21), .ref (ma 22), .ref (ma 23), .ref (ma 24), .ref (ma 25), .ref (ma 26), .ref (ma 27), .ref (ma 28), .ref (ma 29), .ref (ma 30), .ref (ma 31), .ref (ma 32), .ref (ma 33), .ref (ma 34), .ref (ma 35), .ref (ma 36), .ref (ma 37), .ref (ma 38), .ref (ma 39), .ref (ma 40), .ref (ma 41), .long 0])), ((ma 20), .inl (cy 1, 5, .inl (fun _ => 0))), ((ma 18), .inl (cy 1, 5, .inl (fun _ => 0))), ((ma 17), .inl (cy 1, 20, .inl (fun _ => 0)))] H := hP
  have hD : va_D A [((ma 0), .inr (10, [.int 0, .ref (ma 1), .ref (ma 2), .ref (ma 3), .ref (ma 4), .ref (ma 5), .int 0, .int 0, .int 0, .int 0, .int 0, .long 0, .int 0, .int 0, .int 0, .int (-1), .ref (ma 16), .ref (ma 17), .ref (ma 18), .ref (ma 19), .ref (ma 20), .ref (ma 21), .ref (ma 22), .ref (ma 23), .ref (ma 24), .ref (ma 25), .ref (ma 26), .ref (ma 27), .ref (ma 28), .ref (ma 29), .ref (ma 30), .ref (ma 31), .ref (ma 32), .ref (ma 33), .ref (ma 34), .ref (ma 35), .ref (ma 36), .ref (ma 37), .ref (ma 38), .ref (ma 39), .ref (ma 40), .ref (ma 41), .long 0])), ((ma 20), .inl (cy 1, 5, .inl (fun _ => 0))), ((ma 18), .inl (cy 1, 5, .inl (fun _ => 0))), ((ma 17), .inl (cy 1, 20, .inl (fun _ => 0)))] := hD
  refine lv_aload_n hx hb dX10_middle_5 rfl (lv_at hl 0 rfl) ?_
  refine lv_iload_n hx hb dX10_middle_6 rfl (lv_at hl 1 rfl) ?_
  refine lv_iload_n hx hb dX10_middle_7 rfl (lv_at hl 2 rfl) ?_
  refine pu_calli (runV (As := [.int n0, .int n1]) (rest := []) ⟨hx, hb, hml, hown, hts⟩ (m_areTwo l D cy ma n0 n1 ) sV_X10_323 hK (va_recv hK.1 hP (ci := 10) (q0 := 0) rfl rfl) (hP.sub (ws' := [((ma 0), .inr (10, [.int 0, .ref (ma 1), .ref (ma 2), .ref (ma 3), .ref (ma 4), .ref (ma 5), .int 0, .int 0, .int 0, .int 0, .int 0, .long 0, .int 0, .int 0, .int 0, .int (-1), .ref (ma 16), .ref (ma 17), .ref (ma 18), .ref (ma 19), .ref (ma 20), .ref (ma 21), .ref (ma 22), .ref (ma 23), .ref (ma 24), .ref (ma 25), .ref (ma 26), .ref (ma 27), .ref (ma 28), .ref (ma 29), .ref (ma 30), .ref (ma 31), .ref (ma 32), .ref (ma 33), .ref (ma 34), .ref (ma 35), .ref (ma 36), .ref (ma 37), .ref (ma 38), .ref (ma 39), .ref (ma 40), .ref (ma 41), .long 0])), ((ma 20), .inl (cy 1, 5, .inl (fun _ => 0)))]) [0, 1] rfl) ⟨Nat.le_of_ble_eq_true rfl, Nat.le_of_ble_eq_true rfl⟩ rfl hl.1 rfl (Nat.le_of_ble_eq_true rfl) dX10_middle_8 ⟨Nat.le_of_ble_eq_true rfl, Nat.le_of_ble_eq_true rfl⟩) (fun r_1 hr_1 => ?_)
  have er_1 := hr_1
  subst er_1
  refine W.eq (g2 := F0 m 11 ls [.int 0]) rfl ?_
  refine lv_if_eq (tgt := 22) hx hb dX10_middle_11 (by decide) (fun _ => ?_) (fun c_2 => absurd (by decide) c_2)
  refine lv_bipush (v := (-2)) hx hb dX10_middle_22 (by decide) ?_
  exact ret_i hx hb hr hlocks ⟨⟨hS.1, hS.2.1⟩, (), ⟨_, rfl, rfl⟩, hP.sub [] rfl, hD.sub [] (by decide) rfl⟩ hS.2.2 (Nat.le_of_ble_eq_true rfl) (Nat.le_of_ble_eq_true rfl) dX10_middle_24
set_option maxHeartbeats 4000000 in
set_option maxRecDepth 100000 in
theorem g_X10_shares (l : Launch) (D : va_G) (cy : Nat → ClassId) (ma : Nat → Nat) (n0 : Int32) (n1 : Int32) (n2 : Int32) (sz : Nat) : MM l yX10_shares cX10_shares 6 (some .long) 3 0 0 D cy [.ref (ma 0), .int n0, .int n1, .int n2] (PW D [((ma 0), .inr (10, [.int 0, .ref (ma 1), .ref (ma 2), .ref (ma 3), .ref (ma 4), .ref (ma 5), .int 0, .int 0, .int 0, .int 0, .int 0, .long 0, .int 0, .int 0, .int 0, .int (-1), .ref (ma 16), .ref (ma 17), .ref (ma 18), .ref (ma 19), .ref (ma 20), .ref (ma 21), .ref (ma 22), .ref (ma 23), .ref (ma 24), .ref (ma 25), .ref (ma 26), .ref (ma 27), .ref (ma 28), .ref (ma 29), .ref (ma 30), .ref (ma 31), .ref (ma 32), .ref (ma 33), .ref (ma 34), .ref (ma 35), .ref (ma 36), .ref (ma 37), .ref (ma 38), .ref (ma 39), .ref (ma 40), .ref (ma 41), .long 0])), ((ma 20), .inl (cy 1, 5, .inl (fun _ => 0))), ((ma 18), .inl (cy 1, 5, .inl (fun _ => 0))), ((ma 17), .inl (cy 1, 20, .inl (fun _ => 0)))] sz) (QW D (va_A [((ma 0), .inr (10, [.int 0, .ref (ma 1), .ref (ma 2), .ref (ma 3), .ref (ma 4), .ref (ma 5), .int 0, .int 0, .int 0, .int 0, .int 0, .long 0, .int 0, .int 0, .int 0, .int (-1), .ref (ma 16), .ref (ma 17), .ref (ma 18), .ref (ma 19), .ref (ma 20), .ref (ma 21), .ref (ma 22), .ref (ma 23), .ref (ma 24), .ref (ma 25), .ref (ma 26), .ref (ma 27), .ref (ma 28), .ref (ma 29), .ref (ma 30), .ref (ma 31), .ref (ma 32), .ref (ma 33), .ref (ma 34), .ref (ma 35), .ref (ma 36), .ref (ma 37), .ref (ma 38), .ref (ma 39), .ref (ma 40), .ref (ma 41), .long 0])), ((ma 20), .inl (cy 1, 5, .inl (fun _ => 0))), ((ma 18), .inl (cy 1, 5, .inl (fun _ => 0))), ((ma 17), .inl (cy 1, 20, .inl (fun _ => 0)))] sz) (S := Unit) (fun v u => (∃ r : Int64, v = some (.long r) ∧ (r = (-1000000000000)))) (fun u => [])) (va_A [((ma 0), .inr (10, [.int 0, .ref (ma 1), .ref (ma 2), .ref (ma 3), .ref (ma 4), .ref (ma 5), .int 0, .int 0, .int 0, .int 0, .int 0, .long 0, .int 0, .int 0, .int 0, .int (-1), .ref (ma 16), .ref (ma 17), .ref (ma 18), .ref (ma 19), .ref (ma 20), .ref (ma 21), .ref (ma 22), .ref (ma 23), .ref (ma 24), .ref (ma 25), .ref (ma 26), .ref (ma 27), .ref (ma 28), .ref (ma 29), .ref (ma 30), .ref (ma 31), .ref (ma 32), .ref (ma 33), .ref (ma 34), .ref (ma 35), .ref (ma 36), .ref (ma 37), .ref (ma 38), .ref (ma 39), .ref (ma 40), .ref (ma 41), .long 0])), ((ma 20), .inl (cy 1, 5, .inl (fun _ => 0))), ((ma 18), .inl (cy 1, 5, .inl (fun _ => 0))), ((ma 17), .inl (cy 1, 20, .inl (fun _ => 0)))] sz) := by
  refine MM.of (by decide) (Nat.le_of_ble_eq_true rfl) ?_
  intro p e s m below meth c C hPW ls hl
  obtain ⟨hx, hb, hr, hml, hown, hts, hlocks, hK, hnm⟩ := C
  obtain ⟨rfl, hP, hD0⟩ := hPW
  have hD := hD0.self (sz := s.heap.size)
  have hA : ∀ q : Nat, s.heap.size ≤ q → (va_A [((ma 0), .inr (10, [.int 0, .ref (ma 1), .ref (ma 2), .ref (ma 3), .ref (ma 4), .ref (ma 5), .int 0, .int 0, .int 0, .int 0, .int 0, .long 0, .int 0, .int 0, .int 0, .int (-1), .ref (ma 16), .ref (ma 17), .ref (ma 18), .ref (ma 19), .ref (ma 20), .ref (ma 21), .ref (ma 22), .ref (ma 23), .ref (ma 24), .ref (ma 25), .ref (ma 26), .ref (ma 27), .ref (ma 28), .ref (ma 29), .ref (ma 30), .ref (ma 31), .ref (ma 32), .ref (ma 33), .ref (ma 34), .ref (ma 35), .ref (ma 36), .ref (ma 37), .ref (ma 38), .ref (ma 39), .ref (ma 40), .ref (ma 41), .long 0])), ((ma 20), .inl (cy 1, 5, .inl (fun _ => 0))), ((ma 18), .inl (cy 1, 5, .inl (fun _ => 0))), ((ma 17), .inl (cy 1, 20, .inl (fun _ => 0)))] s.heap.size) q := fun q h => Or.inr h
  have hS : va_S (va_A [((ma 0), .inr (10, [.int 0, .ref (ma 1), .ref (ma 2), .ref (ma 3), .ref (ma 4), .ref (ma 5), .int 0, .int 0, .int 0, .int 0, .int 0, .long 0, .int 0, .int 0, .int 0, .int (-1), .ref (ma 16), .ref (ma 17), .ref (ma 18), .ref (ma 19), .ref (ma 20), .ref (ma 21), .ref (ma 22), .ref (ma 23), .ref (ma 24), .ref (ma 25), .ref (ma 26), .ref (ma 27), .ref (ma 28), .ref (ma 29), .ref (ma 30), .ref (ma 31), .ref (ma 32), .ref (ma 33), .ref (ma 34), .ref (ma 35), .ref (ma 36), .ref (ma 37), .ref (ma 38), .ref (ma 39), .ref (ma 40), .ref (ma 41), .long 0])), ((ma 20), .inl (cy 1, 5, .inl (fun _ => 0))), ((ma 18), .inl (cy 1, 5, .inl (fun _ => 0))), ((ma 17), .inl (cy 1, 20, .inl (fun _ => 0)))] s.heap.size) s.heap s.heap [] := va_S.rf
  generalize va_A [((ma 0), .inr (10, [.int 0, .ref (ma 1), .ref (ma 2), .ref (ma 3), .ref (ma 4), .ref (ma 5), .int 0, .int 0, .int 0, .int 0, .int 0, .long 0, .int 0, .int 0, .int 0, .int (-1), .ref (ma 16), .ref (ma 17), .ref (ma 18), .ref (ma 19), .ref (ma 20), .ref (ma 21), .ref (ma 22), .ref (ma 23), .ref (ma 24), .ref (ma 25), .ref (ma 26), .ref (ma 27), .ref (ma 28), .ref (ma 29), .ref (ma 30), .ref (ma 31), .ref (ma 32), .ref (ma 33), .ref (ma 34), .ref (ma 35), .ref (ma 36), .ref (ma 37), .ref (ma 38), .ref (ma 39), .ref (ma 40), .ref (ma 41), .long 0])), ((ma 20), .inl (cy 1, 5, .inl (fun _ => 0))), ((ma 18), .inl (cy 1, 5, .inl (fun _ => 0))), ((ma 17), .inl (cy 1, 20, .inl (fun _ => 0)))] s.heap.size = A at hD hA hS ⊢
  have hP : va_P D vwCl [((ma 0), .inr (10, [.int 0, .ref (ma 1), .ref (ma 2), .ref (ma 3), .ref (ma 4), .ref (ma 5), .int 0, .int 0, .int 0, .int 0, .int 0, .long 0, .int 0, .int 0, .int 0, .int (-1), .ref (ma 16), .ref (ma 17), .ref (ma 18), .ref (ma 19), .ref (ma 20), .ref (ma 21), .ref (ma 22), .ref (ma 23), .ref (ma 24), .ref (ma 25), .ref (ma 26), .ref (ma 27), .ref (ma 28), .ref (ma 29), .ref (ma 30), .ref (ma 31), .ref (ma 32), .ref (ma 33), .ref (ma 34), .ref (ma 35), .ref (ma 36), .ref (ma 37), .ref (ma 38), .ref (ma 39), .ref (ma 40), .ref (ma 41), .long 0])), ((ma 20), .inl (cy 1, 5, .inl (fun _ => 0))), ((ma 18), .inl (cy 1, 5, .inl (fun _ => 0))), ((ma 17), .inl (cy 1, 20, .inl (fun _ => 0)))] s.heap := hP
  have hl : lv_has ls 6 [(0, .ref (ma 0)), (1, .int n0), (2, .int n1), (3, .int n2)] := hl
  refine lv_aload_n hx hb dX10_shares_0 rfl (lv_at hl 0 rfl) ?_
  refine lv_iconst (v := 0) hx hb dX10_shares_1 (by decide) ?_
  refine va_put (D := D) (ci := 10) (v := .int 0) (ty := tyX10 0) (C := RX10) (T := TX10) (N := 43) hx hb hts lay_X10 tyX10 tyX10_ok nmX10 hown hK.1 hP hD hS 0 rfl rfl 0 (by decide) (hts _ fl_X10_111) (fun _ h9 => h9) rfl (tyX10_ok 0 (by decide)) rfl rfl (Nat.le_of_ble_eq_true rfl) dX10_shares_2 (fun H locs hP hD hS => ?_)
  have hP : va_P D vwCl [((ma 0), .inr (10, [.int 0, .ref (ma 1), .ref (ma 2), .ref (ma 3), .ref (ma 4), .ref (ma 5), .int 0, .int 0, .int 0, .int 0, .int 0, .long 0, .int 0, .int 0, .int 0, .int (-1), .ref (ma 16), .ref (ma 17), .ref (ma 18), .ref (ma 19), .ref (ma 20), .ref (ma 21), .ref (ma 22), .ref (ma 23), .ref (ma 24), .ref (ma 25), .ref (ma 26), .ref (ma 27), .ref (ma 28), .ref (ma 29), .ref (ma 30), .ref (ma 31), .ref (ma 32), .ref (ma 33), .ref (ma 34), .ref (ma 35), .ref (ma 36), .ref (ma 37), .ref (ma 38), .ref (ma 39), .ref (ma 40), .ref (ma 41), .long 0])), ((ma 20), .inl (cy 1, 5, .inl (fun _ => 0))), ((ma 18), .inl (cy 1, 5, .inl (fun _ => 0))), ((ma 17), .inl (cy 1, 20, .inl (fun _ => 0)))] H := hP
  have hD : va_D A [((ma 0), .inr (10, [.int 0, .ref (ma 1), .ref (ma 2), .ref (ma 3), .ref (ma 4), .ref (ma 5), .int 0, .int 0, .int 0, .int 0, .int 0, .long 0, .int 0, .int 0, .int 0, .int (-1), .ref (ma 16), .ref (ma 17), .ref (ma 18), .ref (ma 19), .ref (ma 20), .ref (ma 21), .ref (ma 22), .ref (ma 23), .ref (ma 24), .ref (ma 25), .ref (ma 26), .ref (ma 27), .ref (ma 28), .ref (ma 29), .ref (ma 30), .ref (ma 31), .ref (ma 32), .ref (ma 33), .ref (ma 34), .ref (ma 35), .ref (ma 36), .ref (ma 37), .ref (ma 38), .ref (ma 39), .ref (ma 40), .ref (ma 41), .long 0])), ((ma 20), .inl (cy 1, 5, .inl (fun _ => 0))), ((ma 18), .inl (cy 1, 5, .inl (fun _ => 0))), ((ma 17), .inl (cy 1, 20, .inl (fun _ => 0)))] := hD
  refine lv_aload_n hx hb dX10_shares_5 rfl (lv_at hl 0 rfl) ?_
  refine lv_iload_n hx hb dX10_shares_6 rfl (lv_at hl 1 rfl) ?_
  refine lv_iload_n hx hb dX10_shares_7 rfl (lv_at hl 2 rfl) ?_
  refine pu_calli (runV (As := [.int n0, .int n1]) (rest := []) ⟨hx, hb, hml, hown, hts⟩ (m_areTwo l D cy ma n0 n1 ) sV_X10_323 hK (va_recv hK.1 hP (ci := 10) (q0 := 0) rfl rfl) (hP.sub (ws' := [((ma 0), .inr (10, [.int 0, .ref (ma 1), .ref (ma 2), .ref (ma 3), .ref (ma 4), .ref (ma 5), .int 0, .int 0, .int 0, .int 0, .int 0, .long 0, .int 0, .int 0, .int 0, .int (-1), .ref (ma 16), .ref (ma 17), .ref (ma 18), .ref (ma 19), .ref (ma 20), .ref (ma 21), .ref (ma 22), .ref (ma 23), .ref (ma 24), .ref (ma 25), .ref (ma 26), .ref (ma 27), .ref (ma 28), .ref (ma 29), .ref (ma 30), .ref (ma 31), .ref (ma 32), .ref (ma 33), .ref (ma 34), .ref (ma 35), .ref (ma 36), .ref (ma 37), .ref (ma 38), .ref (ma 39), .ref (ma 40), .ref (ma 41), .long 0])), ((ma 20), .inl (cy 1, 5, .inl (fun _ => 0)))]) [0, 1] rfl) ⟨Nat.le_of_ble_eq_true rfl, Nat.le_of_ble_eq_true rfl⟩ rfl hl.1 rfl (Nat.le_of_ble_eq_true rfl) dX10_shares_8 ⟨Nat.le_of_ble_eq_true rfl, Nat.le_of_ble_eq_true rfl⟩) (fun r_1 hr_1 => ?_)
  have er_1 := hr_1
  subst er_1
  refine W.eq (g2 := F0 m 11 ls [.int 0]) rfl ?_
  refine lv_if_eq (tgt := 22) hx hb dX10_shares_11 (by decide) (fun _ => ?_) (fun c_2 => absurd (by decide) c_2)
  refine lv_ldc2 (v := (-1000000000000)) hx hb hown (hts _ kl_X10_381) dX10_shares_22 ?_
  exact ret_l hx hb hr hlocks ⟨⟨hS.1, hS.2.1⟩, (), ⟨_, rfl, rfl⟩, hP.sub [] rfl, hD.sub [] (by decide) rfl⟩ hS.2.2 (Nat.le_of_ble_eq_true rfl) (Nat.le_of_ble_eq_true rfl) dX10_shares_25
set_option maxHeartbeats 4000000 in
set_option maxRecDepth 100000 in
theorem g_X10_flown (l : Launch) (D : va_G) (cy : Nat → ClassId) (ma : Nat → Nat) (n0 : Int32) (n1 : Int32) (n2 : Int32) (sz : Nat) : MM l yX10_flown cX10_flown 4 (some .long) 3 0 0 D cy [.ref (ma 0), .int n0, .int n1, .int n2] (PW D [((ma 0), .inr (10, [.int 0, .ref (ma 1), .ref (ma 2), .ref (ma 3), .ref (ma 4), .ref (ma 5), .int 0, .int 0, .int 0, .int 0, .int 0, .long 0, .int 0, .int 0, .int 0, .int (-1), .ref (ma 16), .ref (ma 17), .ref (ma 18), .ref (ma 19), .ref (ma 20), .ref (ma 21), .ref (ma 22), .ref (ma 23), .ref (ma 24), .ref (ma 25), .ref (ma 26), .ref (ma 27), .ref (ma 28), .ref (ma 29), .ref (ma 30), .ref (ma 31), .ref (ma 32), .ref (ma 33), .ref (ma 34), .ref (ma 35), .ref (ma 36), .ref (ma 37), .ref (ma 38), .ref (ma 39), .ref (ma 40), .ref (ma 41), .long 0])), ((ma 20), .inl (cy 1, 5, .inl (fun _ => 0))), ((ma 18), .inl (cy 1, 5, .inl (fun _ => 0))), ((ma 17), .inl (cy 1, 20, .inl (fun _ => 0)))] sz) (QW D (va_A [((ma 0), .inr (10, [.int 0, .ref (ma 1), .ref (ma 2), .ref (ma 3), .ref (ma 4), .ref (ma 5), .int 0, .int 0, .int 0, .int 0, .int 0, .long 0, .int 0, .int 0, .int 0, .int (-1), .ref (ma 16), .ref (ma 17), .ref (ma 18), .ref (ma 19), .ref (ma 20), .ref (ma 21), .ref (ma 22), .ref (ma 23), .ref (ma 24), .ref (ma 25), .ref (ma 26), .ref (ma 27), .ref (ma 28), .ref (ma 29), .ref (ma 30), .ref (ma 31), .ref (ma 32), .ref (ma 33), .ref (ma 34), .ref (ma 35), .ref (ma 36), .ref (ma 37), .ref (ma 38), .ref (ma 39), .ref (ma 40), .ref (ma 41), .long 0])), ((ma 20), .inl (cy 1, 5, .inl (fun _ => 0))), ((ma 18), .inl (cy 1, 5, .inl (fun _ => 0))), ((ma 17), .inl (cy 1, 20, .inl (fun _ => 0)))] sz) (S := Unit) (fun v u => (∃ r : Int64, v = some (.long r) ∧ (r = (-2)))) (fun u => [])) (va_A [((ma 0), .inr (10, [.int 0, .ref (ma 1), .ref (ma 2), .ref (ma 3), .ref (ma 4), .ref (ma 5), .int 0, .int 0, .int 0, .int 0, .int 0, .long 0, .int 0, .int 0, .int 0, .int (-1), .ref (ma 16), .ref (ma 17), .ref (ma 18), .ref (ma 19), .ref (ma 20), .ref (ma 21), .ref (ma 22), .ref (ma 23), .ref (ma 24), .ref (ma 25), .ref (ma 26), .ref (ma 27), .ref (ma 28), .ref (ma 29), .ref (ma 30), .ref (ma 31), .ref (ma 32), .ref (ma 33), .ref (ma 34), .ref (ma 35), .ref (ma 36), .ref (ma 37), .ref (ma 38), .ref (ma 39), .ref (ma 40), .ref (ma 41), .long 0])), ((ma 20), .inl (cy 1, 5, .inl (fun _ => 0))), ((ma 18), .inl (cy 1, 5, .inl (fun _ => 0))), ((ma 17), .inl (cy 1, 20, .inl (fun _ => 0)))] sz) := by
  refine MM.of (by decide) (Nat.le_of_ble_eq_true rfl) ?_
  intro p e s m below meth c C hPW ls hl
  obtain ⟨hx, hb, hr, hml, hown, hts, hlocks, hK, hnm⟩ := C
  obtain ⟨rfl, hP, hD0⟩ := hPW
  have hD := hD0.self (sz := s.heap.size)
  have hA : ∀ q : Nat, s.heap.size ≤ q → (va_A [((ma 0), .inr (10, [.int 0, .ref (ma 1), .ref (ma 2), .ref (ma 3), .ref (ma 4), .ref (ma 5), .int 0, .int 0, .int 0, .int 0, .int 0, .long 0, .int 0, .int 0, .int 0, .int (-1), .ref (ma 16), .ref (ma 17), .ref (ma 18), .ref (ma 19), .ref (ma 20), .ref (ma 21), .ref (ma 22), .ref (ma 23), .ref (ma 24), .ref (ma 25), .ref (ma 26), .ref (ma 27), .ref (ma 28), .ref (ma 29), .ref (ma 30), .ref (ma 31), .ref (ma 32), .ref (ma 33), .ref (ma 34), .ref (ma 35), .ref (ma 36), .ref (ma 37), .ref (ma 38), .ref (ma 39), .ref (ma 40), .ref (ma 41), .long 0])), ((ma 20), .inl (cy 1, 5, .inl (fun _ => 0))), ((ma 18), .inl (cy 1, 5, .inl (fun _ => 0))), ((ma 17), .inl (cy 1, 20, .inl (fun _ => 0)))] s.heap.size) q := fun q h => Or.inr h
  have hS : va_S (va_A [((ma 0), .inr (10, [.int 0, .ref (ma 1), .ref (ma 2), .ref (ma 3), .ref (ma 4), .ref (ma 5), .int 0, .int 0, .int 0, .int 0, .int 0, .long 0, .int 0, .int 0, .int 0, .int (-1), .ref (ma 16), .ref (ma 17), .ref (ma 18), .ref (ma 19), .ref (ma 20), .ref (ma 21), .ref (ma 22), .ref (ma 23), .ref (ma 24), .ref (ma 25), .ref (ma 26), .ref (ma 27), .ref (ma 28), .ref (ma 29), .ref (ma 30), .ref (ma 31), .ref (ma 32), .ref (ma 33), .ref (ma 34), .ref (ma 35), .ref (ma 36), .ref (ma 37), .ref (ma 38), .ref (ma 39), .ref (ma 40), .ref (ma 41), .long 0])), ((ma 20), .inl (cy 1, 5, .inl (fun _ => 0))), ((ma 18), .inl (cy 1, 5, .inl (fun _ => 0))), ((ma 17), .inl (cy 1, 20, .inl (fun _ => 0)))] s.heap.size) s.heap s.heap [] := va_S.rf
  generalize va_A [((ma 0), .inr (10, [.int 0, .ref (ma 1), .ref (ma 2), .ref (ma 3), .ref (ma 4), .ref (ma 5), .int 0, .int 0, .int 0, .int 0, .int 0, .long 0, .int 0, .int 0, .int 0, .int (-1), .ref (ma 16), .ref (ma 17), .ref (ma 18), .ref (ma 19), .ref (ma 20), .ref (ma 21), .ref (ma 22), .ref (ma 23), .ref (ma 24), .ref (ma 25), .ref (ma 26), .ref (ma 27), .ref (ma 28), .ref (ma 29), .ref (ma 30), .ref (ma 31), .ref (ma 32), .ref (ma 33), .ref (ma 34), .ref (ma 35), .ref (ma 36), .ref (ma 37), .ref (ma 38), .ref (ma 39), .ref (ma 40), .ref (ma 41), .long 0])), ((ma 20), .inl (cy 1, 5, .inl (fun _ => 0))), ((ma 18), .inl (cy 1, 5, .inl (fun _ => 0))), ((ma 17), .inl (cy 1, 20, .inl (fun _ => 0)))] s.heap.size = A at hD hA hS ⊢
  have hP : va_P D vwCl [((ma 0), .inr (10, [.int 0, .ref (ma 1), .ref (ma 2), .ref (ma 3), .ref (ma 4), .ref (ma 5), .int 0, .int 0, .int 0, .int 0, .int 0, .long 0, .int 0, .int 0, .int 0, .int (-1), .ref (ma 16), .ref (ma 17), .ref (ma 18), .ref (ma 19), .ref (ma 20), .ref (ma 21), .ref (ma 22), .ref (ma 23), .ref (ma 24), .ref (ma 25), .ref (ma 26), .ref (ma 27), .ref (ma 28), .ref (ma 29), .ref (ma 30), .ref (ma 31), .ref (ma 32), .ref (ma 33), .ref (ma 34), .ref (ma 35), .ref (ma 36), .ref (ma 37), .ref (ma 38), .ref (ma 39), .ref (ma 40), .ref (ma 41), .long 0])), ((ma 20), .inl (cy 1, 5, .inl (fun _ => 0))), ((ma 18), .inl (cy 1, 5, .inl (fun _ => 0))), ((ma 17), .inl (cy 1, 20, .inl (fun _ => 0)))] s.heap := hP
  have hl : lv_has ls 4 [(0, .ref (ma 0)), (1, .int n0), (2, .int n1), (3, .int n2)] := hl
  refine lv_aload_n hx hb dX10_flown_0 rfl (lv_at hl 0 rfl) ?_
  refine lv_iconst (v := 0) hx hb dX10_flown_1 (by decide) ?_
  refine va_put (D := D) (ci := 10) (v := .int 0) (ty := tyX10 0) (C := RX10) (T := TX10) (N := 43) hx hb hts lay_X10 tyX10 tyX10_ok nmX10 hown hK.1 hP hD hS 0 rfl rfl 0 (by decide) (hts _ fl_X10_111) (fun _ h9 => h9) rfl (tyX10_ok 0 (by decide)) rfl rfl (Nat.le_of_ble_eq_true rfl) dX10_flown_2 (fun H locs hP hD hS => ?_)
  have hP : va_P D vwCl [((ma 0), .inr (10, [.int 0, .ref (ma 1), .ref (ma 2), .ref (ma 3), .ref (ma 4), .ref (ma 5), .int 0, .int 0, .int 0, .int 0, .int 0, .long 0, .int 0, .int 0, .int 0, .int (-1), .ref (ma 16), .ref (ma 17), .ref (ma 18), .ref (ma 19), .ref (ma 20), .ref (ma 21), .ref (ma 22), .ref (ma 23), .ref (ma 24), .ref (ma 25), .ref (ma 26), .ref (ma 27), .ref (ma 28), .ref (ma 29), .ref (ma 30), .ref (ma 31), .ref (ma 32), .ref (ma 33), .ref (ma 34), .ref (ma 35), .ref (ma 36), .ref (ma 37), .ref (ma 38), .ref (ma 39), .ref (ma 40), .ref (ma 41), .long 0])), ((ma 20), .inl (cy 1, 5, .inl (fun _ => 0))), ((ma 18), .inl (cy 1, 5, .inl (fun _ => 0))), ((ma 17), .inl (cy 1, 20, .inl (fun _ => 0)))] H := hP
  have hD : va_D A [((ma 0), .inr (10, [.int 0, .ref (ma 1), .ref (ma 2), .ref (ma 3), .ref (ma 4), .ref (ma 5), .int 0, .int 0, .int 0, .int 0, .int 0, .long 0, .int 0, .int 0, .int 0, .int (-1), .ref (ma 16), .ref (ma 17), .ref (ma 18), .ref (ma 19), .ref (ma 20), .ref (ma 21), .ref (ma 22), .ref (ma 23), .ref (ma 24), .ref (ma 25), .ref (ma 26), .ref (ma 27), .ref (ma 28), .ref (ma 29), .ref (ma 30), .ref (ma 31), .ref (ma 32), .ref (ma 33), .ref (ma 34), .ref (ma 35), .ref (ma 36), .ref (ma 37), .ref (ma 38), .ref (ma 39), .ref (ma 40), .ref (ma 41), .long 0])), ((ma 20), .inl (cy 1, 5, .inl (fun _ => 0))), ((ma 18), .inl (cy 1, 5, .inl (fun _ => 0))), ((ma 17), .inl (cy 1, 20, .inl (fun _ => 0)))] := hD
  refine lv_aload_n hx hb dX10_flown_5 rfl (lv_at hl 0 rfl) ?_
  refine lv_iload_n hx hb dX10_flown_6 rfl (lv_at hl 1 rfl) ?_
  refine lv_iload_n hx hb dX10_flown_7 rfl (lv_at hl 2 rfl) ?_
  refine lv_iload_n hx hb dX10_flown_8 rfl (lv_at hl 3 rfl) ?_
  refine pu_calli (runV (As := [.int n0, .int n1, .int n2]) (rest := []) ⟨hx, hb, hml, hown, hts⟩ (m_isStore l D cy ma n0 n1 n2 ) sV_X10_375 hK (va_recv hK.1 hP (ci := 10) (q0 := 0) rfl rfl) (hP.sub (ws' := [((ma 0), .inr (10, [.int 0, .ref (ma 1), .ref (ma 2), .ref (ma 3), .ref (ma 4), .ref (ma 5), .int 0, .int 0, .int 0, .int 0, .int 0, .long 0, .int 0, .int 0, .int 0, .int (-1), .ref (ma 16), .ref (ma 17), .ref (ma 18), .ref (ma 19), .ref (ma 20), .ref (ma 21), .ref (ma 22), .ref (ma 23), .ref (ma 24), .ref (ma 25), .ref (ma 26), .ref (ma 27), .ref (ma 28), .ref (ma 29), .ref (ma 30), .ref (ma 31), .ref (ma 32), .ref (ma 33), .ref (ma 34), .ref (ma 35), .ref (ma 36), .ref (ma 37), .ref (ma 38), .ref (ma 39), .ref (ma 40), .ref (ma 41), .long 0])), ((ma 20), .inl (cy 1, 5, .inl (fun _ => 0))), ((ma 18), .inl (cy 1, 5, .inl (fun _ => 0)))]) [0, 1, 2] rfl) ⟨Nat.le_of_ble_eq_true rfl, Nat.le_of_ble_eq_true rfl⟩ rfl hl.1 rfl (Nat.le_of_ble_eq_true rfl) dX10_flown_9 ⟨Nat.le_of_ble_eq_true rfl, Nat.le_of_ble_eq_true rfl⟩) (fun r_1 hr_1 => ?_)
  have er_1 := hr_1
  subst er_1
  refine W.eq (g2 := F0 m 12 ls [.int 0]) rfl ?_
  refine lv_if_ne (tgt := 19) hx hb dX10_flown_12 (by decide) (fun c_2 => absurd c_2 (by decide)) (fun _ => ?_)
  refine lv_ldc2 (v := (-2)) hx hb hown (hts _ kl_X10_300) dX10_flown_15 ?_
  exact ret_l hx hb hr hlocks ⟨⟨hS.1, hS.2.1⟩, (), ⟨_, rfl, rfl⟩, hP.sub [] rfl, hD.sub [] (by decide) rfl⟩ hS.2.2 (Nat.le_of_ble_eq_true rfl) (Nat.le_of_ble_eq_true rfl) dX10_flown_18
set_option maxHeartbeats 4000000 in
set_option maxRecDepth 100000 in
theorem g_X10_plane (l : Launch) (D : va_G) (cy : Nat → ClassId) (ma : Nat → Nat) (n0 : Int32) (n1 : Int32) (sz : Nat) : MM l yX10_plane cX10_plane 9 (some .int) 3 0 0 D cy [.ref (ma 0), .int n0, .int n1] (PW D [((ma 0), .inr (10, [.int 0, .ref (ma 1), .ref (ma 2), .ref (ma 3), .ref (ma 4), .ref (ma 5), .int 0, .int 0, .int 0, .int 0, .int 0, .long 0, .int 0, .int 0, .int 0, .int (-1), .ref (ma 16), .ref (ma 17), .ref (ma 18), .ref (ma 19), .ref (ma 20), .ref (ma 21), .ref (ma 22), .ref (ma 23), .ref (ma 24), .ref (ma 25), .ref (ma 26), .ref (ma 27), .ref (ma 28), .ref (ma 29), .ref (ma 30), .ref (ma 31), .ref (ma 32), .ref (ma 33), .ref (ma 34), .ref (ma 35), .ref (ma 36), .ref (ma 37), .ref (ma 38), .ref (ma 39), .ref (ma 40), .ref (ma 41), .long 0])), ((ma 20), .inl (cy 1, 5, .inl (fun _ => 0))), ((ma 18), .inl (cy 1, 5, .inl (fun _ => 0))), ((ma 17), .inl (cy 1, 20, .inl (fun _ => 0)))] sz) (QW D (va_A [((ma 0), .inr (10, [.int 0, .ref (ma 1), .ref (ma 2), .ref (ma 3), .ref (ma 4), .ref (ma 5), .int 0, .int 0, .int 0, .int 0, .int 0, .long 0, .int 0, .int 0, .int 0, .int (-1), .ref (ma 16), .ref (ma 17), .ref (ma 18), .ref (ma 19), .ref (ma 20), .ref (ma 21), .ref (ma 22), .ref (ma 23), .ref (ma 24), .ref (ma 25), .ref (ma 26), .ref (ma 27), .ref (ma 28), .ref (ma 29), .ref (ma 30), .ref (ma 31), .ref (ma 32), .ref (ma 33), .ref (ma 34), .ref (ma 35), .ref (ma 36), .ref (ma 37), .ref (ma 38), .ref (ma 39), .ref (ma 40), .ref (ma 41), .long 0])), ((ma 20), .inl (cy 1, 5, .inl (fun _ => 0))), ((ma 18), .inl (cy 1, 5, .inl (fun _ => 0))), ((ma 17), .inl (cy 1, 20, .inl (fun _ => 0)))] sz) (S := Unit) (fun v u => (∃ r : Int32, v = some (.int r) ∧ (r = (-2)))) (fun u => [])) (va_A [((ma 0), .inr (10, [.int 0, .ref (ma 1), .ref (ma 2), .ref (ma 3), .ref (ma 4), .ref (ma 5), .int 0, .int 0, .int 0, .int 0, .int 0, .long 0, .int 0, .int 0, .int 0, .int (-1), .ref (ma 16), .ref (ma 17), .ref (ma 18), .ref (ma 19), .ref (ma 20), .ref (ma 21), .ref (ma 22), .ref (ma 23), .ref (ma 24), .ref (ma 25), .ref (ma 26), .ref (ma 27), .ref (ma 28), .ref (ma 29), .ref (ma 30), .ref (ma 31), .ref (ma 32), .ref (ma 33), .ref (ma 34), .ref (ma 35), .ref (ma 36), .ref (ma 37), .ref (ma 38), .ref (ma 39), .ref (ma 40), .ref (ma 41), .long 0])), ((ma 20), .inl (cy 1, 5, .inl (fun _ => 0))), ((ma 18), .inl (cy 1, 5, .inl (fun _ => 0))), ((ma 17), .inl (cy 1, 20, .inl (fun _ => 0)))] sz) := by
  refine MM.of (by decide) (Nat.le_of_ble_eq_true rfl) ?_
  intro p e s m below meth c C hPW ls hl
  obtain ⟨hx, hb, hr, hml, hown, hts, hlocks, hK, hnm⟩ := C
  obtain ⟨rfl, hP, hD0⟩ := hPW
  have hD := hD0.self (sz := s.heap.size)
  have hA : ∀ q : Nat, s.heap.size ≤ q → (va_A [((ma 0), .inr (10, [.int 0, .ref (ma 1), .ref (ma 2), .ref (ma 3), .ref (ma 4), .ref (ma 5), .int 0, .int 0, .int 0, .int 0, .int 0, .long 0, .int 0, .int 0, .int 0, .int (-1), .ref (ma 16), .ref (ma 17), .ref (ma 18), .ref (ma 19), .ref (ma 20), .ref (ma 21), .ref (ma 22), .ref (ma 23), .ref (ma 24), .ref (ma 25), .ref (ma 26), .ref (ma 27), .ref (ma 28), .ref (ma 29), .ref (ma 30), .ref (ma 31), .ref (ma 32), .ref (ma 33), .ref (ma 34), .ref (ma 35), .ref (ma 36), .ref (ma 37), .ref (ma 38), .ref (ma 39), .ref (ma 40), .ref (ma 41), .long 0])), ((ma 20), .inl (cy 1, 5, .inl (fun _ => 0))), ((ma 18), .inl (cy 1, 5, .inl (fun _ => 0))), ((ma 17), .inl (cy 1, 20, .inl (fun _ => 0)))] s.heap.size) q := fun q h => Or.inr h
  have hS : va_S (va_A [((ma 0), .inr (10, [.int 0, .ref (ma 1), .ref (ma 2), .ref (ma 3), .ref (ma 4), .ref (ma 5), .int 0, .int 0, .int 0, .int 0, .int 0, .long 0, .int 0, .int 0, .int 0, .int (-1), .ref (ma 16), .ref (ma 17), .ref (ma 18), .ref (ma 19), .ref (ma 20), .ref (ma 21), .ref (ma 22), .ref (ma 23), .ref (ma 24), .ref (ma 25), .ref (ma 26), .ref (ma 27), .ref (ma 28), .ref (ma 29), .ref (ma 30), .ref (ma 31), .ref (ma 32), .ref (ma 33), .ref (ma 34), .ref (ma 35), .ref (ma 36), .ref (ma 37), .ref (ma 38), .ref (ma 39), .ref (ma 40), .ref (ma 41), .long 0])), ((ma 20), .inl (cy 1, 5, .inl (fun _ => 0))), ((ma 18), .inl (cy 1, 5, .inl (fun _ => 0))), ((ma 17), .inl (cy 1, 20, .inl (fun _ => 0)))] s.heap.size) s.heap s.heap [] := va_S.rf
  generalize va_A [((ma 0), .inr (10, [.int 0, .ref (ma 1), .ref (ma 2), .ref (ma 3), .ref (ma 4), .ref (ma 5), .int 0, .int 0, .int 0, .int 0, .int 0, .long 0, .int 0, .int 0, .int 0, .int (-1), .ref (ma 16), .ref (ma 17), .ref (ma 18), .ref (ma 19), .ref (ma 20), .ref (ma 21), .ref (ma 22), .ref (ma 23), .ref (ma 24), .ref (ma 25), .ref (ma 26), .ref (ma 27), .ref (ma 28), .ref (ma 29), .ref (ma 30), .ref (ma 31), .ref (ma 32), .ref (ma 33), .ref (ma 34), .ref (ma 35), .ref (ma 36), .ref (ma 37), .ref (ma 38), .ref (ma 39), .ref (ma 40), .ref (ma 41), .long 0])), ((ma 20), .inl (cy 1, 5, .inl (fun _ => 0))), ((ma 18), .inl (cy 1, 5, .inl (fun _ => 0))), ((ma 17), .inl (cy 1, 20, .inl (fun _ => 0)))] s.heap.size = A at hD hA hS ⊢
  have hP : va_P D vwCl [((ma 0), .inr (10, [.int 0, .ref (ma 1), .ref (ma 2), .ref (ma 3), .ref (ma 4), .ref (ma 5), .int 0, .int 0, .int 0, .int 0, .int 0, .long 0, .int 0, .int 0, .int 0, .int (-1), .ref (ma 16), .ref (ma 17), .ref (ma 18), .ref (ma 19), .ref (ma 20), .ref (ma 21), .ref (ma 22), .ref (ma 23), .ref (ma 24), .ref (ma 25), .ref (ma 26), .ref (ma 27), .ref (ma 28), .ref (ma 29), .ref (ma 30), .ref (ma 31), .ref (ma 32), .ref (ma 33), .ref (ma 34), .ref (ma 35), .ref (ma 36), .ref (ma 37), .ref (ma 38), .ref (ma 39), .ref (ma 40), .ref (ma 41), .long 0])), ((ma 20), .inl (cy 1, 5, .inl (fun _ => 0))), ((ma 18), .inl (cy 1, 5, .inl (fun _ => 0))), ((ma 17), .inl (cy 1, 20, .inl (fun _ => 0)))] s.heap := hP
  have hl : lv_has ls 9 [(0, .ref (ma 0)), (1, .int n0), (2, .int n1)] := hl
  refine lv_aload_n hx hb dX10_plane_0 rfl (lv_at hl 0 rfl) ?_
  refine lv_iconst (v := 0) hx hb dX10_plane_1 (by decide) ?_
  refine va_put (D := D) (ci := 10) (v := .int 0) (ty := tyX10 0) (C := RX10) (T := TX10) (N := 43) hx hb hts lay_X10 tyX10 tyX10_ok nmX10 hown hK.1 hP hD hS 0 rfl rfl 0 (by decide) (hts _ fl_X10_111) (fun _ h9 => h9) rfl (tyX10_ok 0 (by decide)) rfl rfl (Nat.le_of_ble_eq_true rfl) dX10_plane_2 (fun H locs hP hD hS => ?_)
  have hP : va_P D vwCl [((ma 0), .inr (10, [.int 0, .ref (ma 1), .ref (ma 2), .ref (ma 3), .ref (ma 4), .ref (ma 5), .int 0, .int 0, .int 0, .int 0, .int 0, .long 0, .int 0, .int 0, .int 0, .int (-1), .ref (ma 16), .ref (ma 17), .ref (ma 18), .ref (ma 19), .ref (ma 20), .ref (ma 21), .ref (ma 22), .ref (ma 23), .ref (ma 24), .ref (ma 25), .ref (ma 26), .ref (ma 27), .ref (ma 28), .ref (ma 29), .ref (ma 30), .ref (ma 31), .ref (ma 32), .ref (ma 33), .ref (ma 34), .ref (ma 35), .ref (ma 36), .ref (ma 37), .ref (ma 38), .ref (ma 39), .ref (ma 40), .ref (ma 41), .long 0])), ((ma 20), .inl (cy 1, 5, .inl (fun _ => 0))), ((ma 18), .inl (cy 1, 5, .inl (fun _ => 0))), ((ma 17), .inl (cy 1, 20, .inl (fun _ => 0)))] H := hP
  have hD : va_D A [((ma 0), .inr (10, [.int 0, .ref (ma 1), .ref (ma 2), .ref (ma 3), .ref (ma 4), .ref (ma 5), .int 0, .int 0, .int 0, .int 0, .int 0, .long 0, .int 0, .int 0, .int 0, .int (-1), .ref (ma 16), .ref (ma 17), .ref (ma 18), .ref (ma 19), .ref (ma 20), .ref (ma 21), .ref (ma 22), .ref (ma 23), .ref (ma 24), .ref (ma 25), .ref (ma 26), .ref (ma 27), .ref (ma 28), .ref (ma 29), .ref (ma 30), .ref (ma 31), .ref (ma 32), .ref (ma 33), .ref (ma 34), .ref (ma 35), .ref (ma 36), .ref (ma 37), .ref (ma 38), .ref (ma 39), .ref (ma 40), .ref (ma 41), .long 0])), ((ma 20), .inl (cy 1, 5, .inl (fun _ => 0))), ((ma 18), .inl (cy 1, 5, .inl (fun _ => 0))), ((ma 17), .inl (cy 1, 20, .inl (fun _ => 0)))] := hD
  refine lv_aload_n hx hb dX10_plane_5 rfl (lv_at hl 0 rfl) ?_
  refine lv_iload_n hx hb dX10_plane_6 rfl (lv_at hl 1 rfl) ?_
  refine lv_iload_n hx hb dX10_plane_7 rfl (lv_at hl 2 rfl) ?_
  refine lv_iconst (v := 0) hx hb dX10_plane_8 (by decide) ?_
  refine pu_calli (runV (As := [.int n0, .int n1, .int 0]) (rest := []) ⟨hx, hb, hml, hown, hts⟩ (m_isStore l D cy ma n0 n1 0 ) sV_X10_375 hK (va_recv hK.1 hP (ci := 10) (q0 := 0) rfl rfl) (hP.sub (ws' := [((ma 0), .inr (10, [.int 0, .ref (ma 1), .ref (ma 2), .ref (ma 3), .ref (ma 4), .ref (ma 5), .int 0, .int 0, .int 0, .int 0, .int 0, .long 0, .int 0, .int 0, .int 0, .int (-1), .ref (ma 16), .ref (ma 17), .ref (ma 18), .ref (ma 19), .ref (ma 20), .ref (ma 21), .ref (ma 22), .ref (ma 23), .ref (ma 24), .ref (ma 25), .ref (ma 26), .ref (ma 27), .ref (ma 28), .ref (ma 29), .ref (ma 30), .ref (ma 31), .ref (ma 32), .ref (ma 33), .ref (ma 34), .ref (ma 35), .ref (ma 36), .ref (ma 37), .ref (ma 38), .ref (ma 39), .ref (ma 40), .ref (ma 41), .long 0])), ((ma 20), .inl (cy 1, 5, .inl (fun _ => 0))), ((ma 18), .inl (cy 1, 5, .inl (fun _ => 0)))]) [0, 1, 2] rfl) ⟨Nat.le_of_ble_eq_true rfl, Nat.le_of_ble_eq_true rfl⟩ rfl hl.1 rfl (Nat.le_of_ble_eq_true rfl) dX10_plane_9 ⟨Nat.le_of_ble_eq_true rfl, Nat.le_of_ble_eq_true rfl⟩) (fun r_1 hr_1 => ?_)
  have er_1 := hr_1
  subst er_1
  refine W.eq (g2 := F0 m 12 ls [.int 0]) rfl ?_
  refine lv_if_ne (tgt := 18) hx hb dX10_plane_12 (by decide) (fun c_2 => absurd c_2 (by decide)) (fun _ => ?_)
  refine lv_bipush (v := (-2)) hx hb dX10_plane_15 (by decide) ?_
  exact ret_i hx hb hr hlocks ⟨⟨hS.1, hS.2.1⟩, (), ⟨_, rfl, rfl⟩, hP.sub [] rfl, hD.sub [] (by decide) rfl⟩ hS.2.2 (Nat.le_of_ble_eq_true rfl) (Nat.le_of_ble_eq_true rfl) dX10_plane_17
set_option maxHeartbeats 4000000 in
set_option maxRecDepth 100000 in
theorem g_X10_edge (l : Launch) (D : va_G) (cy : Nat → ClassId) (ma : Nat → Nat) (n0 : Int32) (sz : Nat) : MM l yX10_edge cX10_edge 3 (some .int) 2 0 0 D cy [.ref (ma 0), .int n0] (PW D [((ma 0), .inr (10, [.int 0, .ref (ma 1), .ref (ma 2), .ref (ma 3), .ref (ma 4), .ref (ma 5), .int 0, .int 0, .int 0, .int 0, .int 0, .long 0, .int 0, .int 0, .int 0, .int (-1), .ref (ma 16), .ref (ma 17), .ref (ma 18), .ref (ma 19), .ref (ma 20), .ref (ma 21), .ref (ma 22), .ref (ma 23), .ref (ma 24), .ref (ma 25), .ref (ma 26), .ref (ma 27), .ref (ma 28), .ref (ma 29), .ref (ma 30), .ref (ma 31), .ref (ma 32), .ref (ma 33), .ref (ma 34), .ref (ma 35), .ref (ma 36), .ref (ma 37), .ref (ma 38), .ref (ma 39), .ref (ma 40), .ref (ma 41), .long 0])), ((ma 20), .inl (cy 1, 5, .inl (fun _ => 0))), ((ma 18), .inl (cy 1, 5, .inl (fun _ => 0))), ((ma 17), .inl (cy 1, 20, .inl (fun _ => 0)))] sz) (QW D (va_A [((ma 0), .inr (10, [.int 0, .ref (ma 1), .ref (ma 2), .ref (ma 3), .ref (ma 4), .ref (ma 5), .int 0, .int 0, .int 0, .int 0, .int 0, .long 0, .int 0, .int 0, .int 0, .int (-1), .ref (ma 16), .ref (ma 17), .ref (ma 18), .ref (ma 19), .ref (ma 20), .ref (ma 21), .ref (ma 22), .ref (ma 23), .ref (ma 24), .ref (ma 25), .ref (ma 26), .ref (ma 27), .ref (ma 28), .ref (ma 29), .ref (ma 30), .ref (ma 31), .ref (ma 32), .ref (ma 33), .ref (ma 34), .ref (ma 35), .ref (ma 36), .ref (ma 37), .ref (ma 38), .ref (ma 39), .ref (ma 40), .ref (ma 41), .long 0])), ((ma 20), .inl (cy 1, 5, .inl (fun _ => 0))), ((ma 18), .inl (cy 1, 5, .inl (fun _ => 0))), ((ma 17), .inl (cy 1, 20, .inl (fun _ => 0)))] sz) (S := Unit) (fun v u => (∃ r : Int32, v = some (.int r) ∧ (r = (-2)))) (fun u => [])) (va_A [((ma 0), .inr (10, [.int 0, .ref (ma 1), .ref (ma 2), .ref (ma 3), .ref (ma 4), .ref (ma 5), .int 0, .int 0, .int 0, .int 0, .int 0, .long 0, .int 0, .int 0, .int 0, .int (-1), .ref (ma 16), .ref (ma 17), .ref (ma 18), .ref (ma 19), .ref (ma 20), .ref (ma 21), .ref (ma 22), .ref (ma 23), .ref (ma 24), .ref (ma 25), .ref (ma 26), .ref (ma 27), .ref (ma 28), .ref (ma 29), .ref (ma 30), .ref (ma 31), .ref (ma 32), .ref (ma 33), .ref (ma 34), .ref (ma 35), .ref (ma 36), .ref (ma 37), .ref (ma 38), .ref (ma 39), .ref (ma 40), .ref (ma 41), .long 0])), ((ma 20), .inl (cy 1, 5, .inl (fun _ => 0))), ((ma 18), .inl (cy 1, 5, .inl (fun _ => 0))), ((ma 17), .inl (cy 1, 20, .inl (fun _ => 0)))] sz) := by
  refine MM.of (by decide) (Nat.le_of_ble_eq_true rfl) ?_
  intro p e s m below meth c C hPW ls hl
  obtain ⟨hx, hb, hr, hml, hown, hts, hlocks, hK, hnm⟩ := C
  obtain ⟨rfl, hP, hD0⟩ := hPW
  have hD := hD0.self (sz := s.heap.size)
  have hA : ∀ q : Nat, s.heap.size ≤ q → (va_A [((ma 0), .inr (10, [.int 0, .ref (ma 1), .ref (ma 2), .ref (ma 3), .ref (ma 4), .ref (ma 5), .int 0, .int 0, .int 0, .int 0, .int 0, .long 0, .int 0, .int 0, .int 0, .int (-1), .ref (ma 16), .ref (ma 17), .ref (ma 18), .ref (ma 19), .ref (ma 20), .ref (ma 21), .ref (ma 22), .ref (ma 23), .ref (ma 24), .ref (ma 25), .ref (ma 26), .ref (ma 27), .ref (ma 28), .ref (ma 29), .ref (ma 30), .ref (ma 31), .ref (ma 32), .ref (ma 33), .ref (ma 34), .ref (ma 35), .ref (ma 36), .ref (ma 37), .ref (ma 38), .ref (ma 39), .ref (ma 40), .ref (ma 41), .long 0])), ((ma 20), .inl (cy 1, 5, .inl (fun _ => 0))), ((ma 18), .inl (cy 1, 5, .inl (fun _ => 0))), ((ma 17), .inl (cy 1, 20, .inl (fun _ => 0)))] s.heap.size) q := fun q h => Or.inr h
  have hS : va_S (va_A [((ma 0), .inr (10, [.int 0, .ref (ma 1), .ref (ma 2), .ref (ma 3), .ref (ma 4), .ref (ma 5), .int 0, .int 0, .int 0, .int 0, .int 0, .long 0, .int 0, .int 0, .int 0, .int (-1), .ref (ma 16), .ref (ma 17), .ref (ma 18), .ref (ma 19), .ref (ma 20), .ref (ma 21), .ref (ma 22), .ref (ma 23), .ref (ma 24), .ref (ma 25), .ref (ma 26), .ref (ma 27), .ref (ma 28), .ref (ma 29), .ref (ma 30), .ref (ma 31), .ref (ma 32), .ref (ma 33), .ref (ma 34), .ref (ma 35), .ref (ma 36), .ref (ma 37), .ref (ma 38), .ref (ma 39), .ref (ma 40), .ref (ma 41), .long 0])), ((ma 20), .inl (cy 1, 5, .inl (fun _ => 0))), ((ma 18), .inl (cy 1, 5, .inl (fun _ => 0))), ((ma 17), .inl (cy 1, 20, .inl (fun _ => 0)))] s.heap.size) s.heap s.heap [] := va_S.rf
  generalize va_A [((ma 0), .inr (10, [.int 0, .ref (ma 1), .ref (ma 2), .ref (ma 3), .ref (ma 4), .ref (ma 5), .int 0, .int 0, .int 0, .int 0, .int 0, .long 0, .int 0, .int 0, .int 0, .int (-1), .ref (ma 16), .ref (ma 17), .ref (ma 18), .ref (ma 19), .ref (ma 20), .ref (ma 21), .ref (ma 22), .ref (ma 23), .ref (ma 24), .ref (ma 25), .ref (ma 26), .ref (ma 27), .ref (ma 28), .ref (ma 29), .ref (ma 30), .ref (ma 31), .ref (ma 32), .ref (ma 33), .ref (ma 34), .ref (ma 35), .ref (ma 36), .ref (ma 37), .ref (ma 38), .ref (ma 39), .ref (ma 40), .ref (ma 41), .long 0])), ((ma 20), .inl (cy 1, 5, .inl (fun _ => 0))), ((ma 18), .inl (cy 1, 5, .inl (fun _ => 0))), ((ma 17), .inl (cy 1, 20, .inl (fun _ => 0)))] s.heap.size = A at hD hA hS ⊢
  have hP : va_P D vwCl [((ma 0), .inr (10, [.int 0, .ref (ma 1), .ref (ma 2), .ref (ma 3), .ref (ma 4), .ref (ma 5), .int 0, .int 0, .int 0, .int 0, .int 0, .long 0, .int 0, .int 0, .int 0, .int (-1), .ref (ma 16), .ref (ma 17), .ref (ma 18), .ref (ma 19), .ref (ma 20), .ref (ma 21), .ref (ma 22), .ref (ma 23), .ref (ma 24), .ref (ma 25), .ref (ma 26), .ref (ma 27), .ref (ma 28), .ref (ma 29), .ref (ma 30), .ref (ma 31), .ref (ma 32), .ref (ma 33), .ref (ma 34), .ref (ma 35), .ref (ma 36), .ref (ma 37), .ref (ma 38), .ref (ma 39), .ref (ma 40), .ref (ma 41), .long 0])), ((ma 20), .inl (cy 1, 5, .inl (fun _ => 0))), ((ma 18), .inl (cy 1, 5, .inl (fun _ => 0))), ((ma 17), .inl (cy 1, 20, .inl (fun _ => 0)))] s.heap := hP
  have hl : lv_has ls 3 [(0, .ref (ma 0)), (1, .int n0)] := hl
  refine lv_aload_n hx hb dX10_edge_0 rfl (lv_at hl 0 rfl) ?_
  refine lv_iconst (v := 0) hx hb dX10_edge_1 (by decide) ?_
  refine va_put (D := D) (ci := 10) (v := .int 0) (ty := tyX10 0) (C := RX10) (T := TX10) (N := 43) hx hb hts lay_X10 tyX10 tyX10_ok nmX10 hown hK.1 hP hD hS 0 rfl rfl 0 (by decide) (hts _ fl_X10_111) (fun _ h9 => h9) rfl (tyX10_ok 0 (by decide)) rfl rfl (Nat.le_of_ble_eq_true rfl) dX10_edge_2 (fun H locs hP hD hS => ?_)
  have hP : va_P D vwCl [((ma 0), .inr (10, [.int 0, .ref (ma 1), .ref (ma 2), .ref (ma 3), .ref (ma 4), .ref (ma 5), .int 0, .int 0, .int 0, .int 0, .int 0, .long 0, .int 0, .int 0, .int 0, .int (-1), .ref (ma 16), .ref (ma 17), .ref (ma 18), .ref (ma 19), .ref (ma 20), .ref (ma 21), .ref (ma 22), .ref (ma 23), .ref (ma 24), .ref (ma 25), .ref (ma 26), .ref (ma 27), .ref (ma 28), .ref (ma 29), .ref (ma 30), .ref (ma 31), .ref (ma 32), .ref (ma 33), .ref (ma 34), .ref (ma 35), .ref (ma 36), .ref (ma 37), .ref (ma 38), .ref (ma 39), .ref (ma 40), .ref (ma 41), .long 0])), ((ma 20), .inl (cy 1, 5, .inl (fun _ => 0))), ((ma 18), .inl (cy 1, 5, .inl (fun _ => 0))), ((ma 17), .inl (cy 1, 20, .inl (fun _ => 0)))] H := hP
  have hD : va_D A [((ma 0), .inr (10, [.int 0, .ref (ma 1), .ref (ma 2), .ref (ma 3), .ref (ma 4), .ref (ma 5), .int 0, .int 0, .int 0, .int 0, .int 0, .long 0, .int 0, .int 0, .int 0, .int (-1), .ref (ma 16), .ref (ma 17), .ref (ma 18), .ref (ma 19), .ref (ma 20), .ref (ma 21), .ref (ma 22), .ref (ma 23), .ref (ma 24), .ref (ma 25), .ref (ma 26), .ref (ma 27), .ref (ma 28), .ref (ma 29), .ref (ma 30), .ref (ma 31), .ref (ma 32), .ref (ma 33), .ref (ma 34), .ref (ma 35), .ref (ma 36), .ref (ma 37), .ref (ma 38), .ref (ma 39), .ref (ma 40), .ref (ma 41), .long 0])), ((ma 20), .inl (cy 1, 5, .inl (fun _ => 0))), ((ma 18), .inl (cy 1, 5, .inl (fun _ => 0))), ((ma 17), .inl (cy 1, 20, .inl (fun _ => 0)))] := hD
  refine lv_aload_n hx hb dX10_edge_5 rfl (lv_at hl 0 rfl) ?_
  refine lv_iload_n hx hb dX10_edge_6 rfl (lv_at hl 1 rfl) ?_
  refine pu_calli (runV (As := [.int n0]) (rest := []) ⟨hx, hb, hml, hown, hts⟩ (m_isThing l D cy ma n0 ) sV_X10_350 hK (va_recv hK.1 hP (ci := 10) (q0 := 0) rfl rfl) (hP.sub (ws' := [((ma 0), .inr (10, [.int 0, .ref (ma 1), .ref (ma 2), .ref (ma 3), .ref (ma 4), .ref (ma 5), .int 0, .int 0, .int 0, .int 0, .int 0, .long 0, .int 0, .int 0, .int 0, .int (-1), .ref (ma 16), .ref (ma 17), .ref (ma 18), .ref (ma 19), .ref (ma 20), .ref (ma 21), .ref (ma 22), .ref (ma 23), .ref (ma 24), .ref (ma 25), .ref (ma 26), .ref (ma 27), .ref (ma 28), .ref (ma 29), .ref (ma 30), .ref (ma 31), .ref (ma 32), .ref (ma 33), .ref (ma 34), .ref (ma 35), .ref (ma 36), .ref (ma 37), .ref (ma 38), .ref (ma 39), .ref (ma 40), .ref (ma 41), .long 0])), ((ma 18), .inl (cy 1, 5, .inl (fun _ => 0)))]) [0, 2] rfl) ⟨Nat.le_of_ble_eq_true rfl, Nat.le_of_ble_eq_true rfl⟩ rfl hl.1 rfl (Nat.le_of_ble_eq_true rfl) dX10_edge_7 ⟨Nat.le_of_ble_eq_true rfl, Nat.le_of_ble_eq_true rfl⟩) (fun r_1 hr_1 => ?_)
  have er_1 := hr_1
  subst er_1
  refine W.eq (g2 := F0 m 10 ls [.int 0]) rfl ?_
  refine lv_if_ne (tgt := 16) hx hb dX10_edge_10 (by decide) (fun c_2 => absurd c_2 (by decide)) (fun _ => ?_)
  refine lv_bipush (v := (-2)) hx hb dX10_edge_13 (by decide) ?_
  exact ret_i hx hb hr hlocks ⟨⟨hS.1, hS.2.1⟩, (), ⟨_, rfl, rfl⟩, hP.sub [] rfl, hD.sub [] (by decide) rfl⟩ hS.2.2 (Nat.le_of_ble_eq_true rfl) (Nat.le_of_ble_eq_true rfl) dX10_edge_15
set_option maxHeartbeats 4000000 in
set_option maxRecDepth 100000 in
theorem g_X10_path (l : Launch) (D : va_G) (cy : Nat → ClassId) (ma : Nat → Nat) (n0 : Int32) (n1 : Int32) (n2 : Int32) (n3 : Int32) (sz : Nat) : MM l yX10_path cX10_path 10 (some .long) 3 0 0 D cy [.ref (ma 0), .int n0, .int n1, .int n2, .int n3] (PW D [((ma 0), .inr (10, [.int 0, .ref (ma 1), .ref (ma 2), .ref (ma 3), .ref (ma 4), .ref (ma 5), .int 0, .int 0, .int 0, .int 0, .int 0, .long 0, .int 0, .int 0, .int 0, .int (-1), .ref (ma 16), .ref (ma 17), .ref (ma 18), .ref (ma 19), .ref (ma 20), .ref (ma 21), .ref (ma 22), .ref (ma 23), .ref (ma 24), .ref (ma 25), .ref (ma 26), .ref (ma 27), .ref (ma 28), .ref (ma 29), .ref (ma 30), .ref (ma 31), .ref (ma 32), .ref (ma 33), .ref (ma 34), .ref (ma 35), .ref (ma 36), .ref (ma 37), .ref (ma 38), .ref (ma 39), .ref (ma 40), .ref (ma 41), .long 0])), ((ma 20), .inl (cy 1, 5, .inl (fun _ => 0))), ((ma 18), .inl (cy 1, 5, .inl (fun _ => 0))), ((ma 17), .inl (cy 1, 20, .inl (fun _ => 0)))] sz) (QW D (va_A [((ma 0), .inr (10, [.int 0, .ref (ma 1), .ref (ma 2), .ref (ma 3), .ref (ma 4), .ref (ma 5), .int 0, .int 0, .int 0, .int 0, .int 0, .long 0, .int 0, .int 0, .int 0, .int (-1), .ref (ma 16), .ref (ma 17), .ref (ma 18), .ref (ma 19), .ref (ma 20), .ref (ma 21), .ref (ma 22), .ref (ma 23), .ref (ma 24), .ref (ma 25), .ref (ma 26), .ref (ma 27), .ref (ma 28), .ref (ma 29), .ref (ma 30), .ref (ma 31), .ref (ma 32), .ref (ma 33), .ref (ma 34), .ref (ma 35), .ref (ma 36), .ref (ma 37), .ref (ma 38), .ref (ma 39), .ref (ma 40), .ref (ma 41), .long 0])), ((ma 20), .inl (cy 1, 5, .inl (fun _ => 0))), ((ma 18), .inl (cy 1, 5, .inl (fun _ => 0))), ((ma 17), .inl (cy 1, 20, .inl (fun _ => 0)))] sz) (S := Unit) (fun v u => (∃ r : Int64, v = some (.long r) ∧ (r = (-2)))) (fun u => [])) (va_A [((ma 0), .inr (10, [.int 0, .ref (ma 1), .ref (ma 2), .ref (ma 3), .ref (ma 4), .ref (ma 5), .int 0, .int 0, .int 0, .int 0, .int 0, .long 0, .int 0, .int 0, .int 0, .int (-1), .ref (ma 16), .ref (ma 17), .ref (ma 18), .ref (ma 19), .ref (ma 20), .ref (ma 21), .ref (ma 22), .ref (ma 23), .ref (ma 24), .ref (ma 25), .ref (ma 26), .ref (ma 27), .ref (ma 28), .ref (ma 29), .ref (ma 30), .ref (ma 31), .ref (ma 32), .ref (ma 33), .ref (ma 34), .ref (ma 35), .ref (ma 36), .ref (ma 37), .ref (ma 38), .ref (ma 39), .ref (ma 40), .ref (ma 41), .long 0])), ((ma 20), .inl (cy 1, 5, .inl (fun _ => 0))), ((ma 18), .inl (cy 1, 5, .inl (fun _ => 0))), ((ma 17), .inl (cy 1, 20, .inl (fun _ => 0)))] sz) := by
  refine MM.of (by decide) (Nat.le_of_ble_eq_true rfl) ?_
  intro p e s m below meth c C hPW ls hl
  obtain ⟨hx, hb, hr, hml, hown, hts, hlocks, hK, hnm⟩ := C
  obtain ⟨rfl, hP, hD0⟩ := hPW
  have hD := hD0.self (sz := s.heap.size)
  have hA : ∀ q : Nat, s.heap.size ≤ q → (va_A [((ma 0), .inr (10, [.int 0, .ref (ma 1), .ref (ma 2), .ref (ma 3), .ref (ma 4), .ref (ma 5), .int 0, .int 0, .int 0, .int 0, .int 0, .long 0, .int 0, .int 0, .int 0, .int (-1), .ref (ma 16), .ref (ma 17), .ref (ma 18), .ref (ma 19), .ref (ma 20), .ref (ma 21), .ref (ma 22), .ref (ma 23), .ref (ma 24), .ref (ma 25), .ref (ma 26), .ref (ma 27), .ref (ma 28), .ref (ma 29), .ref (ma 30), .ref (ma 31), .ref (ma 32), .ref (ma 33), .ref (ma 34), .ref (ma 35), .ref (ma 36), .ref (ma 37), .ref (ma 38), .ref (ma 39), .ref (ma 40), .ref (ma 41), .long 0])), ((ma 20), .inl (cy 1, 5, .inl (fun _ => 0))), ((ma 18), .inl (cy 1, 5, .inl (fun _ => 0))), ((ma 17), .inl (cy 1, 20, .inl (fun _ => 0)))] s.heap.size) q := fun q h => Or.inr h
  have hS : va_S (va_A [((ma 0), .inr (10, [.int 0, .ref (ma 1), .ref (ma 2), .ref (ma 3), .ref (ma 4), .ref (ma 5), .int 0, .int 0, .int 0, .int 0, .int 0, .long 0, .int 0, .int 0, .int 0, .int (-1), .ref (ma 16), .ref (ma 17), .ref (ma 18), .ref (ma 19), .ref (ma 20), .ref (ma 21), .ref (ma 22), .ref (ma 23), .ref (ma 24), .ref (ma 25), .ref (ma 26), .ref (ma 27), .ref (ma 28), .ref (ma 29), .ref (ma 30), .ref (ma 31), .ref (ma 32), .ref (ma 33), .ref (ma 34), .ref (ma 35), .ref (ma 36), .ref (ma 37), .ref (ma 38), .ref (ma 39), .ref (ma 40), .ref (ma 41), .long 0])), ((ma 20), .inl (cy 1, 5, .inl (fun _ => 0))), ((ma 18), .inl (cy 1, 5, .inl (fun _ => 0))), ((ma 17), .inl (cy 1, 20, .inl (fun _ => 0)))] s.heap.size) s.heap s.heap [] := va_S.rf
  generalize va_A [((ma 0), .inr (10, [.int 0, .ref (ma 1), .ref (ma 2), .ref (ma 3), .ref (ma 4), .ref (ma 5), .int 0, .int 0, .int 0, .int 0, .int 0, .long 0, .int 0, .int 0, .int 0, .int (-1), .ref (ma 16), .ref (ma 17), .ref (ma 18), .ref (ma 19), .ref (ma 20), .ref (ma 21), .ref (ma 22), .ref (ma 23), .ref (ma 24), .ref (ma 25), .ref (ma 26), .ref (ma 27), .ref (ma 28), .ref (ma 29), .ref (ma 30), .ref (ma 31), .ref (ma 32), .ref (ma 33), .ref (ma 34), .ref (ma 35), .ref (ma 36), .ref (ma 37), .ref (ma 38), .ref (ma 39), .ref (ma 40), .ref (ma 41), .long 0])), ((ma 20), .inl (cy 1, 5, .inl (fun _ => 0))), ((ma 18), .inl (cy 1, 5, .inl (fun _ => 0))), ((ma 17), .inl (cy 1, 20, .inl (fun _ => 0)))] s.heap.size = A at hD hA hS ⊢
  have hP : va_P D vwCl [((ma 0), .inr (10, [.int 0, .ref (ma 1), .ref (ma 2), .ref (ma 3), .ref (ma 4), .ref (ma 5), .int 0, .int 0, .int 0, .int 0, .int 0, .long 0, .int 0, .int 0, .int 0, .int (-1), .ref (ma 16), .ref (ma 17), .ref (ma 18), .ref (ma 19), .ref (ma 20), .ref (ma 21), .ref (ma 22), .ref (ma 23), .ref (ma 24), .ref (ma 25), .ref (ma 26), .ref (ma 27), .ref (ma 28), .ref (ma 29), .ref (ma 30), .ref (ma 31), .ref (ma 32), .ref (ma 33), .ref (ma 34), .ref (ma 35), .ref (ma 36), .ref (ma 37), .ref (ma 38), .ref (ma 39), .ref (ma 40), .ref (ma 41), .long 0])), ((ma 20), .inl (cy 1, 5, .inl (fun _ => 0))), ((ma 18), .inl (cy 1, 5, .inl (fun _ => 0))), ((ma 17), .inl (cy 1, 20, .inl (fun _ => 0)))] s.heap := hP
  have hl : lv_has ls 10 [(0, .ref (ma 0)), (1, .int n0), (2, .int n1), (3, .int n2), (4, .int n3)] := hl
  refine lv_aload_n hx hb dX10_path_0 rfl (lv_at hl 0 rfl) ?_
  refine lv_iconst (v := 0) hx hb dX10_path_1 (by decide) ?_
  refine va_put (D := D) (ci := 10) (v := .int 0) (ty := tyX10 0) (C := RX10) (T := TX10) (N := 43) hx hb hts lay_X10 tyX10 tyX10_ok nmX10 hown hK.1 hP hD hS 0 rfl rfl 0 (by decide) (hts _ fl_X10_111) (fun _ h9 => h9) rfl (tyX10_ok 0 (by decide)) rfl rfl (Nat.le_of_ble_eq_true rfl) dX10_path_2 (fun H locs hP hD hS => ?_)
  have hP : va_P D vwCl [((ma 0), .inr (10, [.int 0, .ref (ma 1), .ref (ma 2), .ref (ma 3), .ref (ma 4), .ref (ma 5), .int 0, .int 0, .int 0, .int 0, .int 0, .long 0, .int 0, .int 0, .int 0, .int (-1), .ref (ma 16), .ref (ma 17), .ref (ma 18), .ref (ma 19), .ref (ma 20), .ref (ma 21), .ref (ma 22), .ref (ma 23), .ref (ma 24), .ref (ma 25), .ref (ma 26), .ref (ma 27), .ref (ma 28), .ref (ma 29), .ref (ma 30), .ref (ma 31), .ref (ma 32), .ref (ma 33), .ref (ma 34), .ref (ma 35), .ref (ma 36), .ref (ma 37), .ref (ma 38), .ref (ma 39), .ref (ma 40), .ref (ma 41), .long 0])), ((ma 20), .inl (cy 1, 5, .inl (fun _ => 0))), ((ma 18), .inl (cy 1, 5, .inl (fun _ => 0))), ((ma 17), .inl (cy 1, 20, .inl (fun _ => 0)))] H := hP
  have hD : va_D A [((ma 0), .inr (10, [.int 0, .ref (ma 1), .ref (ma 2), .ref (ma 3), .ref (ma 4), .ref (ma 5), .int 0, .int 0, .int 0, .int 0, .int 0, .long 0, .int 0, .int 0, .int 0, .int (-1), .ref (ma 16), .ref (ma 17), .ref (ma 18), .ref (ma 19), .ref (ma 20), .ref (ma 21), .ref (ma 22), .ref (ma 23), .ref (ma 24), .ref (ma 25), .ref (ma 26), .ref (ma 27), .ref (ma 28), .ref (ma 29), .ref (ma 30), .ref (ma 31), .ref (ma 32), .ref (ma 33), .ref (ma 34), .ref (ma 35), .ref (ma 36), .ref (ma 37), .ref (ma 38), .ref (ma 39), .ref (ma 40), .ref (ma 41), .long 0])), ((ma 20), .inl (cy 1, 5, .inl (fun _ => 0))), ((ma 18), .inl (cy 1, 5, .inl (fun _ => 0))), ((ma 17), .inl (cy 1, 20, .inl (fun _ => 0)))] := hD
  refine lv_aload_n hx hb dX10_path_5 rfl (lv_at hl 0 rfl) ?_
  refine lv_iload_n hx hb dX10_path_6 rfl (lv_at hl 1 rfl) ?_
  refine lv_iload_n hx hb dX10_path_7 rfl (lv_at hl 2 rfl) ?_
  refine pu_calli (runV (As := [.int n0, .int n1]) (rest := []) ⟨hx, hb, hml, hown, hts⟩ (m_areTwo l D cy ma n0 n1 ) sV_X10_323 hK (va_recv hK.1 hP (ci := 10) (q0 := 0) rfl rfl) (hP.sub (ws' := [((ma 0), .inr (10, [.int 0, .ref (ma 1), .ref (ma 2), .ref (ma 3), .ref (ma 4), .ref (ma 5), .int 0, .int 0, .int 0, .int 0, .int 0, .long 0, .int 0, .int 0, .int 0, .int (-1), .ref (ma 16), .ref (ma 17), .ref (ma 18), .ref (ma 19), .ref (ma 20), .ref (ma 21), .ref (ma 22), .ref (ma 23), .ref (ma 24), .ref (ma 25), .ref (ma 26), .ref (ma 27), .ref (ma 28), .ref (ma 29), .ref (ma 30), .ref (ma 31), .ref (ma 32), .ref (ma 33), .ref (ma 34), .ref (ma 35), .ref (ma 36), .ref (ma 37), .ref (ma 38), .ref (ma 39), .ref (ma 40), .ref (ma 41), .long 0])), ((ma 20), .inl (cy 1, 5, .inl (fun _ => 0)))]) [0, 1] rfl) ⟨Nat.le_of_ble_eq_true rfl, Nat.le_of_ble_eq_true rfl⟩ rfl hl.1 rfl (Nat.le_of_ble_eq_true rfl) dX10_path_8 ⟨Nat.le_of_ble_eq_true rfl, Nat.le_of_ble_eq_true rfl⟩) (fun r_1 hr_1 => ?_)
  have er_1 := hr_1
  subst er_1
  refine W.eq (g2 := F0 m 11 ls [.int 0]) rfl ?_
  refine lv_if_eq (tgt := 31) hx hb dX10_path_11 (by decide) (fun _ => ?_) (fun c_2 => absurd (by decide) c_2)
  refine lv_ldc2 (v := (-2)) hx hb hown (hts _ kl_X10_300) dX10_path_31 ?_
  exact ret_l hx hb hr hlocks ⟨⟨hS.1, hS.2.1⟩, (), ⟨_, rfl, rfl⟩, hP.sub [] rfl, hD.sub [] (by decide) rfl⟩ hS.2.2 (Nat.le_of_ble_eq_true rfl) (Nat.le_of_ble_eq_true rfl) dX10_path_34
set_option maxHeartbeats 4000000 in
set_option maxRecDepth 100000 in
theorem g_X10_fed (l : Launch) (D : va_G) (cy : Nat → ClassId) (ma : Nat → Nat) (n0 : Int32) (n1 : Int32) (sz : Nat) : MM l yX10_fed cX10_fed 8 (some .int) 3 0 0 D cy [.ref (ma 0), .int n0, .int n1] (PW D [((ma 0), .inr (10, [.int 0, .ref (ma 1), .ref (ma 2), .ref (ma 3), .ref (ma 4), .ref (ma 5), .int 0, .int 0, .int 0, .int 0, .int 0, .long 0, .int 0, .int 0, .int 0, .int (-1), .ref (ma 16), .ref (ma 17), .ref (ma 18), .ref (ma 19), .ref (ma 20), .ref (ma 21), .ref (ma 22), .ref (ma 23), .ref (ma 24), .ref (ma 25), .ref (ma 26), .ref (ma 27), .ref (ma 28), .ref (ma 29), .ref (ma 30), .ref (ma 31), .ref (ma 32), .ref (ma 33), .ref (ma 34), .ref (ma 35), .ref (ma 36), .ref (ma 37), .ref (ma 38), .ref (ma 39), .ref (ma 40), .ref (ma 41), .long 0])), ((ma 20), .inl (cy 1, 5, .inl (fun _ => 0))), ((ma 18), .inl (cy 1, 5, .inl (fun _ => 0))), ((ma 17), .inl (cy 1, 20, .inl (fun _ => 0)))] sz) (QW D (va_A [((ma 0), .inr (10, [.int 0, .ref (ma 1), .ref (ma 2), .ref (ma 3), .ref (ma 4), .ref (ma 5), .int 0, .int 0, .int 0, .int 0, .int 0, .long 0, .int 0, .int 0, .int 0, .int (-1), .ref (ma 16), .ref (ma 17), .ref (ma 18), .ref (ma 19), .ref (ma 20), .ref (ma 21), .ref (ma 22), .ref (ma 23), .ref (ma 24), .ref (ma 25), .ref (ma 26), .ref (ma 27), .ref (ma 28), .ref (ma 29), .ref (ma 30), .ref (ma 31), .ref (ma 32), .ref (ma 33), .ref (ma 34), .ref (ma 35), .ref (ma 36), .ref (ma 37), .ref (ma 38), .ref (ma 39), .ref (ma 40), .ref (ma 41), .long 0])), ((ma 20), .inl (cy 1, 5, .inl (fun _ => 0))), ((ma 18), .inl (cy 1, 5, .inl (fun _ => 0))), ((ma 17), .inl (cy 1, 20, .inl (fun _ => 0)))] sz) (S := Unit) (fun v u => (∃ r : Int32, v = some (.int r) ∧ (r = (-2)))) (fun u => [])) (va_A [((ma 0), .inr (10, [.int 0, .ref (ma 1), .ref (ma 2), .ref (ma 3), .ref (ma 4), .ref (ma 5), .int 0, .int 0, .int 0, .int 0, .int 0, .long 0, .int 0, .int 0, .int 0, .int (-1), .ref (ma 16), .ref (ma 17), .ref (ma 18), .ref (ma 19), .ref (ma 20), .ref (ma 21), .ref (ma 22), .ref (ma 23), .ref (ma 24), .ref (ma 25), .ref (ma 26), .ref (ma 27), .ref (ma 28), .ref (ma 29), .ref (ma 30), .ref (ma 31), .ref (ma 32), .ref (ma 33), .ref (ma 34), .ref (ma 35), .ref (ma 36), .ref (ma 37), .ref (ma 38), .ref (ma 39), .ref (ma 40), .ref (ma 41), .long 0])), ((ma 20), .inl (cy 1, 5, .inl (fun _ => 0))), ((ma 18), .inl (cy 1, 5, .inl (fun _ => 0))), ((ma 17), .inl (cy 1, 20, .inl (fun _ => 0)))] sz) := by
  refine MM.of (by decide) (Nat.le_of_ble_eq_true rfl) ?_
  intro p e s m below meth c C hPW ls hl
  obtain ⟨hx, hb, hr, hml, hown, hts, hlocks, hK, hnm⟩ := C
  obtain ⟨rfl, hP, hD0⟩ := hPW
  have hD := hD0.self (sz := s.heap.size)
  have hA : ∀ q : Nat, s.heap.size ≤ q → (va_A [((ma 0), .inr (10, [.int 0, .ref (ma 1), .ref (ma 2), .ref (ma 3), .ref (ma 4), .ref (ma 5), .int 0, .int 0, .int 0, .int 0, .int 0, .long 0, .int 0, .int 0, .int 0, .int (-1), .ref (ma 16), .ref (ma 17), .ref (ma 18), .ref (ma 19), .ref (ma 20), .ref (ma 21), .ref (ma 22), .ref (ma 23), .ref (ma 24), .ref (ma 25), .ref (ma 26), .ref (ma 27), .ref (ma 28), .ref (ma 29), .ref (ma 30), .ref (ma 31), .ref (ma 32), .ref (ma 33), .ref (ma 34), .ref (ma 35), .ref (ma 36), .ref (ma 37), .ref (ma 38), .ref (ma 39), .ref (ma 40), .ref (ma 41), .long 0])), ((ma 20), .inl (cy 1, 5, .inl (fun _ => 0))), ((ma 18), .inl (cy 1, 5, .inl (fun _ => 0))), ((ma 17), .inl (cy 1, 20, .inl (fun _ => 0)))] s.heap.size) q := fun q h => Or.inr h
  have hS : va_S (va_A [((ma 0), .inr (10, [.int 0, .ref (ma 1), .ref (ma 2), .ref (ma 3), .ref (ma 4), .ref (ma 5), .int 0, .int 0, .int 0, .int 0, .int 0, .long 0, .int 0, .int 0, .int 0, .int (-1), .ref (ma 16), .ref (ma 17), .ref (ma 18), .ref (ma 19), .ref (ma 20), .ref (ma 21), .ref (ma 22), .ref (ma 23), .ref (ma 24), .ref (ma 25), .ref (ma 26), .ref (ma 27), .ref (ma 28), .ref (ma 29), .ref (ma 30), .ref (ma 31), .ref (ma 32), .ref (ma 33), .ref (ma 34), .ref (ma 35), .ref (ma 36), .ref (ma 37), .ref (ma 38), .ref (ma 39), .ref (ma 40), .ref (ma 41), .long 0])), ((ma 20), .inl (cy 1, 5, .inl (fun _ => 0))), ((ma 18), .inl (cy 1, 5, .inl (fun _ => 0))), ((ma 17), .inl (cy 1, 20, .inl (fun _ => 0)))] s.heap.size) s.heap s.heap [] := va_S.rf
  generalize va_A [((ma 0), .inr (10, [.int 0, .ref (ma 1), .ref (ma 2), .ref (ma 3), .ref (ma 4), .ref (ma 5), .int 0, .int 0, .int 0, .int 0, .int 0, .long 0, .int 0, .int 0, .int 0, .int (-1), .ref (ma 16), .ref (ma 17), .ref (ma 18), .ref (ma 19), .ref (ma 20), .ref (ma 21), .ref (ma 22), .ref (ma 23), .ref (ma 24), .ref (ma 25), .ref (ma 26), .ref (ma 27), .ref (ma 28), .ref (ma 29), .ref (ma 30), .ref (ma 31), .ref (ma 32), .ref (ma 33), .ref (ma 34), .ref (ma 35), .ref (ma 36), .ref (ma 37), .ref (ma 38), .ref (ma 39), .ref (ma 40), .ref (ma 41), .long 0])), ((ma 20), .inl (cy 1, 5, .inl (fun _ => 0))), ((ma 18), .inl (cy 1, 5, .inl (fun _ => 0))), ((ma 17), .inl (cy 1, 20, .inl (fun _ => 0)))] s.heap.size = A at hD hA hS ⊢
  have hP : va_P D vwCl [((ma 0), .inr (10, [.int 0, .ref (ma 1), .ref (ma 2), .ref (ma 3), .ref (ma 4), .ref (ma 5), .int 0, .int 0, .int 0, .int 0, .int 0, .long 0, .int 0, .int 0, .int 0, .int (-1), .ref (ma 16), .ref (ma 17), .ref (ma 18), .ref (ma 19), .ref (ma 20), .ref (ma 21), .ref (ma 22), .ref (ma 23), .ref (ma 24), .ref (ma 25), .ref (ma 26), .ref (ma 27), .ref (ma 28), .ref (ma 29), .ref (ma 30), .ref (ma 31), .ref (ma 32), .ref (ma 33), .ref (ma 34), .ref (ma 35), .ref (ma 36), .ref (ma 37), .ref (ma 38), .ref (ma 39), .ref (ma 40), .ref (ma 41), .long 0])), ((ma 20), .inl (cy 1, 5, .inl (fun _ => 0))), ((ma 18), .inl (cy 1, 5, .inl (fun _ => 0))), ((ma 17), .inl (cy 1, 20, .inl (fun _ => 0)))] s.heap := hP
  have hl : lv_has ls 8 [(0, .ref (ma 0)), (1, .int n0), (2, .int n1)] := hl
  refine lv_aload_n hx hb dX10_fed_0 rfl (lv_at hl 0 rfl) ?_
  refine lv_iconst (v := 0) hx hb dX10_fed_1 (by decide) ?_
  refine va_put (D := D) (ci := 10) (v := .int 0) (ty := tyX10 0) (C := RX10) (T := TX10) (N := 43) hx hb hts lay_X10 tyX10 tyX10_ok nmX10 hown hK.1 hP hD hS 0 rfl rfl 0 (by decide) (hts _ fl_X10_111) (fun _ h9 => h9) rfl (tyX10_ok 0 (by decide)) rfl rfl (Nat.le_of_ble_eq_true rfl) dX10_fed_2 (fun H locs hP hD hS => ?_)
  have hP : va_P D vwCl [((ma 0), .inr (10, [.int 0, .ref (ma 1), .ref (ma 2), .ref (ma 3), .ref (ma 4), .ref (ma 5), .int 0, .int 0, .int 0, .int 0, .int 0, .long 0, .int 0, .int 0, .int 0, .int (-1), .ref (ma 16), .ref (ma 17), .ref (ma 18), .ref (ma 19), .ref (ma 20), .ref (ma 21), .ref (ma 22), .ref (ma 23), .ref (ma 24), .ref (ma 25), .ref (ma 26), .ref (ma 27), .ref (ma 28), .ref (ma 29), .ref (ma 30), .ref (ma 31), .ref (ma 32), .ref (ma 33), .ref (ma 34), .ref (ma 35), .ref (ma 36), .ref (ma 37), .ref (ma 38), .ref (ma 39), .ref (ma 40), .ref (ma 41), .long 0])), ((ma 20), .inl (cy 1, 5, .inl (fun _ => 0))), ((ma 18), .inl (cy 1, 5, .inl (fun _ => 0))), ((ma 17), .inl (cy 1, 20, .inl (fun _ => 0)))] H := hP
  have hD : va_D A [((ma 0), .inr (10, [.int 0, .ref (ma 1), .ref (ma 2), .ref (ma 3), .ref (ma 4), .ref (ma 5), .int 0, .int 0, .int 0, .int 0, .int 0, .long 0, .int 0, .int 0, .int 0, .int (-1), .ref (ma 16), .ref (ma 17), .ref (ma 18), .ref (ma 19), .ref (ma 20), .ref (ma 21), .ref (ma 22), .ref (ma 23), .ref (ma 24), .ref (ma 25), .ref (ma 26), .ref (ma 27), .ref (ma 28), .ref (ma 29), .ref (ma 30), .ref (ma 31), .ref (ma 32), .ref (ma 33), .ref (ma 34), .ref (ma 35), .ref (ma 36), .ref (ma 37), .ref (ma 38), .ref (ma 39), .ref (ma 40), .ref (ma 41), .long 0])), ((ma 20), .inl (cy 1, 5, .inl (fun _ => 0))), ((ma 18), .inl (cy 1, 5, .inl (fun _ => 0))), ((ma 17), .inl (cy 1, 20, .inl (fun _ => 0)))] := hD
  refine lv_aload_n hx hb dX10_fed_5 rfl (lv_at hl 0 rfl) ?_
  refine lv_iload_n hx hb dX10_fed_6 rfl (lv_at hl 1 rfl) ?_
  refine lv_iload_n hx hb dX10_fed_7 rfl (lv_at hl 2 rfl) ?_
  refine pu_calli (runV (As := [.int n0, .int n1]) (rest := []) ⟨hx, hb, hml, hown, hts⟩ (m_areTwo l D cy ma n0 n1 ) sV_X10_323 hK (va_recv hK.1 hP (ci := 10) (q0 := 0) rfl rfl) (hP.sub (ws' := [((ma 0), .inr (10, [.int 0, .ref (ma 1), .ref (ma 2), .ref (ma 3), .ref (ma 4), .ref (ma 5), .int 0, .int 0, .int 0, .int 0, .int 0, .long 0, .int 0, .int 0, .int 0, .int (-1), .ref (ma 16), .ref (ma 17), .ref (ma 18), .ref (ma 19), .ref (ma 20), .ref (ma 21), .ref (ma 22), .ref (ma 23), .ref (ma 24), .ref (ma 25), .ref (ma 26), .ref (ma 27), .ref (ma 28), .ref (ma 29), .ref (ma 30), .ref (ma 31), .ref (ma 32), .ref (ma 33), .ref (ma 34), .ref (ma 35), .ref (ma 36), .ref (ma 37), .ref (ma 38), .ref (ma 39), .ref (ma 40), .ref (ma 41), .long 0])), ((ma 20), .inl (cy 1, 5, .inl (fun _ => 0)))]) [0, 1] rfl) ⟨Nat.le_of_ble_eq_true rfl, Nat.le_of_ble_eq_true rfl⟩ rfl hl.1 rfl (Nat.le_of_ble_eq_true rfl) dX10_fed_8 ⟨Nat.le_of_ble_eq_true rfl, Nat.le_of_ble_eq_true rfl⟩) (fun r_1 hr_1 => ?_)
  have er_1 := hr_1
  subst er_1
  refine W.eq (g2 := F0 m 11 ls [.int 0]) rfl ?_
  refine lv_if_ne (tgt := 17) hx hb dX10_fed_11 (by decide) (fun c_2 => absurd c_2 (by decide)) (fun _ => ?_)
  refine lv_bipush (v := (-2)) hx hb dX10_fed_14 (by decide) ?_
  exact ret_i hx hb hr hlocks ⟨⟨hS.1, hS.2.1⟩, (), ⟨_, rfl, rfl⟩, hP.sub [] rfl, hD.sub [] (by decide) rfl⟩ hS.2.2 (Nat.le_of_ble_eq_true rfl) (Nat.le_of_ble_eq_true rfl) dX10_fed_16
set_option maxHeartbeats 4000000 in
set_option maxRecDepth 100000 in
theorem g_X10_given (l : Launch) (D : va_G) (cy : Nat → ClassId) (ma : Nat → Nat) (n0 : Int32) (n1 : Int32) (n2 : Int32) (n3 : Int32) (sz : Nat) : MM l yX10_given cX10_given 6 (some .int) 3 0 0 D cy [.ref (ma 0), .int n0, .int n1, .int n2, .int n3] (PW D [((ma 0), .inr (10, [.int 0, .ref (ma 1), .ref (ma 2), .ref (ma 3), .ref (ma 4), .ref (ma 5), .int 0, .int 0, .int 0, .int 0, .int 0, .long 0, .int 0, .int 0, .int 0, .int (-1), .ref (ma 16), .ref (ma 17), .ref (ma 18), .ref (ma 19), .ref (ma 20), .ref (ma 21), .ref (ma 22), .ref (ma 23), .ref (ma 24), .ref (ma 25), .ref (ma 26), .ref (ma 27), .ref (ma 28), .ref (ma 29), .ref (ma 30), .ref (ma 31), .ref (ma 32), .ref (ma 33), .ref (ma 34), .ref (ma 35), .ref (ma 36), .ref (ma 37), .ref (ma 38), .ref (ma 39), .ref (ma 40), .ref (ma 41), .long 0])), ((ma 20), .inl (cy 1, 5, .inl (fun _ => 0))), ((ma 18), .inl (cy 1, 5, .inl (fun _ => 0))), ((ma 17), .inl (cy 1, 20, .inl (fun _ => 0)))] sz) (QW D (va_A [((ma 0), .inr (10, [.int 0, .ref (ma 1), .ref (ma 2), .ref (ma 3), .ref (ma 4), .ref (ma 5), .int 0, .int 0, .int 0, .int 0, .int 0, .long 0, .int 0, .int 0, .int 0, .int (-1), .ref (ma 16), .ref (ma 17), .ref (ma 18), .ref (ma 19), .ref (ma 20), .ref (ma 21), .ref (ma 22), .ref (ma 23), .ref (ma 24), .ref (ma 25), .ref (ma 26), .ref (ma 27), .ref (ma 28), .ref (ma 29), .ref (ma 30), .ref (ma 31), .ref (ma 32), .ref (ma 33), .ref (ma 34), .ref (ma 35), .ref (ma 36), .ref (ma 37), .ref (ma 38), .ref (ma 39), .ref (ma 40), .ref (ma 41), .long 0])), ((ma 20), .inl (cy 1, 5, .inl (fun _ => 0))), ((ma 18), .inl (cy 1, 5, .inl (fun _ => 0))), ((ma 17), .inl (cy 1, 20, .inl (fun _ => 0)))] sz) (S := Unit) (fun v u => (∃ r : Int32, v = some (.int r) ∧ (r = (-2)))) (fun u => [])) (va_A [((ma 0), .inr (10, [.int 0, .ref (ma 1), .ref (ma 2), .ref (ma 3), .ref (ma 4), .ref (ma 5), .int 0, .int 0, .int 0, .int 0, .int 0, .long 0, .int 0, .int 0, .int 0, .int (-1), .ref (ma 16), .ref (ma 17), .ref (ma 18), .ref (ma 19), .ref (ma 20), .ref (ma 21), .ref (ma 22), .ref (ma 23), .ref (ma 24), .ref (ma 25), .ref (ma 26), .ref (ma 27), .ref (ma 28), .ref (ma 29), .ref (ma 30), .ref (ma 31), .ref (ma 32), .ref (ma 33), .ref (ma 34), .ref (ma 35), .ref (ma 36), .ref (ma 37), .ref (ma 38), .ref (ma 39), .ref (ma 40), .ref (ma 41), .long 0])), ((ma 20), .inl (cy 1, 5, .inl (fun _ => 0))), ((ma 18), .inl (cy 1, 5, .inl (fun _ => 0))), ((ma 17), .inl (cy 1, 20, .inl (fun _ => 0)))] sz) := by
  refine MM.of (by decide) (Nat.le_of_ble_eq_true rfl) ?_
  intro p e s m below meth c C hPW ls hl
  obtain ⟨hx, hb, hr, hml, hown, hts, hlocks, hK, hnm⟩ := C
  obtain ⟨rfl, hP, hD0⟩ := hPW
  have hD := hD0.self (sz := s.heap.size)
  have hA : ∀ q : Nat, s.heap.size ≤ q → (va_A [((ma 0), .inr (10, [.int 0, .ref (ma 1), .ref (ma 2), .ref (ma 3), .ref (ma 4), .ref (ma 5), .int 0, .int 0, .int 0, .int 0, .int 0, .long 0, .int 0, .int 0, .int 0, .int (-1), .ref (ma 16), .ref (ma 17), .ref (ma 18), .ref (ma 19), .ref (ma 20), .ref (ma 21), .ref (ma 22), .ref (ma 23), .ref (ma 24), .ref (ma 25), .ref (ma 26), .ref (ma 27), .ref (ma 28), .ref (ma 29), .ref (ma 30), .ref (ma 31), .ref (ma 32), .ref (ma 33), .ref (ma 34), .ref (ma 35), .ref (ma 36), .ref (ma 37), .ref (ma 38), .ref (ma 39), .ref (ma 40), .ref (ma 41), .long 0])), ((ma 20), .inl (cy 1, 5, .inl (fun _ => 0))), ((ma 18), .inl (cy 1, 5, .inl (fun _ => 0))), ((ma 17), .inl (cy 1, 20, .inl (fun _ => 0)))] s.heap.size) q := fun q h => Or.inr h
  have hS : va_S (va_A [((ma 0), .inr (10, [.int 0, .ref (ma 1), .ref (ma 2), .ref (ma 3), .ref (ma 4), .ref (ma 5), .int 0, .int 0, .int 0, .int 0, .int 0, .long 0, .int 0, .int 0, .int 0, .int (-1), .ref (ma 16), .ref (ma 17), .ref (ma 18), .ref (ma 19), .ref (ma 20), .ref (ma 21), .ref (ma 22), .ref (ma 23), .ref (ma 24), .ref (ma 25), .ref (ma 26), .ref (ma 27), .ref (ma 28), .ref (ma 29), .ref (ma 30), .ref (ma 31), .ref (ma 32), .ref (ma 33), .ref (ma 34), .ref (ma 35), .ref (ma 36), .ref (ma 37), .ref (ma 38), .ref (ma 39), .ref (ma 40), .ref (ma 41), .long 0])), ((ma 20), .inl (cy 1, 5, .inl (fun _ => 0))), ((ma 18), .inl (cy 1, 5, .inl (fun _ => 0))), ((ma 17), .inl (cy 1, 20, .inl (fun _ => 0)))] s.heap.size) s.heap s.heap [] := va_S.rf
  generalize va_A [((ma 0), .inr (10, [.int 0, .ref (ma 1), .ref (ma 2), .ref (ma 3), .ref (ma 4), .ref (ma 5), .int 0, .int 0, .int 0, .int 0, .int 0, .long 0, .int 0, .int 0, .int 0, .int (-1), .ref (ma 16), .ref (ma 17), .ref (ma 18), .ref (ma 19), .ref (ma 20), .ref (ma 21), .ref (ma 22), .ref (ma 23), .ref (ma 24), .ref (ma 25), .ref (ma 26), .ref (ma 27), .ref (ma 28), .ref (ma 29), .ref (ma 30), .ref (ma 31), .ref (ma 32), .ref (ma 33), .ref (ma 34), .ref (ma 35), .ref (ma 36), .ref (ma 37), .ref (ma 38), .ref (ma 39), .ref (ma 40), .ref (ma 41), .long 0])), ((ma 20), .inl (cy 1, 5, .inl (fun _ => 0))), ((ma 18), .inl (cy 1, 5, .inl (fun _ => 0))), ((ma 17), .inl (cy 1, 20, .inl (fun _ => 0)))] s.heap.size = A at hD hA hS ⊢
  have hP : va_P D vwCl [((ma 0), .inr (10, [.int 0, .ref (ma 1), .ref (ma 2), .ref (ma 3), .ref (ma 4), .ref (ma 5), .int 0, .int 0, .int 0, .int 0, .int 0, .long 0, .int 0, .int 0, .int 0, .int (-1), .ref (ma 16), .ref (ma 17), .ref (ma 18), .ref (ma 19), .ref (ma 20), .ref (ma 21), .ref (ma 22), .ref (ma 23), .ref (ma 24), .ref (ma 25), .ref (ma 26), .ref (ma 27), .ref (ma 28), .ref (ma 29), .ref (ma 30), .ref (ma 31), .ref (ma 32), .ref (ma 33), .ref (ma 34), .ref (ma 35), .ref (ma 36), .ref (ma 37), .ref (ma 38), .ref (ma 39), .ref (ma 40), .ref (ma 41), .long 0])), ((ma 20), .inl (cy 1, 5, .inl (fun _ => 0))), ((ma 18), .inl (cy 1, 5, .inl (fun _ => 0))), ((ma 17), .inl (cy 1, 20, .inl (fun _ => 0)))] s.heap := hP
  have hl : lv_has ls 6 [(0, .ref (ma 0)), (1, .int n0), (2, .int n1), (3, .int n2), (4, .int n3)] := hl
  refine lv_aload_n hx hb dX10_given_0 rfl (lv_at hl 0 rfl) ?_
  refine lv_iconst (v := 0) hx hb dX10_given_1 (by decide) ?_
  refine va_put (D := D) (ci := 10) (v := .int 0) (ty := tyX10 0) (C := RX10) (T := TX10) (N := 43) hx hb hts lay_X10 tyX10 tyX10_ok nmX10 hown hK.1 hP hD hS 0 rfl rfl 0 (by decide) (hts _ fl_X10_111) (fun _ h9 => h9) rfl (tyX10_ok 0 (by decide)) rfl rfl (Nat.le_of_ble_eq_true rfl) dX10_given_2 (fun H locs hP hD hS => ?_)
  have hP : va_P D vwCl [((ma 0), .inr (10, [.int 0, .ref (ma 1), .ref (ma 2), .ref (ma 3), .ref (ma 4), .ref (ma 5), .int 0, .int 0, .int 0, .int 0, .int 0, .long 0, .int 0, .int 0, .int 0, .int (-1), .ref (ma 16), .ref (ma 17), .ref (ma 18), .ref (ma 19), .ref (ma 20), .ref (ma 21), .ref (ma 22), .ref (ma 23), .ref (ma 24), .ref (ma 25), .ref (ma 26), .ref (ma 27), .ref (ma 28), .ref (ma 29), .ref (ma 30), .ref (ma 31), .ref (ma 32), .ref (ma 33), .ref (ma 34), .ref (ma 35), .ref (ma 36), .ref (ma 37), .ref (ma 38), .ref (ma 39), .ref (ma 40), .ref (ma 41), .long 0])), ((ma 20), .inl (cy 1, 5, .inl (fun _ => 0))), ((ma 18), .inl (cy 1, 5, .inl (fun _ => 0))), ((ma 17), .inl (cy 1, 20, .inl (fun _ => 0)))] H := hP
  have hD : va_D A [((ma 0), .inr (10, [.int 0, .ref (ma 1), .ref (ma 2), .ref (ma 3), .ref (ma 4), .ref (ma 5), .int 0, .int 0, .int 0, .int 0, .int 0, .long 0, .int 0, .int 0, .int 0, .int (-1), .ref (ma 16), .ref (ma 17), .ref (ma 18), .ref (ma 19), .ref (ma 20), .ref (ma 21), .ref (ma 22), .ref (ma 23), .ref (ma 24), .ref (ma 25), .ref (ma 26), .ref (ma 27), .ref (ma 28), .ref (ma 29), .ref (ma 30), .ref (ma 31), .ref (ma 32), .ref (ma 33), .ref (ma 34), .ref (ma 35), .ref (ma 36), .ref (ma 37), .ref (ma 38), .ref (ma 39), .ref (ma 40), .ref (ma 41), .long 0])), ((ma 20), .inl (cy 1, 5, .inl (fun _ => 0))), ((ma 18), .inl (cy 1, 5, .inl (fun _ => 0))), ((ma 17), .inl (cy 1, 20, .inl (fun _ => 0)))] := hD
  refine lv_aload_n hx hb dX10_given_5 rfl (lv_at hl 0 rfl) ?_
  refine lv_iload_n hx hb dX10_given_6 rfl (lv_at hl 1 rfl) ?_
  refine lv_iload_n hx hb dX10_given_7 rfl (lv_at hl 2 rfl) ?_
  refine lv_iload_n hx hb dX10_given_8 rfl (lv_at hl 3 rfl) ?_
  refine lv_iload hx hb dX10_given_9 (lv_at hl 4 rfl) ?_
  refine pu_calli (runV (As := [.int n0, .int n1, .int n2, .int n3]) (rest := []) ⟨hx, hb, hml, hown, hts⟩ (m_whyNot l D cy ma n0 n1 n2 n3 ) sV_X10_451 hK (va_recv hK.1 hP (ci := 10) (q0 := 0) rfl rfl) (hP.sub (ws' := [((ma 0), .inr (10, [.int 0, .ref (ma 1), .ref (ma 2), .ref (ma 3), .ref (ma 4), .ref (ma 5), .int 0, .int 0, .int 0, .int 0, .int 0, .long 0, .int 0, .int 0, .int 0, .int (-1), .ref (ma 16), .ref (ma 17), .ref (ma 18), .ref (ma 19), .ref (ma 20), .ref (ma 21), .ref (ma 22), .ref (ma 23), .ref (ma 24), .ref (ma 25), .ref (ma 26), .ref (ma 27), .ref (ma 28), .ref (ma 29), .ref (ma 30), .ref (ma 31), .ref (ma 32), .ref (ma 33), .ref (ma 34), .ref (ma 35), .ref (ma 36), .ref (ma 37), .ref (ma 38), .ref (ma 39), .ref (ma 40), .ref (ma 41), .long 0])), ((ma 20), .inl (cy 1, 5, .inl (fun _ => 0)))]) [0, 1] rfl) ⟨Nat.le_of_ble_eq_true rfl, Nat.le_of_ble_eq_true rfl⟩ rfl hl.1 rfl (Nat.le_of_ble_eq_true rfl) dX10_given_11 ⟨Nat.le_of_ble_eq_true rfl, Nat.le_of_ble_eq_true rfl⟩) (fun r_1 hr_1 => ?_)
  have er_1 := hr_1
  subst er_1
  refine W.eq (g2 := F0 m 14 ls [.int (-2)]) rfl ?_
  refine lv_istore (lv' := [(5, .int (-2)), (0, .ref (ma 0)), (1, .int n0), (2, .int n1), (3, .int n2), (4, .int n3)]) hx hb dX10_given_14 hl (by decide) rfl (fun ls hl => ?_)
  refine lv_iload hx hb dX10_given_16 (lv_at hl 0 rfl) ?_
  refine lv_if_eq (tgt := 26) hx hb dX10_given_18 (by decide) (fun c_2 => absurd c_2 (by decide)) (fun _ => ?_)
  refine lv_iload hx hb dX10_given_21 (lv_at hl 0 rfl) ?_
  refine lv_goto (tgt := 34) hx hb dX10_given_23 (by decide) ?_
  exact ret_i hx hb hr hlocks ⟨⟨hS.1, hS.2.1⟩, (), ⟨_, rfl, rfl⟩, hP.sub [] rfl, hD.sub [] (by decide) rfl⟩ hS.2.2 (Nat.le_of_ble_eq_true rfl) (Nat.le_of_ble_eq_true rfl) dX10_given_34
set_option maxHeartbeats 4000000 in
set_option maxRecDepth 100000 in
theorem g_X10_asks_ (l : Launch) (D : va_G) (cy : Nat → ClassId) (ma : Nat → Nat) (n0 : Int32) (n1 : Int32) (n2 : Int32) (n3 : Int32) (n4 : Int32) (sz : Nat) : MM l yX10_asks_ cX10_asks_ 7 (some .int) 2 0 0 D cy [.ref (ma 0), .int n0, .int n1, .int n2, .int n3, .int n4] (PW D [((ma 0), .inr (10, [.int 0, .ref (ma 1), .ref (ma 2), .ref (ma 3), .ref (ma 4), .ref (ma 5), .int 0, .int 0, .int 0, .int 0, .int 0, .long 0, .int 0, .int 0, .int 0, .int (-1), .ref (ma 16), .ref (ma 17), .ref (ma 18), .ref (ma 19), .ref (ma 20), .ref (ma 21), .ref (ma 22), .ref (ma 23), .ref (ma 24), .ref (ma 25), .ref (ma 26), .ref (ma 27), .ref (ma 28), .ref (ma 29), .ref (ma 30), .ref (ma 31), .ref (ma 32), .ref (ma 33), .ref (ma 34), .ref (ma 35), .ref (ma 36), .ref (ma 37), .ref (ma 38), .ref (ma 39), .ref (ma 40), .ref (ma 41), .long 0])), ((ma 20), .inl (cy 1, 5, .inl (fun _ => 0))), ((ma 18), .inl (cy 1, 5, .inl (fun _ => 0))), ((ma 17), .inl (cy 1, 20, .inl (fun _ => 0)))] sz) (QW D (va_A [((ma 0), .inr (10, [.int 0, .ref (ma 1), .ref (ma 2), .ref (ma 3), .ref (ma 4), .ref (ma 5), .int 0, .int 0, .int 0, .int 0, .int 0, .long 0, .int 0, .int 0, .int 0, .int (-1), .ref (ma 16), .ref (ma 17), .ref (ma 18), .ref (ma 19), .ref (ma 20), .ref (ma 21), .ref (ma 22), .ref (ma 23), .ref (ma 24), .ref (ma 25), .ref (ma 26), .ref (ma 27), .ref (ma 28), .ref (ma 29), .ref (ma 30), .ref (ma 31), .ref (ma 32), .ref (ma 33), .ref (ma 34), .ref (ma 35), .ref (ma 36), .ref (ma 37), .ref (ma 38), .ref (ma 39), .ref (ma 40), .ref (ma 41), .long 0])), ((ma 20), .inl (cy 1, 5, .inl (fun _ => 0))), ((ma 18), .inl (cy 1, 5, .inl (fun _ => 0))), ((ma 17), .inl (cy 1, 20, .inl (fun _ => 0)))] sz) (S := Unit) (fun v u => (∃ r : Int32, v = some (.int r) ∧ (r = (-2)))) (fun u => [])) (va_A [((ma 0), .inr (10, [.int 0, .ref (ma 1), .ref (ma 2), .ref (ma 3), .ref (ma 4), .ref (ma 5), .int 0, .int 0, .int 0, .int 0, .int 0, .long 0, .int 0, .int 0, .int 0, .int (-1), .ref (ma 16), .ref (ma 17), .ref (ma 18), .ref (ma 19), .ref (ma 20), .ref (ma 21), .ref (ma 22), .ref (ma 23), .ref (ma 24), .ref (ma 25), .ref (ma 26), .ref (ma 27), .ref (ma 28), .ref (ma 29), .ref (ma 30), .ref (ma 31), .ref (ma 32), .ref (ma 33), .ref (ma 34), .ref (ma 35), .ref (ma 36), .ref (ma 37), .ref (ma 38), .ref (ma 39), .ref (ma 40), .ref (ma 41), .long 0])), ((ma 20), .inl (cy 1, 5, .inl (fun _ => 0))), ((ma 18), .inl (cy 1, 5, .inl (fun _ => 0))), ((ma 17), .inl (cy 1, 20, .inl (fun _ => 0)))] sz) := by
  refine MM.of (by decide) (Nat.le_of_ble_eq_true rfl) ?_
  intro p e s m below meth c C hPW ls hl
  obtain ⟨hx, hb, hr, hml, hown, hts, hlocks, hK, hnm⟩ := C
  obtain ⟨rfl, hP, hD0⟩ := hPW
  have hD := hD0.self (sz := s.heap.size)
  have hA : ∀ q : Nat, s.heap.size ≤ q → (va_A [((ma 0), .inr (10, [.int 0, .ref (ma 1), .ref (ma 2), .ref (ma 3), .ref (ma 4), .ref (ma 5), .int 0, .int 0, .int 0, .int 0, .int 0, .long 0, .int 0, .int 0, .int 0, .int (-1), .ref (ma 16), .ref (ma 17), .ref (ma 18), .ref (ma 19), .ref (ma 20), .ref (ma 21), .ref (ma 22), .ref (ma 23), .ref (ma 24), .ref (ma 25), .ref (ma 26), .ref (ma 27), .ref (ma 28), .ref (ma 29), .ref (ma 30), .ref (ma 31), .ref (ma 32), .ref (ma 33), .ref (ma 34), .ref (ma 35), .ref (ma 36), .ref (ma 37), .ref (ma 38), .ref (ma 39), .ref (ma 40), .ref (ma 41), .long 0])), ((ma 20), .inl (cy 1, 5, .inl (fun _ => 0))), ((ma 18), .inl (cy 1, 5, .inl (fun _ => 0))), ((ma 17), .inl (cy 1, 20, .inl (fun _ => 0)))] s.heap.size) q := fun q h => Or.inr h
  have hS : va_S (va_A [((ma 0), .inr (10, [.int 0, .ref (ma 1), .ref (ma 2), .ref (ma 3), .ref (ma 4), .ref (ma 5), .int 0, .int 0, .int 0, .int 0, .int 0, .long 0, .int 0, .int 0, .int 0, .int (-1), .ref (ma 16), .ref (ma 17), .ref (ma 18), .ref (ma 19), .ref (ma 20), .ref (ma 21), .ref (ma 22), .ref (ma 23), .ref (ma 24), .ref (ma 25), .ref (ma 26), .ref (ma 27), .ref (ma 28), .ref (ma 29), .ref (ma 30), .ref (ma 31), .ref (ma 32), .ref (ma 33), .ref (ma 34), .ref (ma 35), .ref (ma 36), .ref (ma 37), .ref (ma 38), .ref (ma 39), .ref (ma 40), .ref (ma 41), .long 0])), ((ma 20), .inl (cy 1, 5, .inl (fun _ => 0))), ((ma 18), .inl (cy 1, 5, .inl (fun _ => 0))), ((ma 17), .inl (cy 1, 20, .inl (fun _ => 0)))] s.heap.size) s.heap s.heap [] := va_S.rf
  generalize va_A [((ma 0), .inr (10, [.int 0, .ref (ma 1), .ref (ma 2), .ref (ma 3), .ref (ma 4), .ref (ma 5), .int 0, .int 0, .int 0, .int 0, .int 0, .long 0, .int 0, .int 0, .int 0, .int (-1), .ref (ma 16), .ref (ma 17), .ref (ma 18), .ref (ma 19), .ref (ma 20), .ref (ma 21), .ref (ma 22), .ref (ma 23), .ref (ma 24), .ref (ma 25), .ref (ma 26), .ref (ma 27), .ref (ma 28), .ref (ma 29), .ref (ma 30), .ref (ma 31), .ref (ma 32), .ref (ma 33), .ref (ma 34), .ref (ma 35), .ref (ma 36), .ref (ma 37), .ref (ma 38), .ref (ma 39), .ref (ma 40), .ref (ma 41), .long 0])), ((ma 20), .inl (cy 1, 5, .inl (fun _ => 0))), ((ma 18), .inl (cy 1, 5, .inl (fun _ => 0))), ((ma 17), .inl (cy 1, 20, .inl (fun _ => 0)))] s.heap.size = A at hD hA hS ⊢
  have hP : va_P D vwCl [((ma 0), .inr (10, [.int 0, .ref (ma 1), .ref (ma 2), .ref (ma 3), .ref (ma 4), .ref (ma 5), .int 0, .int 0, .int 0, .int 0, .int 0, .long 0, .int 0, .int 0, .int 0, .int (-1), .ref (ma 16), .ref (ma 17), .ref (ma 18), .ref (ma 19), .ref (ma 20), .ref (ma 21), .ref (ma 22), .ref (ma 23), .ref (ma 24), .ref (ma 25), .ref (ma 26), .ref (ma 27), .ref (ma 28), .ref (ma 29), .ref (ma 30), .ref (ma 31), .ref (ma 32), .ref (ma 33), .ref (ma 34), .ref (ma 35), .ref (ma 36), .ref (ma 37), .ref (ma 38), .ref (ma 39), .ref (ma 40), .ref (ma 41), .long 0])), ((ma 20), .inl (cy 1, 5, .inl (fun _ => 0))), ((ma 18), .inl (cy 1, 5, .inl (fun _ => 0))), ((ma 17), .inl (cy 1, 20, .inl (fun _ => 0)))] s.heap := hP
  have hl : lv_has ls 7 [(0, .ref (ma 0)), (1, .int n0), (2, .int n1), (3, .int n2), (4, .int n3), (5, .int n4)] := hl
  refine lv_aload_n hx hb dX10_asks__0 rfl (lv_at hl 0 rfl) ?_
  refine lv_iconst (v := 0) hx hb dX10_asks__1 (by decide) ?_
  refine va_put (D := D) (ci := 10) (v := .int 0) (ty := tyX10 0) (C := RX10) (T := TX10) (N := 43) hx hb hts lay_X10 tyX10 tyX10_ok nmX10 hown hK.1 hP hD hS 0 rfl rfl 0 (by decide) (hts _ fl_X10_111) (fun _ h9 => h9) rfl (tyX10_ok 0 (by decide)) rfl rfl (Nat.le_of_ble_eq_true rfl) dX10_asks__2 (fun H locs hP hD hS => ?_)
  have hP : va_P D vwCl [((ma 0), .inr (10, [.int 0, .ref (ma 1), .ref (ma 2), .ref (ma 3), .ref (ma 4), .ref (ma 5), .int 0, .int 0, .int 0, .int 0, .int 0, .long 0, .int 0, .int 0, .int 0, .int (-1), .ref (ma 16), .ref (ma 17), .ref (ma 18), .ref (ma 19), .ref (ma 20), .ref (ma 21), .ref (ma 22), .ref (ma 23), .ref (ma 24), .ref (ma 25), .ref (ma 26), .ref (ma 27), .ref (ma 28), .ref (ma 29), .ref (ma 30), .ref (ma 31), .ref (ma 32), .ref (ma 33), .ref (ma 34), .ref (ma 35), .ref (ma 36), .ref (ma 37), .ref (ma 38), .ref (ma 39), .ref (ma 40), .ref (ma 41), .long 0])), ((ma 20), .inl (cy 1, 5, .inl (fun _ => 0))), ((ma 18), .inl (cy 1, 5, .inl (fun _ => 0))), ((ma 17), .inl (cy 1, 20, .inl (fun _ => 0)))] H := hP
  have hD : va_D A [((ma 0), .inr (10, [.int 0, .ref (ma 1), .ref (ma 2), .ref (ma 3), .ref (ma 4), .ref (ma 5), .int 0, .int 0, .int 0, .int 0, .int 0, .long 0, .int 0, .int 0, .int 0, .int (-1), .ref (ma 16), .ref (ma 17), .ref (ma 18), .ref (ma 19), .ref (ma 20), .ref (ma 21), .ref (ma 22), .ref (ma 23), .ref (ma 24), .ref (ma 25), .ref (ma 26), .ref (ma 27), .ref (ma 28), .ref (ma 29), .ref (ma 30), .ref (ma 31), .ref (ma 32), .ref (ma 33), .ref (ma 34), .ref (ma 35), .ref (ma 36), .ref (ma 37), .ref (ma 38), .ref (ma 39), .ref (ma 40), .ref (ma 41), .long 0])), ((ma 20), .inl (cy 1, 5, .inl (fun _ => 0))), ((ma 18), .inl (cy 1, 5, .inl (fun _ => 0))), ((ma 17), .inl (cy 1, 20, .inl (fun _ => 0)))] := hD
  refine lv_aload_n hx hb dX10_asks__5 rfl (lv_at hl 0 rfl) ?_
  refine lv_iload hx hb dX10_asks__6 (lv_at hl 5 rfl) ?_
  refine pu_calli (runV (As := [.int n4]) (rest := []) ⟨hx, hb, hml, hown, hts⟩ (m_isThing l D cy ma n4 ) sV_X10_350 hK (va_recv hK.1 hP (ci := 10) (q0 := 0) rfl rfl) (hP.sub (ws' := [((ma 0), .inr (10, [.int 0, .ref (ma 1), .ref (ma 2), .ref (ma 3), .ref (ma 4), .ref (ma 5), .int 0, .int 0, .int 0, .int 0, .int 0, .long 0, .int 0, .int 0, .int 0, .int (-1), .ref (ma 16), .ref (ma 17), .ref (ma 18), .ref (ma 19), .ref (ma 20), .ref (ma 21), .ref (ma 22), .ref (ma 23), .ref (ma 24), .ref (ma 25), .ref (ma 26), .ref (ma 27), .ref (ma 28), .ref (ma 29), .ref (ma 30), .ref (ma 31), .ref (ma 32), .ref (ma 33), .ref (ma 34), .ref (ma 35), .ref (ma 36), .ref (ma 37), .ref (ma 38), .ref (ma 39), .ref (ma 40), .ref (ma 41), .long 0])), ((ma 18), .inl (cy 1, 5, .inl (fun _ => 0)))]) [0, 2] rfl) ⟨Nat.le_of_ble_eq_true rfl, Nat.le_of_ble_eq_true rfl⟩ rfl hl.1 rfl (Nat.le_of_ble_eq_true rfl) dX10_asks__8 ⟨Nat.le_of_ble_eq_true rfl, Nat.le_of_ble_eq_true rfl⟩) (fun r_1 hr_1 => ?_)
  have er_1 := hr_1
  subst er_1
  refine W.eq (g2 := F0 m 11 ls [.int 0]) rfl ?_
  refine lv_if_ne (tgt := 17) hx hb dX10_asks__11 (by decide) (fun c_2 => absurd c_2 (by decide)) (fun _ => ?_)
  refine lv_bipush (v := (-2)) hx hb dX10_asks__14 (by decide) ?_
  exact ret_i hx hb hr hlocks ⟨⟨hS.1, hS.2.1⟩, (), ⟨_, rfl, rfl⟩, hP.sub [] rfl, hD.sub [] (by decide) rfl⟩ hS.2.2 (Nat.le_of_ble_eq_true rfl) (Nat.le_of_ble_eq_true rfl) dX10_asks__16
set_option maxHeartbeats 4000000 in
set_option maxRecDepth 100000 in
theorem g_X10_pays (l : Launch) (D : va_G) (cy : Nat → ClassId) (ma : Nat → Nat) (n0 : Int32) (n1 : Int32) (n2 : Int32) (n3 : Int32) (n4 : Int32) (sz : Nat) : MM l yX10_pays cX10_pays 9 (some .long) 2 0 0 D cy [.ref (ma 0), .int n0, .int n1, .int n2, .int n3, .int n4] (PW D [((ma 0), .inr (10, [.int 0, .ref (ma 1), .ref (ma 2), .ref (ma 3), .ref (ma 4), .ref (ma 5), .int 0, .int 0, .int 0, .int 0, .int 0, .long 0, .int 0, .int 0, .int 0, .int (-1), .ref (ma 16), .ref (ma 17), .ref (ma 18), .ref (ma 19), .ref (ma 20), .ref (ma 21), .ref (ma 22), .ref (ma 23), .ref (ma 24), .ref (ma 25), .ref (ma 26), .ref (ma 27), .ref (ma 28), .ref (ma 29), .ref (ma 30), .ref (ma 31), .ref (ma 32), .ref (ma 33), .ref (ma 34), .ref (ma 35), .ref (ma 36), .ref (ma 37), .ref (ma 38), .ref (ma 39), .ref (ma 40), .ref (ma 41), .long 0])), ((ma 20), .inl (cy 1, 5, .inl (fun _ => 0))), ((ma 18), .inl (cy 1, 5, .inl (fun _ => 0))), ((ma 17), .inl (cy 1, 20, .inl (fun _ => 0)))] sz) (QW D (va_A [((ma 0), .inr (10, [.int 0, .ref (ma 1), .ref (ma 2), .ref (ma 3), .ref (ma 4), .ref (ma 5), .int 0, .int 0, .int 0, .int 0, .int 0, .long 0, .int 0, .int 0, .int 0, .int (-1), .ref (ma 16), .ref (ma 17), .ref (ma 18), .ref (ma 19), .ref (ma 20), .ref (ma 21), .ref (ma 22), .ref (ma 23), .ref (ma 24), .ref (ma 25), .ref (ma 26), .ref (ma 27), .ref (ma 28), .ref (ma 29), .ref (ma 30), .ref (ma 31), .ref (ma 32), .ref (ma 33), .ref (ma 34), .ref (ma 35), .ref (ma 36), .ref (ma 37), .ref (ma 38), .ref (ma 39), .ref (ma 40), .ref (ma 41), .long 0])), ((ma 20), .inl (cy 1, 5, .inl (fun _ => 0))), ((ma 18), .inl (cy 1, 5, .inl (fun _ => 0))), ((ma 17), .inl (cy 1, 20, .inl (fun _ => 0)))] sz) (S := Unit) (fun v u => (∃ r : Int64, v = some (.long r) ∧ (r = (-2)))) (fun u => [])) (va_A [((ma 0), .inr (10, [.int 0, .ref (ma 1), .ref (ma 2), .ref (ma 3), .ref (ma 4), .ref (ma 5), .int 0, .int 0, .int 0, .int 0, .int 0, .long 0, .int 0, .int 0, .int 0, .int (-1), .ref (ma 16), .ref (ma 17), .ref (ma 18), .ref (ma 19), .ref (ma 20), .ref (ma 21), .ref (ma 22), .ref (ma 23), .ref (ma 24), .ref (ma 25), .ref (ma 26), .ref (ma 27), .ref (ma 28), .ref (ma 29), .ref (ma 30), .ref (ma 31), .ref (ma 32), .ref (ma 33), .ref (ma 34), .ref (ma 35), .ref (ma 36), .ref (ma 37), .ref (ma 38), .ref (ma 39), .ref (ma 40), .ref (ma 41), .long 0])), ((ma 20), .inl (cy 1, 5, .inl (fun _ => 0))), ((ma 18), .inl (cy 1, 5, .inl (fun _ => 0))), ((ma 17), .inl (cy 1, 20, .inl (fun _ => 0)))] sz) := by
  refine MM.of (by decide) (Nat.le_of_ble_eq_true rfl) ?_
  intro p e s m below meth c C hPW ls hl
  obtain ⟨hx, hb, hr, hml, hown, hts, hlocks, hK, hnm⟩ := C
  obtain ⟨rfl, hP, hD0⟩ := hPW
  have hD := hD0.self (sz := s.heap.size)
  have hA : ∀ q : Nat, s.heap.size ≤ q → (va_A [((ma 0), .inr (10, [.int 0, .ref (ma 1), .ref (ma 2), .ref (ma 3), .ref (ma 4), .ref (ma 5), .int 0, .int 0, .int 0, .int 0, .int 0, .long 0, .int 0, .int 0, .int 0, .int (-1), .ref (ma 16), .ref (ma 17), .ref (ma 18), .ref (ma 19), .ref (ma 20), .ref (ma 21), .ref (ma 22), .ref (ma 23), .ref (ma 24), .ref (ma 25), .ref (ma 26), .ref (ma 27), .ref (ma 28), .ref (ma 29), .ref (ma 30), .ref (ma 31), .ref (ma 32), .ref (ma 33), .ref (ma 34), .ref (ma 35), .ref (ma 36), .ref (ma 37), .ref (ma 38), .ref (ma 39), .ref (ma 40), .ref (ma 41), .long 0])), ((ma 20), .inl (cy 1, 5, .inl (fun _ => 0))), ((ma 18), .inl (cy 1, 5, .inl (fun _ => 0))), ((ma 17), .inl (cy 1, 20, .inl (fun _ => 0)))] s.heap.size) q := fun q h => Or.inr h
  have hS : va_S (va_A [((ma 0), .inr (10, [.int 0, .ref (ma 1), .ref (ma 2), .ref (ma 3), .ref (ma 4), .ref (ma 5), .int 0, .int 0, .int 0, .int 0, .int 0, .long 0, .int 0, .int 0, .int 0, .int (-1), .ref (ma 16), .ref (ma 17), .ref (ma 18), .ref (ma 19), .ref (ma 20), .ref (ma 21), .ref (ma 22), .ref (ma 23), .ref (ma 24), .ref (ma 25), .ref (ma 26), .ref (ma 27), .ref (ma 28), .ref (ma 29), .ref (ma 30), .ref (ma 31), .ref (ma 32), .ref (ma 33), .ref (ma 34), .ref (ma 35), .ref (ma 36), .ref (ma 37), .ref (ma 38), .ref (ma 39), .ref (ma 40), .ref (ma 41), .long 0])), ((ma 20), .inl (cy 1, 5, .inl (fun _ => 0))), ((ma 18), .inl (cy 1, 5, .inl (fun _ => 0))), ((ma 17), .inl (cy 1, 20, .inl (fun _ => 0)))] s.heap.size) s.heap s.heap [] := va_S.rf
  generalize va_A [((ma 0), .inr (10, [.int 0, .ref (ma 1), .ref (ma 2), .ref (ma 3), .ref (ma 4), .ref (ma 5), .int 0, .int 0, .int 0, .int 0, .int 0, .long 0, .int 0, .int 0, .int 0, .int (-1), .ref (ma 16), .ref (ma 17), .ref (ma 18), .ref (ma 19), .ref (ma 20), .ref (ma 21), .ref (ma 22), .ref (ma 23), .ref (ma 24), .ref (ma 25), .ref (ma 26), .ref (ma 27), .ref (ma 28), .ref (ma 29), .ref (ma 30), .ref (ma 31), .ref (ma 32), .ref (ma 33), .ref (ma 34), .ref (ma 35), .ref (ma 36), .ref (ma 37), .ref (ma 38), .ref (ma 39), .ref (ma 40), .ref (ma 41), .long 0])), ((ma 20), .inl (cy 1, 5, .inl (fun _ => 0))), ((ma 18), .inl (cy 1, 5, .inl (fun _ => 0))), ((ma 17), .inl (cy 1, 20, .inl (fun _ => 0)))] s.heap.size = A at hD hA hS ⊢
  have hP : va_P D vwCl [((ma 0), .inr (10, [.int 0, .ref (ma 1), .ref (ma 2), .ref (ma 3), .ref (ma 4), .ref (ma 5), .int 0, .int 0, .int 0, .int 0, .int 0, .long 0, .int 0, .int 0, .int 0, .int (-1), .ref (ma 16), .ref (ma 17), .ref (ma 18), .ref (ma 19), .ref (ma 20), .ref (ma 21), .ref (ma 22), .ref (ma 23), .ref (ma 24), .ref (ma 25), .ref (ma 26), .ref (ma 27), .ref (ma 28), .ref (ma 29), .ref (ma 30), .ref (ma 31), .ref (ma 32), .ref (ma 33), .ref (ma 34), .ref (ma 35), .ref (ma 36), .ref (ma 37), .ref (ma 38), .ref (ma 39), .ref (ma 40), .ref (ma 41), .long 0])), ((ma 20), .inl (cy 1, 5, .inl (fun _ => 0))), ((ma 18), .inl (cy 1, 5, .inl (fun _ => 0))), ((ma 17), .inl (cy 1, 20, .inl (fun _ => 0)))] s.heap := hP
  have hl : lv_has ls 9 [(0, .ref (ma 0)), (1, .int n0), (2, .int n1), (3, .int n2), (4, .int n3), (5, .int n4)] := hl
  refine lv_aload_n hx hb dX10_pays_0 rfl (lv_at hl 0 rfl) ?_
  refine lv_iconst (v := 0) hx hb dX10_pays_1 (by decide) ?_
  refine va_put (D := D) (ci := 10) (v := .int 0) (ty := tyX10 0) (C := RX10) (T := TX10) (N := 43) hx hb hts lay_X10 tyX10 tyX10_ok nmX10 hown hK.1 hP hD hS 0 rfl rfl 0 (by decide) (hts _ fl_X10_111) (fun _ h9 => h9) rfl (tyX10_ok 0 (by decide)) rfl rfl (Nat.le_of_ble_eq_true rfl) dX10_pays_2 (fun H locs hP hD hS => ?_)
  have hP : va_P D vwCl [((ma 0), .inr (10, [.int 0, .ref (ma 1), .ref (ma 2), .ref (ma 3), .ref (ma 4), .ref (ma 5), .int 0, .int 0, .int 0, .int 0, .int 0, .long 0, .int 0, .int 0, .int 0, .int (-1), .ref (ma 16), .ref (ma 17), .ref (ma 18), .ref (ma 19), .ref (ma 20), .ref (ma 21), .ref (ma 22), .ref (ma 23), .ref (ma 24), .ref (ma 25), .ref (ma 26), .ref (ma 27), .ref (ma 28), .ref (ma 29), .ref (ma 30), .ref (ma 31), .ref (ma 32), .ref (ma 33), .ref (ma 34), .ref (ma 35), .ref (ma 36), .ref (ma 37), .ref (ma 38), .ref (ma 39), .ref (ma 40), .ref (ma 41), .long 0])), ((ma 20), .inl (cy 1, 5, .inl (fun _ => 0))), ((ma 18), .inl (cy 1, 5, .inl (fun _ => 0))), ((ma 17), .inl (cy 1, 20, .inl (fun _ => 0)))] H := hP
  have hD : va_D A [((ma 0), .inr (10, [.int 0, .ref (ma 1), .ref (ma 2), .ref (ma 3), .ref (ma 4), .ref (ma 5), .int 0, .int 0, .int 0, .int 0, .int 0, .long 0, .int 0, .int 0, .int 0, .int (-1), .ref (ma 16), .ref (ma 17), .ref (ma 18), .ref (ma 19), .ref (ma 20), .ref (ma 21), .ref (ma 22), .ref (ma 23), .ref (ma 24), .ref (ma 25), .ref (ma 26), .ref (ma 27), .ref (ma 28), .ref (ma 29), .ref (ma 30), .ref (ma 31), .ref (ma 32), .ref (ma 33), .ref (ma 34), .ref (ma 35), .ref (ma 36), .ref (ma 37), .ref (ma 38), .ref (ma 39), .ref (ma 40), .ref (ma 41), .long 0])), ((ma 20), .inl (cy 1, 5, .inl (fun _ => 0))), ((ma 18), .inl (cy 1, 5, .inl (fun _ => 0))), ((ma 17), .inl (cy 1, 20, .inl (fun _ => 0)))] := hD
  refine lv_aload_n hx hb dX10_pays_5 rfl (lv_at hl 0 rfl) ?_
  refine lv_iload hx hb dX10_pays_6 (lv_at hl 5 rfl) ?_
  refine pu_calli (runV (As := [.int n4]) (rest := []) ⟨hx, hb, hml, hown, hts⟩ (m_isThing l D cy ma n4 ) sV_X10_350 hK (va_recv hK.1 hP (ci := 10) (q0 := 0) rfl rfl) (hP.sub (ws' := [((ma 0), .inr (10, [.int 0, .ref (ma 1), .ref (ma 2), .ref (ma 3), .ref (ma 4), .ref (ma 5), .int 0, .int 0, .int 0, .int 0, .int 0, .long 0, .int 0, .int 0, .int 0, .int (-1), .ref (ma 16), .ref (ma 17), .ref (ma 18), .ref (ma 19), .ref (ma 20), .ref (ma 21), .ref (ma 22), .ref (ma 23), .ref (ma 24), .ref (ma 25), .ref (ma 26), .ref (ma 27), .ref (ma 28), .ref (ma 29), .ref (ma 30), .ref (ma 31), .ref (ma 32), .ref (ma 33), .ref (ma 34), .ref (ma 35), .ref (ma 36), .ref (ma 37), .ref (ma 38), .ref (ma 39), .ref (ma 40), .ref (ma 41), .long 0])), ((ma 18), .inl (cy 1, 5, .inl (fun _ => 0)))]) [0, 2] rfl) ⟨Nat.le_of_ble_eq_true rfl, Nat.le_of_ble_eq_true rfl⟩ rfl hl.1 rfl (Nat.le_of_ble_eq_true rfl) dX10_pays_8 ⟨Nat.le_of_ble_eq_true rfl, Nat.le_of_ble_eq_true rfl⟩) (fun r_1 hr_1 => ?_)
  have er_1 := hr_1
  subst er_1
  refine W.eq (g2 := F0 m 11 ls [.int 0]) rfl ?_
  refine lv_if_ne (tgt := 18) hx hb dX10_pays_11 (by decide) (fun c_2 => absurd c_2 (by decide)) (fun _ => ?_)
  refine lv_ldc2 (v := (-2)) hx hb hown (hts _ kl_X10_300) dX10_pays_14 ?_
  exact ret_l hx hb hr hlocks ⟨⟨hS.1, hS.2.1⟩, (), ⟨_, rfl, rfl⟩, hP.sub [] rfl, hD.sub [] (by decide) rfl⟩ hS.2.2 (Nat.le_of_ble_eq_true rfl) (Nat.le_of_ble_eq_true rfl) dX10_pays_17
set_option maxHeartbeats 4000000 in
set_option maxRecDepth 100000 in
theorem g_X10_burnt (l : Launch) (D : va_G) (cy : Nat → ClassId) (ma : Nat → Nat) (n0 : Int32) (n1 : Int32) (n2 : Int32) (n3 : Int32) (sz : Nat) : MM l yX10_burnt cX10_burnt 5 (some .long) 3 0 0 D cy [.ref (ma 0), .int n0, .int n1, .int n2, .int n3] (PW D [((ma 0), .inr (10, [.int 0, .ref (ma 1), .ref (ma 2), .ref (ma 3), .ref (ma 4), .ref (ma 5), .int 0, .int 0, .int 0, .int 0, .int 0, .long 0, .int 0, .int 0, .int 0, .int (-1), .ref (ma 16), .ref (ma 17), .ref (ma 18), .ref (ma 19), .ref (ma 20), .ref (ma 21), .ref (ma 22), .ref (ma 23), .ref (ma 24), .ref (ma 25), .ref (ma 26), .ref (ma 27), .ref (ma 28), .ref (ma 29), .ref (ma 30), .ref (ma 31), .ref (ma 32), .ref (ma 33), .ref (ma 34), .ref (ma 35), .ref (ma 36), .ref (ma 37), .ref (ma 38), .ref (ma 39), .ref (ma 40), .ref (ma 41), .long 0])), ((ma 20), .inl (cy 1, 5, .inl (fun _ => 0))), ((ma 18), .inl (cy 1, 5, .inl (fun _ => 0))), ((ma 17), .inl (cy 1, 20, .inl (fun _ => 0)))] sz) (QW D (va_A [((ma 0), .inr (10, [.int 0, .ref (ma 1), .ref (ma 2), .ref (ma 3), .ref (ma 4), .ref (ma 5), .int 0, .int 0, .int 0, .int 0, .int 0, .long 0, .int 0, .int 0, .int 0, .int (-1), .ref (ma 16), .ref (ma 17), .ref (ma 18), .ref (ma 19), .ref (ma 20), .ref (ma 21), .ref (ma 22), .ref (ma 23), .ref (ma 24), .ref (ma 25), .ref (ma 26), .ref (ma 27), .ref (ma 28), .ref (ma 29), .ref (ma 30), .ref (ma 31), .ref (ma 32), .ref (ma 33), .ref (ma 34), .ref (ma 35), .ref (ma 36), .ref (ma 37), .ref (ma 38), .ref (ma 39), .ref (ma 40), .ref (ma 41), .long 0])), ((ma 20), .inl (cy 1, 5, .inl (fun _ => 0))), ((ma 18), .inl (cy 1, 5, .inl (fun _ => 0))), ((ma 17), .inl (cy 1, 20, .inl (fun _ => 0)))] sz) (S := Unit) (fun v u => (∃ r : Int64, v = some (.long r) ∧ (r = (-2)))) (fun u => [])) (va_A [((ma 0), .inr (10, [.int 0, .ref (ma 1), .ref (ma 2), .ref (ma 3), .ref (ma 4), .ref (ma 5), .int 0, .int 0, .int 0, .int 0, .int 0, .long 0, .int 0, .int 0, .int 0, .int (-1), .ref (ma 16), .ref (ma 17), .ref (ma 18), .ref (ma 19), .ref (ma 20), .ref (ma 21), .ref (ma 22), .ref (ma 23), .ref (ma 24), .ref (ma 25), .ref (ma 26), .ref (ma 27), .ref (ma 28), .ref (ma 29), .ref (ma 30), .ref (ma 31), .ref (ma 32), .ref (ma 33), .ref (ma 34), .ref (ma 35), .ref (ma 36), .ref (ma 37), .ref (ma 38), .ref (ma 39), .ref (ma 40), .ref (ma 41), .long 0])), ((ma 20), .inl (cy 1, 5, .inl (fun _ => 0))), ((ma 18), .inl (cy 1, 5, .inl (fun _ => 0))), ((ma 17), .inl (cy 1, 20, .inl (fun _ => 0)))] sz) := by
  refine MM.of (by decide) (Nat.le_of_ble_eq_true rfl) ?_
  intro p e s m below meth c C hPW ls hl
  obtain ⟨hx, hb, hr, hml, hown, hts, hlocks, hK, hnm⟩ := C
  obtain ⟨rfl, hP, hD0⟩ := hPW
  have hD := hD0.self (sz := s.heap.size)
  have hA : ∀ q : Nat, s.heap.size ≤ q → (va_A [((ma 0), .inr (10, [.int 0, .ref (ma 1), .ref (ma 2), .ref (ma 3), .ref (ma 4), .ref (ma 5), .int 0, .int 0, .int 0, .int 0, .int 0, .long 0, .int 0, .int 0, .int 0, .int (-1), .ref (ma 16), .ref (ma 17), .ref (ma 18), .ref (ma 19), .ref (ma 20), .ref (ma 21), .ref (ma 22), .ref (ma 23), .ref (ma 24), .ref (ma 25), .ref (ma 26), .ref (ma 27), .ref (ma 28), .ref (ma 29), .ref (ma 30), .ref (ma 31), .ref (ma 32), .ref (ma 33), .ref (ma 34), .ref (ma 35), .ref (ma 36), .ref (ma 37), .ref (ma 38), .ref (ma 39), .ref (ma 40), .ref (ma 41), .long 0])), ((ma 20), .inl (cy 1, 5, .inl (fun _ => 0))), ((ma 18), .inl (cy 1, 5, .inl (fun _ => 0))), ((ma 17), .inl (cy 1, 20, .inl (fun _ => 0)))] s.heap.size) q := fun q h => Or.inr h
  have hS : va_S (va_A [((ma 0), .inr (10, [.int 0, .ref (ma 1), .ref (ma 2), .ref (ma 3), .ref (ma 4), .ref (ma 5), .int 0, .int 0, .int 0, .int 0, .int 0, .long 0, .int 0, .int 0, .int 0, .int (-1), .ref (ma 16), .ref (ma 17), .ref (ma 18), .ref (ma 19), .ref (ma 20), .ref (ma 21), .ref (ma 22), .ref (ma 23), .ref (ma 24), .ref (ma 25), .ref (ma 26), .ref (ma 27), .ref (ma 28), .ref (ma 29), .ref (ma 30), .ref (ma 31), .ref (ma 32), .ref (ma 33), .ref (ma 34), .ref (ma 35), .ref (ma 36), .ref (ma 37), .ref (ma 38), .ref (ma 39), .ref (ma 40), .ref (ma 41), .long 0])), ((ma 20), .inl (cy 1, 5, .inl (fun _ => 0))), ((ma 18), .inl (cy 1, 5, .inl (fun _ => 0))), ((ma 17), .inl (cy 1, 20, .inl (fun _ => 0)))] s.heap.size) s.heap s.heap [] := va_S.rf
  generalize va_A [((ma 0), .inr (10, [.int 0, .ref (ma 1), .ref (ma 2), .ref (ma 3), .ref (ma 4), .ref (ma 5), .int 0, .int 0, .int 0, .int 0, .int 0, .long 0, .int 0, .int 0, .int 0, .int (-1), .ref (ma 16), .ref (ma 17), .ref (ma 18), .ref (ma 19), .ref (ma 20), .ref (ma 21), .ref (ma 22), .ref (ma 23), .ref (ma 24), .ref (ma 25), .ref (ma 26), .ref (ma 27), .ref (ma 28), .ref (ma 29), .ref (ma 30), .ref (ma 31), .ref (ma 32), .ref (ma 33), .ref (ma 34), .ref (ma 35), .ref (ma 36), .ref (ma 37), .ref (ma 38), .ref (ma 39), .ref (ma 40), .ref (ma 41), .long 0])), ((ma 20), .inl (cy 1, 5, .inl (fun _ => 0))), ((ma 18), .inl (cy 1, 5, .inl (fun _ => 0))), ((ma 17), .inl (cy 1, 20, .inl (fun _ => 0)))] s.heap.size = A at hD hA hS ⊢
  have hP : va_P D vwCl [((ma 0), .inr (10, [.int 0, .ref (ma 1), .ref (ma 2), .ref (ma 3), .ref (ma 4), .ref (ma 5), .int 0, .int 0, .int 0, .int 0, .int 0, .long 0, .int 0, .int 0, .int 0, .int (-1), .ref (ma 16), .ref (ma 17), .ref (ma 18), .ref (ma 19), .ref (ma 20), .ref (ma 21), .ref (ma 22), .ref (ma 23), .ref (ma 24), .ref (ma 25), .ref (ma 26), .ref (ma 27), .ref (ma 28), .ref (ma 29), .ref (ma 30), .ref (ma 31), .ref (ma 32), .ref (ma 33), .ref (ma 34), .ref (ma 35), .ref (ma 36), .ref (ma 37), .ref (ma 38), .ref (ma 39), .ref (ma 40), .ref (ma 41), .long 0])), ((ma 20), .inl (cy 1, 5, .inl (fun _ => 0))), ((ma 18), .inl (cy 1, 5, .inl (fun _ => 0))), ((ma 17), .inl (cy 1, 20, .inl (fun _ => 0)))] s.heap := hP
  have hl : lv_has ls 5 [(0, .ref (ma 0)), (1, .int n0), (2, .int n1), (3, .int n2), (4, .int n3)] := hl
  refine lv_aload_n hx hb dX10_burnt_0 rfl (lv_at hl 0 rfl) ?_
  refine lv_iconst (v := 0) hx hb dX10_burnt_1 (by decide) ?_
  refine va_put (D := D) (ci := 10) (v := .int 0) (ty := tyX10 0) (C := RX10) (T := TX10) (N := 43) hx hb hts lay_X10 tyX10 tyX10_ok nmX10 hown hK.1 hP hD hS 0 rfl rfl 0 (by decide) (hts _ fl_X10_111) (fun _ h9 => h9) rfl (tyX10_ok 0 (by decide)) rfl rfl (Nat.le_of_ble_eq_true rfl) dX10_burnt_2 (fun H locs hP hD hS => ?_)
  have hP : va_P D vwCl [((ma 0), .inr (10, [.int 0, .ref (ma 1), .ref (ma 2), .ref (ma 3), .ref (ma 4), .ref (ma 5), .int 0, .int 0, .int 0, .int 0, .int 0, .long 0, .int 0, .int 0, .int 0, .int (-1), .ref (ma 16), .ref (ma 17), .ref (ma 18), .ref (ma 19), .ref (ma 20), .ref (ma 21), .ref (ma 22), .ref (ma 23), .ref (ma 24), .ref (ma 25), .ref (ma 26), .ref (ma 27), .ref (ma 28), .ref (ma 29), .ref (ma 30), .ref (ma 31), .ref (ma 32), .ref (ma 33), .ref (ma 34), .ref (ma 35), .ref (ma 36), .ref (ma 37), .ref (ma 38), .ref (ma 39), .ref (ma 40), .ref (ma 41), .long 0])), ((ma 20), .inl (cy 1, 5, .inl (fun _ => 0))), ((ma 18), .inl (cy 1, 5, .inl (fun _ => 0))), ((ma 17), .inl (cy 1, 20, .inl (fun _ => 0)))] H := hP
  have hD : va_D A [((ma 0), .inr (10, [.int 0, .ref (ma 1), .ref (ma 2), .ref (ma 3), .ref (ma 4), .ref (ma 5), .int 0, .int 0, .int 0, .int 0, .int 0, .long 0, .int 0, .int 0, .int 0, .int (-1), .ref (ma 16), .ref (ma 17), .ref (ma 18), .ref (ma 19), .ref (ma 20), .ref (ma 21), .ref (ma 22), .ref (ma 23), .ref (ma 24), .ref (ma 25), .ref (ma 26), .ref (ma 27), .ref (ma 28), .ref (ma 29), .ref (ma 30), .ref (ma 31), .ref (ma 32), .ref (ma 33), .ref (ma 34), .ref (ma 35), .ref (ma 36), .ref (ma 37), .ref (ma 38), .ref (ma 39), .ref (ma 40), .ref (ma 41), .long 0])), ((ma 20), .inl (cy 1, 5, .inl (fun _ => 0))), ((ma 18), .inl (cy 1, 5, .inl (fun _ => 0))), ((ma 17), .inl (cy 1, 20, .inl (fun _ => 0)))] := hD
  refine lv_aload_n hx hb dX10_burnt_5 rfl (lv_at hl 0 rfl) ?_
  refine lv_iload_n hx hb dX10_burnt_6 rfl (lv_at hl 1 rfl) ?_
  refine lv_iload_n hx hb dX10_burnt_7 rfl (lv_at hl 2 rfl) ?_
  refine lv_iload_n hx hb dX10_burnt_8 rfl (lv_at hl 3 rfl) ?_
  refine pu_calli (runV (As := [.int n0, .int n1, .int n2]) (rest := []) ⟨hx, hb, hml, hown, hts⟩ (m_isStore l D cy ma n0 n1 n2 ) sV_X10_375 hK (va_recv hK.1 hP (ci := 10) (q0 := 0) rfl rfl) (hP.sub (ws' := [((ma 0), .inr (10, [.int 0, .ref (ma 1), .ref (ma 2), .ref (ma 3), .ref (ma 4), .ref (ma 5), .int 0, .int 0, .int 0, .int 0, .int 0, .long 0, .int 0, .int 0, .int 0, .int (-1), .ref (ma 16), .ref (ma 17), .ref (ma 18), .ref (ma 19), .ref (ma 20), .ref (ma 21), .ref (ma 22), .ref (ma 23), .ref (ma 24), .ref (ma 25), .ref (ma 26), .ref (ma 27), .ref (ma 28), .ref (ma 29), .ref (ma 30), .ref (ma 31), .ref (ma 32), .ref (ma 33), .ref (ma 34), .ref (ma 35), .ref (ma 36), .ref (ma 37), .ref (ma 38), .ref (ma 39), .ref (ma 40), .ref (ma 41), .long 0])), ((ma 20), .inl (cy 1, 5, .inl (fun _ => 0))), ((ma 18), .inl (cy 1, 5, .inl (fun _ => 0)))]) [0, 1, 2] rfl) ⟨Nat.le_of_ble_eq_true rfl, Nat.le_of_ble_eq_true rfl⟩ rfl hl.1 rfl (Nat.le_of_ble_eq_true rfl) dX10_burnt_9 ⟨Nat.le_of_ble_eq_true rfl, Nat.le_of_ble_eq_true rfl⟩) (fun r_1 hr_1 => ?_)
  have er_1 := hr_1
  subst er_1
  refine W.eq (g2 := F0 m 12 ls [.int 0]) rfl ?_
  refine lv_if_eq (tgt := 23) hx hb dX10_burnt_12 (by decide) (fun _ => ?_) (fun c_2 => absurd (by decide) c_2)
  refine lv_ldc2 (v := (-2)) hx hb hown (hts _ kl_X10_300) dX10_burnt_23 ?_
  exact ret_l hx hb hr hlocks ⟨⟨hS.1, hS.2.1⟩, (), ⟨_, rfl, rfl⟩, hP.sub [] rfl, hD.sub [] (by decide) rfl⟩ hS.2.2 (Nat.le_of_ble_eq_true rfl) (Nat.le_of_ble_eq_true rfl) dX10_burnt_26
set_option maxHeartbeats 4000000 in
set_option maxRecDepth 100000 in
theorem g_X10_spread (l : Launch) (D : va_G) (cy : Nat → ClassId) (ma : Nat → Nat) (n0 : Int32) (n1 : Int32) (n2 : Int32) (n3 : Int32) (sz : Nat) : MM l yX10_spread cX10_spread 5 (some .long) 3 0 0 D cy [.ref (ma 0), .int n0, .int n1, .int n2, .int n3] (PW D [((ma 0), .inr (10, [.int 0, .ref (ma 1), .ref (ma 2), .ref (ma 3), .ref (ma 4), .ref (ma 5), .int 0, .int 0, .int 0, .int 0, .int 0, .long 0, .int 0, .int 0, .int 0, .int (-1), .ref (ma 16), .ref (ma 17), .ref (ma 18), .ref (ma 19), .ref (ma 20), .ref (ma 21), .ref (ma 22), .ref (ma 23), .ref (ma 24), .ref (ma 25), .ref (ma 26), .ref (ma 27), .ref (ma 28), .ref (ma 29), .ref (ma 30), .ref (ma 31), .ref (ma 32), .ref (ma 33), .ref (ma 34), .ref (ma 35), .ref (ma 36), .ref (ma 37), .ref (ma 38), .ref (ma 39), .ref (ma 40), .ref (ma 41), .long 0])), ((ma 20), .inl (cy 1, 5, .inl (fun _ => 0))), ((ma 18), .inl (cy 1, 5, .inl (fun _ => 0))), ((ma 17), .inl (cy 1, 20, .inl (fun _ => 0)))] sz) (QW D (va_A [((ma 0), .inr (10, [.int 0, .ref (ma 1), .ref (ma 2), .ref (ma 3), .ref (ma 4), .ref (ma 5), .int 0, .int 0, .int 0, .int 0, .int 0, .long 0, .int 0, .int 0, .int 0, .int (-1), .ref (ma 16), .ref (ma 17), .ref (ma 18), .ref (ma 19), .ref (ma 20), .ref (ma 21), .ref (ma 22), .ref (ma 23), .ref (ma 24), .ref (ma 25), .ref (ma 26), .ref (ma 27), .ref (ma 28), .ref (ma 29), .ref (ma 30), .ref (ma 31), .ref (ma 32), .ref (ma 33), .ref (ma 34), .ref (ma 35), .ref (ma 36), .ref (ma 37), .ref (ma 38), .ref (ma 39), .ref (ma 40), .ref (ma 41), .long 0])), ((ma 20), .inl (cy 1, 5, .inl (fun _ => 0))), ((ma 18), .inl (cy 1, 5, .inl (fun _ => 0))), ((ma 17), .inl (cy 1, 20, .inl (fun _ => 0)))] sz) (S := Unit) (fun v u => (∃ r : Int64, v = some (.long r) ∧ (r = (-2)))) (fun u => [])) (va_A [((ma 0), .inr (10, [.int 0, .ref (ma 1), .ref (ma 2), .ref (ma 3), .ref (ma 4), .ref (ma 5), .int 0, .int 0, .int 0, .int 0, .int 0, .long 0, .int 0, .int 0, .int 0, .int (-1), .ref (ma 16), .ref (ma 17), .ref (ma 18), .ref (ma 19), .ref (ma 20), .ref (ma 21), .ref (ma 22), .ref (ma 23), .ref (ma 24), .ref (ma 25), .ref (ma 26), .ref (ma 27), .ref (ma 28), .ref (ma 29), .ref (ma 30), .ref (ma 31), .ref (ma 32), .ref (ma 33), .ref (ma 34), .ref (ma 35), .ref (ma 36), .ref (ma 37), .ref (ma 38), .ref (ma 39), .ref (ma 40), .ref (ma 41), .long 0])), ((ma 20), .inl (cy 1, 5, .inl (fun _ => 0))), ((ma 18), .inl (cy 1, 5, .inl (fun _ => 0))), ((ma 17), .inl (cy 1, 20, .inl (fun _ => 0)))] sz) := by
  refine MM.of (by decide) (Nat.le_of_ble_eq_true rfl) ?_
  intro p e s m below meth c C hPW ls hl
  obtain ⟨hx, hb, hr, hml, hown, hts, hlocks, hK, hnm⟩ := C
  obtain ⟨rfl, hP, hD0⟩ := hPW
  have hD := hD0.self (sz := s.heap.size)
  have hA : ∀ q : Nat, s.heap.size ≤ q → (va_A [((ma 0), .inr (10, [.int 0, .ref (ma 1), .ref (ma 2), .ref (ma 3), .ref (ma 4), .ref (ma 5), .int 0, .int 0, .int 0, .int 0, .int 0, .long 0, .int 0, .int 0, .int 0, .int (-1), .ref (ma 16), .ref (ma 17), .ref (ma 18), .ref (ma 19), .ref (ma 20), .ref (ma 21), .ref (ma 22), .ref (ma 23), .ref (ma 24), .ref (ma 25), .ref (ma 26), .ref (ma 27), .ref (ma 28), .ref (ma 29), .ref (ma 30), .ref (ma 31), .ref (ma 32), .ref (ma 33), .ref (ma 34), .ref (ma 35), .ref (ma 36), .ref (ma 37), .ref (ma 38), .ref (ma 39), .ref (ma 40), .ref (ma 41), .long 0])), ((ma 20), .inl (cy 1, 5, .inl (fun _ => 0))), ((ma 18), .inl (cy 1, 5, .inl (fun _ => 0))), ((ma 17), .inl (cy 1, 20, .inl (fun _ => 0)))] s.heap.size) q := fun q h => Or.inr h
  have hS : va_S (va_A [((ma 0), .inr (10, [.int 0, .ref (ma 1), .ref (ma 2), .ref (ma 3), .ref (ma 4), .ref (ma 5), .int 0, .int 0, .int 0, .int 0, .int 0, .long 0, .int 0, .int 0, .int 0, .int (-1), .ref (ma 16), .ref (ma 17), .ref (ma 18), .ref (ma 19), .ref (ma 20), .ref (ma 21), .ref (ma 22), .ref (ma 23), .ref (ma 24), .ref (ma 25), .ref (ma 26), .ref (ma 27), .ref (ma 28), .ref (ma 29), .ref (ma 30), .ref (ma 31), .ref (ma 32), .ref (ma 33), .ref (ma 34), .ref (ma 35), .ref (ma 36), .ref (ma 37), .ref (ma 38), .ref (ma 39), .ref (ma 40), .ref (ma 41), .long 0])), ((ma 20), .inl (cy 1, 5, .inl (fun _ => 0))), ((ma 18), .inl (cy 1, 5, .inl (fun _ => 0))), ((ma 17), .inl (cy 1, 20, .inl (fun _ => 0)))] s.heap.size) s.heap s.heap [] := va_S.rf
  generalize va_A [((ma 0), .inr (10, [.int 0, .ref (ma 1), .ref (ma 2), .ref (ma 3), .ref (ma 4), .ref (ma 5), .int 0, .int 0, .int 0, .int 0, .int 0, .long 0, .int 0, .int 0, .int 0, .int (-1), .ref (ma 16), .ref (ma 17), .ref (ma 18), .ref (ma 19), .ref (ma 20), .ref (ma 21), .ref (ma 22), .ref (ma 23), .ref (ma 24), .ref (ma 25), .ref (ma 26), .ref (ma 27), .ref (ma 28), .ref (ma 29), .ref (ma 30), .ref (ma 31), .ref (ma 32), .ref (ma 33), .ref (ma 34), .ref (ma 35), .ref (ma 36), .ref (ma 37), .ref (ma 38), .ref (ma 39), .ref (ma 40), .ref (ma 41), .long 0])), ((ma 20), .inl (cy 1, 5, .inl (fun _ => 0))), ((ma 18), .inl (cy 1, 5, .inl (fun _ => 0))), ((ma 17), .inl (cy 1, 20, .inl (fun _ => 0)))] s.heap.size = A at hD hA hS ⊢
  have hP : va_P D vwCl [((ma 0), .inr (10, [.int 0, .ref (ma 1), .ref (ma 2), .ref (ma 3), .ref (ma 4), .ref (ma 5), .int 0, .int 0, .int 0, .int 0, .int 0, .long 0, .int 0, .int 0, .int 0, .int (-1), .ref (ma 16), .ref (ma 17), .ref (ma 18), .ref (ma 19), .ref (ma 20), .ref (ma 21), .ref (ma 22), .ref (ma 23), .ref (ma 24), .ref (ma 25), .ref (ma 26), .ref (ma 27), .ref (ma 28), .ref (ma 29), .ref (ma 30), .ref (ma 31), .ref (ma 32), .ref (ma 33), .ref (ma 34), .ref (ma 35), .ref (ma 36), .ref (ma 37), .ref (ma 38), .ref (ma 39), .ref (ma 40), .ref (ma 41), .long 0])), ((ma 20), .inl (cy 1, 5, .inl (fun _ => 0))), ((ma 18), .inl (cy 1, 5, .inl (fun _ => 0))), ((ma 17), .inl (cy 1, 20, .inl (fun _ => 0)))] s.heap := hP
  have hl : lv_has ls 5 [(0, .ref (ma 0)), (1, .int n0), (2, .int n1), (3, .int n2), (4, .int n3)] := hl
  refine lv_aload_n hx hb dX10_spread_0 rfl (lv_at hl 0 rfl) ?_
  refine lv_iconst (v := 0) hx hb dX10_spread_1 (by decide) ?_
  refine va_put (D := D) (ci := 10) (v := .int 0) (ty := tyX10 0) (C := RX10) (T := TX10) (N := 43) hx hb hts lay_X10 tyX10 tyX10_ok nmX10 hown hK.1 hP hD hS 0 rfl rfl 0 (by decide) (hts _ fl_X10_111) (fun _ h9 => h9) rfl (tyX10_ok 0 (by decide)) rfl rfl (Nat.le_of_ble_eq_true rfl) dX10_spread_2 (fun H locs hP hD hS => ?_)
  have hP : va_P D vwCl [((ma 0), .inr (10, [.int 0, .ref (ma 1), .ref (ma 2), .ref (ma 3), .ref (ma 4), .ref (ma 5), .int 0, .int 0, .int 0, .int 0, .int 0, .long 0, .int 0, .int 0, .int 0, .int (-1), .ref (ma 16), .ref (ma 17), .ref (ma 18), .ref (ma 19), .ref (ma 20), .ref (ma 21), .ref (ma 22), .ref (ma 23), .ref (ma 24), .ref (ma 25), .ref (ma 26), .ref (ma 27), .ref (ma 28), .ref (ma 29), .ref (ma 30), .ref (ma 31), .ref (ma 32), .ref (ma 33), .ref (ma 34), .ref (ma 35), .ref (ma 36), .ref (ma 37), .ref (ma 38), .ref (ma 39), .ref (ma 40), .ref (ma 41), .long 0])), ((ma 20), .inl (cy 1, 5, .inl (fun _ => 0))), ((ma 18), .inl (cy 1, 5, .inl (fun _ => 0))), ((ma 17), .inl (cy 1, 20, .inl (fun _ => 0)))] H := hP
  have hD : va_D A [((ma 0), .inr (10, [.int 0, .ref (ma 1), .ref (ma 2), .ref (ma 3), .ref (ma 4), .ref (ma 5), .int 0, .int 0, .int 0, .int 0, .int 0, .long 0, .int 0, .int 0, .int 0, .int (-1), .ref (ma 16), .ref (ma 17), .ref (ma 18), .ref (ma 19), .ref (ma 20), .ref (ma 21), .ref (ma 22), .ref (ma 23), .ref (ma 24), .ref (ma 25), .ref (ma 26), .ref (ma 27), .ref (ma 28), .ref (ma 29), .ref (ma 30), .ref (ma 31), .ref (ma 32), .ref (ma 33), .ref (ma 34), .ref (ma 35), .ref (ma 36), .ref (ma 37), .ref (ma 38), .ref (ma 39), .ref (ma 40), .ref (ma 41), .long 0])), ((ma 20), .inl (cy 1, 5, .inl (fun _ => 0))), ((ma 18), .inl (cy 1, 5, .inl (fun _ => 0))), ((ma 17), .inl (cy 1, 20, .inl (fun _ => 0)))] := hD
  refine lv_aload_n hx hb dX10_spread_5 rfl (lv_at hl 0 rfl) ?_
  refine lv_iload_n hx hb dX10_spread_6 rfl (lv_at hl 1 rfl) ?_
  refine lv_iload_n hx hb dX10_spread_7 rfl (lv_at hl 2 rfl) ?_
  refine lv_iload_n hx hb dX10_spread_8 rfl (lv_at hl 3 rfl) ?_
  refine pu_calli (runV (As := [.int n0, .int n1, .int n2]) (rest := []) ⟨hx, hb, hml, hown, hts⟩ (m_isStore l D cy ma n0 n1 n2 ) sV_X10_375 hK (va_recv hK.1 hP (ci := 10) (q0 := 0) rfl rfl) (hP.sub (ws' := [((ma 0), .inr (10, [.int 0, .ref (ma 1), .ref (ma 2), .ref (ma 3), .ref (ma 4), .ref (ma 5), .int 0, .int 0, .int 0, .int 0, .int 0, .long 0, .int 0, .int 0, .int 0, .int (-1), .ref (ma 16), .ref (ma 17), .ref (ma 18), .ref (ma 19), .ref (ma 20), .ref (ma 21), .ref (ma 22), .ref (ma 23), .ref (ma 24), .ref (ma 25), .ref (ma 26), .ref (ma 27), .ref (ma 28), .ref (ma 29), .ref (ma 30), .ref (ma 31), .ref (ma 32), .ref (ma 33), .ref (ma 34), .ref (ma 35), .ref (ma 36), .ref (ma 37), .ref (ma 38), .ref (ma 39), .ref (ma 40), .ref (ma 41), .long 0])), ((ma 20), .inl (cy 1, 5, .inl (fun _ => 0))), ((ma 18), .inl (cy 1, 5, .inl (fun _ => 0)))]) [0, 1, 2] rfl) ⟨Nat.le_of_ble_eq_true rfl, Nat.le_of_ble_eq_true rfl⟩ rfl hl.1 rfl (Nat.le_of_ble_eq_true rfl) dX10_spread_9 ⟨Nat.le_of_ble_eq_true rfl, Nat.le_of_ble_eq_true rfl⟩) (fun r_1 hr_1 => ?_)
  have er_1 := hr_1
  subst er_1
  refine W.eq (g2 := F0 m 12 ls [.int 0]) rfl ?_
  refine lv_if_eq (tgt := 23) hx hb dX10_spread_12 (by decide) (fun _ => ?_) (fun c_2 => absurd (by decide) c_2)
  refine lv_ldc2 (v := (-2)) hx hb hown (hts _ kl_X10_300) dX10_spread_23 ?_
  exact ret_l hx hb hr hlocks ⟨⟨hS.1, hS.2.1⟩, (), ⟨_, rfl, rfl⟩, hP.sub [] rfl, hD.sub [] (by decide) rfl⟩ hS.2.2 (Nat.le_of_ble_eq_true rfl) (Nat.le_of_ble_eq_true rfl) dX10_spread_26
set_option maxHeartbeats 4000000 in
set_option maxRecDepth 100000 in
theorem g_X10_bear (l : Launch) (D : va_G) (cy : Nat → ClassId) (ma : Nat → Nat) (n0 : Int32) (n1 : Int32) (n2 : Int32) (sz : Nat) : MM l yX10_bear cX10_bear 10 (some .int) 3 0 0 D cy [.ref (ma 0), .int n0, .int n1, .int n2] (PW D [((ma 0), .inr (10, [.int 0, .ref (ma 1), .ref (ma 2), .ref (ma 3), .ref (ma 4), .ref (ma 5), .int 0, .int 0, .int 0, .int 0, .int 0, .long 0, .int 0, .int 0, .int 0, .int (-1), .ref (ma 16), .ref (ma 17), .ref (ma 18), .ref (ma 19), .ref (ma 20), .ref (ma 21), .ref (ma 22), .ref (ma 23), .ref (ma 24), .ref (ma 25), .ref (ma 26), .ref (ma 27), .ref (ma 28), .ref (ma 29), .ref (ma 30), .ref (ma 31), .ref (ma 32), .ref (ma 33), .ref (ma 34), .ref (ma 35), .ref (ma 36), .ref (ma 37), .ref (ma 38), .ref (ma 39), .ref (ma 40), .ref (ma 41), .long 0])), ((ma 20), .inl (cy 1, 5, .inl (fun _ => 0))), ((ma 18), .inl (cy 1, 5, .inl (fun _ => 0))), ((ma 17), .inl (cy 1, 20, .inl (fun _ => 0)))] sz) (QW D (va_A [((ma 0), .inr (10, [.int 0, .ref (ma 1), .ref (ma 2), .ref (ma 3), .ref (ma 4), .ref (ma 5), .int 0, .int 0, .int 0, .int 0, .int 0, .long 0, .int 0, .int 0, .int 0, .int (-1), .ref (ma 16), .ref (ma 17), .ref (ma 18), .ref (ma 19), .ref (ma 20), .ref (ma 21), .ref (ma 22), .ref (ma 23), .ref (ma 24), .ref (ma 25), .ref (ma 26), .ref (ma 27), .ref (ma 28), .ref (ma 29), .ref (ma 30), .ref (ma 31), .ref (ma 32), .ref (ma 33), .ref (ma 34), .ref (ma 35), .ref (ma 36), .ref (ma 37), .ref (ma 38), .ref (ma 39), .ref (ma 40), .ref (ma 41), .long 0])), ((ma 20), .inl (cy 1, 5, .inl (fun _ => 0))), ((ma 18), .inl (cy 1, 5, .inl (fun _ => 0))), ((ma 17), .inl (cy 1, 20, .inl (fun _ => 0)))] sz) (S := Unit) (fun v u => (∃ r : Int32, v = some (.int r) ∧ (r = (-2)))) (fun u => [])) (va_A [((ma 0), .inr (10, [.int 0, .ref (ma 1), .ref (ma 2), .ref (ma 3), .ref (ma 4), .ref (ma 5), .int 0, .int 0, .int 0, .int 0, .int 0, .long 0, .int 0, .int 0, .int 0, .int (-1), .ref (ma 16), .ref (ma 17), .ref (ma 18), .ref (ma 19), .ref (ma 20), .ref (ma 21), .ref (ma 22), .ref (ma 23), .ref (ma 24), .ref (ma 25), .ref (ma 26), .ref (ma 27), .ref (ma 28), .ref (ma 29), .ref (ma 30), .ref (ma 31), .ref (ma 32), .ref (ma 33), .ref (ma 34), .ref (ma 35), .ref (ma 36), .ref (ma 37), .ref (ma 38), .ref (ma 39), .ref (ma 40), .ref (ma 41), .long 0])), ((ma 20), .inl (cy 1, 5, .inl (fun _ => 0))), ((ma 18), .inl (cy 1, 5, .inl (fun _ => 0))), ((ma 17), .inl (cy 1, 20, .inl (fun _ => 0)))] sz) := by
  refine MM.of (by decide) (Nat.le_of_ble_eq_true rfl) ?_
  intro p e s m below meth c C hPW ls hl
  obtain ⟨hx, hb, hr, hml, hown, hts, hlocks, hK, hnm⟩ := C
  obtain ⟨rfl, hP, hD0⟩ := hPW
  have hD := hD0.self (sz := s.heap.size)
  have hA : ∀ q : Nat, s.heap.size ≤ q → (va_A [((ma 0), .inr (10, [.int 0, .ref (ma 1), .ref (ma 2), .ref (ma 3), .ref (ma 4), .ref (ma 5), .int 0, .int 0, .int 0, .int 0, .int 0, .long 0, .int 0, .int 0, .int 0, .int (-1), .ref (ma 16), .ref (ma 17), .ref (ma 18), .ref (ma 19), .ref (ma 20), .ref (ma 21), .ref (ma 22), .ref (ma 23), .ref (ma 24), .ref (ma 25), .ref (ma 26), .ref (ma 27), .ref (ma 28), .ref (ma 29), .ref (ma 30), .ref (ma 31), .ref (ma 32), .ref (ma 33), .ref (ma 34), .ref (ma 35), .ref (ma 36), .ref (ma 37), .ref (ma 38), .ref (ma 39), .ref (ma 40), .ref (ma 41), .long 0])), ((ma 20), .inl (cy 1, 5, .inl (fun _ => 0))), ((ma 18), .inl (cy 1, 5, .inl (fun _ => 0))), ((ma 17), .inl (cy 1, 20, .inl (fun _ => 0)))] s.heap.size) q := fun q h => Or.inr h
  have hS : va_S (va_A [((ma 0), .inr (10, [.int 0, .ref (ma 1), .ref (ma 2), .ref (ma 3), .ref (ma 4), .ref (ma 5), .int 0, .int 0, .int 0, .int 0, .int 0, .long 0, .int 0, .int 0, .int 0, .int (-1), .ref (ma 16), .ref (ma 17), .ref (ma 18), .ref (ma 19), .ref (ma 20), .ref (ma 21), .ref (ma 22), .ref (ma 23), .ref (ma 24), .ref (ma 25), .ref (ma 26), .ref (ma 27), .ref (ma 28), .ref (ma 29), .ref (ma 30), .ref (ma 31), .ref (ma 32), .ref (ma 33), .ref (ma 34), .ref (ma 35), .ref (ma 36), .ref (ma 37), .ref (ma 38), .ref (ma 39), .ref (ma 40), .ref (ma 41), .long 0])), ((ma 20), .inl (cy 1, 5, .inl (fun _ => 0))), ((ma 18), .inl (cy 1, 5, .inl (fun _ => 0))), ((ma 17), .inl (cy 1, 20, .inl (fun _ => 0)))] s.heap.size) s.heap s.heap [] := va_S.rf
  generalize va_A [((ma 0), .inr (10, [.int 0, .ref (ma 1), .ref (ma 2), .ref (ma 3), .ref (ma 4), .ref (ma 5), .int 0, .int 0, .int 0, .int 0, .int 0, .long 0, .int 0, .int 0, .int 0, .int (-1), .ref (ma 16), .ref (ma 17), .ref (ma 18), .ref (ma 19), .ref (ma 20), .ref (ma 21), .ref (ma 22), .ref (ma 23), .ref (ma 24), .ref (ma 25), .ref (ma 26), .ref (ma 27), .ref (ma 28), .ref (ma 29), .ref (ma 30), .ref (ma 31), .ref (ma 32), .ref (ma 33), .ref (ma 34), .ref (ma 35), .ref (ma 36), .ref (ma 37), .ref (ma 38), .ref (ma 39), .ref (ma 40), .ref (ma 41), .long 0])), ((ma 20), .inl (cy 1, 5, .inl (fun _ => 0))), ((ma 18), .inl (cy 1, 5, .inl (fun _ => 0))), ((ma 17), .inl (cy 1, 20, .inl (fun _ => 0)))] s.heap.size = A at hD hA hS ⊢
  have hP : va_P D vwCl [((ma 0), .inr (10, [.int 0, .ref (ma 1), .ref (ma 2), .ref (ma 3), .ref (ma 4), .ref (ma 5), .int 0, .int 0, .int 0, .int 0, .int 0, .long 0, .int 0, .int 0, .int 0, .int (-1), .ref (ma 16), .ref (ma 17), .ref (ma 18), .ref (ma 19), .ref (ma 20), .ref (ma 21), .ref (ma 22), .ref (ma 23), .ref (ma 24), .ref (ma 25), .ref (ma 26), .ref (ma 27), .ref (ma 28), .ref (ma 29), .ref (ma 30), .ref (ma 31), .ref (ma 32), .ref (ma 33), .ref (ma 34), .ref (ma 35), .ref (ma 36), .ref (ma 37), .ref (ma 38), .ref (ma 39), .ref (ma 40), .ref (ma 41), .long 0])), ((ma 20), .inl (cy 1, 5, .inl (fun _ => 0))), ((ma 18), .inl (cy 1, 5, .inl (fun _ => 0))), ((ma 17), .inl (cy 1, 20, .inl (fun _ => 0)))] s.heap := hP
  have hl : lv_has ls 10 [(0, .ref (ma 0)), (1, .int n0), (2, .int n1), (3, .int n2)] := hl
  refine lv_aload_n hx hb dX10_bear_0 rfl (lv_at hl 0 rfl) ?_
  refine lv_iconst (v := 0) hx hb dX10_bear_1 (by decide) ?_
  refine va_put (D := D) (ci := 10) (v := .int 0) (ty := tyX10 0) (C := RX10) (T := TX10) (N := 43) hx hb hts lay_X10 tyX10 tyX10_ok nmX10 hown hK.1 hP hD hS 0 rfl rfl 0 (by decide) (hts _ fl_X10_111) (fun _ h9 => h9) rfl (tyX10_ok 0 (by decide)) rfl rfl (Nat.le_of_ble_eq_true rfl) dX10_bear_2 (fun H locs hP hD hS => ?_)
  have hP : va_P D vwCl [((ma 0), .inr (10, [.int 0, .ref (ma 1), .ref (ma 2), .ref (ma 3), .ref (ma 4), .ref (ma 5), .int 0, .int 0, .int 0, .int 0, .int 0, .long 0, .int 0, .int 0, .int 0, .int (-1), .ref (ma 16), .ref (ma 17), .ref (ma 18), .ref (ma 19), .ref (ma 20), .ref (ma 21), .ref (ma 22), .ref (ma 23), .ref (ma 24), .ref (ma 25), .ref (ma 26), .ref (ma 27), .ref (ma 28), .ref (ma 29), .ref (ma 30), .ref (ma 31), .ref (ma 32), .ref (ma 33), .ref (ma 34), .ref (ma 35), .ref (ma 36), .ref (ma 37), .ref (ma 38), .ref (ma 39), .ref (ma 40), .ref (ma 41), .long 0])), ((ma 20), .inl (cy 1, 5, .inl (fun _ => 0))), ((ma 18), .inl (cy 1, 5, .inl (fun _ => 0))), ((ma 17), .inl (cy 1, 20, .inl (fun _ => 0)))] H := hP
  have hD : va_D A [((ma 0), .inr (10, [.int 0, .ref (ma 1), .ref (ma 2), .ref (ma 3), .ref (ma 4), .ref (ma 5), .int 0, .int 0, .int 0, .int 0, .int 0, .long 0, .int 0, .int 0, .int 0, .int (-1), .ref (ma 16), .ref (ma 17), .ref (ma 18), .ref (ma 19), .ref (ma 20), .ref (ma 21), .ref (ma 22), .ref (ma 23), .ref (ma 24), .ref (ma 25), .ref (ma 26), .ref (ma 27), .ref (ma 28), .ref (ma 29), .ref (ma 30), .ref (ma 31), .ref (ma 32), .ref (ma 33), .ref (ma 34), .ref (ma 35), .ref (ma 36), .ref (ma 37), .ref (ma 38), .ref (ma 39), .ref (ma 40), .ref (ma 41), .long 0])), ((ma 20), .inl (cy 1, 5, .inl (fun _ => 0))), ((ma 18), .inl (cy 1, 5, .inl (fun _ => 0))), ((ma 17), .inl (cy 1, 20, .inl (fun _ => 0)))] := hD
  refine lv_aload_n hx hb dX10_bear_5 rfl (lv_at hl 0 rfl) ?_
  refine lv_iload_n hx hb dX10_bear_6 rfl (lv_at hl 1 rfl) ?_
  refine lv_iload_n hx hb dX10_bear_7 rfl (lv_at hl 2 rfl) ?_
  refine lv_iconst (v := 0) hx hb dX10_bear_8 (by decide) ?_
  refine pu_calli (runV (As := [.int n0, .int n1, .int 0]) (rest := []) ⟨hx, hb, hml, hown, hts⟩ (m_isStore l D cy ma n0 n1 0 ) sV_X10_375 hK (va_recv hK.1 hP (ci := 10) (q0 := 0) rfl rfl) (hP.sub (ws' := [((ma 0), .inr (10, [.int 0, .ref (ma 1), .ref (ma 2), .ref (ma 3), .ref (ma 4), .ref (ma 5), .int 0, .int 0, .int 0, .int 0, .int 0, .long 0, .int 0, .int 0, .int 0, .int (-1), .ref (ma 16), .ref (ma 17), .ref (ma 18), .ref (ma 19), .ref (ma 20), .ref (ma 21), .ref (ma 22), .ref (ma 23), .ref (ma 24), .ref (ma 25), .ref (ma 26), .ref (ma 27), .ref (ma 28), .ref (ma 29), .ref (ma 30), .ref (ma 31), .ref (ma 32), .ref (ma 33), .ref (ma 34), .ref (ma 35), .ref (ma 36), .ref (ma 37), .ref (ma 38), .ref (ma 39), .ref (ma 40), .ref (ma 41), .long 0])), ((ma 20), .inl (cy 1, 5, .inl (fun _ => 0))), ((ma 18), .inl (cy 1, 5, .inl (fun _ => 0)))]) [0, 1, 2] rfl) ⟨Nat.le_of_ble_eq_true rfl, Nat.le_of_ble_eq_true rfl⟩ rfl hl.1 rfl (Nat.le_of_ble_eq_true rfl) dX10_bear_9 ⟨Nat.le_of_ble_eq_true rfl, Nat.le_of_ble_eq_true rfl⟩) (fun r_1 hr_1 => ?_)
  have er_1 := hr_1
  subst er_1
  refine W.eq (g2 := F0 m 12 ls [.int 0]) rfl ?_
  refine lv_if_eq (tgt := 22) hx hb dX10_bear_12 (by decide) (fun _ => ?_) (fun c_2 => absurd (by decide) c_2)
  refine lv_bipush (v := (-2)) hx hb dX10_bear_22 (by decide) ?_
  exact ret_i hx hb hr hlocks ⟨⟨hS.1, hS.2.1⟩, (), ⟨_, rfl, rfl⟩, hP.sub [] rfl, hD.sub [] (by decide) rfl⟩ hS.2.2 (Nat.le_of_ble_eq_true rfl) (Nat.le_of_ble_eq_true rfl) dX10_bear_24
set_option maxHeartbeats 4000000 in
set_option maxRecDepth 100000 in
theorem g_X10_run (l : Launch) (D : va_G) (cy : Nat → ClassId) (ma : Nat → Nat) (n0 : Int32) (sz : Nat) : MM l yX10_run cX10_run 3 (some .int) 2 0 0 D cy [.ref (ma 0), .int n0] (PW D [((ma 0), .inr (10, [.int 0, .ref (ma 1), .ref (ma 2), .ref (ma 3), .ref (ma 4), .ref (ma 5), .int 0, .int 0, .int 0, .int 0, .int 0, .long 0, .int 0, .int 0, .int 0, .int (-1), .ref (ma 16), .ref (ma 17), .ref (ma 18), .ref (ma 19), .ref (ma 20), .ref (ma 21), .ref (ma 22), .ref (ma 23), .ref (ma 24), .ref (ma 25), .ref (ma 26), .ref (ma 27), .ref (ma 28), .ref (ma 29), .ref (ma 30), .ref (ma 31), .ref (ma 32), .ref (ma 33), .ref (ma 34), .ref (ma 35), .ref (ma 36), .ref (ma 37), .ref (ma 38), .ref (ma 39), .ref (ma 40), .ref (ma 41), .long 0])), ((ma 20), .inl (cy 1, 5, .inl (fun _ => 0))), ((ma 18), .inl (cy 1, 5, .inl (fun _ => 0))), ((ma 17), .inl (cy 1, 20, .inl (fun _ => 0)))] sz) (QW D (va_A [((ma 0), .inr (10, [.int 0, .ref (ma 1), .ref (ma 2), .ref (ma 3), .ref (ma 4), .ref (ma 5), .int 0, .int 0, .int 0, .int 0, .int 0, .long 0, .int 0, .int 0, .int 0, .int (-1), .ref (ma 16), .ref (ma 17), .ref (ma 18), .ref (ma 19), .ref (ma 20), .ref (ma 21), .ref (ma 22), .ref (ma 23), .ref (ma 24), .ref (ma 25), .ref (ma 26), .ref (ma 27), .ref (ma 28), .ref (ma 29), .ref (ma 30), .ref (ma 31), .ref (ma 32), .ref (ma 33), .ref (ma 34), .ref (ma 35), .ref (ma 36), .ref (ma 37), .ref (ma 38), .ref (ma 39), .ref (ma 40), .ref (ma 41), .long 0])), ((ma 20), .inl (cy 1, 5, .inl (fun _ => 0))), ((ma 18), .inl (cy 1, 5, .inl (fun _ => 0))), ((ma 17), .inl (cy 1, 20, .inl (fun _ => 0)))] sz) (S := Unit) (fun v u => (∃ r : Int32, v = some (.int r) ∧ (r = (-2)))) (fun u => [])) (va_A [((ma 0), .inr (10, [.int 0, .ref (ma 1), .ref (ma 2), .ref (ma 3), .ref (ma 4), .ref (ma 5), .int 0, .int 0, .int 0, .int 0, .int 0, .long 0, .int 0, .int 0, .int 0, .int (-1), .ref (ma 16), .ref (ma 17), .ref (ma 18), .ref (ma 19), .ref (ma 20), .ref (ma 21), .ref (ma 22), .ref (ma 23), .ref (ma 24), .ref (ma 25), .ref (ma 26), .ref (ma 27), .ref (ma 28), .ref (ma 29), .ref (ma 30), .ref (ma 31), .ref (ma 32), .ref (ma 33), .ref (ma 34), .ref (ma 35), .ref (ma 36), .ref (ma 37), .ref (ma 38), .ref (ma 39), .ref (ma 40), .ref (ma 41), .long 0])), ((ma 20), .inl (cy 1, 5, .inl (fun _ => 0))), ((ma 18), .inl (cy 1, 5, .inl (fun _ => 0))), ((ma 17), .inl (cy 1, 20, .inl (fun _ => 0)))] sz) := by
  refine MM.of (by decide) (Nat.le_of_ble_eq_true rfl) ?_
  intro p e s m below meth c C hPW ls hl
  obtain ⟨hx, hb, hr, hml, hown, hts, hlocks, hK, hnm⟩ := C
  obtain ⟨rfl, hP, hD0⟩ := hPW
  have hD := hD0.self (sz := s.heap.size)
  have hA : ∀ q : Nat, s.heap.size ≤ q → (va_A [((ma 0), .inr (10, [.int 0, .ref (ma 1), .ref (ma 2), .ref (ma 3), .ref (ma 4), .ref (ma 5), .int 0, .int 0, .int 0, .int 0, .int 0, .long 0, .int 0, .int 0, .int 0, .int (-1), .ref (ma 16), .ref (ma 17), .ref (ma 18), .ref (ma 19), .ref (ma 20), .ref (ma 21), .ref (ma 22), .ref (ma 23), .ref (ma 24), .ref (ma 25), .ref (ma 26), .ref (ma 27), .ref (ma 28), .ref (ma 29), .ref (ma 30), .ref (ma 31), .ref (ma 32), .ref (ma 33), .ref (ma 34), .ref (ma 35), .ref (ma 36), .ref (ma 37), .ref (ma 38), .ref (ma 39), .ref (ma 40), .ref (ma 41), .long 0])), ((ma 20), .inl (cy 1, 5, .inl (fun _ => 0))), ((ma 18), .inl (cy 1, 5, .inl (fun _ => 0))), ((ma 17), .inl (cy 1, 20, .inl (fun _ => 0)))] s.heap.size) q := fun q h => Or.inr h
  have hS : va_S (va_A [((ma 0), .inr (10, [.int 0, .ref (ma 1), .ref (ma 2), .ref (ma 3), .ref (ma 4), .ref (ma 5), .int 0, .int 0, .int 0, .int 0, .int 0, .long 0, .int 0, .int 0, .int 0, .int (-1), .ref (ma 16), .ref (ma 17), .ref (ma 18), .ref (ma 19), .ref (ma 20), .ref (ma 21), .ref (ma 22), .ref (ma 23), .ref (ma 24), .ref (ma 25), .ref (ma 26), .ref (ma 27), .ref (ma 28), .ref (ma 29), .ref (ma 30), .ref (ma 31), .ref (ma 32), .ref (ma 33), .ref (ma 34), .ref (ma 35), .ref (ma 36), .ref (ma 37), .ref (ma 38), .ref (ma 39), .ref (ma 40), .ref (ma 41), .long 0])), ((ma 20), .inl (cy 1, 5, .inl (fun _ => 0))), ((ma 18), .inl (cy 1, 5, .inl (fun _ => 0))), ((ma 17), .inl (cy 1, 20, .inl (fun _ => 0)))] s.heap.size) s.heap s.heap [] := va_S.rf
  generalize va_A [((ma 0), .inr (10, [.int 0, .ref (ma 1), .ref (ma 2), .ref (ma 3), .ref (ma 4), .ref (ma 5), .int 0, .int 0, .int 0, .int 0, .int 0, .long 0, .int 0, .int 0, .int 0, .int (-1), .ref (ma 16), .ref (ma 17), .ref (ma 18), .ref (ma 19), .ref (ma 20), .ref (ma 21), .ref (ma 22), .ref (ma 23), .ref (ma 24), .ref (ma 25), .ref (ma 26), .ref (ma 27), .ref (ma 28), .ref (ma 29), .ref (ma 30), .ref (ma 31), .ref (ma 32), .ref (ma 33), .ref (ma 34), .ref (ma 35), .ref (ma 36), .ref (ma 37), .ref (ma 38), .ref (ma 39), .ref (ma 40), .ref (ma 41), .long 0])), ((ma 20), .inl (cy 1, 5, .inl (fun _ => 0))), ((ma 18), .inl (cy 1, 5, .inl (fun _ => 0))), ((ma 17), .inl (cy 1, 20, .inl (fun _ => 0)))] s.heap.size = A at hD hA hS ⊢
  have hP : va_P D vwCl [((ma 0), .inr (10, [.int 0, .ref (ma 1), .ref (ma 2), .ref (ma 3), .ref (ma 4), .ref (ma 5), .int 0, .int 0, .int 0, .int 0, .int 0, .long 0, .int 0, .int 0, .int 0, .int (-1), .ref (ma 16), .ref (ma 17), .ref (ma 18), .ref (ma 19), .ref (ma 20), .ref (ma 21), .ref (ma 22), .ref (ma 23), .ref (ma 24), .ref (ma 25), .ref (ma 26), .ref (ma 27), .ref (ma 28), .ref (ma 29), .ref (ma 30), .ref (ma 31), .ref (ma 32), .ref (ma 33), .ref (ma 34), .ref (ma 35), .ref (ma 36), .ref (ma 37), .ref (ma 38), .ref (ma 39), .ref (ma 40), .ref (ma 41), .long 0])), ((ma 20), .inl (cy 1, 5, .inl (fun _ => 0))), ((ma 18), .inl (cy 1, 5, .inl (fun _ => 0))), ((ma 17), .inl (cy 1, 20, .inl (fun _ => 0)))] s.heap := hP
  have hl : lv_has ls 3 [(0, .ref (ma 0)), (1, .int n0)] := hl
  refine lv_aload_n hx hb dX10_run_0 rfl (lv_at hl 0 rfl) ?_
  refine lv_iconst (v := 0) hx hb dX10_run_1 (by decide) ?_
  refine va_put (D := D) (ci := 10) (v := .int 0) (ty := tyX10 0) (C := RX10) (T := TX10) (N := 43) hx hb hts lay_X10 tyX10 tyX10_ok nmX10 hown hK.1 hP hD hS 0 rfl rfl 0 (by decide) (hts _ fl_X10_111) (fun _ h9 => h9) rfl (tyX10_ok 0 (by decide)) rfl rfl (Nat.le_of_ble_eq_true rfl) dX10_run_2 (fun H locs hP hD hS => ?_)
  have hP : va_P D vwCl [((ma 0), .inr (10, [.int 0, .ref (ma 1), .ref (ma 2), .ref (ma 3), .ref (ma 4), .ref (ma 5), .int 0, .int 0, .int 0, .int 0, .int 0, .long 0, .int 0, .int 0, .int 0, .int (-1), .ref (ma 16), .ref (ma 17), .ref (ma 18), .ref (ma 19), .ref (ma 20), .ref (ma 21), .ref (ma 22), .ref (ma 23), .ref (ma 24), .ref (ma 25), .ref (ma 26), .ref (ma 27), .ref (ma 28), .ref (ma 29), .ref (ma 30), .ref (ma 31), .ref (ma 32), .ref (ma 33), .ref (ma 34), .ref (ma 35), .ref (ma 36), .ref (ma 37), .ref (ma 38), .ref (ma 39), .ref (ma 40), .ref (ma 41), .long 0])), ((ma 20), .inl (cy 1, 5, .inl (fun _ => 0))), ((ma 18), .inl (cy 1, 5, .inl (fun _ => 0))), ((ma 17), .inl (cy 1, 20, .inl (fun _ => 0)))] H := hP
  have hD : va_D A [((ma 0), .inr (10, [.int 0, .ref (ma 1), .ref (ma 2), .ref (ma 3), .ref (ma 4), .ref (ma 5), .int 0, .int 0, .int 0, .int 0, .int 0, .long 0, .int 0, .int 0, .int 0, .int (-1), .ref (ma 16), .ref (ma 17), .ref (ma 18), .ref (ma 19), .ref (ma 20), .ref (ma 21), .ref (ma 22), .ref (ma 23), .ref (ma 24), .ref (ma 25), .ref (ma 26), .ref (ma 27), .ref (ma 28), .ref (ma 29), .ref (ma 30), .ref (ma 31), .ref (ma 32), .ref (ma 33), .ref (ma 34), .ref (ma 35), .ref (ma 36), .ref (ma 37), .ref (ma 38), .ref (ma 39), .ref (ma 40), .ref (ma 41), .long 0])), ((ma 20), .inl (cy 1, 5, .inl (fun _ => 0))), ((ma 18), .inl (cy 1, 5, .inl (fun _ => 0))), ((ma 17), .inl (cy 1, 20, .inl (fun _ => 0)))] := hD
  refine lv_iload_n hx hb dX10_run_5 rfl (lv_at hl 1 rfl) ?_
  refine pu_calli (runS (As := [.int n0]) (rest := []) ⟨hx, hb, hml, hown, hts⟩ (m_isSeed l D cy n0 ) sS_X10_492 hK (hP.sub (ws' := []) [] rfl) ⟨Nat.le_of_ble_eq_true rfl, Nat.le_of_ble_eq_true rfl⟩ rfl hl.1 rfl (Nat.le_of_ble_eq_true rfl) dX10_run_6 ⟨Nat.le_of_ble_eq_true rfl, Nat.le_of_ble_eq_true rfl⟩) (fun r_1 hr_1 => ?_)
  rcases hr_1 with hr_1_0 | hr_1_1
  · skip
    obtain ⟨er_1, hr_1_0_f0, hr_1_0_f1⟩ := hr_1_0
    have hr_1_0_f0 : 0 ≤ n0.toInt := hr_1_0_f0
    have hr_1_0_f1 : n0.toInt ≤ 2000000000 := hr_1_0_f1
    subst er_1
    refine W.eq (g2 := F0 m 9 ls [.int 1]) rfl ?_
    refine lv_if_eq (tgt := 19) hx hb dX10_run_9 (by decide) (fun c_2 => absurd c_2 (by decide)) (fun _ => ?_)
    refine lv_aload_n hx hb dX10_run_12 rfl (lv_at hl 0 rfl) ?_
    refine pu_calli (runV (As := []) (rest := []) ⟨hx, hb, hml, hown, hts⟩ (m_lastDay l D cy ma ) sV_X10_278 hK (va_recv hK.1 hP (ci := 10) (q0 := 0) rfl rfl) (hP.sub (ws' := [((ma 0), .inr (10, [.int 0, .ref (ma 1), .ref (ma 2), .ref (ma 3), .ref (ma 4), .ref (ma 5), .int 0, .int 0, .int 0, .int 0, .int 0, .long 0, .int 0, .int 0, .int 0, .int (-1), .ref (ma 16), .ref (ma 17), .ref (ma 18), .ref (ma 19), .ref (ma 20), .ref (ma 21), .ref (ma 22), .ref (ma 23), .ref (ma 24), .ref (ma 25), .ref (ma 26), .ref (ma 27), .ref (ma 28), .ref (ma 29), .ref (ma 30), .ref (ma 31), .ref (ma 32), .ref (ma 33), .ref (ma 34), .ref (ma 35), .ref (ma 36), .ref (ma 37), .ref (ma 38), .ref (ma 39), .ref (ma 40), .ref (ma 41), .long 0])), ((ma 17), .inl (cy 1, 20, .inl (fun _ => 0)))]) [0, 3] rfl) ⟨Nat.le_of_ble_eq_true rfl, Nat.le_of_ble_eq_true rfl⟩ rfl hl.1 rfl (Nat.le_of_ble_eq_true rfl) dX10_run_13 ⟨Nat.le_of_ble_eq_true rfl, Nat.le_of_ble_eq_true rfl⟩) (fun r_3 hr_3 => ?_)
    have er_3 := hr_3
    subst er_3
    refine W.eq (g2 := F0 m 16 ls [.int 0]) rfl ?_
    refine lv_if_ne (tgt := 22) hx hb dX10_run_16 (by decide) (fun c_4 => absurd c_4 (by decide)) (fun _ => ?_)
    refine lv_bipush (v := (-2)) hx hb dX10_run_19 (by decide) ?_
    exact ret_i hx hb hr hlocks ⟨⟨hS.1, hS.2.1⟩, (), ⟨_, rfl, rfl⟩, hP.sub [] rfl, hD.sub [] (by decide) rfl⟩ hS.2.2 (Nat.le_of_ble_eq_true rfl) (Nat.le_of_ble_eq_true rfl) dX10_run_21
  · skip
    obtain ⟨er_1, hr_1_1_f0⟩ := hr_1_1
    have hr_1_1_f0 : (n0.toInt < 0 ∨ 2000000000 < n0.toInt) := hr_1_1_f0
    subst er_1
    refine W.eq (g2 := F0 m 9 ls [.int 0]) rfl ?_
    refine lv_if_eq (tgt := 19) hx hb dX10_run_9 (by decide) (fun _ => ?_) (fun c_5 => absurd (by decide) c_5)
    refine lv_bipush (v := (-2)) hx hb dX10_run_19 (by decide) ?_
    exact ret_i hx hb hr hlocks ⟨⟨hS.1, hS.2.1⟩, (), ⟨_, rfl, rfl⟩, hP.sub [] rfl, hD.sub [] (by decide) rfl⟩ hS.2.2 (Nat.le_of_ble_eq_true rfl) (Nat.le_of_ble_eq_true rfl) dX10_run_21
set_option maxHeartbeats 4000000 in
set_option maxRecDepth 100000 in
theorem g_X10_told (l : Launch) (D : va_G) (cy : Nat → ClassId) (ma : Nat → Nat) (n0 : Int32) (sz : Nat) : MM l yX10_told cX10_told 5 (some .int) 2 0 0 D cy [.ref (ma 0), .int n0] (PW D [((ma 0), .inr (10, [.int 0, .ref (ma 1), .ref (ma 2), .ref (ma 3), .ref (ma 4), .ref (ma 5), .int 0, .int 0, .int 0, .int 0, .int 0, .long 0, .int 0, .int 0, .int 0, .int (-1), .ref (ma 16), .ref (ma 17), .ref (ma 18), .ref (ma 19), .ref (ma 20), .ref (ma 21), .ref (ma 22), .ref (ma 23), .ref (ma 24), .ref (ma 25), .ref (ma 26), .ref (ma 27), .ref (ma 28), .ref (ma 29), .ref (ma 30), .ref (ma 31), .ref (ma 32), .ref (ma 33), .ref (ma 34), .ref (ma 35), .ref (ma 36), .ref (ma 37), .ref (ma 38), .ref (ma 39), .ref (ma 40), .ref (ma 41), .long 0])), ((ma 20), .inl (cy 1, 5, .inl (fun _ => 0))), ((ma 18), .inl (cy 1, 5, .inl (fun _ => 0))), ((ma 17), .inl (cy 1, 20, .inl (fun _ => 0)))] sz) (QW D (va_A [((ma 0), .inr (10, [.int 0, .ref (ma 1), .ref (ma 2), .ref (ma 3), .ref (ma 4), .ref (ma 5), .int 0, .int 0, .int 0, .int 0, .int 0, .long 0, .int 0, .int 0, .int 0, .int (-1), .ref (ma 16), .ref (ma 17), .ref (ma 18), .ref (ma 19), .ref (ma 20), .ref (ma 21), .ref (ma 22), .ref (ma 23), .ref (ma 24), .ref (ma 25), .ref (ma 26), .ref (ma 27), .ref (ma 28), .ref (ma 29), .ref (ma 30), .ref (ma 31), .ref (ma 32), .ref (ma 33), .ref (ma 34), .ref (ma 35), .ref (ma 36), .ref (ma 37), .ref (ma 38), .ref (ma 39), .ref (ma 40), .ref (ma 41), .long 0])), ((ma 20), .inl (cy 1, 5, .inl (fun _ => 0))), ((ma 18), .inl (cy 1, 5, .inl (fun _ => 0))), ((ma 17), .inl (cy 1, 20, .inl (fun _ => 0)))] sz) (S := Unit) (fun v u => (∃ r : Int32, v = some (.int r) ∧ (r = (-2)))) (fun u => [])) (va_A [((ma 0), .inr (10, [.int 0, .ref (ma 1), .ref (ma 2), .ref (ma 3), .ref (ma 4), .ref (ma 5), .int 0, .int 0, .int 0, .int 0, .int 0, .long 0, .int 0, .int 0, .int 0, .int (-1), .ref (ma 16), .ref (ma 17), .ref (ma 18), .ref (ma 19), .ref (ma 20), .ref (ma 21), .ref (ma 22), .ref (ma 23), .ref (ma 24), .ref (ma 25), .ref (ma 26), .ref (ma 27), .ref (ma 28), .ref (ma 29), .ref (ma 30), .ref (ma 31), .ref (ma 32), .ref (ma 33), .ref (ma 34), .ref (ma 35), .ref (ma 36), .ref (ma 37), .ref (ma 38), .ref (ma 39), .ref (ma 40), .ref (ma 41), .long 0])), ((ma 20), .inl (cy 1, 5, .inl (fun _ => 0))), ((ma 18), .inl (cy 1, 5, .inl (fun _ => 0))), ((ma 17), .inl (cy 1, 20, .inl (fun _ => 0)))] sz) := by
  refine MM.of (by decide) (Nat.le_of_ble_eq_true rfl) ?_
  intro p e s m below meth c C hPW ls hl
  obtain ⟨hx, hb, hr, hml, hown, hts, hlocks, hK, hnm⟩ := C
  obtain ⟨rfl, hP, hD0⟩ := hPW
  have hD := hD0.self (sz := s.heap.size)
  have hA : ∀ q : Nat, s.heap.size ≤ q → (va_A [((ma 0), .inr (10, [.int 0, .ref (ma 1), .ref (ma 2), .ref (ma 3), .ref (ma 4), .ref (ma 5), .int 0, .int 0, .int 0, .int 0, .int 0, .long 0, .int 0, .int 0, .int 0, .int (-1), .ref (ma 16), .ref (ma 17), .ref (ma 18), .ref (ma 19), .ref (ma 20), .ref (ma 21), .ref (ma 22), .ref (ma 23), .ref (ma 24), .ref (ma 25), .ref (ma 26), .ref (ma 27), .ref (ma 28), .ref (ma 29), .ref (ma 30), .ref (ma 31), .ref (ma 32), .ref (ma 33), .ref (ma 34), .ref (ma 35), .ref (ma 36), .ref (ma 37), .ref (ma 38), .ref (ma 39), .ref (ma 40), .ref (ma 41), .long 0])), ((ma 20), .inl (cy 1, 5, .inl (fun _ => 0))), ((ma 18), .inl (cy 1, 5, .inl (fun _ => 0))), ((ma 17), .inl (cy 1, 20, .inl (fun _ => 0)))] s.heap.size) q := fun q h => Or.inr h
  have hS : va_S (va_A [((ma 0), .inr (10, [.int 0, .ref (ma 1), .ref (ma 2), .ref (ma 3), .ref (ma 4), .ref (ma 5), .int 0, .int 0, .int 0, .int 0, .int 0, .long 0, .int 0, .int 0, .int 0, .int (-1), .ref (ma 16), .ref (ma 17), .ref (ma 18), .ref (ma 19), .ref (ma 20), .ref (ma 21), .ref (ma 22), .ref (ma 23), .ref (ma 24), .ref (ma 25), .ref (ma 26), .ref (ma 27), .ref (ma 28), .ref (ma 29), .ref (ma 30), .ref (ma 31), .ref (ma 32), .ref (ma 33), .ref (ma 34), .ref (ma 35), .ref (ma 36), .ref (ma 37), .ref (ma 38), .ref (ma 39), .ref (ma 40), .ref (ma 41), .long 0])), ((ma 20), .inl (cy 1, 5, .inl (fun _ => 0))), ((ma 18), .inl (cy 1, 5, .inl (fun _ => 0))), ((ma 17), .inl (cy 1, 20, .inl (fun _ => 0)))] s.heap.size) s.heap s.heap [] := va_S.rf
  generalize va_A [((ma 0), .inr (10, [.int 0, .ref (ma 1), .ref (ma 2), .ref (ma 3), .ref (ma 4), .ref (ma 5), .int 0, .int 0, .int 0, .int 0, .int 0, .long 0, .int 0, .int 0, .int 0, .int (-1), .ref (ma 16), .ref (ma 17), .ref (ma 18), .ref (ma 19), .ref (ma 20), .ref (ma 21), .ref (ma 22), .ref (ma 23), .ref (ma 24), .ref (ma 25), .ref (ma 26), .ref (ma 27), .ref (ma 28), .ref (ma 29), .ref (ma 30), .ref (ma 31), .ref (ma 32), .ref (ma 33), .ref (ma 34), .ref (ma 35), .ref (ma 36), .ref (ma 37), .ref (ma 38), .ref (ma 39), .ref (ma 40), .ref (ma 41), .long 0])), ((ma 20), .inl (cy 1, 5, .inl (fun _ => 0))), ((ma 18), .inl (cy 1, 5, .inl (fun _ => 0))), ((ma 17), .inl (cy 1, 20, .inl (fun _ => 0)))] s.heap.size = A at hD hA hS ⊢
  have hP : va_P D vwCl [((ma 0), .inr (10, [.int 0, .ref (ma 1), .ref (ma 2), .ref (ma 3), .ref (ma 4), .ref (ma 5), .int 0, .int 0, .int 0, .int 0, .int 0, .long 0, .int 0, .int 0, .int 0, .int (-1), .ref (ma 16), .ref (ma 17), .ref (ma 18), .ref (ma 19), .ref (ma 20), .ref (ma 21), .ref (ma 22), .ref (ma 23), .ref (ma 24), .ref (ma 25), .ref (ma 26), .ref (ma 27), .ref (ma 28), .ref (ma 29), .ref (ma 30), .ref (ma 31), .ref (ma 32), .ref (ma 33), .ref (ma 34), .ref (ma 35), .ref (ma 36), .ref (ma 37), .ref (ma 38), .ref (ma 39), .ref (ma 40), .ref (ma 41), .long 0])), ((ma 20), .inl (cy 1, 5, .inl (fun _ => 0))), ((ma 18), .inl (cy 1, 5, .inl (fun _ => 0))), ((ma 17), .inl (cy 1, 20, .inl (fun _ => 0)))] s.heap := hP
  have hl : lv_has ls 5 [(0, .ref (ma 0)), (1, .int n0)] := hl
  refine lv_aload_n hx hb dX10_told_0 rfl (lv_at hl 0 rfl) ?_
  refine lv_iconst (v := 0) hx hb dX10_told_1 (by decide) ?_
  refine va_put (D := D) (ci := 10) (v := .int 0) (ty := tyX10 0) (C := RX10) (T := TX10) (N := 43) hx hb hts lay_X10 tyX10 tyX10_ok nmX10 hown hK.1 hP hD hS 0 rfl rfl 0 (by decide) (hts _ fl_X10_111) (fun _ h9 => h9) rfl (tyX10_ok 0 (by decide)) rfl rfl (Nat.le_of_ble_eq_true rfl) dX10_told_2 (fun H locs hP hD hS => ?_)
  have hP : va_P D vwCl [((ma 0), .inr (10, [.int 0, .ref (ma 1), .ref (ma 2), .ref (ma 3), .ref (ma 4), .ref (ma 5), .int 0, .int 0, .int 0, .int 0, .int 0, .long 0, .int 0, .int 0, .int 0, .int (-1), .ref (ma 16), .ref (ma 17), .ref (ma 18), .ref (ma 19), .ref (ma 20), .ref (ma 21), .ref (ma 22), .ref (ma 23), .ref (ma 24), .ref (ma 25), .ref (ma 26), .ref (ma 27), .ref (ma 28), .ref (ma 29), .ref (ma 30), .ref (ma 31), .ref (ma 32), .ref (ma 33), .ref (ma 34), .ref (ma 35), .ref (ma 36), .ref (ma 37), .ref (ma 38), .ref (ma 39), .ref (ma 40), .ref (ma 41), .long 0])), ((ma 20), .inl (cy 1, 5, .inl (fun _ => 0))), ((ma 18), .inl (cy 1, 5, .inl (fun _ => 0))), ((ma 17), .inl (cy 1, 20, .inl (fun _ => 0)))] H := hP
  have hD : va_D A [((ma 0), .inr (10, [.int 0, .ref (ma 1), .ref (ma 2), .ref (ma 3), .ref (ma 4), .ref (ma 5), .int 0, .int 0, .int 0, .int 0, .int 0, .long 0, .int 0, .int 0, .int 0, .int (-1), .ref (ma 16), .ref (ma 17), .ref (ma 18), .ref (ma 19), .ref (ma 20), .ref (ma 21), .ref (ma 22), .ref (ma 23), .ref (ma 24), .ref (ma 25), .ref (ma 26), .ref (ma 27), .ref (ma 28), .ref (ma 29), .ref (ma 30), .ref (ma 31), .ref (ma 32), .ref (ma 33), .ref (ma 34), .ref (ma 35), .ref (ma 36), .ref (ma 37), .ref (ma 38), .ref (ma 39), .ref (ma 40), .ref (ma 41), .long 0])), ((ma 20), .inl (cy 1, 5, .inl (fun _ => 0))), ((ma 18), .inl (cy 1, 5, .inl (fun _ => 0))), ((ma 17), .inl (cy 1, 20, .inl (fun _ => 0)))] := hD
  refine lv_iload_n hx hb dX10_told_5 rfl (lv_at hl 1 rfl) ?_
  refine pu_calli (runS (As := [.int n0]) (rest := []) ⟨hx, hb, hml, hown, hts⟩ (m_isSlot l D cy n0 ) sS_X10_120 hK (hP.sub (ws' := []) [] rfl) ⟨Nat.le_of_ble_eq_true rfl, Nat.le_of_ble_eq_true rfl⟩ rfl hl.1 rfl (Nat.le_of_ble_eq_true rfl) dX10_told_6 ⟨Nat.le_of_ble_eq_true rfl, Nat.le_of_ble_eq_true rfl⟩) (fun r_1 hr_1 => ?_)
  rcases hr_1 with hr_1_0 | hr_1_1
  · skip
    obtain ⟨er_1, hr_1_0_f0, hr_1_0_f1⟩ := hr_1_0
    have hr_1_0_f0 : 0 ≤ n0.toInt := hr_1_0_f0
    have hr_1_0_f1 : n0.toInt ≤ 3 := hr_1_0_f1
    subst er_1
    refine W.eq (g2 := F0 m 9 ls [.int 1]) rfl ?_
    refine lv_if_eq (tgt := 19) hx hb dX10_told_9 (by decide) (fun c_2 => absurd c_2 (by decide)) (fun _ => ?_)
    refine lv_aload_n hx hb dX10_told_12 rfl (lv_at hl 0 rfl) ?_
    refine pu_calli (runV (As := []) (rest := []) ⟨hx, hb, hml, hown, hts⟩ (m_lastDay l D cy ma ) sV_X10_278 hK (va_recv hK.1 hP (ci := 10) (q0 := 0) rfl rfl) (hP.sub (ws' := [((ma 0), .inr (10, [.int 0, .ref (ma 1), .ref (ma 2), .ref (ma 3), .ref (ma 4), .ref (ma 5), .int 0, .int 0, .int 0, .int 0, .int 0, .long 0, .int 0, .int 0, .int 0, .int (-1), .ref (ma 16), .ref (ma 17), .ref (ma 18), .ref (ma 19), .ref (ma 20), .ref (ma 21), .ref (ma 22), .ref (ma 23), .ref (ma 24), .ref (ma 25), .ref (ma 26), .ref (ma 27), .ref (ma 28), .ref (ma 29), .ref (ma 30), .ref (ma 31), .ref (ma 32), .ref (ma 33), .ref (ma 34), .ref (ma 35), .ref (ma 36), .ref (ma 37), .ref (ma 38), .ref (ma 39), .ref (ma 40), .ref (ma 41), .long 0])), ((ma 17), .inl (cy 1, 20, .inl (fun _ => 0)))]) [0, 3] rfl) ⟨Nat.le_of_ble_eq_true rfl, Nat.le_of_ble_eq_true rfl⟩ rfl hl.1 rfl (Nat.le_of_ble_eq_true rfl) dX10_told_13 ⟨Nat.le_of_ble_eq_true rfl, Nat.le_of_ble_eq_true rfl⟩) (fun r_3 hr_3 => ?_)
    have er_3 := hr_3
    subst er_3
    refine W.eq (g2 := F0 m 16 ls [.int 0]) rfl ?_
    refine lv_if_ne (tgt := 22) hx hb dX10_told_16 (by decide) (fun c_4 => absurd c_4 (by decide)) (fun _ => ?_)
    refine lv_bipush (v := (-2)) hx hb dX10_told_19 (by decide) ?_
    exact ret_i hx hb hr hlocks ⟨⟨hS.1, hS.2.1⟩, (), ⟨_, rfl, rfl⟩, hP.sub [] rfl, hD.sub [] (by decide) rfl⟩ hS.2.2 (Nat.le_of_ble_eq_true rfl) (Nat.le_of_ble_eq_true rfl) dX10_told_21
  · skip
    obtain ⟨er_1, hr_1_1_f0⟩ := hr_1_1
    have hr_1_1_f0 : (n0.toInt < 0 ∨ 3 < n0.toInt) := hr_1_1_f0
    subst er_1
    refine W.eq (g2 := F0 m 9 ls [.int 0]) rfl ?_
    refine lv_if_eq (tgt := 19) hx hb dX10_told_9 (by decide) (fun _ => ?_) (fun c_5 => absurd (by decide) c_5)
    refine lv_bipush (v := (-2)) hx hb dX10_told_19 (by decide) ?_
    exact ret_i hx hb hr hlocks ⟨⟨hS.1, hS.2.1⟩, (), ⟨_, rfl, rfl⟩, hP.sub [] rfl, hD.sub [] (by decide) rfl⟩ hS.2.2 (Nat.le_of_ble_eq_true rfl) (Nat.le_of_ble_eq_true rfl) dX10_told_21
set_option maxHeartbeats 4000000 in
set_option maxRecDepth 100000 in
theorem g_X10_shut (l : Launch) (D : va_G) (cy : Nat → ClassId) (ma : Nat → Nat) (n0 : Int32) (sz : Nat) : MM l yX10_shut cX10_shut 2 (some .int) 2 0 0 D cy [.ref (ma 0), .int n0] (PW D [((ma 0), .inr (10, [.int 0, .ref (ma 1), .ref (ma 2), .ref (ma 3), .ref (ma 4), .ref (ma 5), .int 0, .int 0, .int 0, .int 0, .int 0, .long 0, .int 0, .int 0, .int 0, .int (-1), .ref (ma 16), .ref (ma 17), .ref (ma 18), .ref (ma 19), .ref (ma 20), .ref (ma 21), .ref (ma 22), .ref (ma 23), .ref (ma 24), .ref (ma 25), .ref (ma 26), .ref (ma 27), .ref (ma 28), .ref (ma 29), .ref (ma 30), .ref (ma 31), .ref (ma 32), .ref (ma 33), .ref (ma 34), .ref (ma 35), .ref (ma 36), .ref (ma 37), .ref (ma 38), .ref (ma 39), .ref (ma 40), .ref (ma 41), .long 0])), ((ma 20), .inl (cy 1, 5, .inl (fun _ => 0))), ((ma 18), .inl (cy 1, 5, .inl (fun _ => 0))), ((ma 17), .inl (cy 1, 20, .inl (fun _ => 0)))] sz) (QW D (va_A [((ma 0), .inr (10, [.int 0, .ref (ma 1), .ref (ma 2), .ref (ma 3), .ref (ma 4), .ref (ma 5), .int 0, .int 0, .int 0, .int 0, .int 0, .long 0, .int 0, .int 0, .int 0, .int (-1), .ref (ma 16), .ref (ma 17), .ref (ma 18), .ref (ma 19), .ref (ma 20), .ref (ma 21), .ref (ma 22), .ref (ma 23), .ref (ma 24), .ref (ma 25), .ref (ma 26), .ref (ma 27), .ref (ma 28), .ref (ma 29), .ref (ma 30), .ref (ma 31), .ref (ma 32), .ref (ma 33), .ref (ma 34), .ref (ma 35), .ref (ma 36), .ref (ma 37), .ref (ma 38), .ref (ma 39), .ref (ma 40), .ref (ma 41), .long 0])), ((ma 20), .inl (cy 1, 5, .inl (fun _ => 0))), ((ma 18), .inl (cy 1, 5, .inl (fun _ => 0))), ((ma 17), .inl (cy 1, 20, .inl (fun _ => 0)))] sz) (S := Unit) (fun v u => (∃ r : Int32, v = some (.int r) ∧ (r = (-2)))) (fun u => [])) (va_A [((ma 0), .inr (10, [.int 0, .ref (ma 1), .ref (ma 2), .ref (ma 3), .ref (ma 4), .ref (ma 5), .int 0, .int 0, .int 0, .int 0, .int 0, .long 0, .int 0, .int 0, .int 0, .int (-1), .ref (ma 16), .ref (ma 17), .ref (ma 18), .ref (ma 19), .ref (ma 20), .ref (ma 21), .ref (ma 22), .ref (ma 23), .ref (ma 24), .ref (ma 25), .ref (ma 26), .ref (ma 27), .ref (ma 28), .ref (ma 29), .ref (ma 30), .ref (ma 31), .ref (ma 32), .ref (ma 33), .ref (ma 34), .ref (ma 35), .ref (ma 36), .ref (ma 37), .ref (ma 38), .ref (ma 39), .ref (ma 40), .ref (ma 41), .long 0])), ((ma 20), .inl (cy 1, 5, .inl (fun _ => 0))), ((ma 18), .inl (cy 1, 5, .inl (fun _ => 0))), ((ma 17), .inl (cy 1, 20, .inl (fun _ => 0)))] sz) := by
  refine MM.of (by decide) (Nat.le_of_ble_eq_true rfl) ?_
  intro p e s m below meth c C hPW ls hl
  obtain ⟨hx, hb, hr, hml, hown, hts, hlocks, hK, hnm⟩ := C
  obtain ⟨rfl, hP, hD0⟩ := hPW
  have hD := hD0.self (sz := s.heap.size)
  have hA : ∀ q : Nat, s.heap.size ≤ q → (va_A [((ma 0), .inr (10, [.int 0, .ref (ma 1), .ref (ma 2), .ref (ma 3), .ref (ma 4), .ref (ma 5), .int 0, .int 0, .int 0, .int 0, .int 0, .long 0, .int 0, .int 0, .int 0, .int (-1), .ref (ma 16), .ref (ma 17), .ref (ma 18), .ref (ma 19), .ref (ma 20), .ref (ma 21), .ref (ma 22), .ref (ma 23), .ref (ma 24), .ref (ma 25), .ref (ma 26), .ref (ma 27), .ref (ma 28), .ref (ma 29), .ref (ma 30), .ref (ma 31), .ref (ma 32), .ref (ma 33), .ref (ma 34), .ref (ma 35), .ref (ma 36), .ref (ma 37), .ref (ma 38), .ref (ma 39), .ref (ma 40), .ref (ma 41), .long 0])), ((ma 20), .inl (cy 1, 5, .inl (fun _ => 0))), ((ma 18), .inl (cy 1, 5, .inl (fun _ => 0))), ((ma 17), .inl (cy 1, 20, .inl (fun _ => 0)))] s.heap.size) q := fun q h => Or.inr h
  have hS : va_S (va_A [((ma 0), .inr (10, [.int 0, .ref (ma 1), .ref (ma 2), .ref (ma 3), .ref (ma 4), .ref (ma 5), .int 0, .int 0, .int 0, .int 0, .int 0, .long 0, .int 0, .int 0, .int 0, .int (-1), .ref (ma 16), .ref (ma 17), .ref (ma 18), .ref (ma 19), .ref (ma 20), .ref (ma 21), .ref (ma 22), .ref (ma 23), .ref (ma 24), .ref (ma 25), .ref (ma 26), .ref (ma 27), .ref (ma 28), .ref (ma 29), .ref (ma 30), .ref (ma 31), .ref (ma 32), .ref (ma 33), .ref (ma 34), .ref (ma 35), .ref (ma 36), .ref (ma 37), .ref (ma 38), .ref (ma 39), .ref (ma 40), .ref (ma 41), .long 0])), ((ma 20), .inl (cy 1, 5, .inl (fun _ => 0))), ((ma 18), .inl (cy 1, 5, .inl (fun _ => 0))), ((ma 17), .inl (cy 1, 20, .inl (fun _ => 0)))] s.heap.size) s.heap s.heap [] := va_S.rf
  generalize va_A [((ma 0), .inr (10, [.int 0, .ref (ma 1), .ref (ma 2), .ref (ma 3), .ref (ma 4), .ref (ma 5), .int 0, .int 0, .int 0, .int 0, .int 0, .long 0, .int 0, .int 0, .int 0, .int (-1), .ref (ma 16), .ref (ma 17), .ref (ma 18), .ref (ma 19), .ref (ma 20), .ref (ma 21), .ref (ma 22), .ref (ma 23), .ref (ma 24), .ref (ma 25), .ref (ma 26), .ref (ma 27), .ref (ma 28), .ref (ma 29), .ref (ma 30), .ref (ma 31), .ref (ma 32), .ref (ma 33), .ref (ma 34), .ref (ma 35), .ref (ma 36), .ref (ma 37), .ref (ma 38), .ref (ma 39), .ref (ma 40), .ref (ma 41), .long 0])), ((ma 20), .inl (cy 1, 5, .inl (fun _ => 0))), ((ma 18), .inl (cy 1, 5, .inl (fun _ => 0))), ((ma 17), .inl (cy 1, 20, .inl (fun _ => 0)))] s.heap.size = A at hD hA hS ⊢
  have hP : va_P D vwCl [((ma 0), .inr (10, [.int 0, .ref (ma 1), .ref (ma 2), .ref (ma 3), .ref (ma 4), .ref (ma 5), .int 0, .int 0, .int 0, .int 0, .int 0, .long 0, .int 0, .int 0, .int 0, .int (-1), .ref (ma 16), .ref (ma 17), .ref (ma 18), .ref (ma 19), .ref (ma 20), .ref (ma 21), .ref (ma 22), .ref (ma 23), .ref (ma 24), .ref (ma 25), .ref (ma 26), .ref (ma 27), .ref (ma 28), .ref (ma 29), .ref (ma 30), .ref (ma 31), .ref (ma 32), .ref (ma 33), .ref (ma 34), .ref (ma 35), .ref (ma 36), .ref (ma 37), .ref (ma 38), .ref (ma 39), .ref (ma 40), .ref (ma 41), .long 0])), ((ma 20), .inl (cy 1, 5, .inl (fun _ => 0))), ((ma 18), .inl (cy 1, 5, .inl (fun _ => 0))), ((ma 17), .inl (cy 1, 20, .inl (fun _ => 0)))] s.heap := hP
  have hl : lv_has ls 2 [(0, .ref (ma 0)), (1, .int n0)] := hl
  refine lv_aload_n hx hb dX10_shut_0 rfl (lv_at hl 0 rfl) ?_
  refine lv_iconst (v := 0) hx hb dX10_shut_1 (by decide) ?_
  refine va_put (D := D) (ci := 10) (v := .int 0) (ty := tyX10 0) (C := RX10) (T := TX10) (N := 43) hx hb hts lay_X10 tyX10 tyX10_ok nmX10 hown hK.1 hP hD hS 0 rfl rfl 0 (by decide) (hts _ fl_X10_111) (fun _ h9 => h9) rfl (tyX10_ok 0 (by decide)) rfl rfl (Nat.le_of_ble_eq_true rfl) dX10_shut_2 (fun H locs hP hD hS => ?_)
  have hP : va_P D vwCl [((ma 0), .inr (10, [.int 0, .ref (ma 1), .ref (ma 2), .ref (ma 3), .ref (ma 4), .ref (ma 5), .int 0, .int 0, .int 0, .int 0, .int 0, .long 0, .int 0, .int 0, .int 0, .int (-1), .ref (ma 16), .ref (ma 17), .ref (ma 18), .ref (ma 19), .ref (ma 20), .ref (ma 21), .ref (ma 22), .ref (ma 23), .ref (ma 24), .ref (ma 25), .ref (ma 26), .ref (ma 27), .ref (ma 28), .ref (ma 29), .ref (ma 30), .ref (ma 31), .ref (ma 32), .ref (ma 33), .ref (ma 34), .ref (ma 35), .ref (ma 36), .ref (ma 37), .ref (ma 38), .ref (ma 39), .ref (ma 40), .ref (ma 41), .long 0])), ((ma 20), .inl (cy 1, 5, .inl (fun _ => 0))), ((ma 18), .inl (cy 1, 5, .inl (fun _ => 0))), ((ma 17), .inl (cy 1, 20, .inl (fun _ => 0)))] H := hP
  have hD : va_D A [((ma 0), .inr (10, [.int 0, .ref (ma 1), .ref (ma 2), .ref (ma 3), .ref (ma 4), .ref (ma 5), .int 0, .int 0, .int 0, .int 0, .int 0, .long 0, .int 0, .int 0, .int 0, .int (-1), .ref (ma 16), .ref (ma 17), .ref (ma 18), .ref (ma 19), .ref (ma 20), .ref (ma 21), .ref (ma 22), .ref (ma 23), .ref (ma 24), .ref (ma 25), .ref (ma 26), .ref (ma 27), .ref (ma 28), .ref (ma 29), .ref (ma 30), .ref (ma 31), .ref (ma 32), .ref (ma 33), .ref (ma 34), .ref (ma 35), .ref (ma 36), .ref (ma 37), .ref (ma 38), .ref (ma 39), .ref (ma 40), .ref (ma 41), .long 0])), ((ma 20), .inl (cy 1, 5, .inl (fun _ => 0))), ((ma 18), .inl (cy 1, 5, .inl (fun _ => 0))), ((ma 17), .inl (cy 1, 20, .inl (fun _ => 0)))] := hD
  refine lv_aload_n hx hb dX10_shut_5 rfl (lv_at hl 0 rfl) ?_
  refine lv_iload_n hx hb dX10_shut_6 rfl (lv_at hl 1 rfl) ?_
  refine pu_calli (runV (As := [.int n0]) (rest := []) ⟨hx, hb, hml, hown, hts⟩ (m_isValley l D cy ma n0 ) sV_X10_297 hK (va_recv hK.1 hP (ci := 10) (q0 := 0) rfl rfl) (hP.sub (ws' := [((ma 0), .inr (10, [.int 0, .ref (ma 1), .ref (ma 2), .ref (ma 3), .ref (ma 4), .ref (ma 5), .int 0, .int 0, .int 0, .int 0, .int 0, .long 0, .int 0, .int 0, .int 0, .int (-1), .ref (ma 16), .ref (ma 17), .ref (ma 18), .ref (ma 19), .ref (ma 20), .ref (ma 21), .ref (ma 22), .ref (ma 23), .ref (ma 24), .ref (ma 25), .ref (ma 26), .ref (ma 27), .ref (ma 28), .ref (ma 29), .ref (ma 30), .ref (ma 31), .ref (ma 32), .ref (ma 33), .ref (ma 34), .ref (ma 35), .ref (ma 36), .ref (ma 37), .ref (ma 38), .ref (ma 39), .ref (ma 40), .ref (ma 41), .long 0])), ((ma 20), .inl (cy 1, 5, .inl (fun _ => 0)))]) [0, 1] rfl) ⟨Nat.le_of_ble_eq_true rfl, Nat.le_of_ble_eq_true rfl⟩ rfl hl.1 rfl (Nat.le_of_ble_eq_true rfl) dX10_shut_7 ⟨Nat.le_of_ble_eq_true rfl, Nat.le_of_ble_eq_true rfl⟩) (fun r_1 hr_1 => ?_)
  have er_1 := hr_1
  subst er_1
  refine W.eq (g2 := F0 m 10 ls [.int 0]) rfl ?_
  refine lv_if_ne (tgt := 18) hx hb dX10_shut_10 (by decide) (fun c_2 => absurd c_2 (by decide)) (fun _ => ?_)
  refine lv_bipush (v := (-2)) hx hb dX10_shut_13 (by decide) ?_
  refine lv_goto (tgt := 37) hx hb dX10_shut_15 (by decide) ?_
  exact ret_i hx hb hr hlocks ⟨⟨hS.1, hS.2.1⟩, (), ⟨_, rfl, rfl⟩, hP.sub [] rfl, hD.sub [] (by decide) rfl⟩ hS.2.2 (Nat.le_of_ble_eq_true rfl) (Nat.le_of_ble_eq_true rfl) dX10_shut_37
set_option maxHeartbeats 4000000 in
set_option maxRecDepth 100000 in
theorem g_X10_lacks (l : Launch) (D : va_G) (cy : Nat → ClassId) (ma : Nat → Nat) (n0 : Int32) (n1 : Int32) (n2 : Int32) (n3 : Int32) (sz : Nat) : MM l yX10_lacks cX10_lacks 6 (some .int) 3 0 0 D cy [.ref (ma 0), .int n0, .int n1, .int n2, .int n3] (PW D [((ma 0), .inr (10, [.int 0, .ref (ma 1), .ref (ma 2), .ref (ma 3), .ref (ma 4), .ref (ma 5), .int 0, .int 0, .int 0, .int 0, .int 0, .long 0, .int 0, .int 0, .int 0, .int (-1), .ref (ma 16), .ref (ma 17), .ref (ma 18), .ref (ma 19), .ref (ma 20), .ref (ma 21), .ref (ma 22), .ref (ma 23), .ref (ma 24), .ref (ma 25), .ref (ma 26), .ref (ma 27), .ref (ma 28), .ref (ma 29), .ref (ma 30), .ref (ma 31), .ref (ma 32), .ref (ma 33), .ref (ma 34), .ref (ma 35), .ref (ma 36), .ref (ma 37), .ref (ma 38), .ref (ma 39), .ref (ma 40), .ref (ma 41), .long 0])), ((ma 20), .inl (cy 1, 5, .inl (fun _ => 0))), ((ma 18), .inl (cy 1, 5, .inl (fun _ => 0))), ((ma 17), .inl (cy 1, 20, .inl (fun _ => 0)))] sz) (QW D (va_A [((ma 0), .inr (10, [.int 0, .ref (ma 1), .ref (ma 2), .ref (ma 3), .ref (ma 4), .ref (ma 5), .int 0, .int 0, .int 0, .int 0, .int 0, .long 0, .int 0, .int 0, .int 0, .int (-1), .ref (ma 16), .ref (ma 17), .ref (ma 18), .ref (ma 19), .ref (ma 20), .ref (ma 21), .ref (ma 22), .ref (ma 23), .ref (ma 24), .ref (ma 25), .ref (ma 26), .ref (ma 27), .ref (ma 28), .ref (ma 29), .ref (ma 30), .ref (ma 31), .ref (ma 32), .ref (ma 33), .ref (ma 34), .ref (ma 35), .ref (ma 36), .ref (ma 37), .ref (ma 38), .ref (ma 39), .ref (ma 40), .ref (ma 41), .long 0])), ((ma 20), .inl (cy 1, 5, .inl (fun _ => 0))), ((ma 18), .inl (cy 1, 5, .inl (fun _ => 0))), ((ma 17), .inl (cy 1, 20, .inl (fun _ => 0)))] sz) (S := Unit) (fun v u => (∃ r : Int32, v = some (.int r) ∧ (r = (-2)))) (fun u => [])) (va_A [((ma 0), .inr (10, [.int 0, .ref (ma 1), .ref (ma 2), .ref (ma 3), .ref (ma 4), .ref (ma 5), .int 0, .int 0, .int 0, .int 0, .int 0, .long 0, .int 0, .int 0, .int 0, .int (-1), .ref (ma 16), .ref (ma 17), .ref (ma 18), .ref (ma 19), .ref (ma 20), .ref (ma 21), .ref (ma 22), .ref (ma 23), .ref (ma 24), .ref (ma 25), .ref (ma 26), .ref (ma 27), .ref (ma 28), .ref (ma 29), .ref (ma 30), .ref (ma 31), .ref (ma 32), .ref (ma 33), .ref (ma 34), .ref (ma 35), .ref (ma 36), .ref (ma 37), .ref (ma 38), .ref (ma 39), .ref (ma 40), .ref (ma 41), .long 0])), ((ma 20), .inl (cy 1, 5, .inl (fun _ => 0))), ((ma 18), .inl (cy 1, 5, .inl (fun _ => 0))), ((ma 17), .inl (cy 1, 20, .inl (fun _ => 0)))] sz) := by
  refine MM.of (by decide) (Nat.le_of_ble_eq_true rfl) ?_
  intro p e s m below meth c C hPW ls hl
  obtain ⟨hx, hb, hr, hml, hown, hts, hlocks, hK, hnm⟩ := C
  obtain ⟨rfl, hP, hD0⟩ := hPW
  have hD := hD0.self (sz := s.heap.size)
  have hA : ∀ q : Nat, s.heap.size ≤ q → (va_A [((ma 0), .inr (10, [.int 0, .ref (ma 1), .ref (ma 2), .ref (ma 3), .ref (ma 4), .ref (ma 5), .int 0, .int 0, .int 0, .int 0, .int 0, .long 0, .int 0, .int 0, .int 0, .int (-1), .ref (ma 16), .ref (ma 17), .ref (ma 18), .ref (ma 19), .ref (ma 20), .ref (ma 21), .ref (ma 22), .ref (ma 23), .ref (ma 24), .ref (ma 25), .ref (ma 26), .ref (ma 27), .ref (ma 28), .ref (ma 29), .ref (ma 30), .ref (ma 31), .ref (ma 32), .ref (ma 33), .ref (ma 34), .ref (ma 35), .ref (ma 36), .ref (ma 37), .ref (ma 38), .ref (ma 39), .ref (ma 40), .ref (ma 41), .long 0])), ((ma 20), .inl (cy 1, 5, .inl (fun _ => 0))), ((ma 18), .inl (cy 1, 5, .inl (fun _ => 0))), ((ma 17), .inl (cy 1, 20, .inl (fun _ => 0)))] s.heap.size) q := fun q h => Or.inr h
  have hS : va_S (va_A [((ma 0), .inr (10, [.int 0, .ref (ma 1), .ref (ma 2), .ref (ma 3), .ref (ma 4), .ref (ma 5), .int 0, .int 0, .int 0, .int 0, .int 0, .long 0, .int 0, .int 0, .int 0, .int (-1), .ref (ma 16), .ref (ma 17), .ref (ma 18), .ref (ma 19), .ref (ma 20), .ref (ma 21), .ref (ma 22), .ref (ma 23), .ref (ma 24), .ref (ma 25), .ref (ma 26), .ref (ma 27), .ref (ma 28), .ref (ma 29), .ref (ma 30), .ref (ma 31), .ref (ma 32), .ref (ma 33), .ref (ma 34), .ref (ma 35), .ref (ma 36), .ref (ma 37), .ref (ma 38), .ref (ma 39), .ref (ma 40), .ref (ma 41), .long 0])), ((ma 20), .inl (cy 1, 5, .inl (fun _ => 0))), ((ma 18), .inl (cy 1, 5, .inl (fun _ => 0))), ((ma 17), .inl (cy 1, 20, .inl (fun _ => 0)))] s.heap.size) s.heap s.heap [] := va_S.rf
  generalize va_A [((ma 0), .inr (10, [.int 0, .ref (ma 1), .ref (ma 2), .ref (ma 3), .ref (ma 4), .ref (ma 5), .int 0, .int 0, .int 0, .int 0, .int 0, .long 0, .int 0, .int 0, .int 0, .int (-1), .ref (ma 16), .ref (ma 17), .ref (ma 18), .ref (ma 19), .ref (ma 20), .ref (ma 21), .ref (ma 22), .ref (ma 23), .ref (ma 24), .ref (ma 25), .ref (ma 26), .ref (ma 27), .ref (ma 28), .ref (ma 29), .ref (ma 30), .ref (ma 31), .ref (ma 32), .ref (ma 33), .ref (ma 34), .ref (ma 35), .ref (ma 36), .ref (ma 37), .ref (ma 38), .ref (ma 39), .ref (ma 40), .ref (ma 41), .long 0])), ((ma 20), .inl (cy 1, 5, .inl (fun _ => 0))), ((ma 18), .inl (cy 1, 5, .inl (fun _ => 0))), ((ma 17), .inl (cy 1, 20, .inl (fun _ => 0)))] s.heap.size = A at hD hA hS ⊢
  have hP : va_P D vwCl [((ma 0), .inr (10, [.int 0, .ref (ma 1), .ref (ma 2), .ref (ma 3), .ref (ma 4), .ref (ma 5), .int 0, .int 0, .int 0, .int 0, .int 0, .long 0, .int 0, .int 0, .int 0, .int (-1), .ref (ma 16), .ref (ma 17), .ref (ma 18), .ref (ma 19), .ref (ma 20), .ref (ma 21), .ref (ma 22), .ref (ma 23), .ref (ma 24), .ref (ma 25), .ref (ma 26), .ref (ma 27), .ref (ma 28), .ref (ma 29), .ref (ma 30), .ref (ma 31), .ref (ma 32), .ref (ma 33), .ref (ma 34), .ref (ma 35), .ref (ma 36), .ref (ma 37), .ref (ma 38), .ref (ma 39), .ref (ma 40), .ref (ma 41), .long 0])), ((ma 20), .inl (cy 1, 5, .inl (fun _ => 0))), ((ma 18), .inl (cy 1, 5, .inl (fun _ => 0))), ((ma 17), .inl (cy 1, 20, .inl (fun _ => 0)))] s.heap := hP
  have hl : lv_has ls 6 [(0, .ref (ma 0)), (1, .int n0), (2, .int n1), (3, .int n2), (4, .int n3)] := hl
  refine lv_aload_n hx hb dX10_lacks_0 rfl (lv_at hl 0 rfl) ?_
  refine lv_iconst (v := 0) hx hb dX10_lacks_1 (by decide) ?_
  refine va_put (D := D) (ci := 10) (v := .int 0) (ty := tyX10 0) (C := RX10) (T := TX10) (N := 43) hx hb hts lay_X10 tyX10 tyX10_ok nmX10 hown hK.1 hP hD hS 0 rfl rfl 0 (by decide) (hts _ fl_X10_111) (fun _ h9 => h9) rfl (tyX10_ok 0 (by decide)) rfl rfl (Nat.le_of_ble_eq_true rfl) dX10_lacks_2 (fun H locs hP hD hS => ?_)
  have hP : va_P D vwCl [((ma 0), .inr (10, [.int 0, .ref (ma 1), .ref (ma 2), .ref (ma 3), .ref (ma 4), .ref (ma 5), .int 0, .int 0, .int 0, .int 0, .int 0, .long 0, .int 0, .int 0, .int 0, .int (-1), .ref (ma 16), .ref (ma 17), .ref (ma 18), .ref (ma 19), .ref (ma 20), .ref (ma 21), .ref (ma 22), .ref (ma 23), .ref (ma 24), .ref (ma 25), .ref (ma 26), .ref (ma 27), .ref (ma 28), .ref (ma 29), .ref (ma 30), .ref (ma 31), .ref (ma 32), .ref (ma 33), .ref (ma 34), .ref (ma 35), .ref (ma 36), .ref (ma 37), .ref (ma 38), .ref (ma 39), .ref (ma 40), .ref (ma 41), .long 0])), ((ma 20), .inl (cy 1, 5, .inl (fun _ => 0))), ((ma 18), .inl (cy 1, 5, .inl (fun _ => 0))), ((ma 17), .inl (cy 1, 20, .inl (fun _ => 0)))] H := hP
  have hD : va_D A [((ma 0), .inr (10, [.int 0, .ref (ma 1), .ref (ma 2), .ref (ma 3), .ref (ma 4), .ref (ma 5), .int 0, .int 0, .int 0, .int 0, .int 0, .long 0, .int 0, .int 0, .int 0, .int (-1), .ref (ma 16), .ref (ma 17), .ref (ma 18), .ref (ma 19), .ref (ma 20), .ref (ma 21), .ref (ma 22), .ref (ma 23), .ref (ma 24), .ref (ma 25), .ref (ma 26), .ref (ma 27), .ref (ma 28), .ref (ma 29), .ref (ma 30), .ref (ma 31), .ref (ma 32), .ref (ma 33), .ref (ma 34), .ref (ma 35), .ref (ma 36), .ref (ma 37), .ref (ma 38), .ref (ma 39), .ref (ma 40), .ref (ma 41), .long 0])), ((ma 20), .inl (cy 1, 5, .inl (fun _ => 0))), ((ma 18), .inl (cy 1, 5, .inl (fun _ => 0))), ((ma 17), .inl (cy 1, 20, .inl (fun _ => 0)))] := hD
  refine lv_aload_n hx hb dX10_lacks_5 rfl (lv_at hl 0 rfl) ?_
  refine lv_iload_n hx hb dX10_lacks_6 rfl (lv_at hl 1 rfl) ?_
  refine lv_iload_n hx hb dX10_lacks_7 rfl (lv_at hl 2 rfl) ?_
  refine lv_iload_n hx hb dX10_lacks_8 rfl (lv_at hl 3 rfl) ?_
  refine pu_calli (runV (As := [.int n0, .int n1, .int n2]) (rest := []) ⟨hx, hb, hml, hown, hts⟩ (m_isStore l D cy ma n0 n1 n2 ) sV_X10_375 hK (va_recv hK.1 hP (ci := 10) (q0 := 0) rfl rfl) (hP.sub (ws' := [((ma 0), .inr (10, [.int 0, .ref (ma 1), .ref (ma 2), .ref (ma 3), .ref (ma 4), .ref (ma 5), .int 0, .int 0, .int 0, .int 0, .int 0, .long 0, .int 0, .int 0, .int 0, .int (-1), .ref (ma 16), .ref (ma 17), .ref (ma 18), .ref (ma 19), .ref (ma 20), .ref (ma 21), .ref (ma 22), .ref (ma 23), .ref (ma 24), .ref (ma 25), .ref (ma 26), .ref (ma 27), .ref (ma 28), .ref (ma 29), .ref (ma 30), .ref (ma 31), .ref (ma 32), .ref (ma 33), .ref (ma 34), .ref (ma 35), .ref (ma 36), .ref (ma 37), .ref (ma 38), .ref (ma 39), .ref (ma 40), .ref (ma 41), .long 0])), ((ma 20), .inl (cy 1, 5, .inl (fun _ => 0))), ((ma 18), .inl (cy 1, 5, .inl (fun _ => 0)))]) [0, 1, 2] rfl) ⟨Nat.le_of_ble_eq_true rfl, Nat.le_of_ble_eq_true rfl⟩ rfl hl.1 rfl (Nat.le_of_ble_eq_true rfl) dX10_lacks_9 ⟨Nat.le_of_ble_eq_true rfl, Nat.le_of_ble_eq_true rfl⟩) (fun r_1 hr_1 => ?_)
  have er_1 := hr_1
  subst er_1
  refine W.eq (g2 := F0 m 12 ls [.int 0]) rfl ?_
  refine lv_if_eq (tgt := 28) hx hb dX10_lacks_12 (by decide) (fun _ => ?_) (fun c_2 => absurd (by decide) c_2)
  refine lv_bipush (v := (-2)) hx hb dX10_lacks_28 (by decide) ?_
  exact ret_i hx hb hr hlocks ⟨⟨hS.1, hS.2.1⟩, (), ⟨_, rfl, rfl⟩, hP.sub [] rfl, hD.sub [] (by decide) rfl⟩ hS.2.2 (Nat.le_of_ble_eq_true rfl) (Nat.le_of_ble_eq_true rfl) dX10_lacks_30
set_option maxHeartbeats 4000000 in
set_option maxRecDepth 100000 in
theorem g_X10_judge (l : Launch) (D : va_G) (cy : Nat → ClassId) (ma : Nat → Nat) (n0 : Int32) (n1 : Int32) (sz : Nat) : MM l yX10_judge cX10_judge 4 (some .int) 3 0 0 D cy [.ref (ma 0), .int n0, .int n1] (PW D [((ma 0), .inr (10, [.int 0, .ref (ma 1), .ref (ma 2), .ref (ma 3), .ref (ma 4), .ref (ma 5), .int 0, .int 0, .int 0, .int 0, .int 0, .long 0, .int 0, .int 0, .int 0, .int (-1), .ref (ma 16), .ref (ma 17), .ref (ma 18), .ref (ma 19), .ref (ma 20), .ref (ma 21), .ref (ma 22), .ref (ma 23), .ref (ma 24), .ref (ma 25), .ref (ma 26), .ref (ma 27), .ref (ma 28), .ref (ma 29), .ref (ma 30), .ref (ma 31), .ref (ma 32), .ref (ma 33), .ref (ma 34), .ref (ma 35), .ref (ma 36), .ref (ma 37), .ref (ma 38), .ref (ma 39), .ref (ma 40), .ref (ma 41), .long 0])), ((ma 20), .inl (cy 1, 5, .inl (fun _ => 0))), ((ma 18), .inl (cy 1, 5, .inl (fun _ => 0))), ((ma 17), .inl (cy 1, 20, .inl (fun _ => 0)))] sz) (QW D (va_A [((ma 0), .inr (10, [.int 0, .ref (ma 1), .ref (ma 2), .ref (ma 3), .ref (ma 4), .ref (ma 5), .int 0, .int 0, .int 0, .int 0, .int 0, .long 0, .int 0, .int 0, .int 0, .int (-1), .ref (ma 16), .ref (ma 17), .ref (ma 18), .ref (ma 19), .ref (ma 20), .ref (ma 21), .ref (ma 22), .ref (ma 23), .ref (ma 24), .ref (ma 25), .ref (ma 26), .ref (ma 27), .ref (ma 28), .ref (ma 29), .ref (ma 30), .ref (ma 31), .ref (ma 32), .ref (ma 33), .ref (ma 34), .ref (ma 35), .ref (ma 36), .ref (ma 37), .ref (ma 38), .ref (ma 39), .ref (ma 40), .ref (ma 41), .long 0])), ((ma 20), .inl (cy 1, 5, .inl (fun _ => 0))), ((ma 18), .inl (cy 1, 5, .inl (fun _ => 0))), ((ma 17), .inl (cy 1, 20, .inl (fun _ => 0)))] sz) (S := Unit) (fun v u => (∃ r : Int32, v = some (.int r) ∧ (r = (-2)))) (fun u => [])) (va_A [((ma 0), .inr (10, [.int 0, .ref (ma 1), .ref (ma 2), .ref (ma 3), .ref (ma 4), .ref (ma 5), .int 0, .int 0, .int 0, .int 0, .int 0, .long 0, .int 0, .int 0, .int 0, .int (-1), .ref (ma 16), .ref (ma 17), .ref (ma 18), .ref (ma 19), .ref (ma 20), .ref (ma 21), .ref (ma 22), .ref (ma 23), .ref (ma 24), .ref (ma 25), .ref (ma 26), .ref (ma 27), .ref (ma 28), .ref (ma 29), .ref (ma 30), .ref (ma 31), .ref (ma 32), .ref (ma 33), .ref (ma 34), .ref (ma 35), .ref (ma 36), .ref (ma 37), .ref (ma 38), .ref (ma 39), .ref (ma 40), .ref (ma 41), .long 0])), ((ma 20), .inl (cy 1, 5, .inl (fun _ => 0))), ((ma 18), .inl (cy 1, 5, .inl (fun _ => 0))), ((ma 17), .inl (cy 1, 20, .inl (fun _ => 0)))] sz) := by
  refine MM.of (by decide) (Nat.le_of_ble_eq_true rfl) ?_
  intro p e s m below meth c C hPW ls hl
  obtain ⟨hx, hb, hr, hml, hown, hts, hlocks, hK, hnm⟩ := C
  obtain ⟨rfl, hP, hD0⟩ := hPW
  have hD := hD0.self (sz := s.heap.size)
  have hA : ∀ q : Nat, s.heap.size ≤ q → (va_A [((ma 0), .inr (10, [.int 0, .ref (ma 1), .ref (ma 2), .ref (ma 3), .ref (ma 4), .ref (ma 5), .int 0, .int 0, .int 0, .int 0, .int 0, .long 0, .int 0, .int 0, .int 0, .int (-1), .ref (ma 16), .ref (ma 17), .ref (ma 18), .ref (ma 19), .ref (ma 20), .ref (ma 21), .ref (ma 22), .ref (ma 23), .ref (ma 24), .ref (ma 25), .ref (ma 26), .ref (ma 27), .ref (ma 28), .ref (ma 29), .ref (ma 30), .ref (ma 31), .ref (ma 32), .ref (ma 33), .ref (ma 34), .ref (ma 35), .ref (ma 36), .ref (ma 37), .ref (ma 38), .ref (ma 39), .ref (ma 40), .ref (ma 41), .long 0])), ((ma 20), .inl (cy 1, 5, .inl (fun _ => 0))), ((ma 18), .inl (cy 1, 5, .inl (fun _ => 0))), ((ma 17), .inl (cy 1, 20, .inl (fun _ => 0)))] s.heap.size) q := fun q h => Or.inr h
  have hS : va_S (va_A [((ma 0), .inr (10, [.int 0, .ref (ma 1), .ref (ma 2), .ref (ma 3), .ref (ma 4), .ref (ma 5), .int 0, .int 0, .int 0, .int 0, .int 0, .long 0, .int 0, .int 0, .int 0, .int (-1), .ref (ma 16), .ref (ma 17), .ref (ma 18), .ref (ma 19), .ref (ma 20), .ref (ma 21), .ref (ma 22), .ref (ma 23), .ref (ma 24), .ref (ma 25), .ref (ma 26), .ref (ma 27), .ref (ma 28), .ref (ma 29), .ref (ma 30), .ref (ma 31), .ref (ma 32), .ref (ma 33), .ref (ma 34), .ref (ma 35), .ref (ma 36), .ref (ma 37), .ref (ma 38), .ref (ma 39), .ref (ma 40), .ref (ma 41), .long 0])), ((ma 20), .inl (cy 1, 5, .inl (fun _ => 0))), ((ma 18), .inl (cy 1, 5, .inl (fun _ => 0))), ((ma 17), .inl (cy 1, 20, .inl (fun _ => 0)))] s.heap.size) s.heap s.heap [] := va_S.rf
  generalize va_A [((ma 0), .inr (10, [.int 0, .ref (ma 1), .ref (ma 2), .ref (ma 3), .ref (ma 4), .ref (ma 5), .int 0, .int 0, .int 0, .int 0, .int 0, .long 0, .int 0, .int 0, .int 0, .int (-1), .ref (ma 16), .ref (ma 17), .ref (ma 18), .ref (ma 19), .ref (ma 20), .ref (ma 21), .ref (ma 22), .ref (ma 23), .ref (ma 24), .ref (ma 25), .ref (ma 26), .ref (ma 27), .ref (ma 28), .ref (ma 29), .ref (ma 30), .ref (ma 31), .ref (ma 32), .ref (ma 33), .ref (ma 34), .ref (ma 35), .ref (ma 36), .ref (ma 37), .ref (ma 38), .ref (ma 39), .ref (ma 40), .ref (ma 41), .long 0])), ((ma 20), .inl (cy 1, 5, .inl (fun _ => 0))), ((ma 18), .inl (cy 1, 5, .inl (fun _ => 0))), ((ma 17), .inl (cy 1, 20, .inl (fun _ => 0)))] s.heap.size = A at hD hA hS ⊢
  have hP : va_P D vwCl [((ma 0), .inr (10, [.int 0, .ref (ma 1), .ref (ma 2), .ref (ma 3), .ref (ma 4), .ref (ma 5), .int 0, .int 0, .int 0, .int 0, .int 0, .long 0, .int 0, .int 0, .int 0, .int (-1), .ref (ma 16), .ref (ma 17), .ref (ma 18), .ref (ma 19), .ref (ma 20), .ref (ma 21), .ref (ma 22), .ref (ma 23), .ref (ma 24), .ref (ma 25), .ref (ma 26), .ref (ma 27), .ref (ma 28), .ref (ma 29), .ref (ma 30), .ref (ma 31), .ref (ma 32), .ref (ma 33), .ref (ma 34), .ref (ma 35), .ref (ma 36), .ref (ma 37), .ref (ma 38), .ref (ma 39), .ref (ma 40), .ref (ma 41), .long 0])), ((ma 20), .inl (cy 1, 5, .inl (fun _ => 0))), ((ma 18), .inl (cy 1, 5, .inl (fun _ => 0))), ((ma 17), .inl (cy 1, 20, .inl (fun _ => 0)))] s.heap := hP
  have hl : lv_has ls 4 [(0, .ref (ma 0)), (1, .int n0), (2, .int n1)] := hl
  refine lv_aload_n hx hb dX10_judge_0 rfl (lv_at hl 0 rfl) ?_
  refine lv_iconst (v := 0) hx hb dX10_judge_1 (by decide) ?_
  refine va_put (D := D) (ci := 10) (v := .int 0) (ty := tyX10 0) (C := RX10) (T := TX10) (N := 43) hx hb hts lay_X10 tyX10 tyX10_ok nmX10 hown hK.1 hP hD hS 0 rfl rfl 0 (by decide) (hts _ fl_X10_111) (fun _ h9 => h9) rfl (tyX10_ok 0 (by decide)) rfl rfl (Nat.le_of_ble_eq_true rfl) dX10_judge_2 (fun H locs hP hD hS => ?_)
  have hP : va_P D vwCl [((ma 0), .inr (10, [.int 0, .ref (ma 1), .ref (ma 2), .ref (ma 3), .ref (ma 4), .ref (ma 5), .int 0, .int 0, .int 0, .int 0, .int 0, .long 0, .int 0, .int 0, .int 0, .int (-1), .ref (ma 16), .ref (ma 17), .ref (ma 18), .ref (ma 19), .ref (ma 20), .ref (ma 21), .ref (ma 22), .ref (ma 23), .ref (ma 24), .ref (ma 25), .ref (ma 26), .ref (ma 27), .ref (ma 28), .ref (ma 29), .ref (ma 30), .ref (ma 31), .ref (ma 32), .ref (ma 33), .ref (ma 34), .ref (ma 35), .ref (ma 36), .ref (ma 37), .ref (ma 38), .ref (ma 39), .ref (ma 40), .ref (ma 41), .long 0])), ((ma 20), .inl (cy 1, 5, .inl (fun _ => 0))), ((ma 18), .inl (cy 1, 5, .inl (fun _ => 0))), ((ma 17), .inl (cy 1, 20, .inl (fun _ => 0)))] H := hP
  have hD : va_D A [((ma 0), .inr (10, [.int 0, .ref (ma 1), .ref (ma 2), .ref (ma 3), .ref (ma 4), .ref (ma 5), .int 0, .int 0, .int 0, .int 0, .int 0, .long 0, .int 0, .int 0, .int 0, .int (-1), .ref (ma 16), .ref (ma 17), .ref (ma 18), .ref (ma 19), .ref (ma 20), .ref (ma 21), .ref (ma 22), .ref (ma 23), .ref (ma 24), .ref (ma 25), .ref (ma 26), .ref (ma 27), .ref (ma 28), .ref (ma 29), .ref (ma 30), .ref (ma 31), .ref (ma 32), .ref (ma 33), .ref (ma 34), .ref (ma 35), .ref (ma 36), .ref (ma 37), .ref (ma 38), .ref (ma 39), .ref (ma 40), .ref (ma 41), .long 0])), ((ma 20), .inl (cy 1, 5, .inl (fun _ => 0))), ((ma 18), .inl (cy 1, 5, .inl (fun _ => 0))), ((ma 17), .inl (cy 1, 20, .inl (fun _ => 0)))] := hD
  refine lv_aload_n hx hb dX10_judge_5 rfl (lv_at hl 0 rfl) ?_
  refine lv_iload_n hx hb dX10_judge_6 rfl (lv_at hl 1 rfl) ?_
  refine lv_iload_n hx hb dX10_judge_7 rfl (lv_at hl 2 rfl) ?_
  refine pu_calli (runV (As := [.int n0, .int n1]) (rest := []) ⟨hx, hb, hml, hown, hts⟩ (m_whyNotJudged l D cy ma n0 n1 ) sV_X10_510 hK (va_recv hK.1 hP (ci := 10) (q0 := 0) rfl rfl) (hP.sub (ws' := [((ma 0), .inr (10, [.int 0, .ref (ma 1), .ref (ma 2), .ref (ma 3), .ref (ma 4), .ref (ma 5), .int 0, .int 0, .int 0, .int 0, .int 0, .long 0, .int 0, .int 0, .int 0, .int (-1), .ref (ma 16), .ref (ma 17), .ref (ma 18), .ref (ma 19), .ref (ma 20), .ref (ma 21), .ref (ma 22), .ref (ma 23), .ref (ma 24), .ref (ma 25), .ref (ma 26), .ref (ma 27), .ref (ma 28), .ref (ma 29), .ref (ma 30), .ref (ma 31), .ref (ma 32), .ref (ma 33), .ref (ma 34), .ref (ma 35), .ref (ma 36), .ref (ma 37), .ref (ma 38), .ref (ma 39), .ref (ma 40), .ref (ma 41), .long 0])), ((ma 20), .inl (cy 1, 5, .inl (fun _ => 0)))]) [0, 1] rfl) ⟨Nat.le_of_ble_eq_true rfl, Nat.le_of_ble_eq_true rfl⟩ rfl hl.1 rfl (Nat.le_of_ble_eq_true rfl) dX10_judge_8 ⟨Nat.le_of_ble_eq_true rfl, Nat.le_of_ble_eq_true rfl⟩) (fun r_1 hr_1 => ?_)
  have er_1 := hr_1
  subst er_1
  refine W.eq (g2 := F0 m 11 ls [.int (-2)]) rfl ?_
  refine lv_istore_n (lv' := [(3, .int (-2)), (0, .ref (ma 0)), (1, .int n0), (2, .int n1)]) hx hb dX10_judge_11 rfl hl (by decide) rfl (fun ls hl => ?_)
  refine lv_iload_n hx hb dX10_judge_12 rfl (lv_at hl 0 rfl) ?_
  refine lv_if_eq (tgt := 20) hx hb dX10_judge_13 (by decide) (fun c_2 => absurd c_2 (by decide)) (fun _ => ?_)
  refine lv_iload_n hx hb dX10_judge_16 rfl (lv_at hl 0 rfl) ?_
  refine lv_goto (tgt := 26) hx hb dX10_judge_17 (by decide) ?_
  exact ret_i hx hb hr hlocks ⟨⟨hS.1, hS.2.1⟩, (), ⟨_, rfl, rfl⟩, hP.sub [] rfl, hD.sub [] (by decide) rfl⟩ hS.2.2 (Nat.le_of_ble_eq_true rfl) (Nat.le_of_ble_eq_true rfl) dX10_judge_26
set_option maxHeartbeats 4000000 in
set_option maxRecDepth 100000 in
theorem g_X10_paid (l : Launch) (D : va_G) (cy : Nat → ClassId) (ma : Nat → Nat) (n0 : Int32) (n1 : Int32) (n2 : Int32) (sz : Nat) : MM l yX10_paid cX10_paid 6 (some .long) 2 0 0 D cy [.ref (ma 0), .int n0, .int n1, .int n2] (PW D [((ma 0), .inr (10, [.int 0, .ref (ma 1), .ref (ma 2), .ref (ma 3), .ref (ma 4), .ref (ma 5), .int 0, .int 0, .int 0, .int 0, .int 0, .long 0, .int 0, .int 0, .int 0, .int (-1), .ref (ma 16), .ref (ma 17), .ref (ma 18), .ref (ma 19), .ref (ma 20), .ref (ma 21), .ref (ma 22), .ref (ma 23), .ref (ma 24), .ref (ma 25), .ref (ma 26), .ref (ma 27), .ref (ma 28), .ref (ma 29), .ref (ma 30), .ref (ma 31), .ref (ma 32), .ref (ma 33), .ref (ma 34), .ref (ma 35), .ref (ma 36), .ref (ma 37), .ref (ma 38), .ref (ma 39), .ref (ma 40), .ref (ma 41), .long 0])), ((ma 20), .inl (cy 1, 5, .inl (fun _ => 0))), ((ma 18), .inl (cy 1, 5, .inl (fun _ => 0))), ((ma 17), .inl (cy 1, 20, .inl (fun _ => 0)))] sz) (QW D (va_A [((ma 0), .inr (10, [.int 0, .ref (ma 1), .ref (ma 2), .ref (ma 3), .ref (ma 4), .ref (ma 5), .int 0, .int 0, .int 0, .int 0, .int 0, .long 0, .int 0, .int 0, .int 0, .int (-1), .ref (ma 16), .ref (ma 17), .ref (ma 18), .ref (ma 19), .ref (ma 20), .ref (ma 21), .ref (ma 22), .ref (ma 23), .ref (ma 24), .ref (ma 25), .ref (ma 26), .ref (ma 27), .ref (ma 28), .ref (ma 29), .ref (ma 30), .ref (ma 31), .ref (ma 32), .ref (ma 33), .ref (ma 34), .ref (ma 35), .ref (ma 36), .ref (ma 37), .ref (ma 38), .ref (ma 39), .ref (ma 40), .ref (ma 41), .long 0])), ((ma 20), .inl (cy 1, 5, .inl (fun _ => 0))), ((ma 18), .inl (cy 1, 5, .inl (fun _ => 0))), ((ma 17), .inl (cy 1, 20, .inl (fun _ => 0)))] sz) (S := Unit) (fun v u => (∃ r : Int64, v = some (.long r) ∧ (r = (-1000000000000)))) (fun u => [])) (va_A [((ma 0), .inr (10, [.int 0, .ref (ma 1), .ref (ma 2), .ref (ma 3), .ref (ma 4), .ref (ma 5), .int 0, .int 0, .int 0, .int 0, .int 0, .long 0, .int 0, .int 0, .int 0, .int (-1), .ref (ma 16), .ref (ma 17), .ref (ma 18), .ref (ma 19), .ref (ma 20), .ref (ma 21), .ref (ma 22), .ref (ma 23), .ref (ma 24), .ref (ma 25), .ref (ma 26), .ref (ma 27), .ref (ma 28), .ref (ma 29), .ref (ma 30), .ref (ma 31), .ref (ma 32), .ref (ma 33), .ref (ma 34), .ref (ma 35), .ref (ma 36), .ref (ma 37), .ref (ma 38), .ref (ma 39), .ref (ma 40), .ref (ma 41), .long 0])), ((ma 20), .inl (cy 1, 5, .inl (fun _ => 0))), ((ma 18), .inl (cy 1, 5, .inl (fun _ => 0))), ((ma 17), .inl (cy 1, 20, .inl (fun _ => 0)))] sz) := by
  refine MM.of (by decide) (Nat.le_of_ble_eq_true rfl) ?_
  intro p e s m below meth c C hPW ls hl
  obtain ⟨hx, hb, hr, hml, hown, hts, hlocks, hK, hnm⟩ := C
  obtain ⟨rfl, hP, hD0⟩ := hPW
  have hD := hD0.self (sz := s.heap.size)
  have hA : ∀ q : Nat, s.heap.size ≤ q → (va_A [((ma 0), .inr (10, [.int 0, .ref (ma 1), .ref (ma 2), .ref (ma 3), .ref (ma 4), .ref (ma 5), .int 0, .int 0, .int 0, .int 0, .int 0, .long 0, .int 0, .int 0, .int 0, .int (-1), .ref (ma 16), .ref (ma 17), .ref (ma 18), .ref (ma 19), .ref (ma 20), .ref (ma 21), .ref (ma 22), .ref (ma 23), .ref (ma 24), .ref (ma 25), .ref (ma 26), .ref (ma 27), .ref (ma 28), .ref (ma 29), .ref (ma 30), .ref (ma 31), .ref (ma 32), .ref (ma 33), .ref (ma 34), .ref (ma 35), .ref (ma 36), .ref (ma 37), .ref (ma 38), .ref (ma 39), .ref (ma 40), .ref (ma 41), .long 0])), ((ma 20), .inl (cy 1, 5, .inl (fun _ => 0))), ((ma 18), .inl (cy 1, 5, .inl (fun _ => 0))), ((ma 17), .inl (cy 1, 20, .inl (fun _ => 0)))] s.heap.size) q := fun q h => Or.inr h
  have hS : va_S (va_A [((ma 0), .inr (10, [.int 0, .ref (ma 1), .ref (ma 2), .ref (ma 3), .ref (ma 4), .ref (ma 5), .int 0, .int 0, .int 0, .int 0, .int 0, .long 0, .int 0, .int 0, .int 0, .int (-1), .ref (ma 16), .ref (ma 17), .ref (ma 18), .ref (ma 19), .ref (ma 20), .ref (ma 21), .ref (ma 22), .ref (ma 23), .ref (ma 24), .ref (ma 25), .ref (ma 26), .ref (ma 27), .ref (ma 28), .ref (ma 29), .ref (ma 30), .ref (ma 31), .ref (ma 32), .ref (ma 33), .ref (ma 34), .ref (ma 35), .ref (ma 36), .ref (ma 37), .ref (ma 38), .ref (ma 39), .ref (ma 40), .ref (ma 41), .long 0])), ((ma 20), .inl (cy 1, 5, .inl (fun _ => 0))), ((ma 18), .inl (cy 1, 5, .inl (fun _ => 0))), ((ma 17), .inl (cy 1, 20, .inl (fun _ => 0)))] s.heap.size) s.heap s.heap [] := va_S.rf
  generalize va_A [((ma 0), .inr (10, [.int 0, .ref (ma 1), .ref (ma 2), .ref (ma 3), .ref (ma 4), .ref (ma 5), .int 0, .int 0, .int 0, .int 0, .int 0, .long 0, .int 0, .int 0, .int 0, .int (-1), .ref (ma 16), .ref (ma 17), .ref (ma 18), .ref (ma 19), .ref (ma 20), .ref (ma 21), .ref (ma 22), .ref (ma 23), .ref (ma 24), .ref (ma 25), .ref (ma 26), .ref (ma 27), .ref (ma 28), .ref (ma 29), .ref (ma 30), .ref (ma 31), .ref (ma 32), .ref (ma 33), .ref (ma 34), .ref (ma 35), .ref (ma 36), .ref (ma 37), .ref (ma 38), .ref (ma 39), .ref (ma 40), .ref (ma 41), .long 0])), ((ma 20), .inl (cy 1, 5, .inl (fun _ => 0))), ((ma 18), .inl (cy 1, 5, .inl (fun _ => 0))), ((ma 17), .inl (cy 1, 20, .inl (fun _ => 0)))] s.heap.size = A at hD hA hS ⊢
  have hP : va_P D vwCl [((ma 0), .inr (10, [.int 0, .ref (ma 1), .ref (ma 2), .ref (ma 3), .ref (ma 4), .ref (ma 5), .int 0, .int 0, .int 0, .int 0, .int 0, .long 0, .int 0, .int 0, .int 0, .int (-1), .ref (ma 16), .ref (ma 17), .ref (ma 18), .ref (ma 19), .ref (ma 20), .ref (ma 21), .ref (ma 22), .ref (ma 23), .ref (ma 24), .ref (ma 25), .ref (ma 26), .ref (ma 27), .ref (ma 28), .ref (ma 29), .ref (ma 30), .ref (ma 31), .ref (ma 32), .ref (ma 33), .ref (ma 34), .ref (ma 35), .ref (ma 36), .ref (ma 37), .ref (ma 38), .ref (ma 39), .ref (ma 40), .ref (ma 41), .long 0])), ((ma 20), .inl (cy 1, 5, .inl (fun _ => 0))), ((ma 18), .inl (cy 1, 5, .inl (fun _ => 0))), ((ma 17), .inl (cy 1, 20, .inl (fun _ => 0)))] s.heap := hP
  have hl : lv_has ls 6 [(0, .ref (ma 0)), (1, .int n0), (2, .int n1), (3, .int n2)] := hl
  refine lv_aload_n hx hb dX10_paid_0 rfl (lv_at hl 0 rfl) ?_
  refine lv_iconst (v := 0) hx hb dX10_paid_1 (by decide) ?_
  refine va_put (D := D) (ci := 10) (v := .int 0) (ty := tyX10 0) (C := RX10) (T := TX10) (N := 43) hx hb hts lay_X10 tyX10 tyX10_ok nmX10 hown hK.1 hP hD hS 0 rfl rfl 0 (by decide) (hts _ fl_X10_111) (fun _ h9 => h9) rfl (tyX10_ok 0 (by decide)) rfl rfl (Nat.le_of_ble_eq_true rfl) dX10_paid_2 (fun H locs hP hD hS => ?_)
  have hP : va_P D vwCl [((ma 0), .inr (10, [.int 0, .ref (ma 1), .ref (ma 2), .ref (ma 3), .ref (ma 4), .ref (ma 5), .int 0, .int 0, .int 0, .int 0, .int 0, .long 0, .int 0, .int 0, .int 0, .int (-1), .ref (ma 16), .ref (ma 17), .ref (ma 18), .ref (ma 19), .ref (ma 20), .ref (ma 21), .ref (ma 22), .ref (ma 23), .ref (ma 24), .ref (ma 25), .ref (ma 26), .ref (ma 27), .ref (ma 28), .ref (ma 29), .ref (ma 30), .ref (ma 31), .ref (ma 32), .ref (ma 33), .ref (ma 34), .ref (ma 35), .ref (ma 36), .ref (ma 37), .ref (ma 38), .ref (ma 39), .ref (ma 40), .ref (ma 41), .long 0])), ((ma 20), .inl (cy 1, 5, .inl (fun _ => 0))), ((ma 18), .inl (cy 1, 5, .inl (fun _ => 0))), ((ma 17), .inl (cy 1, 20, .inl (fun _ => 0)))] H := hP
  have hD : va_D A [((ma 0), .inr (10, [.int 0, .ref (ma 1), .ref (ma 2), .ref (ma 3), .ref (ma 4), .ref (ma 5), .int 0, .int 0, .int 0, .int 0, .int 0, .long 0, .int 0, .int 0, .int 0, .int (-1), .ref (ma 16), .ref (ma 17), .ref (ma 18), .ref (ma 19), .ref (ma 20), .ref (ma 21), .ref (ma 22), .ref (ma 23), .ref (ma 24), .ref (ma 25), .ref (ma 26), .ref (ma 27), .ref (ma 28), .ref (ma 29), .ref (ma 30), .ref (ma 31), .ref (ma 32), .ref (ma 33), .ref (ma 34), .ref (ma 35), .ref (ma 36), .ref (ma 37), .ref (ma 38), .ref (ma 39), .ref (ma 40), .ref (ma 41), .long 0])), ((ma 20), .inl (cy 1, 5, .inl (fun _ => 0))), ((ma 18), .inl (cy 1, 5, .inl (fun _ => 0))), ((ma 17), .inl (cy 1, 20, .inl (fun _ => 0)))] := hD
  refine lv_aload_n hx hb dX10_paid_5 rfl (lv_at hl 0 rfl) ?_
  refine lv_iload_n hx hb dX10_paid_6 rfl (lv_at hl 3 rfl) ?_
  refine pu_calli (runV (As := [.int n2]) (rest := []) ⟨hx, hb, hml, hown, hts⟩ (m_isThing l D cy ma n2 ) sV_X10_350 hK (va_recv hK.1 hP (ci := 10) (q0 := 0) rfl rfl) (hP.sub (ws' := [((ma 0), .inr (10, [.int 0, .ref (ma 1), .ref (ma 2), .ref (ma 3), .ref (ma 4), .ref (ma 5), .int 0, .int 0, .int 0, .int 0, .int 0, .long 0, .int 0, .int 0, .int 0, .int (-1), .ref (ma 16), .ref (ma 17), .ref (ma 18), .ref (ma 19), .ref (ma 20), .ref (ma 21), .ref (ma 22), .ref (ma 23), .ref (ma 24), .ref (ma 25), .ref (ma 26), .ref (ma 27), .ref (ma 28), .ref (ma 29), .ref (ma 30), .ref (ma 31), .ref (ma 32), .ref (ma 33), .ref (ma 34), .ref (ma 35), .ref (ma 36), .ref (ma 37), .ref (ma 38), .ref (ma 39), .ref (ma 40), .ref (ma 41), .long 0])), ((ma 18), .inl (cy 1, 5, .inl (fun _ => 0)))]) [0, 2] rfl) ⟨Nat.le_of_ble_eq_true rfl, Nat.le_of_ble_eq_true rfl⟩ rfl hl.1 rfl (Nat.le_of_ble_eq_true rfl) dX10_paid_7 ⟨Nat.le_of_ble_eq_true rfl, Nat.le_of_ble_eq_true rfl⟩) (fun r_1 hr_1 => ?_)
  have er_1 := hr_1
  subst er_1
  refine W.eq (g2 := F0 m 10 ls [.int 0]) rfl ?_
  refine lv_if_eq (tgt := 31) hx hb dX10_paid_10 (by decide) (fun _ => ?_) (fun c_2 => absurd (by decide) c_2)
  refine lv_ldc2 (v := (-1000000000000)) hx hb hown (hts _ kl_X10_381) dX10_paid_31 ?_
  exact ret_l hx hb hr hlocks ⟨⟨hS.1, hS.2.1⟩, (), ⟨_, rfl, rfl⟩, hP.sub [] rfl, hD.sub [] (by decide) rfl⟩ hS.2.2 (Nat.le_of_ble_eq_true rfl) (Nat.le_of_ble_eq_true rfl) dX10_paid_34
set_option maxHeartbeats 4000000 in
set_option maxRecDepth 100000 in
theorem g_X10_years (l : Launch) (D : va_G) (cy : Nat → ClassId) (ma : Nat → Nat) (n0 : Int32) (n1 : Int32) (n2 : Int32) (n3 : Int32) (n4 : Int32) (n5 : Int32) (sz : Nat) : MM l yX10_years cX10_years 11 (some .int) 3 0 0 D cy [.ref (ma 0), .int n0, .int n1, .int n2, .int n3, .int n4, .int n5] (PW D [((ma 0), .inr (10, [.int 0, .ref (ma 1), .ref (ma 2), .ref (ma 3), .ref (ma 4), .ref (ma 5), .int 0, .int 0, .int 0, .int 0, .int 0, .long 0, .int 0, .int 0, .int 0, .int (-1), .ref (ma 16), .ref (ma 17), .ref (ma 18), .ref (ma 19), .ref (ma 20), .ref (ma 21), .ref (ma 22), .ref (ma 23), .ref (ma 24), .ref (ma 25), .ref (ma 26), .ref (ma 27), .ref (ma 28), .ref (ma 29), .ref (ma 30), .ref (ma 31), .ref (ma 32), .ref (ma 33), .ref (ma 34), .ref (ma 35), .ref (ma 36), .ref (ma 37), .ref (ma 38), .ref (ma 39), .ref (ma 40), .ref (ma 41), .long 0])), ((ma 20), .inl (cy 1, 5, .inl (fun _ => 0))), ((ma 18), .inl (cy 1, 5, .inl (fun _ => 0))), ((ma 17), .inl (cy 1, 20, .inl (fun _ => 0)))] sz) (QW D (va_A [((ma 0), .inr (10, [.int 0, .ref (ma 1), .ref (ma 2), .ref (ma 3), .ref (ma 4), .ref (ma 5), .int 0, .int 0, .int 0, .int 0, .int 0, .long 0, .int 0, .int 0, .int 0, .int (-1), .ref (ma 16), .ref (ma 17), .ref (ma 18), .ref (ma 19), .ref (ma 20), .ref (ma 21), .ref (ma 22), .ref (ma 23), .ref (ma 24), .ref (ma 25), .ref (ma 26), .ref (ma 27), .ref (ma 28), .ref (ma 29), .ref (ma 30), .ref (ma 31), .ref (ma 32), .ref (ma 33), .ref (ma 34), .ref (ma 35), .ref (ma 36), .ref (ma 37), .ref (ma 38), .ref (ma 39), .ref (ma 40), .ref (ma 41), .long 0])), ((ma 20), .inl (cy 1, 5, .inl (fun _ => 0))), ((ma 18), .inl (cy 1, 5, .inl (fun _ => 0))), ((ma 17), .inl (cy 1, 20, .inl (fun _ => 0)))] sz) (S := Unit) (fun v u => (∃ r : Int32, v = some (.int r) ∧ (r = (-2)))) (fun u => [])) (va_A [((ma 0), .inr (10, [.int 0, .ref (ma 1), .ref (ma 2), .ref (ma 3), .ref (ma 4), .ref (ma 5), .int 0, .int 0, .int 0, .int 0, .int 0, .long 0, .int 0, .int 0, .int 0, .int (-1), .ref (ma 16), .ref (ma 17), .ref (ma 18), .ref (ma 19), .ref (ma 20), .ref (ma 21), .ref (ma 22), .ref (ma 23), .ref (ma 24), .ref (ma 25), .ref (ma 26), .ref (ma 27), .ref (ma 28), .ref (ma 29), .ref (ma 30), .ref (ma 31), .ref (ma 32), .ref (ma 33), .ref (ma 34), .ref (ma 35), .ref (ma 36), .ref (ma 37), .ref (ma 38), .ref (ma 39), .ref (ma 40), .ref (ma 41), .long 0])), ((ma 20), .inl (cy 1, 5, .inl (fun _ => 0))), ((ma 18), .inl (cy 1, 5, .inl (fun _ => 0))), ((ma 17), .inl (cy 1, 20, .inl (fun _ => 0)))] sz) := by
  refine MM.of (by decide) (Nat.le_of_ble_eq_true rfl) ?_
  intro p e s m below meth c C hPW ls hl
  obtain ⟨hx, hb, hr, hml, hown, hts, hlocks, hK, hnm⟩ := C
  obtain ⟨rfl, hP, hD0⟩ := hPW
  have hD := hD0.self (sz := s.heap.size)
  have hA : ∀ q : Nat, s.heap.size ≤ q → (va_A [((ma 0), .inr (10, [.int 0, .ref (ma 1), .ref (ma 2), .ref (ma 3), .ref (ma 4), .ref (ma 5), .int 0, .int 0, .int 0, .int 0, .int 0, .long 0, .int 0, .int 0, .int 0, .int (-1), .ref (ma 16), .ref (ma 17), .ref (ma 18), .ref (ma 19), .ref (ma 20), .ref (ma 21), .ref (ma 22), .ref (ma 23), .ref (ma 24), .ref (ma 25), .ref (ma 26), .ref (ma 27), .ref (ma 28), .ref (ma 29), .ref (ma 30), .ref (ma 31), .ref (ma 32), .ref (ma 33), .ref (ma 34), .ref (ma 35), .ref (ma 36), .ref (ma 37), .ref (ma 38), .ref (ma 39), .ref (ma 40), .ref (ma 41), .long 0])), ((ma 20), .inl (cy 1, 5, .inl (fun _ => 0))), ((ma 18), .inl (cy 1, 5, .inl (fun _ => 0))), ((ma 17), .inl (cy 1, 20, .inl (fun _ => 0)))] s.heap.size) q := fun q h => Or.inr h
  have hS : va_S (va_A [((ma 0), .inr (10, [.int 0, .ref (ma 1), .ref (ma 2), .ref (ma 3), .ref (ma 4), .ref (ma 5), .int 0, .int 0, .int 0, .int 0, .int 0, .long 0, .int 0, .int 0, .int 0, .int (-1), .ref (ma 16), .ref (ma 17), .ref (ma 18), .ref (ma 19), .ref (ma 20), .ref (ma 21), .ref (ma 22), .ref (ma 23), .ref (ma 24), .ref (ma 25), .ref (ma 26), .ref (ma 27), .ref (ma 28), .ref (ma 29), .ref (ma 30), .ref (ma 31), .ref (ma 32), .ref (ma 33), .ref (ma 34), .ref (ma 35), .ref (ma 36), .ref (ma 37), .ref (ma 38), .ref (ma 39), .ref (ma 40), .ref (ma 41), .long 0])), ((ma 20), .inl (cy 1, 5, .inl (fun _ => 0))), ((ma 18), .inl (cy 1, 5, .inl (fun _ => 0))), ((ma 17), .inl (cy 1, 20, .inl (fun _ => 0)))] s.heap.size) s.heap s.heap [] := va_S.rf
  generalize va_A [((ma 0), .inr (10, [.int 0, .ref (ma 1), .ref (ma 2), .ref (ma 3), .ref (ma 4), .ref (ma 5), .int 0, .int 0, .int 0, .int 0, .int 0, .long 0, .int 0, .int 0, .int 0, .int (-1), .ref (ma 16), .ref (ma 17), .ref (ma 18), .ref (ma 19), .ref (ma 20), .ref (ma 21), .ref (ma 22), .ref (ma 23), .ref (ma 24), .ref (ma 25), .ref (ma 26), .ref (ma 27), .ref (ma 28), .ref (ma 29), .ref (ma 30), .ref (ma 31), .ref (ma 32), .ref (ma 33), .ref (ma 34), .ref (ma 35), .ref (ma 36), .ref (ma 37), .ref (ma 38), .ref (ma 39), .ref (ma 40), .ref (ma 41), .long 0])), ((ma 20), .inl (cy 1, 5, .inl (fun _ => 0))), ((ma 18), .inl (cy 1, 5, .inl (fun _ => 0))), ((ma 17), .inl (cy 1, 20, .inl (fun _ => 0)))] s.heap.size = A at hD hA hS ⊢
  have hP : va_P D vwCl [((ma 0), .inr (10, [.int 0, .ref (ma 1), .ref (ma 2), .ref (ma 3), .ref (ma 4), .ref (ma 5), .int 0, .int 0, .int 0, .int 0, .int 0, .long 0, .int 0, .int 0, .int 0, .int (-1), .ref (ma 16), .ref (ma 17), .ref (ma 18), .ref (ma 19), .ref (ma 20), .ref (ma 21), .ref (ma 22), .ref (ma 23), .ref (ma 24), .ref (ma 25), .ref (ma 26), .ref (ma 27), .ref (ma 28), .ref (ma 29), .ref (ma 30), .ref (ma 31), .ref (ma 32), .ref (ma 33), .ref (ma 34), .ref (ma 35), .ref (ma 36), .ref (ma 37), .ref (ma 38), .ref (ma 39), .ref (ma 40), .ref (ma 41), .long 0])), ((ma 20), .inl (cy 1, 5, .inl (fun _ => 0))), ((ma 18), .inl (cy 1, 5, .inl (fun _ => 0))), ((ma 17), .inl (cy 1, 20, .inl (fun _ => 0)))] s.heap := hP
  have hl : lv_has ls 11 [(0, .ref (ma 0)), (1, .int n0), (2, .int n1), (3, .int n2), (4, .int n3), (5, .int n4), (6, .int n5)] := hl
  refine lv_aload_n hx hb dX10_years_0 rfl (lv_at hl 0 rfl) ?_
  refine lv_iconst (v := 0) hx hb dX10_years_1 (by decide) ?_
  refine va_put (D := D) (ci := 10) (v := .int 0) (ty := tyX10 0) (C := RX10) (T := TX10) (N := 43) hx hb hts lay_X10 tyX10 tyX10_ok nmX10 hown hK.1 hP hD hS 0 rfl rfl 0 (by decide) (hts _ fl_X10_111) (fun _ h9 => h9) rfl (tyX10_ok 0 (by decide)) rfl rfl (Nat.le_of_ble_eq_true rfl) dX10_years_2 (fun H locs hP hD hS => ?_)
  have hP : va_P D vwCl [((ma 0), .inr (10, [.int 0, .ref (ma 1), .ref (ma 2), .ref (ma 3), .ref (ma 4), .ref (ma 5), .int 0, .int 0, .int 0, .int 0, .int 0, .long 0, .int 0, .int 0, .int 0, .int (-1), .ref (ma 16), .ref (ma 17), .ref (ma 18), .ref (ma 19), .ref (ma 20), .ref (ma 21), .ref (ma 22), .ref (ma 23), .ref (ma 24), .ref (ma 25), .ref (ma 26), .ref (ma 27), .ref (ma 28), .ref (ma 29), .ref (ma 30), .ref (ma 31), .ref (ma 32), .ref (ma 33), .ref (ma 34), .ref (ma 35), .ref (ma 36), .ref (ma 37), .ref (ma 38), .ref (ma 39), .ref (ma 40), .ref (ma 41), .long 0])), ((ma 20), .inl (cy 1, 5, .inl (fun _ => 0))), ((ma 18), .inl (cy 1, 5, .inl (fun _ => 0))), ((ma 17), .inl (cy 1, 20, .inl (fun _ => 0)))] H := hP
  have hD : va_D A [((ma 0), .inr (10, [.int 0, .ref (ma 1), .ref (ma 2), .ref (ma 3), .ref (ma 4), .ref (ma 5), .int 0, .int 0, .int 0, .int 0, .int 0, .long 0, .int 0, .int 0, .int 0, .int (-1), .ref (ma 16), .ref (ma 17), .ref (ma 18), .ref (ma 19), .ref (ma 20), .ref (ma 21), .ref (ma 22), .ref (ma 23), .ref (ma 24), .ref (ma 25), .ref (ma 26), .ref (ma 27), .ref (ma 28), .ref (ma 29), .ref (ma 30), .ref (ma 31), .ref (ma 32), .ref (ma 33), .ref (ma 34), .ref (ma 35), .ref (ma 36), .ref (ma 37), .ref (ma 38), .ref (ma 39), .ref (ma 40), .ref (ma 41), .long 0])), ((ma 20), .inl (cy 1, 5, .inl (fun _ => 0))), ((ma 18), .inl (cy 1, 5, .inl (fun _ => 0))), ((ma 17), .inl (cy 1, 20, .inl (fun _ => 0)))] := hD
  refine lv_iload_n hx hb dX10_years_5 rfl (lv_at hl 1 rfl) ?_
  refine pu_calli (runS (As := [.int n0]) (rest := []) ⟨hx, hb, hml, hown, hts⟩ (m_isSeed l D cy n0 ) sS_X10_492 hK (hP.sub (ws' := []) [] rfl) ⟨Nat.le_of_ble_eq_true rfl, Nat.le_of_ble_eq_true rfl⟩ rfl hl.1 rfl (Nat.le_of_ble_eq_true rfl) dX10_years_6 ⟨Nat.le_of_ble_eq_true rfl, Nat.le_of_ble_eq_true rfl⟩) (fun r_1 hr_1 => ?_)
  rcases hr_1 with hr_1_0 | hr_1_1
  · skip
    obtain ⟨er_1, hr_1_0_f0, hr_1_0_f1⟩ := hr_1_0
    have hr_1_0_f0 : 0 ≤ n0.toInt := hr_1_0_f0
    have hr_1_0_f1 : n0.toInt ≤ 2000000000 := hr_1_0_f1
    subst er_1
    refine W.eq (g2 := F0 m 9 ls [.int 1]) rfl ?_
    refine lv_if_eq (tgt := 49) hx hb dX10_years_9 (by decide) (fun c_2 => absurd c_2 (by decide)) (fun _ => ?_)
    refine lv_iload_n hx hb dX10_years_12 rfl (lv_at hl 2 rfl) ?_
    refine lv_i2l hx hb dX10_years_13 rfl ?_
    refine lv_topl (fun z_3 ez_3 => ?_)
    have tz_3 : z_3.toInt = n1.toInt := by rw [ez_3]; exact wide_t n1
    refine lv_lconst (v := 1) hx hb dX10_years_14 (by decide) ?_
    refine lv_ldc2 (v := 100) hx hb hown (hts _ kl_X10_282) dX10_years_15 ?_
    refine pu_calli (runS (As := [.long z_3, .long 1, .long 100]) (rest := []) ⟨hx, hb, hml, hown, hts⟩ (m_in l D cy z_3 1 100 ) sS_X10_116 hK (hP.sub (ws' := []) [] rfl) ⟨Nat.le_of_ble_eq_true rfl, Nat.le_of_ble_eq_true rfl⟩ rfl hl.1 rfl (Nat.le_of_ble_eq_true rfl) dX10_years_18 ⟨Nat.le_of_ble_eq_true rfl, Nat.le_of_ble_eq_true rfl⟩) (fun r_4 hr_4 => ?_)
    rcases hr_4 with hr_4_0 | hr_4_1
    · skip
      obtain ⟨er_4, hr_4_0_f0, hr_4_0_f1⟩ := hr_4_0
      have hr_4_0_f0 : 1 ≤ z_3.toInt := hr_4_0_f0
      have hr_4_0_f1 : z_3.toInt ≤ 100 := hr_4_0_f1
      subst er_4
      refine W.eq (g2 := F0 m 21 ls [.int 1]) rfl ?_
      refine lv_if_eq (tgt := 49) hx hb dX10_years_21 (by decide) (fun c_5 => absurd c_5 (by decide)) (fun _ => ?_)
      refine lv_aload_n hx hb dX10_years_24 rfl (lv_at hl 0 rfl) ?_
      refine lv_iload_n hx hb dX10_years_25 rfl (lv_at hl 3 rfl) ?_
      refine lv_iload hx hb dX10_years_26 (lv_at hl 4 rfl) ?_
      refine lv_iload hx hb dX10_years_28 (lv_at hl 5 rfl) ?_
      refine pu_calli (runV (As := [.int n2, .int n3, .int n4]) (rest := []) ⟨hx, hb, hml, hown, hts⟩ (m_isStore l D cy ma n2 n3 n4 ) sV_X10_375 hK (va_recv hK.1 hP (ci := 10) (q0 := 0) rfl rfl) (hP.sub (ws' := [((ma 0), .inr (10, [.int 0, .ref (ma 1), .ref (ma 2), .ref (ma 3), .ref (ma 4), .ref (ma 5), .int 0, .int 0, .int 0, .int 0, .int 0, .long 0, .int 0, .int 0, .int 0, .int (-1), .ref (ma 16), .ref (ma 17), .ref (ma 18), .ref (ma 19), .ref (ma 20), .ref (ma 21), .ref (ma 22), .ref (ma 23), .ref (ma 24), .ref (ma 25), .ref (ma 26), .ref (ma 27), .ref (ma 28), .ref (ma 29), .ref (ma 30), .ref (ma 31), .ref (ma 32), .ref (ma 33), .ref (ma 34), .ref (ma 35), .ref (ma 36), .ref (ma 37), .ref (ma 38), .ref (ma 39), .ref (ma 40), .ref (ma 41), .long 0])), ((ma 20), .inl (cy 1, 5, .inl (fun _ => 0))), ((ma 18), .inl (cy 1, 5, .inl (fun _ => 0)))]) [0, 1, 2] rfl) ⟨Nat.le_of_ble_eq_true rfl, Nat.le_of_ble_eq_true rfl⟩ rfl hl.1 rfl (Nat.le_of_ble_eq_true rfl) dX10_years_30 ⟨Nat.le_of_ble_eq_true rfl, Nat.le_of_ble_eq_true rfl⟩) (fun r_6 hr_6 => ?_)
      have er_6 := hr_6
      subst er_6
      refine W.eq (g2 := F0 m 33 ls [.int 0]) rfl ?_
      refine lv_if_eq (tgt := 49) hx hb dX10_years_33 (by decide) (fun _ => ?_) (fun c_7 => absurd (by decide) c_7)
      refine lv_bipush (v := (-2)) hx hb dX10_years_49 (by decide) ?_
      exact ret_i hx hb hr hlocks ⟨⟨hS.1, hS.2.1⟩, (), ⟨_, rfl, rfl⟩, hP.sub [] rfl, hD.sub [] (by decide) rfl⟩ hS.2.2 (Nat.le_of_ble_eq_true rfl) (Nat.le_of_ble_eq_true rfl) dX10_years_51
    · skip
      obtain ⟨er_4, hr_4_1_f0⟩ := hr_4_1
      have hr_4_1_f0 : (z_3.toInt < 1 ∨ 100 < z_3.toInt) := hr_4_1_f0
      subst er_4
      refine W.eq (g2 := F0 m 21 ls [.int 0]) rfl ?_
      refine lv_if_eq (tgt := 49) hx hb dX10_years_21 (by decide) (fun _ => ?_) (fun c_8 => absurd (by decide) c_8)
      refine lv_bipush (v := (-2)) hx hb dX10_years_49 (by decide) ?_
      exact ret_i hx hb hr hlocks ⟨⟨hS.1, hS.2.1⟩, (), ⟨_, rfl, rfl⟩, hP.sub [] rfl, hD.sub [] (by decide) rfl⟩ hS.2.2 (Nat.le_of_ble_eq_true rfl) (Nat.le_of_ble_eq_true rfl) dX10_years_51
  · skip
    obtain ⟨er_1, hr_1_1_f0⟩ := hr_1_1
    have hr_1_1_f0 : (n0.toInt < 0 ∨ 2000000000 < n0.toInt) := hr_1_1_f0
    subst er_1
    refine W.eq (g2 := F0 m 9 ls [.int 0]) rfl ?_
    refine lv_if_eq (tgt := 49) hx hb dX10_years_9 (by decide) (fun _ => ?_) (fun c_9 => absurd (by decide) c_9)
    refine lv_bipush (v := (-2)) hx hb dX10_years_49 (by decide) ?_
    exact ret_i hx hb hr hlocks ⟨⟨hS.1, hS.2.1⟩, (), ⟨_, rfl, rfl⟩, hP.sub [] rfl, hD.sub [] (by decide) rfl⟩ hS.2.2 (Nat.le_of_ble_eq_true rfl) (Nat.le_of_ble_eq_true rfl) dX10_years_51
end
