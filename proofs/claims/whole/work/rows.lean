section
-- ===== PART A: goes FIRST, ahead of the names: the tables' words, and 'selects' of the private methods out of them =====
/-- a private method of a class that the tables say can be made, by its rows of tables_1 -/
def lw_okq (q : MethodName × Nat) : Prop := (q.1.cls ≠ "java/lang/invoke/MethodHandle" ∧ q.1.cls ≠ "java/lang/invoke/VarHandle") ∧ Cond.instantiable q.1.cls q.2 ∈ tables_1 ∧ Cond.privateMethod q.1 ∈ tables_1 ∧ Cond.instanceMethod q.1 ∈ tables_1
theorem lw_p0 : lw_okq (⟨"ShakyScreens", "faulted", "(I)I"⟩, 10) := ⟨⟨by decide +kernel, by decide +kernel⟩, List.mem_of_getElem? (i := 15) (by decide +kernel), List.mem_of_getElem? (i := 244) (by decide +kernel), List.mem_of_getElem? (i := 245) (by decide +kernel)⟩
theorem lw_p1 : lw_okq (⟨"ShakyScreens$Reader", "takes", "(I)Z"⟩, 3) := ⟨⟨by decide +kernel, by decide +kernel⟩, List.mem_of_getElem? (i := 53) (by decide +kernel), List.mem_of_getElem? (i := 261) (by decide +kernel), List.mem_of_getElem? (i := 262) (by decide +kernel)⟩
theorem lw_p2 : lw_okq (⟨"ShakyScreens$Reader", "takesLetter", "(I)Z"⟩, 3) := ⟨⟨by decide +kernel, by decide +kernel⟩, List.mem_of_getElem? (i := 53) (by decide +kernel), List.mem_of_getElem? (i := 265) (by decide +kernel), List.mem_of_getElem? (i := 266) (by decide +kernel)⟩
theorem lw_p3 : lw_okq (⟨"ShakyScreens$Reader", "takesDigit", "(I)Z"⟩, 3) := ⟨⟨by decide +kernel, by decide +kernel⟩, List.mem_of_getElem? (i := 53) (by decide +kernel), List.mem_of_getElem? (i := 276) (by decide +kernel), List.mem_of_getElem? (i := 277) (by decide +kernel)⟩
theorem lw_p4 : lw_okq (⟨"ShakyScreens$Reader", "takesSign", "(I)Z"⟩, 3) := ⟨⟨by decide +kernel, by decide +kernel⟩, List.mem_of_getElem? (i := 53) (by decide +kernel), List.mem_of_getElem? (i := 285) (by decide +kernel), List.mem_of_getElem? (i := 286) (by decide +kernel)⟩
theorem lw_p5 : lw_okq (⟨"ShakyScreens$Reader", "takesAhead", "(I)Z"⟩, 3) := ⟨⟨by decide +kernel, by decide +kernel⟩, List.mem_of_getElem? (i := 53) (by decide +kernel), List.mem_of_getElem? (i := 289) (by decide +kernel), List.mem_of_getElem? (i := 290) (by decide +kernel)⟩
theorem lw_p6 : lw_okq (⟨"ShakyScreens", "takeParts", "(LShakyScreens$Parts;)V"⟩, 10) := ⟨⟨by decide +kernel, by decide +kernel⟩, List.mem_of_getElem? (i := 15) (by decide +kernel), List.mem_of_getElem? (i := 302) (by decide +kernel), List.mem_of_getElem? (i := 303) (by decide +kernel)⟩
theorem lw_p7 : lw_okq (⟨"ShakyScreens", "isPerson", "(I)Z"⟩, 10) := ⟨⟨by decide +kernel, by decide +kernel⟩, List.mem_of_getElem? (i := 15) (by decide +kernel), List.mem_of_getElem? (i := 349) (by decide +kernel), List.mem_of_getElem? (i := 350) (by decide +kernel)⟩
theorem lw_p8 : lw_okq (⟨"ShakyScreens", "isPartOrAll", "(I)Z"⟩, 10) := ⟨⟨by decide +kernel, by decide +kernel⟩, List.mem_of_getElem? (i := 15) (by decide +kernel), List.mem_of_getElem? (i := 360) (by decide +kernel), List.mem_of_getElem? (i := 361) (by decide +kernel)⟩
theorem lw_p9 : lw_okq (⟨"ShakyScreens$Seeker", "choose", "(I)V"⟩, 8) := ⟨⟨by decide +kernel, by decide +kernel⟩, List.mem_of_getElem? (i := 74) (by decide +kernel), List.mem_of_getElem? (i := 383) (by decide +kernel), List.mem_of_getElem? (i := 384) (by decide +kernel)⟩
theorem lw_p10 : lw_okq (⟨"ShakyScreens$Seeker", "weighPairs", "(LShakyScreens$Parts;I)V"⟩, 8) := ⟨⟨by decide +kernel, by decide +kernel⟩, List.mem_of_getElem? (i := 74) (by decide +kernel), List.mem_of_getElem? (i := 387) (by decide +kernel), List.mem_of_getElem? (i := 388) (by decide +kernel)⟩
theorem lw_p11 : lw_okq (⟨"ShakyScreens$Seeker", "findTooNear", "(I)V"⟩, 8) := ⟨⟨by decide +kernel, by decide +kernel⟩, List.mem_of_getElem? (i := 74) (by decide +kernel), List.mem_of_getElem? (i := 395) (by decide +kernel), List.mem_of_getElem? (i := 396) (by decide +kernel)⟩
theorem lw_p12 : lw_okq (⟨"ShakyScreens$Seeker", "layFrom", "(III)V"⟩, 8) := ⟨⟨by decide +kernel, by decide +kernel⟩, List.mem_of_getElem? (i := 74) (by decide +kernel), List.mem_of_getElem? (i := 414) (by decide +kernel), List.mem_of_getElem? (i := 415) (by decide +kernel)⟩
theorem lw_p13 : lw_okq (⟨"ShakyScreens$Seeker", "keepAsBest", "(I)V"⟩, 8) := ⟨⟨by decide +kernel, by decide +kernel⟩, List.mem_of_getElem? (i := 74) (by decide +kernel), List.mem_of_getElem? (i := 418) (by decide +kernel), List.mem_of_getElem? (i := 419) (by decide +kernel)⟩
theorem lw_p14 : lw_okq (⟨"ShakyScreens$Seeker", "pullOf", "(II)I"⟩, 8) := ⟨⟨by decide +kernel, by decide +kernel⟩, List.mem_of_getElem? (i := 74) (by decide +kernel), List.mem_of_getElem? (i := 426) (by decide +kernel), List.mem_of_getElem? (i := 427) (by decide +kernel)⟩
theorem lw_p15 : lw_okq (⟨"ShakyScreens$Menus", "addNode", "(I)V"⟩, 4) := ⟨⟨by decide +kernel, by decide +kernel⟩, List.mem_of_getElem? (i := 121) (by decide +kernel), List.mem_of_getElem? (i := 506) (by decide +kernel), List.mem_of_getElem? (i := 507) (by decide +kernel)⟩
def lw_privs_1 : List (MethodName × Nat) := [(⟨"ShakyScreens", "faulted", "(I)I"⟩, 10), (⟨"ShakyScreens$Reader", "takes", "(I)Z"⟩, 3), (⟨"ShakyScreens$Reader", "takesLetter", "(I)Z"⟩, 3), (⟨"ShakyScreens$Reader", "takesDigit", "(I)Z"⟩, 3), (⟨"ShakyScreens$Reader", "takesSign", "(I)Z"⟩, 3), (⟨"ShakyScreens$Reader", "takesAhead", "(I)Z"⟩, 3), (⟨"ShakyScreens", "takeParts", "(LShakyScreens$Parts;)V"⟩, 10), (⟨"ShakyScreens", "isPerson", "(I)Z"⟩, 10), (⟨"ShakyScreens", "isPartOrAll", "(I)Z"⟩, 10), (⟨"ShakyScreens$Seeker", "choose", "(I)V"⟩, 8), (⟨"ShakyScreens$Seeker", "weighPairs", "(LShakyScreens$Parts;I)V"⟩, 8), (⟨"ShakyScreens$Seeker", "findTooNear", "(I)V"⟩, 8), (⟨"ShakyScreens$Seeker", "layFrom", "(III)V"⟩, 8), (⟨"ShakyScreens$Seeker", "keepAsBest", "(I)V"⟩, 8), (⟨"ShakyScreens$Seeker", "pullOf", "(II)I"⟩, 8), (⟨"ShakyScreens$Menus", "addNode", "(I)V"⟩, 4)]
theorem lw_r1 : ∀ q ∈ lw_privs_1, lw_okq q := List.forall_mem_cons.mpr ⟨lw_p0, List.forall_mem_cons.mpr ⟨lw_p1, List.forall_mem_cons.mpr ⟨lw_p2, List.forall_mem_cons.mpr ⟨lw_p3, List.forall_mem_cons.mpr ⟨lw_p4, List.forall_mem_cons.mpr ⟨lw_p5, List.forall_mem_cons.mpr ⟨lw_p6, List.forall_mem_cons.mpr ⟨lw_p7, List.forall_mem_cons.mpr ⟨lw_p8, List.forall_mem_cons.mpr ⟨lw_p9, List.forall_mem_cons.mpr ⟨lw_p10, List.forall_mem_cons.mpr ⟨lw_p11, List.forall_mem_cons.mpr ⟨lw_p12, List.forall_mem_cons.mpr ⟨lw_p13, List.forall_mem_cons.mpr ⟨lw_p14, List.forall_mem_cons.mpr ⟨lw_p15, fun _ h => absurd h List.not_mem_nil⟩⟩⟩⟩⟩⟩⟩⟩⟩⟩⟩⟩⟩⟩⟩⟩
theorem lw_p16 : lw_okq (⟨"ShakyScreens$Menus", "joinLeast", "(I)V"⟩, 4) := ⟨⟨by decide +kernel, by decide +kernel⟩, List.mem_of_getElem? (i := 121) (by decide +kernel), List.mem_of_getElem? (i := 510) (by decide +kernel), List.mem_of_getElem? (i := 511) (by decide +kernel)⟩
theorem lw_p17 : lw_okq (⟨"ShakyScreens$Menus", "leastOpenNode", "()I"⟩, 4) := ⟨⟨by decide +kernel, by decide +kernel⟩, List.mem_of_getElem? (i := 121) (by decide +kernel), List.mem_of_getElem? (i := 514) (by decide +kernel), List.mem_of_getElem? (i := 515) (by decide +kernel)⟩
theorem lw_p18 : lw_okq (⟨"ShakyScreens", "pressFor", "(LShakyScreens$Person;III)I"⟩, 10) := ⟨⟨by decide +kernel, by decide +kernel⟩, List.mem_of_getElem? (i := 15) (by decide +kernel), List.mem_of_getElem? (i := 548) (by decide +kernel), List.mem_of_getElem? (i := 549) (by decide +kernel)⟩
theorem lw_p19 : lw_okq (⟨"ShakyScreens", "weightOf", "(LShakyScreens$Person;III)I"⟩, 10) := ⟨⟨by decide +kernel, by decide +kernel⟩, List.mem_of_getElem? (i := 15) (by decide +kernel), List.mem_of_getElem? (i := 552) (by decide +kernel), List.mem_of_getElem? (i := 553) (by decide +kernel)⟩
theorem lw_p20 : lw_okq (⟨"ShakyScreens", "hasLeave", "(IIII)Z"⟩, 10) := ⟨⟨by decide +kernel, by decide +kernel⟩, List.mem_of_getElem? (i := 15) (by decide +kernel), List.mem_of_getElem? (i := 638) (by decide +kernel), List.mem_of_getElem? (i := 639) (by decide +kernel)⟩
theorem lw_p21 : lw_okq (⟨"ShakyScreens", "dangerBody", "(I)I"⟩, 10) := ⟨⟨by decide +kernel, by decide +kernel⟩, List.mem_of_getElem? (i := 15) (by decide +kernel), List.mem_of_getElem? (i := 689) (by decide +kernel), List.mem_of_getElem? (i := 690) (by decide +kernel)⟩
theorem lw_p22 : lw_okq (⟨"ShakyScreens", "leaveTrace", "(I)V"⟩, 10) := ⟨⟨by decide +kernel, by decide +kernel⟩, List.mem_of_getElem? (i := 15) (by decide +kernel), List.mem_of_getElem? (i := 693) (by decide +kernel), List.mem_of_getElem? (i := 694) (by decide +kernel)⟩
theorem lw_p23 : lw_okq (⟨"ShakyScreens", "deedBody", "(I)I"⟩, 10) := ⟨⟨by decide +kernel, by decide +kernel⟩, List.mem_of_getElem? (i := 15) (by decide +kernel), List.mem_of_getElem? (i := 697) (by decide +kernel), List.mem_of_getElem? (i := 698) (by decide +kernel)⟩
theorem lw_p24 : lw_okq (⟨"ShakyScreens", "partBody", "(I)I"⟩, 10) := ⟨⟨by decide +kernel, by decide +kernel⟩, List.mem_of_getElem? (i := 15) (by decide +kernel), List.mem_of_getElem? (i := 701) (by decide +kernel), List.mem_of_getElem? (i := 702) (by decide +kernel)⟩
theorem lw_p25 : lw_okq (⟨"ShakyScreens", "dangerSpokenBody", "()I"⟩, 10) := ⟨⟨by decide +kernel, by decide +kernel⟩, List.mem_of_getElem? (i := 15) (by decide +kernel), List.mem_of_getElem? (i := 709) (by decide +kernel), List.mem_of_getElem? (i := 710) (by decide +kernel)⟩
theorem lw_p26 : lw_okq (⟨"ShakyScreens", "lentBody", "(I)I"⟩, 10) := ⟨⟨by decide +kernel, by decide +kernel⟩, List.mem_of_getElem? (i := 15) (by decide +kernel), List.mem_of_getElem? (i := 713) (by decide +kernel), List.mem_of_getElem? (i := 714) (by decide +kernel)⟩
theorem lw_p27 : lw_okq (⟨"ShakyScreensModel", "refused", "(I)I"⟩, 43) := ⟨⟨by decide +kernel, by decide +kernel⟩, List.mem_of_getElem? (i := 733) (by decide +kernel), List.mem_of_getElem? (i := 881) (by decide +kernel), List.mem_of_getElem? (i := 882) (by decide +kernel)⟩
theorem lw_p28 : lw_okq (⟨"ShakyScreensModel", "barred", "(IIIJ)I"⟩, 43) := ⟨⟨by decide +kernel, by decide +kernel⟩, List.mem_of_getElem? (i := 733) (by decide +kernel), List.mem_of_getElem? (i := 885) (by decide +kernel), List.mem_of_getElem? (i := 886) (by decide +kernel)⟩
theorem lw_p29 : lw_okq (⟨"ShakyScreensModel", "failed", "(I)I"⟩, 43) := ⟨⟨by decide +kernel, by decide +kernel⟩, List.mem_of_getElem? (i := 733) (by decide +kernel), List.mem_of_getElem? (i := 890) (by decide +kernel), List.mem_of_getElem? (i := 891) (by decide +kernel)⟩
theorem lw_p30 : lw_okq (⟨"ShakyScreensModel", "read", "(II)I"⟩, 43) := ⟨⟨by decide +kernel, by decide +kernel⟩, List.mem_of_getElem? (i := 733) (by decide +kernel), List.mem_of_getElem? (i := 897) (by decide +kernel), List.mem_of_getElem? (i := 898) (by decide +kernel)⟩
theorem lw_p31 : lw_okq (⟨"ShakyScreensModel", "noPart", "(I)Z"⟩, 43) := ⟨⟨by decide +kernel, by decide +kernel⟩, List.mem_of_getElem? (i := 733) (by decide +kernel), List.mem_of_getElem? (i := 907) (by decide +kernel), List.mem_of_getElem? (i := 908) (by decide +kernel)⟩
def lw_privs_2 : List (MethodName × Nat) := [(⟨"ShakyScreens$Menus", "joinLeast", "(I)V"⟩, 4), (⟨"ShakyScreens$Menus", "leastOpenNode", "()I"⟩, 4), (⟨"ShakyScreens", "pressFor", "(LShakyScreens$Person;III)I"⟩, 10), (⟨"ShakyScreens", "weightOf", "(LShakyScreens$Person;III)I"⟩, 10), (⟨"ShakyScreens", "hasLeave", "(IIII)Z"⟩, 10), (⟨"ShakyScreens", "dangerBody", "(I)I"⟩, 10), (⟨"ShakyScreens", "leaveTrace", "(I)V"⟩, 10), (⟨"ShakyScreens", "deedBody", "(I)I"⟩, 10), (⟨"ShakyScreens", "partBody", "(I)I"⟩, 10), (⟨"ShakyScreens", "dangerSpokenBody", "()I"⟩, 10), (⟨"ShakyScreens", "lentBody", "(I)I"⟩, 10), (⟨"ShakyScreensModel", "refused", "(I)I"⟩, 43), (⟨"ShakyScreensModel", "barred", "(IIIJ)I"⟩, 43), (⟨"ShakyScreensModel", "failed", "(I)I"⟩, 43), (⟨"ShakyScreensModel", "read", "(II)I"⟩, 43), (⟨"ShakyScreensModel", "noPart", "(I)Z"⟩, 43)]
theorem lw_r2 : ∀ q ∈ lw_privs_2, lw_okq q := List.forall_mem_cons.mpr ⟨lw_p16, List.forall_mem_cons.mpr ⟨lw_p17, List.forall_mem_cons.mpr ⟨lw_p18, List.forall_mem_cons.mpr ⟨lw_p19, List.forall_mem_cons.mpr ⟨lw_p20, List.forall_mem_cons.mpr ⟨lw_p21, List.forall_mem_cons.mpr ⟨lw_p22, List.forall_mem_cons.mpr ⟨lw_p23, List.forall_mem_cons.mpr ⟨lw_p24, List.forall_mem_cons.mpr ⟨lw_p25, List.forall_mem_cons.mpr ⟨lw_p26, List.forall_mem_cons.mpr ⟨lw_p27, List.forall_mem_cons.mpr ⟨lw_p28, List.forall_mem_cons.mpr ⟨lw_p29, List.forall_mem_cons.mpr ⟨lw_p30, List.forall_mem_cons.mpr ⟨lw_p31, fun _ h => absurd h List.not_mem_nil⟩⟩⟩⟩⟩⟩⟩⟩⟩⟩⟩⟩⟩⟩⟩⟩
theorem lw_p32 : lw_okq (⟨"ShakyScreensModel", "noPerson", "(I)Z"⟩, 43) := ⟨⟨by decide +kernel, by decide +kernel⟩, List.mem_of_getElem? (i := 733) (by decide +kernel), List.mem_of_getElem? (i := 933) (by decide +kernel), List.mem_of_getElem? (i := 934) (by decide +kernel)⟩
theorem lw_p33 : lw_okq (⟨"ShakyScreensModel", "isFew", "(I)Z"⟩, 43) := ⟨⟨by decide +kernel, by decide +kernel⟩, List.mem_of_getElem? (i := 733) (by decide +kernel), List.mem_of_getElem? (i := 944) (by decide +kernel), List.mem_of_getElem? (i := 945) (by decide +kernel)⟩
theorem lw_p34 : lw_okq (⟨"ShakyScreensModel", "findBest", "(II)Z"⟩, 43) := ⟨⟨by decide +kernel, by decide +kernel⟩, List.mem_of_getElem? (i := 733) (by decide +kernel), List.mem_of_getElem? (i := 951) (by decide +kernel), List.mem_of_getElem? (i := 952) (by decide +kernel)⟩
theorem lw_p35 : lw_okq (⟨"ShakyScreensModel", "mayBe", "(III)Z"⟩, 43) := ⟨⟨by decide +kernel, by decide +kernel⟩, List.mem_of_getElem? (i := 733) (by decide +kernel), List.mem_of_getElem? (i := 958) (by decide +kernel), List.mem_of_getElem? (i := 959) (by decide +kernel)⟩
theorem lw_p36 : lw_okq (⟨"ShakyScreensModel", "keepTried", "()V"⟩, 43) := ⟨⟨by decide +kernel, by decide +kernel⟩, List.mem_of_getElem? (i := 733) (by decide +kernel), List.mem_of_getElem? (i := 974) (by decide +kernel), List.mem_of_getElem? (i := 975) (by decide +kernel)⟩
theorem lw_p37 : lw_okq (⟨"ShakyScreensModel", "priceOfTried", "()I"⟩, 43) := ⟨⟨by decide +kernel, by decide +kernel⟩, List.mem_of_getElem? (i := 733) (by decide +kernel), List.mem_of_getElem? (i := 978) (by decide +kernel), List.mem_of_getElem? (i := 979) (by decide +kernel)⟩
theorem lw_p38 : lw_okq (⟨"ShakyScreensModel", "both", "(II)I"⟩, 43) := ⟨⟨by decide +kernel, by decide +kernel⟩, List.mem_of_getElem? (i := 733) (by decide +kernel), List.mem_of_getElem? (i := 982) (by decide +kernel), List.mem_of_getElem? (i := 983) (by decide +kernel)⟩
theorem lw_p39 : lw_okq (⟨"ShakyScreensModel", "take", "(I)V"⟩, 43) := ⟨⟨by decide +kernel, by decide +kernel⟩, List.mem_of_getElem? (i := 733) (by decide +kernel), List.mem_of_getElem? (i := 990) (by decide +kernel), List.mem_of_getElem? (i := 991) (by decide +kernel)⟩
theorem lw_p40 : lw_okq (⟨"ShakyScreensModel", "setOf", "(I)I"⟩, 43) := ⟨⟨by decide +kernel, by decide +kernel⟩, List.mem_of_getElem? (i := 733) (by decide +kernel), List.mem_of_getElem? (i := 999) (by decide +kernel), List.mem_of_getElem? (i := 1000) (by decide +kernel)⟩
theorem lw_p41 : lw_okq (⟨"ShakyScreensModel", "priceOf", "(I)I"⟩, 43) := ⟨⟨by decide +kernel, by decide +kernel⟩, List.mem_of_getElem? (i := 733) (by decide +kernel), List.mem_of_getElem? (i := 1003) (by decide +kernel), List.mem_of_getElem? (i := 1004) (by decide +kernel)⟩
theorem lw_p42 : lw_okq (⟨"ShakyScreensModel", "partIn", "(II)I"⟩, 43) := ⟨⟨by decide +kernel, by decide +kernel⟩, List.mem_of_getElem? (i := 733) (by decide +kernel), List.mem_of_getElem? (i := 1019) (by decide +kernel), List.mem_of_getElem? (i := 1020) (by decide +kernel)⟩
theorem lw_p43 : lw_okq (⟨"ShakyScreensModel", "areParts", "(I)Z"⟩, 43) := ⟨⟨by decide +kernel, by decide +kernel⟩, List.mem_of_getElem? (i := 733) (by decide +kernel), List.mem_of_getElem? (i := 1031) (by decide +kernel), List.mem_of_getElem? (i := 1032) (by decide +kernel)⟩
theorem lw_p44 : lw_okq (⟨"ShakyScreensModel", "layWays", "(II)V"⟩, 43) := ⟨⟨by decide +kernel, by decide +kernel⟩, List.mem_of_getElem? (i := 733) (by decide +kernel), List.mem_of_getElem? (i := 1036) (by decide +kernel), List.mem_of_getElem? (i := 1037) (by decide +kernel)⟩
theorem lw_p45 : lw_okq (⟨"ShakyScreensModel", "join", "(I)V"⟩, 43) := ⟨⟨by decide +kernel, by decide +kernel⟩, List.mem_of_getElem? (i := 733) (by decide +kernel), List.mem_of_getElem? (i := 1040) (by decide +kernel), List.mem_of_getElem? (i := 1041) (by decide +kernel)⟩
theorem lw_p46 : lw_okq (⟨"ShakyScreensModel", "leastNode", "()I"⟩, 43) := ⟨⟨by decide +kernel, by decide +kernel⟩, List.mem_of_getElem? (i := 733) (by decide +kernel), List.mem_of_getElem? (i := 1044) (by decide +kernel), List.mem_of_getElem? (i := 1045) (by decide +kernel)⟩
theorem lw_p47 : lw_okq (⟨"ShakyScreensModel", "errorOf", "(IIII)I"⟩, 43) := ⟨⟨by decide +kernel, by decide +kernel⟩, List.mem_of_getElem? (i := 733) (by decide +kernel), List.mem_of_getElem? (i := 1062) (by decide +kernel), List.mem_of_getElem? (i := 1063) (by decide +kernel)⟩
def lw_privs_3 : List (MethodName × Nat) := [(⟨"ShakyScreensModel", "noPerson", "(I)Z"⟩, 43), (⟨"ShakyScreensModel", "isFew", "(I)Z"⟩, 43), (⟨"ShakyScreensModel", "findBest", "(II)Z"⟩, 43), (⟨"ShakyScreensModel", "mayBe", "(III)Z"⟩, 43), (⟨"ShakyScreensModel", "keepTried", "()V"⟩, 43), (⟨"ShakyScreensModel", "priceOfTried", "()I"⟩, 43), (⟨"ShakyScreensModel", "both", "(II)I"⟩, 43), (⟨"ShakyScreensModel", "take", "(I)V"⟩, 43), (⟨"ShakyScreensModel", "setOf", "(I)I"⟩, 43), (⟨"ShakyScreensModel", "priceOf", "(I)I"⟩, 43), (⟨"ShakyScreensModel", "partIn", "(II)I"⟩, 43), (⟨"ShakyScreensModel", "areParts", "(I)Z"⟩, 43), (⟨"ShakyScreensModel", "layWays", "(II)V"⟩, 43), (⟨"ShakyScreensModel", "join", "(I)V"⟩, 43), (⟨"ShakyScreensModel", "leastNode", "()I"⟩, 43), (⟨"ShakyScreensModel", "errorOf", "(IIII)I"⟩, 43)]
theorem lw_r3 : ∀ q ∈ lw_privs_3, lw_okq q := List.forall_mem_cons.mpr ⟨lw_p32, List.forall_mem_cons.mpr ⟨lw_p33, List.forall_mem_cons.mpr ⟨lw_p34, List.forall_mem_cons.mpr ⟨lw_p35, List.forall_mem_cons.mpr ⟨lw_p36, List.forall_mem_cons.mpr ⟨lw_p37, List.forall_mem_cons.mpr ⟨lw_p38, List.forall_mem_cons.mpr ⟨lw_p39, List.forall_mem_cons.mpr ⟨lw_p40, List.forall_mem_cons.mpr ⟨lw_p41, List.forall_mem_cons.mpr ⟨lw_p42, List.forall_mem_cons.mpr ⟨lw_p43, List.forall_mem_cons.mpr ⟨lw_p44, List.forall_mem_cons.mpr ⟨lw_p45, List.forall_mem_cons.mpr ⟨lw_p46, List.forall_mem_cons.mpr ⟨lw_p47, fun _ h => absurd h List.not_mem_nil⟩⟩⟩⟩⟩⟩⟩⟩⟩⟩⟩⟩⟩⟩⟩⟩
theorem lw_p48 : lw_okq (⟨"ShakyScreensModel", "takePress", "(II)V"⟩, 43) := ⟨⟨by decide +kernel, by decide +kernel⟩, List.mem_of_getElem? (i := 733) (by decide +kernel), List.mem_of_getElem? (i := 1066) (by decide +kernel), List.mem_of_getElem? (i := 1067) (by decide +kernel)⟩
theorem lw_p49 : lw_okq (⟨"ShakyScreensModel", "spanOf", "(II)I"⟩, 43) := ⟨⟨by decide +kernel, by decide +kernel⟩, List.mem_of_getElem? (i := 733) (by decide +kernel), List.mem_of_getElem? (i := 1090) (by decide +kernel), List.mem_of_getElem? (i := 1091) (by decide +kernel)⟩
theorem lw_p50 : lw_okq (⟨"ShakyScreensModel", "sumBy", "(II)I"⟩, 43) := ⟨⟨by decide +kernel, by decide +kernel⟩, List.mem_of_getElem? (i := 733) (by decide +kernel), List.mem_of_getElem? (i := 1113) (by decide +kernel), List.mem_of_getElem? (i := 1114) (by decide +kernel)⟩
theorem lw_p51 : lw_okq (⟨"ShakyScreensModel", "maySee", "(IIII)Z"⟩, 43) := ⟨⟨by decide +kernel, by decide +kernel⟩, List.mem_of_getElem? (i := 733) (by decide +kernel), List.mem_of_getElem? (i := 1125) (by decide +kernel), List.mem_of_getElem? (i := 1126) (by decide +kernel)⟩
theorem lw_p52 : lw_okq (⟨"ShakyScreensModel", "noCell", "(II)I"⟩, 43) := ⟨⟨by decide +kernel, by decide +kernel⟩, List.mem_of_getElem? (i := 733) (by decide +kernel), List.mem_of_getElem? (i := 1145) (by decide +kernel), List.mem_of_getElem? (i := 1146) (by decide +kernel)⟩
theorem lw_p53 : lw_okq (⟨"ShakyScreensModel", "failedLong", "(I)J"⟩, 43) := ⟨⟨by decide +kernel, by decide +kernel⟩, List.mem_of_getElem? (i := 733) (by decide +kernel), List.mem_of_getElem? (i := 1153) (by decide +kernel), List.mem_of_getElem? (i := 1154) (by decide +kernel)⟩
theorem lw_p54 : lw_okq (⟨"ShakyScreensModel", "traced", "(I)V"⟩, 43) := ⟨⟨by decide +kernel, by decide +kernel⟩, List.mem_of_getElem? (i := 733) (by decide +kernel), List.mem_of_getElem? (i := 1165) (by decide +kernel), List.mem_of_getElem? (i := 1166) (by decide +kernel)⟩
def lw_privs_4 : List (MethodName × Nat) := [(⟨"ShakyScreensModel", "takePress", "(II)V"⟩, 43), (⟨"ShakyScreensModel", "spanOf", "(II)I"⟩, 43), (⟨"ShakyScreensModel", "sumBy", "(II)I"⟩, 43), (⟨"ShakyScreensModel", "maySee", "(IIII)Z"⟩, 43), (⟨"ShakyScreensModel", "noCell", "(II)I"⟩, 43), (⟨"ShakyScreensModel", "failedLong", "(I)J"⟩, 43), (⟨"ShakyScreensModel", "traced", "(I)V"⟩, 43)]
theorem lw_r4 : ∀ q ∈ lw_privs_4, lw_okq q := List.forall_mem_cons.mpr ⟨lw_p48, List.forall_mem_cons.mpr ⟨lw_p49, List.forall_mem_cons.mpr ⟨lw_p50, List.forall_mem_cons.mpr ⟨lw_p51, List.forall_mem_cons.mpr ⟨lw_p52, List.forall_mem_cons.mpr ⟨lw_p53, List.forall_mem_cons.mpr ⟨lw_p54, fun _ h => absurd h List.not_mem_nil⟩⟩⟩⟩⟩⟩⟩
def lw_privs : List (MethodName × Nat) := lw_privs_1 ++ (lw_privs_2 ++ (lw_privs_3 ++ (lw_privs_4)))
def lw_tbl : List Cond := k2_sels lw_privs ++ tables_1
theorem lw_privs_ok : ∀ q ∈ lw_privs, lw_okq q := by
  show ∀ q ∈ lw_privs_1 ++ (lw_privs_2 ++ (lw_privs_3 ++ (lw_privs_4))), lw_okq q
  exact List.forall_mem_append.mpr ⟨lw_r1, List.forall_mem_append.mpr ⟨lw_r2, List.forall_mem_append.mpr ⟨lw_r3, lw_r4⟩⟩⟩
end
section
def RX0 : String := "ShakyScreens$Laying"
def TX0 : u_T := fun k => match k with
  | 0 => ("ShakyScreens$Laying", "laid", "I", false)
  | _ => ("ShakyScreens$Laying", "places", "[I", true)
def tyX0 : Nat → FieldType := fun k => match k with
  | 0 => .int
  | _ => .array .int
theorem nmX0 : ∀ a, a < 2 → ∀ b, b < 2 → a ≠ b → (TX0 a).2.1 ≠ (TX0 b).2.1 := by decide +kernel
theorem tyX0_ok : ∀ k, k < 2 → parseFieldDescriptor (TX0 k).2.2.1 = some (tyX0 k) := by decide +kernel
abbrev cX0_init : ByteArray := prog_2_method_1_code
def yX0_init : MethodName := ⟨RX0, "<init>", "()V"⟩
abbrev cX0_isEmpty : ByteArray := prog_2_method_2_code
def yX0_isEmpty : MethodName := ⟨RX0, "isEmpty", "()Z"⟩
abbrev cX0_partSet : ByteArray := prog_2_method_3_code
def yX0_partSet : MethodName := ⟨RX0, "partSet", "()I"⟩
abbrev cX0_clear : ByteArray := prog_2_method_4_code
def yX0_clear : MethodName := ⟨RX0, "clear", "()V"⟩
abbrev cX0_layPart : ByteArray := prog_2_method_5_code
def yX0_layPart : MethodName := ⟨RX0, "layPart", "(II)V"⟩
abbrev cX0_become : ByteArray := prog_2_method_6_code
def yX0_become : MethodName := ⟨RX0, "become", "(LShakyScreens$Laying;)V"⟩
abbrev cX0_hasPart : ByteArray := prog_2_method_7_code
def yX0_hasPart : MethodName := ⟨RX0, "hasPart", "(I)Z"⟩
abbrev cX0_placeOf : ByteArray := prog_2_method_8_code
def yX0_placeOf : MethodName := ⟨RX0, "placeOf", "(I)I"⟩
abbrev cX0_partAt : ByteArray := prog_2_method_9_code
def yX0_partAt : MethodName := ⟨RX0, "partAt", "(I)I"⟩
abbrev cX0_priceBy : ByteArray := prog_2_method_10_code
def yX0_priceBy : MethodName := ⟨RX0, "priceBy", "(LShakyScreens$Parts;)I"⟩
abbrev cX0_errorOf : ByteArray := prog_2_method_11_code
def yX0_errorOf : MethodName := ⟨RX0, "errorOf", "(III)I"⟩
abbrev cX0_wayBetween : ByteArray := prog_2_method_12_code
def yX0_wayBetween : MethodName := ⟨RX0, "wayBetween", "(II)I"⟩
abbrev cX0_apart : ByteArray := prog_2_method_13_code
def yX0_apart : MethodName := ⟨RX0, "apart", "(II)I"⟩
def RX1 : String := "ShakyScreens$Menus"
def TX1 : u_T := fun k => match k with
  | 0 => ("ShakyScreens$Menus", "weights", "[I", true)
  | 1 => ("ShakyScreens$Menus", "menuOf", "[I", true)
  | 2 => ("ShakyScreens$Menus", "nodeOf", "[I", true)
  | _ => ("ShakyScreens$Menus", "nodeCount", "I", false)
def tyX1 : Nat → FieldType := fun k => match k with
  | 0 => .array .int
  | 1 => .array .int
  | 2 => .array .int
  | _ => .int
theorem nmX1 : ∀ a, a < 4 → ∀ b, b < 4 → a ≠ b → (TX1 a).2.1 ≠ (TX1 b).2.1 := by decide +kernel
theorem tyX1_ok : ∀ k, k < 4 → parseFieldDescriptor (TX1 k).2.2.1 = some (tyX1 k) := by decide +kernel
abbrev cX1_init : ByteArray := prog_3_method_1_code
def yX1_init : MethodName := ⟨RX1, "<init>", "()V"⟩
abbrev cX1_build : ByteArray := prog_3_method_2_code
def yX1_build : MethodName := ⟨RX1, "build", "(LShakyScreens$Parts;II)V"⟩
abbrev cX1_addNode : ByteArray := prog_3_method_3_code
def yX1_addNode : MethodName := ⟨RX1, "addNode", "(I)V"⟩
abbrev cX1_joinLeast : ByteArray := prog_3_method_4_code
def yX1_joinLeast : MethodName := ⟨RX1, "joinLeast", "(I)V"⟩
abbrev cX1_leastOpenNode : ByteArray := prog_3_method_5_code
def yX1_leastOpenNode : MethodName := ⟨RX1, "leastOpenNode", "()I"⟩
abbrev cX1_stepsOf : ByteArray := prog_3_method_6_code
def yX1_stepsOf : MethodName := ⟨RX1, "stepsOf", "(I)I"⟩
abbrev cX1_costBy : ByteArray := prog_3_method_7_code
def yX1_costBy : MethodName := ⟨RX1, "costBy", "(LShakyScreens$Parts;)I"⟩
def RX2 : String := "ShakyScreens$Parts"
def TX2 : u_T := fun k => match k with
  | 0 => ("ShakyScreens$Parts", "count", "I", false)
  | 1 => ("ShakyScreens$Parts", "kinds", "[I", true)
  | 2 => ("ShakyScreens$Parts", "wishes", "[I", true)
  | _ => ("ShakyScreens$Parts", "follows", "[[I", true)
def tyX2 : Nat → FieldType := fun k => match k with
  | 0 => .int
  | 1 => .array .int
  | 2 => .array .int
  | _ => .array (.array .int)
theorem nmX2 : ∀ a, a < 4 → ∀ b, b < 4 → a ≠ b → (TX2 a).2.1 ≠ (TX2 b).2.1 := by decide +kernel
theorem tyX2_ok : ∀ k, k < 4 → parseFieldDescriptor (TX2 k).2.2.1 = some (tyX2 k) := by decide +kernel
abbrev cX2_init : ByteArray := prog_4_method_1_code
def yX2_init : MethodName := ⟨RX2, "<init>", "()V"⟩
abbrev cX2_has : ByteArray := prog_4_method_2_code
def yX2_has : MethodName := ⟨RX2, "has", "(I)Z"⟩
abbrev cX2_hasSet : ByteArray := prog_4_method_3_code
def yX2_hasSet : MethodName := ⟨RX2, "hasSet", "(I)Z"⟩
abbrev cX2_canBeLaid : ByteArray := prog_4_method_4_code
def yX2_canBeLaid : MethodName := ⟨RX2, "canBeLaid", "(I)Z"⟩
abbrev cX2_followsBothWays : ByteArray := prog_4_method_5_code
def yX2_followsBothWays : MethodName := ⟨RX2, "followsBothWays", "(II)I"⟩
abbrev cX2_clear : ByteArray := prog_4_method_6_code
def yX2_clear : MethodName := ⟨RX2, "clear", "()V"⟩
abbrev cX2_become : ByteArray := prog_4_method_7_code
def yX2_become : MethodName := ⟨RX2, "become", "(LShakyScreens$Parts;)V"⟩
abbrev cX2_add : ByteArray := prog_4_method_8_code
def yX2_add : MethodName := ⟨RX2, "add", "(I)V"⟩
abbrev cX2_addDigitToLatest : ByteArray := prog_4_method_9_code
def yX2_addDigitToLatest : MethodName := ⟨RX2, "addDigitToLatest", "(I)V"⟩
abbrev cX2_isAheadOfLatest : ByteArray := prog_4_method_10_code
def yX2_isAheadOfLatest : MethodName := ⟨RX2, "isAheadOfLatest", "(I)Z"⟩
abbrev cX2_putBehindLatest : ByteArray := prog_4_method_11_code
def yX2_putBehindLatest : MethodName := ⟨RX2, "putBehindLatest", "(I)V"⟩
def RX3 : String := "ShakyScreens$Person"
def TX3 : u_T := fun k => match k with
  | 0 => ("ShakyScreens$Person", "able", "[I", true)
  | 1 => ("ShakyScreens$Person", "laying", "LShakyScreens$Laying;", false)
  | 2 => ("ShakyScreens$Person", "oldLaying", "LShakyScreens$Laying;", false)
  | 3 => ("ShakyScreens$Person", "latestTick", "I", false)
  | 4 => ("ShakyScreens$Person", "askedPart", "I", false)
  | 5 => ("ShakyScreens$Person", "askedError", "I", false)
  | 6 => ("ShakyScreens$Person", "askedTick", "I", false)
  | 7 => ("ShakyScreens$Person", "countedBy", "[I", true)
  | 8 => ("ShakyScreens$Person", "lastErrors", "[I", true)
  | 9 => ("ShakyScreens$Person", "lastCount", "I", false)
  | 10 => ("ShakyScreens$Person", "trialGains", "[I", true)
  | 11 => ("ShakyScreens$Person", "trialCount", "I", false)
  | _ => ("ShakyScreens$Person", "leaveTills", "[I", true)
def tyX3 : Nat → FieldType := fun k => match k with
  | 0 => .array .int
  | 1 => .object "ShakyScreens$Laying"
  | 2 => .object "ShakyScreens$Laying"
  | 3 => .int
  | 4 => .int
  | 5 => .int
  | 6 => .int
  | 7 => .array .int
  | 8 => .array .int
  | 9 => .int
  | 10 => .array .int
  | 11 => .int
  | _ => .array .int
theorem nmX3 : ∀ a, a < 13 → ∀ b, b < 13 → a ≠ b → (TX3 a).2.1 ≠ (TX3 b).2.1 := by decide +kernel
theorem tyX3_ok : ∀ k, k < 13 → parseFieldDescriptor (TX3 k).2.2.1 = some (tyX3 k) := by decide +kernel
abbrev cX3_init : ByteArray := prog_5_method_1_code
def yX3_init : MethodName := ⟨RX3, "<init>", "()V"⟩
abbrev cX3_receiveLaying : ByteArray := prog_5_method_2_code
def yX3_receiveLaying : MethodName := ⟨RX3, "receiveLaying", "(LShakyScreens$Laying;)V"⟩
abbrev cX3_swapLayings : ByteArray := prog_5_method_3_code
def yX3_swapLayings : MethodName := ⟨RX3, "swapLayings", "()V"⟩
abbrev cX3_forgetLayings : ByteArray := prog_5_method_4_code
def yX3_forgetLayings : MethodName := ⟨RX3, "forgetLayings", "()V"⟩
abbrev cX3_isStillAsked : ByteArray := prog_5_method_5_code
def yX3_isStillAsked : MethodName := ⟨RX3, "isStillAsked", "(III)Z"⟩
abbrev cX3_ask : ByteArray := prog_5_method_6_code
def yX3_ask : MethodName := ⟨RX3, "ask", "(III)V"⟩
abbrev cX3_take : ByteArray := prog_5_method_7_code
def yX3_take : MethodName := ⟨RX3, "take", "(I)V"⟩
abbrev cX3_takeBack : ByteArray := prog_5_method_8_code
def yX3_takeBack : MethodName := ⟨RX3, "takeBack", "()I"⟩
abbrev cX3_spanFor : ByteArray := prog_5_method_9_code
def yX3_spanFor : MethodName := ⟨RX3, "spanFor", "(I)I"⟩
abbrev cX3_pairsThatGo : ByteArray := prog_5_method_10_code
def yX3_pairsThatGo : MethodName := ⟨RX3, "pairsThatGo", "(I)I"⟩
def RX4 : String := "ShakyScreens$Reader"
def TX4 : u_T := fun k => match k with
  | 0 => ("ShakyScreens$Reader", "read", "LShakyScreens$Parts;", true)
  | 1 => ("ShakyScreens$Reader", "awaited", "I", false)
  | _ => ("ShakyScreens$Reader", "digits", "I", false)
def tyX4 : Nat → FieldType := fun k => match k with
  | 0 => .object "ShakyScreens$Parts"
  | 1 => .int
  | _ => .int
theorem nmX4 : ∀ a, a < 3 → ∀ b, b < 3 → a ≠ b → (TX4 a).2.1 ≠ (TX4 b).2.1 := by decide +kernel
theorem tyX4_ok : ∀ k, k < 3 → parseFieldDescriptor (TX4 k).2.2.1 = some (tyX4 k) := by decide +kernel
abbrev cX4_init : ByteArray := prog_6_method_1_code
def yX4_init : MethodName := ⟨RX4, "<init>", "()V"⟩
abbrev cX4_firstFault : ByteArray := prog_6_method_2_code
def yX4_firstFault : MethodName := ⟨RX4, "firstFault", "([III)I"⟩
abbrev cX4_takes : ByteArray := prog_6_method_3_code
def yX4_takes : MethodName := ⟨RX4, "takes", "(I)Z"⟩
abbrev cX4_takesLetter : ByteArray := prog_6_method_4_code
def yX4_takesLetter : MethodName := ⟨RX4, "takesLetter", "(I)Z"⟩
abbrev cX4_kindOf : ByteArray := prog_6_method_5_code
def yX4_kindOf : MethodName := ⟨RX4, "kindOf", "(I)I"⟩
abbrev cX4_takesDigit : ByteArray := prog_6_method_6_code
def yX4_takesDigit : MethodName := ⟨RX4, "takesDigit", "(I)Z"⟩
abbrev cX4_takesSign : ByteArray := prog_6_method_7_code
def yX4_takesSign : MethodName := ⟨RX4, "takesSign", "(I)Z"⟩
abbrev cX4_takesAhead : ByteArray := prog_6_method_8_code
def yX4_takesAhead : MethodName := ⟨RX4, "takesAhead", "(I)Z"⟩
def RX5 : String := "ShakyScreens$Seeker"
def TX5 : u_T := fun k => match k with
  | 0 => ("ShakyScreens$Seeker", "best", "LShakyScreens$Laying;", true)
  | 1 => ("ShakyScreens$Seeker", "chosen", "[I", true)
  | 2 => ("ShakyScreens$Seeker", "places", "[I", true)
  | 3 => ("ShakyScreens$Seeker", "pulls", "[[I", true)
  | 4 => ("ShakyScreens$Seeker", "leastRest", "[I", true)
  | 5 => ("ShakyScreens$Seeker", "tooNear", "[I", true)
  | 6 => ("ShakyScreens$Seeker", "count", "I", false)
  | _ => ("ShakyScreens$Seeker", "bestPrice", "I", false)
def tyX5 : Nat → FieldType := fun k => match k with
  | 0 => .object "ShakyScreens$Laying"
  | 1 => .array .int
  | 2 => .array .int
  | 3 => .array (.array .int)
  | 4 => .array .int
  | 5 => .array .int
  | 6 => .int
  | _ => .int
theorem nmX5 : ∀ a, a < 8 → ∀ b, b < 8 → a ≠ b → (TX5 a).2.1 ≠ (TX5 b).2.1 := by decide +kernel
theorem tyX5_ok : ∀ k, k < 8 → parseFieldDescriptor (TX5 k).2.2.1 = some (tyX5 k) := by decide +kernel
abbrev cX5_init : ByteArray := prog_7_method_1_code
def yX5_init : MethodName := ⟨RX5, "<init>", "()V"⟩
abbrev cX5_seek : ByteArray := prog_7_method_2_code
def yX5_seek : MethodName := ⟨RX5, "seek", "(LShakyScreens$Parts;ILShakyScreens$Person;)I"⟩
abbrev cX5_choose : ByteArray := prog_7_method_3_code
def yX5_choose : MethodName := ⟨RX5, "choose", "(I)V"⟩
abbrev cX5_weighPairs : ByteArray := prog_7_method_4_code
def yX5_weighPairs : MethodName := ⟨RX5, "weighPairs", "(LShakyScreens$Parts;I)V"⟩
abbrev cX5_findTooNear : ByteArray := prog_7_method_5_code
def yX5_findTooNear : MethodName := ⟨RX5, "findTooNear", "(I)V"⟩
abbrev cX5_layFrom : ByteArray := prog_7_method_6_code
def yX5_layFrom : MethodName := ⟨RX5, "layFrom", "(III)V"⟩
abbrev cX5_pullOf : ByteArray := prog_7_method_7_code
def yX5_pullOf : MethodName := ⟨RX5, "pullOf", "(II)I"⟩
abbrev cX5_keepAsBest : ByteArray := prog_7_method_8_code
def yX5_keepAsBest : MethodName := ⟨RX5, "keepAsBest", "(I)V"⟩
def RX6 : String := "ShakyScreens$Sheet"
def TX6 : u_T := fun k => match k with
  | 0 => ("ShakyScreens$Sheet", "lane", "I", true)
  | _ => ("ShakyScreens$Sheet", "cells", "[I", true)
def tyX6 : Nat → FieldType := fun k => match k with
  | 0 => .int
  | _ => .array .int
theorem nmX6 : ∀ a, a < 2 → ∀ b, b < 2 → a ≠ b → (TX6 a).2.1 ≠ (TX6 b).2.1 := by decide +kernel
theorem tyX6_ok : ∀ k, k < 2 → parseFieldDescriptor (TX6 k).2.2.1 = some (tyX6 k) := by decide +kernel
abbrev cX6_init : ByteArray := prog_8_method_1_code
def yX6_init : MethodName := ⟨RX6, "<init>", "(II)V"⟩
abbrev cX6_hasCells : ByteArray := prog_8_method_2_code
def yX6_hasCells : MethodName := ⟨RX6, "hasCells", "(II)Z"⟩
def RX7 : String := "ShakyScreens"
def TX7 : u_T := fun k => match k with
  | 0 => ("ShakyScreens", "parts", "LShakyScreens$Parts;", true)
  | 1 => ("ShakyScreens", "reader", "LShakyScreens$Reader;", true)
  | 2 => ("ShakyScreens", "persons", "[LShakyScreens$Person;", true)
  | 3 => ("ShakyScreens", "personCount", "I", false)
  | 4 => ("ShakyScreens", "seeker", "LShakyScreens$Seeker;", true)
  | 5 => ("ShakyScreens", "menus", "LShakyScreens$Menus;", true)
  | 6 => ("ShakyScreens", "rules", "[I", true)
  | 7 => ("ShakyScreens", "sheets", "[LShakyScreens$Sheet;", true)
  | 8 => ("ShakyScreens", "trace", "I", false)
  | _ => ("ShakyScreens", "fault", "I", false)
def tyX7 : Nat → FieldType := fun k => match k with
  | 0 => .object "ShakyScreens$Parts"
  | 1 => .object "ShakyScreens$Reader"
  | 2 => .array (.object "ShakyScreens$Person")
  | 3 => .int
  | 4 => .object "ShakyScreens$Seeker"
  | 5 => .object "ShakyScreens$Menus"
  | 6 => .array .int
  | 7 => .array (.object "ShakyScreens$Sheet")
  | 8 => .int
  | _ => .int
theorem nmX7 : ∀ a, a < 10 → ∀ b, b < 10 → a ≠ b → (TX7 a).2.1 ≠ (TX7 b).2.1 := by decide +kernel
theorem tyX7_ok : ∀ k, k < 10 → parseFieldDescriptor (TX7 k).2.2.1 = some (tyX7 k) := by decide +kernel
abbrev cX7_init : ByteArray := prog_1_method_1_code
def yX7_init : MethodName := ⟨RX7, "<init>", "()V"⟩
abbrev cX7_text : ByteArray := prog_1_method_2_code
def yX7_text : MethodName := ⟨RX7, "text", "(IIII)I"⟩
abbrev cX7_part : ByteArray := prog_1_method_3_code
def yX7_part : MethodName := ⟨RX7, "part", "(II)I"⟩
abbrev cX7_wish : ByteArray := prog_1_method_4_code
def yX7_wish : MethodName := ⟨RX7, "wish", "(II)I"⟩
abbrev cX7_follows : ByteArray := prog_1_method_5_code
def yX7_follows : MethodName := ⟨RX7, "follows", "(II)I"⟩
abbrev cX7_follow : ByteArray := prog_1_method_6_code
def yX7_follow : MethodName := ⟨RX7, "follow", "(III)I"⟩
abbrev cX7_person : ByteArray := prog_1_method_7_code
def yX7_person : MethodName := ⟨RX7, "person", "()I"⟩
abbrev cX7_can : ByteArray := prog_1_method_8_code
def yX7_can : MethodName := ⟨RX7, "can", "(III)I"⟩
abbrev cX7_best : ByteArray := prog_1_method_9_code
def yX7_best : MethodName := ⟨RX7, "best", "(III)I"⟩
abbrev cX7_lay : ByteArray := prog_1_method_10_code
def yX7_lay : MethodName := ⟨RX7, "lay", "(II)I"⟩
abbrev cX7_offer : ByteArray := prog_1_method_11_code
def yX7_offer : MethodName := ⟨RX7, "offer", "(II)I"⟩
abbrev cX7_back : ByteArray := prog_1_method_12_code
def yX7_back : MethodName := ⟨RX7, "back", "(I)I"⟩
abbrev cX7_at : ByteArray := prog_1_method_13_code
def yX7_at : MethodName := ⟨RX7, "at", "(II)I"⟩
abbrev cX7_price : ByteArray := prog_1_method_14_code
def yX7_price : MethodName := ⟨RX7, "price", "(I)I"⟩
abbrev cX7_ways : ByteArray := prog_1_method_15_code
def yX7_ways : MethodName := ⟨RX7, "ways", "(III)I"⟩
abbrev cX7_kept : ByteArray := prog_1_method_16_code
def yX7_kept : MethodName := ⟨RX7, "kept", "(III)I"⟩
abbrev cX7_rule : ByteArray := prog_1_method_17_code
def yX7_rule : MethodName := ⟨RX7, "rule", "(II)I"⟩
abbrev cX7_press : ByteArray := prog_1_method_18_code
def yX7_press : MethodName := ⟨RX7, "press", "(IIII)I"⟩
abbrev cX7_confirm : ByteArray := prog_1_method_19_code
def yX7_confirm : MethodName := ⟨RX7, "confirm", "(II)I"⟩
abbrev cX7_asked : ByteArray := prog_1_method_20_code
def yX7_asked : MethodName := ⟨RX7, "asked", "(I)I"⟩
abbrev cX7_undo : ByteArray := prog_1_method_21_code
def yX7_undo : MethodName := ⟨RX7, "undo", "(I)I"⟩
abbrev cX7_counted : ByteArray := prog_1_method_22_code
def yX7_counted : MethodName := ⟨RX7, "counted", "(II)I"⟩
abbrev cX7_span : ByteArray := prog_1_method_23_code
def yX7_span : MethodName := ⟨RX7, "span", "(II)I"⟩
abbrev cX7_worse : ByteArray := prog_1_method_24_code
def yX7_worse : MethodName := ⟨RX7, "worse", "(II)J"⟩
abbrev cX7_trial : ByteArray := prog_1_method_25_code
def yX7_trial : MethodName := ⟨RX7, "trial", "(III)I"⟩
abbrev cX7_odds : ByteArray := prog_1_method_26_code
def yX7_odds : MethodName := ⟨RX7, "odds", "(II)J"⟩
abbrev cX7_leave : ByteArray := prog_1_method_27_code
def yX7_leave : MethodName := ⟨RX7, "leave", "(IIII)I"⟩
abbrev cX7_see : ByteArray := prog_1_method_28_code
def yX7_see : MethodName := ⟨RX7, "see", "(IIII)I"⟩
abbrev cX7_told : ByteArray := prog_1_method_29_code
def yX7_told : MethodName := ⟨RX7, "told", "(IIII)I"⟩
abbrev cX7_sheet : ByteArray := prog_1_method_30_code
def yX7_sheet : MethodName := ⟨RX7, "sheet", "(III)I"⟩
abbrev cX7_lose : ByteArray := prog_1_method_31_code
def yX7_lose : MethodName := ⟨RX7, "lose", "(I)I"⟩
abbrev cX7_put : ByteArray := prog_1_method_32_code
def yX7_put : MethodName := ⟨RX7, "put", "(III)I"⟩
abbrev cX7_cell : ByteArray := prog_1_method_33_code
def yX7_cell : MethodName := ⟨RX7, "cell", "(III)J"⟩
abbrev cX7_copy : ByteArray := prog_1_method_34_code
def yX7_copy : MethodName := ⟨RX7, "copy", "(IIIII)I"⟩
abbrev cX7_tell : ByteArray := prog_1_method_35_code
def yX7_tell : MethodName := ⟨RX7, "tell", "(I)I"⟩
abbrev cX7_speak : ByteArray := prog_1_method_36_code
def yX7_speak : MethodName := ⟨RX7, "speak", "(I)I"⟩
abbrev cX7_as : ByteArray := prog_1_method_37_code
def yX7_as : MethodName := ⟨RX7, "as", "(II)I"⟩
abbrev cX7_trace : ByteArray := prog_1_method_38_code
def yX7_trace : MethodName := ⟨RX7, "trace", "()I"⟩
abbrev cX7_fault : ByteArray := prog_1_method_39_code
def yX7_fault : MethodName := ⟨RX7, "fault", "()I"⟩
abbrev cX7_many : ByteArray := prog_1_method_40_code
def yX7_many : MethodName := ⟨RX7, "many", "(I)I"⟩
abbrev cX7_isWithin : ByteArray := prog_1_method_41_code
def yX7_isWithin : MethodName := ⟨RX7, "isWithin", "(III)Z"⟩
abbrev cX7_isPlace : ByteArray := prog_1_method_42_code
def yX7_isPlace : MethodName := ⟨RX7, "isPlace", "(I)Z"⟩
abbrev cX7_isTick : ByteArray := prog_1_method_43_code
def yX7_isTick : MethodName := ⟨RX7, "isTick", "(I)Z"⟩
abbrev cX7_isPerson : ByteArray := prog_1_method_44_code
def yX7_isPerson : MethodName := ⟨RX7, "isPerson", "(I)Z"⟩
abbrev cX7_isPartOrAll : ByteArray := prog_1_method_45_code
def yX7_isPartOrAll : MethodName := ⟨RX7, "isPartOrAll", "(I)Z"⟩
abbrev cX7_hasLeave : ByteArray := prog_1_method_46_code
def yX7_hasLeave : MethodName := ⟨RX7, "hasLeave", "(IIII)Z"⟩
abbrev cX7_faulted : ByteArray := prog_1_method_47_code
def yX7_faulted : MethodName := ⟨RX7, "faulted", "(I)I"⟩
abbrev cX7_takeParts : ByteArray := prog_1_method_48_code
def yX7_takeParts : MethodName := ⟨RX7, "takeParts", "(LShakyScreens$Parts;)V"⟩
abbrev cX7_pressFor : ByteArray := prog_1_method_49_code
def yX7_pressFor : MethodName := ⟨RX7, "pressFor", "(LShakyScreens$Person;III)I"⟩
abbrev cX7_weightOf : ByteArray := prog_1_method_50_code
def yX7_weightOf : MethodName := ⟨RX7, "weightOf", "(LShakyScreens$Person;III)I"⟩
abbrev cX7_leaveTrace : ByteArray := prog_1_method_51_code
def yX7_leaveTrace : MethodName := ⟨RX7, "leaveTrace", "(I)V"⟩
abbrev cX7_partBody : ByteArray := prog_1_method_52_code
def yX7_partBody : MethodName := ⟨RX7, "partBody", "(I)I"⟩
abbrev cX7_deedBody : ByteArray := prog_1_method_53_code
def yX7_deedBody : MethodName := ⟨RX7, "deedBody", "(I)I"⟩
abbrev cX7_dangerBody : ByteArray := prog_1_method_54_code
def yX7_dangerBody : MethodName := ⟨RX7, "dangerBody", "(I)I"⟩
abbrev cX7_lentBody : ByteArray := prog_1_method_55_code
def yX7_lentBody : MethodName := ⟨RX7, "lentBody", "(I)I"⟩
abbrev cX7_dangerSpokenBody : ByteArray := prog_1_method_56_code
def yX7_dangerSpokenBody : MethodName := ⟨RX7, "dangerSpokenBody", "()I"⟩
abbrev cX7_cutToLane : ByteArray := prog_1_method_57_code
def yX7_cutToLane : MethodName := ⟨RX7, "cutToLane", "(II)I"⟩
abbrev cX7_columnOf : ByteArray := prog_1_method_58_code
def yX7_columnOf : MethodName := ⟨RX7, "columnOf", "(I)I"⟩
abbrev cX7_rowOf : ByteArray := prog_1_method_59_code
def yX7_rowOf : MethodName := ⟨RX7, "rowOf", "(I)I"⟩
abbrev cX7_waysAsGreat : ByteArray := prog_1_method_60_code
def yX7_waysAsGreat : MethodName := ⟨RX7, "waysAsGreat", "([IIII)I"⟩
abbrev cX7_shareNumber : ByteArray := prog_1_method_61_code
def yX7_shareNumber : MethodName := ⟨RX7, "shareNumber", "(III)I"⟩
abbrev cX7_greatestDivisor : ByteArray := prog_1_method_62_code
def yX7_greatestDivisor : MethodName := ⟨RX7, "greatestDivisor", "(II)I"⟩
def RX8 : String := "ShakyScreensModel"
def TX8 : u_T := fun k => match k with
  | 0 => ("ShakyScreensModel", "fault", "I", false)
  | 1 => ("ShakyScreensModel", "parts", "I", false)
  | 2 => ("ShakyScreensModel", "kindOf", "[I", true)
  | 3 => ("ShakyScreensModel", "wishOf", "[I", true)
  | 4 => ("ShakyScreensModel", "followOf", "[I", true)
  | 5 => ("ShakyScreensModel", "readMany", "I", false)
  | 6 => ("ShakyScreensModel", "readKind", "[I", true)
  | 7 => ("ShakyScreensModel", "readWish", "[I", true)
  | 8 => ("ShakyScreensModel", "readFollow", "[I", true)
  | 9 => ("ShakyScreensModel", "persons", "I", false)
  | 10 => ("ShakyScreensModel", "wideOf", "[I", true)
  | 11 => ("ShakyScreensModel", "reachOf", "[I", true)
  | 12 => ("ShakyScreensModel", "holdOf", "[I", true)
  | 13 => ("ShakyScreensModel", "hasLaying", "[Z", true)
  | 14 => ("ShakyScreensModel", "hasOld", "[Z", true)
  | 15 => ("ShakyScreensModel", "placeOf", "[I", true)
  | 16 => ("ShakyScreensModel", "oldPlaceOf", "[I", true)
  | 17 => ("ShakyScreensModel", "chosen", "I", false)
  | 18 => ("ShakyScreensModel", "partAt", "[I", true)
  | 19 => ("ShakyScreensModel", "tried", "[I", true)
  | 20 => ("ShakyScreensModel", "bestPlace", "[I", true)
  | 21 => ("ShakyScreensModel", "bestPrice", "I", false)
  | 22 => ("ShakyScreensModel", "nodes", "I", false)
  | 23 => ("ShakyScreensModel", "weight", "[I", true)
  | 24 => ("ShakyScreensModel", "menuOf", "[I", true)
  | 25 => ("ShakyScreensModel", "stepsOf", "[I", true)
  | 26 => ("ShakyScreensModel", "sureness", "I", false)
  | 27 => ("ShakyScreensModel", "pause", "I", false)
  | 28 => ("ShakyScreensModel", "askedOf", "[I", true)
  | 29 => ("ShakyScreensModel", "askedTick", "[I", true)
  | 30 => ("ShakyScreensModel", "askedError", "[I", true)
  | 31 => ("ShakyScreensModel", "latestTick", "[I", true)
  | 32 => ("ShakyScreensModel", "countOf", "[I", true)
  | 33 => ("ShakyScreensModel", "lastMany", "[I", true)
  | 34 => ("ShakyScreensModel", "lastError", "[I", true)
  | 35 => ("ShakyScreensModel", "trialMany", "[I", true)
  | 36 => ("ShakyScreensModel", "trialBy", "[I", true)
  | 37 => ("ShakyScreensModel", "tillOf", "[I", true)
  | 38 => ("ShakyScreensModel", "sheetSize", "[I", true)
  | 39 => ("ShakyScreensModel", "sheetLane", "[I", true)
  | 40 => ("ShakyScreensModel", "sheet", "[I", true)
  | 41 => ("ShakyScreensModel", "hands", "[I", true)
  | _ => ("ShakyScreensModel", "traceNow", "I", false)
def tyX8 : Nat → FieldType := fun k => match k with
  | 0 => .int
  | 1 => .int
  | 2 => .array .int
  | 3 => .array .int
  | 4 => .array .int
  | 5 => .int
  | 6 => .array .int
  | 7 => .array .int
  | 8 => .array .int
  | 9 => .int
  | 10 => .array .int
  | 11 => .array .int
  | 12 => .array .int
  | 13 => .array .boolean
  | 14 => .array .boolean
  | 15 => .array .int
  | 16 => .array .int
  | 17 => .int
  | 18 => .array .int
  | 19 => .array .int
  | 20 => .array .int
  | 21 => .int
  | 22 => .int
  | 23 => .array .int
  | 24 => .array .int
  | 25 => .array .int
  | 26 => .int
  | 27 => .int
  | 28 => .array .int
  | 29 => .array .int
  | 30 => .array .int
  | 31 => .array .int
  | 32 => .array .int
  | 33 => .array .int
  | 34 => .array .int
  | 35 => .array .int
  | 36 => .array .int
  | 37 => .array .int
  | 38 => .array .int
  | 39 => .array .int
  | 40 => .array .int
  | 41 => .array .int
  | _ => .int
theorem nmX8 : ∀ a, a < 43 → ∀ b, b < 43 → a ≠ b → (TX8 a).2.1 ≠ (TX8 b).2.1 := by decide +kernel
theorem tyX8_ok : ∀ k, k < 43 → parseFieldDescriptor (TX8 k).2.2.1 = some (tyX8 k) := by decide +kernel
abbrev cX8_init : ByteArray := prog_10_method_1_code
def yX8_init : MethodName := ⟨RX8, "<init>", "()V"⟩
abbrev cX8_in : ByteArray := prog_10_method_2_code
def yX8_in : MethodName := ⟨RX8, "in", "(JJJ)Z"⟩
abbrev cX8_lost : ByteArray := prog_10_method_3_code
def yX8_lost : MethodName := ⟨RX8, "lost", "()J"⟩
abbrev cX8_hasBit : ByteArray := prog_10_method_4_code
def yX8_hasBit : MethodName := ⟨RX8, "hasBit", "(II)Z"⟩
abbrev cX8_bits : ByteArray := prog_10_method_5_code
def yX8_bits : MethodName := ⟨RX8, "bits", "(I)I"⟩
abbrev cX8_sizeOf : ByteArray := prog_10_method_6_code
def yX8_sizeOf : MethodName := ⟨RX8, "sizeOf", "(I)I"⟩
abbrev cX8_greater : ByteArray := prog_10_method_7_code
def yX8_greater : MethodName := ⟨RX8, "greater", "(II)I"⟩
abbrev cX8_share : ByteArray := prog_10_method_8_code
def yX8_share : MethodName := ⟨RX8, "share", "(JJI)J"⟩
abbrev cX8_refused : ByteArray := prog_10_method_9_code
def yX8_refused : MethodName := ⟨RX8, "refused", "(I)I"⟩
abbrev cX8_failed : ByteArray := prog_10_method_10_code
def yX8_failed : MethodName := ⟨RX8, "failed", "(I)I"⟩
abbrev cX8_failedLong : ByteArray := prog_10_method_11_code
def yX8_failedLong : MethodName := ⟨RX8, "failedLong", "(I)J"⟩
abbrev cX8_barred : ByteArray := prog_10_method_12_code
def yX8_barred : MethodName := ⟨RX8, "barred", "(IIIJ)I"⟩
abbrev cX8_noPart : ByteArray := prog_10_method_13_code
def yX8_noPart : MethodName := ⟨RX8, "noPart", "(I)Z"⟩
abbrev cX8_read : ByteArray := prog_10_method_14_code
def yX8_read : MethodName := ⟨RX8, "read", "(II)I"⟩
abbrev cX8_text : ByteArray := prog_10_method_15_code
def yX8_text : MethodName := ⟨RX8, "text", "(IIII)I"⟩
abbrev cX8_part : ByteArray := prog_10_method_16_code
def yX8_part : MethodName := ⟨RX8, "part", "(II)I"⟩
abbrev cX8_wish : ByteArray := prog_10_method_17_code
def yX8_wish : MethodName := ⟨RX8, "wish", "(II)I"⟩
abbrev cX8_follows : ByteArray := prog_10_method_18_code
def yX8_follows : MethodName := ⟨RX8, "follows", "(II)I"⟩
abbrev cX8_follow : ByteArray := prog_10_method_19_code
def yX8_follow : MethodName := ⟨RX8, "follow", "(III)I"⟩
abbrev cX8_noPerson : ByteArray := prog_10_method_20_code
def yX8_noPerson : MethodName := ⟨RX8, "noPerson", "(I)Z"⟩
abbrev cX8_person : ByteArray := prog_10_method_21_code
def yX8_person : MethodName := ⟨RX8, "person", "()I"⟩
abbrev cX8_can : ByteArray := prog_10_method_22_code
def yX8_can : MethodName := ⟨RX8, "can", "(III)I"⟩
abbrev cX8_across : ByteArray := prog_10_method_23_code
def yX8_across : MethodName := ⟨RX8, "across", "(II)I"⟩
abbrev cX8_down : ByteArray := prog_10_method_24_code
def yX8_down : MethodName := ⟨RX8, "down", "(II)I"⟩
abbrev cX8_both : ByteArray := prog_10_method_25_code
def yX8_both : MethodName := ⟨RX8, "both", "(II)I"⟩
abbrev cX8_mayBe : ByteArray := prog_10_method_26_code
def yX8_mayBe : MethodName := ⟨RX8, "mayBe", "(III)Z"⟩
abbrev cX8_priceOfTried : ByteArray := prog_10_method_27_code
def yX8_priceOfTried : MethodName := ⟨RX8, "priceOfTried", "()I"⟩
abbrev cX8_findBest : ByteArray := prog_10_method_28_code
def yX8_findBest : MethodName := ⟨RX8, "findBest", "(II)Z"⟩
abbrev cX8_keepTried : ByteArray := prog_10_method_29_code
def yX8_keepTried : MethodName := ⟨RX8, "keepTried", "()V"⟩
abbrev cX8_isFew : ByteArray := prog_10_method_30_code
def yX8_isFew : MethodName := ⟨RX8, "isFew", "(I)Z"⟩
abbrev cX8_best : ByteArray := prog_10_method_31_code
def yX8_best : MethodName := ⟨RX8, "best", "(III)I"⟩
abbrev cX8_take : ByteArray := prog_10_method_32_code
def yX8_take : MethodName := ⟨RX8, "take", "(I)V"⟩
abbrev cX8_lay : ByteArray := prog_10_method_33_code
def yX8_lay : MethodName := ⟨RX8, "lay", "(II)I"⟩
abbrev cX8_setOf : ByteArray := prog_10_method_34_code
def yX8_setOf : MethodName := ⟨RX8, "setOf", "(I)I"⟩
abbrev cX8_priceOf : ByteArray := prog_10_method_35_code
def yX8_priceOf : MethodName := ⟨RX8, "priceOf", "(I)I"⟩
abbrev cX8_offer : ByteArray := prog_10_method_36_code
def yX8_offer : MethodName := ⟨RX8, "offer", "(II)I"⟩
abbrev cX8_back : ByteArray := prog_10_method_37_code
def yX8_back : MethodName := ⟨RX8, "back", "(I)I"⟩
abbrev cX8_partIn : ByteArray := prog_10_method_38_code
def yX8_partIn : MethodName := ⟨RX8, "partIn", "(II)I"⟩
abbrev cX8_isPlace : ByteArray := prog_10_method_39_code
def yX8_isPlace : MethodName := ⟨RX8, "isPlace", "(I)Z"⟩
abbrev cX8_at : ByteArray := prog_10_method_40_code
def yX8_at : MethodName := ⟨RX8, "at", "(II)I"⟩
abbrev cX8_price : ByteArray := prog_10_method_41_code
def yX8_price : MethodName := ⟨RX8, "price", "(I)I"⟩
abbrev cX8_leastNode : ByteArray := prog_10_method_42_code
def yX8_leastNode : MethodName := ⟨RX8, "leastNode", "()I"⟩
abbrev cX8_join : ByteArray := prog_10_method_43_code
def yX8_join : MethodName := ⟨RX8, "join", "(I)V"⟩
abbrev cX8_layWays : ByteArray := prog_10_method_44_code
def yX8_layWays : MethodName := ⟨RX8, "layWays", "(II)V"⟩
abbrev cX8_areParts : ByteArray := prog_10_method_45_code
def yX8_areParts : MethodName := ⟨RX8, "areParts", "(I)Z"⟩
abbrev cX8_ways : ByteArray := prog_10_method_46_code
def yX8_ways : MethodName := ⟨RX8, "ways", "(III)I"⟩
abbrev cX8_kept : ByteArray := prog_10_method_47_code
def yX8_kept : MethodName := ⟨RX8, "kept", "(III)I"⟩
abbrev cX8_rule : ByteArray := prog_10_method_48_code
def yX8_rule : MethodName := ⟨RX8, "rule", "(II)I"⟩
abbrev cX8_errorOf : ByteArray := prog_10_method_49_code
def yX8_errorOf : MethodName := ⟨RX8, "errorOf", "(IIII)I"⟩
abbrev cX8_takePress : ByteArray := prog_10_method_50_code
def yX8_takePress : MethodName := ⟨RX8, "takePress", "(II)V"⟩
abbrev cX8_press : ByteArray := prog_10_method_51_code
def yX8_press : MethodName := ⟨RX8, "press", "(IIII)I"⟩
abbrev cX8_confirm : ByteArray := prog_10_method_52_code
def yX8_confirm : MethodName := ⟨RX8, "confirm", "(II)I"⟩
abbrev cX8_asked : ByteArray := prog_10_method_53_code
def yX8_asked : MethodName := ⟨RX8, "asked", "(I)I"⟩
abbrev cX8_undo : ByteArray := prog_10_method_54_code
def yX8_undo : MethodName := ⟨RX8, "undo", "(I)I"⟩
abbrev cX8_counted : ByteArray := prog_10_method_55_code
def yX8_counted : MethodName := ⟨RX8, "counted", "(II)I"⟩
abbrev cX8_spanOf : ByteArray := prog_10_method_56_code
def yX8_spanOf : MethodName := ⟨RX8, "spanOf", "(II)I"⟩
abbrev cX8_span : ByteArray := prog_10_method_57_code
def yX8_span : MethodName := ⟨RX8, "span", "(II)I"⟩
abbrev cX8_worse : ByteArray := prog_10_method_58_code
def yX8_worse : MethodName := ⟨RX8, "worse", "(II)J"⟩
abbrev cX8_trial : ByteArray := prog_10_method_59_code
def yX8_trial : MethodName := ⟨RX8, "trial", "(III)I"⟩
abbrev cX8_sumBy : ByteArray := prog_10_method_60_code
def yX8_sumBy : MethodName := ⟨RX8, "sumBy", "(II)I"⟩
abbrev cX8_odds : ByteArray := prog_10_method_61_code
def yX8_odds : MethodName := ⟨RX8, "odds", "(II)J"⟩
abbrev cX8_leave : ByteArray := prog_10_method_62_code
def yX8_leave : MethodName := ⟨RX8, "leave", "(IIII)I"⟩
abbrev cX8_maySee : ByteArray := prog_10_method_63_code
def yX8_maySee : MethodName := ⟨RX8, "maySee", "(IIII)Z"⟩
abbrev cX8_see : ByteArray := prog_10_method_64_code
def yX8_see : MethodName := ⟨RX8, "see", "(IIII)I"⟩
abbrev cX8_told : ByteArray := prog_10_method_65_code
def yX8_told : MethodName := ⟨RX8, "told", "(IIII)I"⟩
abbrev cX8_noSheet : ByteArray := prog_10_method_66_code
def yX8_noSheet : MethodName := ⟨RX8, "noSheet", "(I)Z"⟩
abbrev cX8_sheet : ByteArray := prog_10_method_67_code
def yX8_sheet : MethodName := ⟨RX8, "sheet", "(III)I"⟩
abbrev cX8_lose : ByteArray := prog_10_method_68_code
def yX8_lose : MethodName := ⟨RX8, "lose", "(I)I"⟩
abbrev cX8_noCell : ByteArray := prog_10_method_69_code
def yX8_noCell : MethodName := ⟨RX8, "noCell", "(II)I"⟩
abbrev cX8_put : ByteArray := prog_10_method_70_code
def yX8_put : MethodName := ⟨RX8, "put", "(III)I"⟩
abbrev cX8_cell : ByteArray := prog_10_method_71_code
def yX8_cell : MethodName := ⟨RX8, "cell", "(III)J"⟩
abbrev cX8_isBeyond : ByteArray := prog_10_method_72_code
def yX8_isBeyond : MethodName := ⟨RX8, "isBeyond", "(IJI)Z"⟩
abbrev cX8_copy : ByteArray := prog_10_method_73_code
def yX8_copy : MethodName := ⟨RX8, "copy", "(IIIII)I"⟩
abbrev cX8_traced : ByteArray := prog_10_method_74_code
def yX8_traced : MethodName := ⟨RX8, "traced", "(I)V"⟩
abbrev cX8_tell : ByteArray := prog_10_method_75_code
def yX8_tell : MethodName := ⟨RX8, "tell", "(I)I"⟩
abbrev cX8_speak : ByteArray := prog_10_method_76_code
def yX8_speak : MethodName := ⟨RX8, "speak", "(I)I"⟩
abbrev cX8_as : ByteArray := prog_10_method_77_code
def yX8_as : MethodName := ⟨RX8, "as", "(II)I"⟩
abbrev cX8_trace : ByteArray := prog_10_method_78_code
def yX8_trace : MethodName := ⟨RX8, "trace", "()I"⟩
abbrev cX8_fault : ByteArray := prog_10_method_79_code
def yX8_fault : MethodName := ⟨RX8, "fault", "()I"⟩
abbrev cX8_many : ByteArray := prog_10_method_80_code
def yX8_many : MethodName := ⟨RX8, "many", "(I)I"⟩
def RJ6 : String := "java/lang/Integer"
abbrev cJ6_compare_7cf53 : ByteArray := prog_11_method_40_code
def yJ6_compare_7cf53 : MethodName := ⟨RJ6, "compare", "(II)I"⟩
abbrev cJ6_bitCount_0f7a4 : ByteArray := prog_11_method_49_code
def yJ6_bitCount_0f7a4 : MethodName := ⟨RJ6, "bitCount", "(I)I"⟩
def RJ9 : String := "java/lang/Math"
abbrev cJ9_abs_0f7a4 : ByteArray := prog_12_method_59_code
def yJ9_abs_0f7a4 : MethodName := ⟨RJ9, "abs", "(I)I"⟩
abbrev cJ9_max_7cf53 : ByteArray := prog_12_method_65_code
def yJ9_max_7cf53 : MethodName := ⟨RJ9, "max", "(II)I"⟩
abbrev cJ9_min_7cf53 : ByteArray := prog_12_method_69_code
def yJ9_min_7cf53 : MethodName := ⟨RJ9, "min", "(II)I"⟩
def RJ10 : String := "java/lang/System"
def RJ7 : String := "java/util/Arrays"
abbrev cJ7_fill_53178 : ByteArray := prog_14_method_103_code
def yJ7_fill_53178 : MethodName := ⟨RJ7, "fill", "([II)V"⟩
def RL : String := "ShakyScreensLaw"
abbrev cL_law : ByteArray := code
def yL_law : MethodName := ⟨RL, "law", "([I)Z"⟩
abbrev vwCl : List vw_C := [(RX0, TX0, 2), (RX1, TX1, 4), (RX2, TX2, 4), (RX3, TX3, 13), (RX4, TX4, 3), (RX5, TX5, 8), (RX6, TX6, 2), (RX7, TX7, 10), (RX8, TX8, 43)]
set_option maxRecDepth 100000 in
theorem inX0 : ∀ w ∈ u_ws RX0 TX0 2, w ∈ lw_tbl := by decide +kernel
set_option maxRecDepth 100000 in
theorem inX1 : ∀ w ∈ u_ws RX1 TX1 4, w ∈ lw_tbl := by decide +kernel
set_option maxRecDepth 100000 in
theorem inX2 : ∀ w ∈ u_ws RX2 TX2 4, w ∈ lw_tbl := by decide +kernel
set_option maxRecDepth 100000 in
theorem inX3 : ∀ w ∈ u_ws RX3 TX3 13, w ∈ lw_tbl := by decide +kernel
set_option maxRecDepth 100000 in
theorem inX4 : ∀ w ∈ u_ws RX4 TX4 3, w ∈ lw_tbl := by decide +kernel
set_option maxRecDepth 100000 in
theorem inX5 : ∀ w ∈ u_ws RX5 TX5 8, w ∈ lw_tbl := by decide +kernel
set_option maxRecDepth 100000 in
theorem inX6 : ∀ w ∈ u_ws RX6 TX6 2, w ∈ lw_tbl := by decide +kernel
set_option maxRecDepth 100000 in
theorem inX7 : ∀ w ∈ u_ws RX7 TX7 10, w ∈ lw_tbl := by decide +kernel
set_option maxRecDepth 100000 in
theorem inX8 : ∀ w ∈ u_ws RX8 TX8 43, w ∈ lw_tbl := by decide +kernel
end
section
theorem dJ6_compare_7cf53_0 : decode cJ6_compare_7cf53 0 = .ok (.iload_n 0, 1) := by decide +kernel
theorem dJ6_compare_7cf53_1 : decode cJ6_compare_7cf53 1 = .ok (.iload_n 1, 1) := by decide +kernel
theorem dJ6_compare_7cf53_2 : decode cJ6_compare_7cf53 2 = .ok (.if_icmp .ge 7, 3) := by decide +kernel
theorem dJ6_compare_7cf53_5 : decode cJ6_compare_7cf53 5 = .ok (.iconst (-1), 1) := by decide +kernel
theorem dJ6_compare_7cf53_6 : decode cJ6_compare_7cf53 6 = .ok (.goto 13, 3) := by decide +kernel
theorem dJ6_compare_7cf53_9 : decode cJ6_compare_7cf53 9 = .ok (.iload_n 0, 1) := by decide +kernel
theorem dJ6_compare_7cf53_10 : decode cJ6_compare_7cf53 10 = .ok (.iload_n 1, 1) := by decide +kernel
theorem dJ6_compare_7cf53_11 : decode cJ6_compare_7cf53 11 = .ok (.if_icmp .ne 7, 3) := by decide +kernel
theorem dJ6_compare_7cf53_14 : decode cJ6_compare_7cf53 14 = .ok (.iconst 0, 1) := by decide +kernel
theorem dJ6_compare_7cf53_15 : decode cJ6_compare_7cf53 15 = .ok (.goto 4, 3) := by decide +kernel
theorem dJ6_compare_7cf53_18 : decode cJ6_compare_7cf53 18 = .ok (.iconst 1, 1) := by decide +kernel
theorem dJ6_compare_7cf53_19 : decode cJ6_compare_7cf53 19 = .ok (.ireturn, 1) := by decide +kernel
theorem dJ6_bitCount_0f7a4_0 : decode cJ6_bitCount_0f7a4 0 = .ok (.iload_n 0, 1) := by decide +kernel
theorem dJ6_bitCount_0f7a4_1 : decode cJ6_bitCount_0f7a4 1 = .ok (.iload_n 0, 1) := by decide +kernel
theorem dJ6_bitCount_0f7a4_2 : decode cJ6_bitCount_0f7a4 2 = .ok (.iconst 1, 1) := by decide +kernel
theorem dJ6_bitCount_0f7a4_3 : decode cJ6_bitCount_0f7a4 3 = .ok (.iushr, 1) := by decide +kernel
theorem dJ6_bitCount_0f7a4_4 : decode cJ6_bitCount_0f7a4 4 = .ok (.ldc_w 265, 3) := by decide +kernel
theorem dJ6_bitCount_0f7a4_7 : decode cJ6_bitCount_0f7a4 7 = .ok (.iand, 1) := by decide +kernel
theorem dJ6_bitCount_0f7a4_8 : decode cJ6_bitCount_0f7a4 8 = .ok (.isub, 1) := by decide +kernel
theorem dJ6_bitCount_0f7a4_9 : decode cJ6_bitCount_0f7a4 9 = .ok (.istore_n 0, 1) := by decide +kernel
theorem dJ6_bitCount_0f7a4_10 : decode cJ6_bitCount_0f7a4 10 = .ok (.iload_n 0, 1) := by decide +kernel
theorem dJ6_bitCount_0f7a4_11 : decode cJ6_bitCount_0f7a4 11 = .ok (.ldc_w 266, 3) := by decide +kernel
theorem dJ6_bitCount_0f7a4_14 : decode cJ6_bitCount_0f7a4 14 = .ok (.iand, 1) := by decide +kernel
theorem dJ6_bitCount_0f7a4_15 : decode cJ6_bitCount_0f7a4 15 = .ok (.iload_n 0, 1) := by decide +kernel
theorem dJ6_bitCount_0f7a4_16 : decode cJ6_bitCount_0f7a4 16 = .ok (.iconst 2, 1) := by decide +kernel
theorem dJ6_bitCount_0f7a4_17 : decode cJ6_bitCount_0f7a4 17 = .ok (.iushr, 1) := by decide +kernel
theorem dJ6_bitCount_0f7a4_18 : decode cJ6_bitCount_0f7a4 18 = .ok (.ldc_w 266, 3) := by decide +kernel
theorem dJ6_bitCount_0f7a4_21 : decode cJ6_bitCount_0f7a4 21 = .ok (.iand, 1) := by decide +kernel
theorem dJ6_bitCount_0f7a4_22 : decode cJ6_bitCount_0f7a4 22 = .ok (.iadd, 1) := by decide +kernel
theorem dJ6_bitCount_0f7a4_23 : decode cJ6_bitCount_0f7a4 23 = .ok (.istore_n 0, 1) := by decide +kernel
theorem dJ6_bitCount_0f7a4_24 : decode cJ6_bitCount_0f7a4 24 = .ok (.iload_n 0, 1) := by decide +kernel
theorem dJ6_bitCount_0f7a4_25 : decode cJ6_bitCount_0f7a4 25 = .ok (.iload_n 0, 1) := by decide +kernel
theorem dJ6_bitCount_0f7a4_26 : decode cJ6_bitCount_0f7a4 26 = .ok (.iconst 4, 1) := by decide +kernel
theorem dJ6_bitCount_0f7a4_27 : decode cJ6_bitCount_0f7a4 27 = .ok (.iushr, 1) := by decide +kernel
theorem dJ6_bitCount_0f7a4_28 : decode cJ6_bitCount_0f7a4 28 = .ok (.iadd, 1) := by decide +kernel
theorem dJ6_bitCount_0f7a4_29 : decode cJ6_bitCount_0f7a4 29 = .ok (.ldc_w 267, 3) := by decide +kernel
theorem dJ6_bitCount_0f7a4_32 : decode cJ6_bitCount_0f7a4 32 = .ok (.iand, 1) := by decide +kernel
theorem dJ6_bitCount_0f7a4_33 : decode cJ6_bitCount_0f7a4 33 = .ok (.istore_n 0, 1) := by decide +kernel
theorem dJ6_bitCount_0f7a4_34 : decode cJ6_bitCount_0f7a4 34 = .ok (.iload_n 0, 1) := by decide +kernel
theorem dJ6_bitCount_0f7a4_35 : decode cJ6_bitCount_0f7a4 35 = .ok (.iload_n 0, 1) := by decide +kernel
theorem dJ6_bitCount_0f7a4_36 : decode cJ6_bitCount_0f7a4 36 = .ok (.bipush 8, 2) := by decide +kernel
theorem dJ6_bitCount_0f7a4_38 : decode cJ6_bitCount_0f7a4 38 = .ok (.iushr, 1) := by decide +kernel
theorem dJ6_bitCount_0f7a4_39 : decode cJ6_bitCount_0f7a4 39 = .ok (.iadd, 1) := by decide +kernel
theorem dJ6_bitCount_0f7a4_40 : decode cJ6_bitCount_0f7a4 40 = .ok (.istore_n 0, 1) := by decide +kernel
theorem dJ6_bitCount_0f7a4_41 : decode cJ6_bitCount_0f7a4 41 = .ok (.iload_n 0, 1) := by decide +kernel
theorem dJ6_bitCount_0f7a4_42 : decode cJ6_bitCount_0f7a4 42 = .ok (.iload_n 0, 1) := by decide +kernel
theorem dJ6_bitCount_0f7a4_43 : decode cJ6_bitCount_0f7a4 43 = .ok (.bipush 16, 2) := by decide +kernel
theorem dJ6_bitCount_0f7a4_45 : decode cJ6_bitCount_0f7a4 45 = .ok (.iushr, 1) := by decide +kernel
theorem dJ6_bitCount_0f7a4_46 : decode cJ6_bitCount_0f7a4 46 = .ok (.iadd, 1) := by decide +kernel
theorem dJ6_bitCount_0f7a4_47 : decode cJ6_bitCount_0f7a4 47 = .ok (.istore_n 0, 1) := by decide +kernel
theorem dJ6_bitCount_0f7a4_48 : decode cJ6_bitCount_0f7a4 48 = .ok (.iload_n 0, 1) := by decide +kernel
theorem dJ6_bitCount_0f7a4_49 : decode cJ6_bitCount_0f7a4 49 = .ok (.bipush 63, 2) := by decide +kernel
theorem dJ6_bitCount_0f7a4_51 : decode cJ6_bitCount_0f7a4 51 = .ok (.iand, 1) := by decide +kernel
theorem dJ6_bitCount_0f7a4_52 : decode cJ6_bitCount_0f7a4 52 = .ok (.ireturn, 1) := by decide +kernel
theorem dJ7_fill_53178_0 : decode cJ7_fill_53178 0 = .ok (.iconst 0, 1) := by decide +kernel
theorem dJ7_fill_53178_1 : decode cJ7_fill_53178 1 = .ok (.istore_n 2, 1) := by decide +kernel
theorem dJ7_fill_53178_2 : decode cJ7_fill_53178 2 = .ok (.aload_n 0, 1) := by decide +kernel
theorem dJ7_fill_53178_3 : decode cJ7_fill_53178 3 = .ok (.arraylength, 1) := by decide +kernel
theorem dJ7_fill_53178_4 : decode cJ7_fill_53178 4 = .ok (.istore_n 3, 1) := by decide +kernel
theorem dJ7_fill_53178_5 : decode cJ7_fill_53178 5 = .ok (.iload_n 2, 1) := by decide +kernel
theorem dJ7_fill_53178_6 : decode cJ7_fill_53178 6 = .ok (.iload_n 3, 1) := by decide +kernel
theorem dJ7_fill_53178_7 : decode cJ7_fill_53178 7 = .ok (.if_icmp .ge 13, 3) := by decide +kernel
theorem dJ7_fill_53178_10 : decode cJ7_fill_53178 10 = .ok (.aload_n 0, 1) := by decide +kernel
theorem dJ7_fill_53178_11 : decode cJ7_fill_53178 11 = .ok (.iload_n 2, 1) := by decide +kernel
theorem dJ7_fill_53178_12 : decode cJ7_fill_53178 12 = .ok (.iload_n 1, 1) := by decide +kernel
theorem dJ7_fill_53178_13 : decode cJ7_fill_53178 13 = .ok (.iastore, 1) := by decide +kernel
theorem dJ7_fill_53178_14 : decode cJ7_fill_53178 14 = .ok (.iinc 2 1, 3) := by decide +kernel
theorem dJ7_fill_53178_17 : decode cJ7_fill_53178 17 = .ok (.goto (-12), 3) := by decide +kernel
theorem dJ7_fill_53178_20 : decode cJ7_fill_53178 20 = .ok (.return_, 1) := by decide +kernel
theorem dJ9_abs_0f7a4_0 : decode cJ9_abs_0f7a4 0 = .ok (.iload_n 0, 1) := by decide +kernel
theorem dJ9_abs_0f7a4_1 : decode cJ9_abs_0f7a4 1 = .ok (.ifCond .ge 8, 3) := by decide +kernel
theorem dJ9_abs_0f7a4_4 : decode cJ9_abs_0f7a4 4 = .ok (.iload_n 0, 1) := by decide +kernel
theorem dJ9_abs_0f7a4_5 : decode cJ9_abs_0f7a4 5 = .ok (.ineg, 1) := by decide +kernel
theorem dJ9_abs_0f7a4_6 : decode cJ9_abs_0f7a4 6 = .ok (.goto 4, 3) := by decide +kernel
theorem dJ9_abs_0f7a4_9 : decode cJ9_abs_0f7a4 9 = .ok (.iload_n 0, 1) := by decide +kernel
theorem dJ9_abs_0f7a4_10 : decode cJ9_abs_0f7a4 10 = .ok (.ireturn, 1) := by decide +kernel
theorem dJ9_max_7cf53_0 : decode cJ9_max_7cf53 0 = .ok (.iload_n 0, 1) := by decide +kernel
theorem dJ9_max_7cf53_1 : decode cJ9_max_7cf53 1 = .ok (.iload_n 1, 1) := by decide +kernel
theorem dJ9_max_7cf53_2 : decode cJ9_max_7cf53 2 = .ok (.if_icmp .lt 7, 3) := by decide +kernel
theorem dJ9_max_7cf53_5 : decode cJ9_max_7cf53 5 = .ok (.iload_n 0, 1) := by decide +kernel
theorem dJ9_max_7cf53_6 : decode cJ9_max_7cf53 6 = .ok (.goto 4, 3) := by decide +kernel
theorem dJ9_max_7cf53_9 : decode cJ9_max_7cf53 9 = .ok (.iload_n 1, 1) := by decide +kernel
theorem dJ9_max_7cf53_10 : decode cJ9_max_7cf53 10 = .ok (.ireturn, 1) := by decide +kernel
theorem dJ9_min_7cf53_0 : decode cJ9_min_7cf53 0 = .ok (.iload_n 0, 1) := by decide +kernel
theorem dJ9_min_7cf53_1 : decode cJ9_min_7cf53 1 = .ok (.iload_n 1, 1) := by decide +kernel
theorem dJ9_min_7cf53_2 : decode cJ9_min_7cf53 2 = .ok (.if_icmp .gt 7, 3) := by decide +kernel
theorem dJ9_min_7cf53_5 : decode cJ9_min_7cf53 5 = .ok (.iload_n 0, 1) := by decide +kernel
theorem dJ9_min_7cf53_6 : decode cJ9_min_7cf53 6 = .ok (.goto 4, 3) := by decide +kernel
theorem dJ9_min_7cf53_9 : decode cJ9_min_7cf53 9 = .ok (.iload_n 1, 1) := by decide +kernel
theorem dJ9_min_7cf53_10 : decode cJ9_min_7cf53 10 = .ok (.ireturn, 1) := by decide +kernel
theorem dL_law_0 : decode cL_law 0 = .ok (.new 7, 3) := by decide +kernel
theorem dL_law_3 : decode cL_law 3 = .ok (.dup, 1) := by decide +kernel
theorem dL_law_4 : decode cL_law 4 = .ok (.invokespecial 9, 3) := by decide +kernel
theorem dL_law_7 : decode cL_law 7 = .ok (.astore_n 1, 1) := by decide +kernel
theorem dL_law_8 : decode cL_law 8 = .ok (.new 10, 3) := by decide +kernel
theorem dL_law_11 : decode cL_law 11 = .ok (.dup, 1) := by decide +kernel
theorem dL_law_12 : decode cL_law 12 = .ok (.invokespecial 12, 3) := by decide +kernel
theorem dL_law_15 : decode cL_law 15 = .ok (.astore_n 2, 1) := by decide +kernel
theorem dL_law_16 : decode cL_law 16 = .ok (.iconst 0, 1) := by decide +kernel
theorem dL_law_17 : decode cL_law 17 = .ok (.istore_n 3, 1) := by decide +kernel
theorem dL_law_18 : decode cL_law 18 = .ok (.iload_n 3, 1) := by decide +kernel
theorem dL_law_19 : decode cL_law 19 = .ok (.aload_n 0, 1) := by decide +kernel
theorem dL_law_20 : decode cL_law 20 = .ok (.arraylength, 1) := by decide +kernel
theorem dL_law_21 : decode cL_law 21 = .ok (.bipush 6, 2) := by decide +kernel
theorem dL_law_23 : decode cL_law 23 = .ok (.isub, 1) := by decide +kernel
theorem dL_law_24 : decode cL_law 24 = .ok (.if_icmp .gt 1556, 3) := by decide +kernel
theorem dL_law_27 : decode cL_law 27 = .ok (.aload_n 0, 1) := by decide +kernel
theorem dL_law_28 : decode cL_law 28 = .ok (.iload_n 3, 1) := by decide +kernel
theorem dL_law_29 : decode cL_law 29 = .ok (.iaload, 1) := by decide +kernel
theorem dL_law_30 : decode cL_law 30 = .ok (.bipush 63, 2) := by decide +kernel
theorem dL_law_32 : decode cL_law 32 = .ok (.iand, 1) := by decide +kernel
theorem dL_law_33 : decode cL_law 33 = .ok (.tableswitch 1541 0 38 #[171, 224, 257, 290, 323, 366, 379, 422, 465, 498, 531, 554, 587, 610, 653, 696, 729, 782, 815, 838, 861, 894, 927, 961, 1004, 1038, 1091, 1144, 1197, 1240, 1263, 1306, 1350, 1413, 1436, 1459, 1492, 1505, 1518], 171) := by decide +kernel
theorem dL_law_204 : decode cL_law 204 = .ok (.aload_n 1, 1) := by decide +kernel
theorem dL_law_205 : decode cL_law 205 = .ok (.aload_n 0, 1) := by decide +kernel
theorem dL_law_206 : decode cL_law 206 = .ok (.iload_n 3, 1) := by decide +kernel
theorem dL_law_207 : decode cL_law 207 = .ok (.iconst 1, 1) := by decide +kernel
theorem dL_law_208 : decode cL_law 208 = .ok (.iadd, 1) := by decide +kernel
theorem dL_law_209 : decode cL_law 209 = .ok (.iaload, 1) := by decide +kernel
theorem dL_law_210 : decode cL_law 210 = .ok (.aload_n 0, 1) := by decide +kernel
theorem dL_law_211 : decode cL_law 211 = .ok (.iload_n 3, 1) := by decide +kernel
theorem dL_law_212 : decode cL_law 212 = .ok (.iconst 2, 1) := by decide +kernel
theorem dL_law_213 : decode cL_law 213 = .ok (.iadd, 1) := by decide +kernel
theorem dL_law_214 : decode cL_law 214 = .ok (.iaload, 1) := by decide +kernel
theorem dL_law_215 : decode cL_law 215 = .ok (.aload_n 0, 1) := by decide +kernel
theorem dL_law_216 : decode cL_law 216 = .ok (.iload_n 3, 1) := by decide +kernel
theorem dL_law_217 : decode cL_law 217 = .ok (.iconst 3, 1) := by decide +kernel
theorem dL_law_218 : decode cL_law 218 = .ok (.iadd, 1) := by decide +kernel
theorem dL_law_219 : decode cL_law 219 = .ok (.iaload, 1) := by decide +kernel
theorem dL_law_220 : decode cL_law 220 = .ok (.aload_n 0, 1) := by decide +kernel
theorem dL_law_221 : decode cL_law 221 = .ok (.iload_n 3, 1) := by decide +kernel
theorem dL_law_222 : decode cL_law 222 = .ok (.iconst 4, 1) := by decide +kernel
theorem dL_law_223 : decode cL_law 223 = .ok (.iadd, 1) := by decide +kernel
theorem dL_law_224 : decode cL_law 224 = .ok (.iaload, 1) := by decide +kernel
theorem dL_law_225 : decode cL_law 225 = .ok (.invokevirtual 13, 3) := by decide +kernel
theorem dL_law_228 : decode cL_law 228 = .ok (.aload_n 2, 1) := by decide +kernel
theorem dL_law_229 : decode cL_law 229 = .ok (.aload_n 0, 1) := by decide +kernel
theorem dL_law_230 : decode cL_law 230 = .ok (.iload_n 3, 1) := by decide +kernel
theorem dL_law_231 : decode cL_law 231 = .ok (.iconst 1, 1) := by decide +kernel
theorem dL_law_232 : decode cL_law 232 = .ok (.iadd, 1) := by decide +kernel
theorem dL_law_233 : decode cL_law 233 = .ok (.iaload, 1) := by decide +kernel
theorem dL_law_234 : decode cL_law 234 = .ok (.aload_n 0, 1) := by decide +kernel
theorem dL_law_235 : decode cL_law 235 = .ok (.iload_n 3, 1) := by decide +kernel
theorem dL_law_236 : decode cL_law 236 = .ok (.iconst 2, 1) := by decide +kernel
theorem dL_law_237 : decode cL_law 237 = .ok (.iadd, 1) := by decide +kernel
theorem dL_law_238 : decode cL_law 238 = .ok (.iaload, 1) := by decide +kernel
theorem dL_law_239 : decode cL_law 239 = .ok (.aload_n 0, 1) := by decide +kernel
theorem dL_law_240 : decode cL_law 240 = .ok (.iload_n 3, 1) := by decide +kernel
theorem dL_law_241 : decode cL_law 241 = .ok (.iconst 3, 1) := by decide +kernel
theorem dL_law_242 : decode cL_law 242 = .ok (.iadd, 1) := by decide +kernel
theorem dL_law_243 : decode cL_law 243 = .ok (.iaload, 1) := by decide +kernel
theorem dL_law_244 : decode cL_law 244 = .ok (.aload_n 0, 1) := by decide +kernel
theorem dL_law_245 : decode cL_law 245 = .ok (.iload_n 3, 1) := by decide +kernel
theorem dL_law_246 : decode cL_law 246 = .ok (.iconst 4, 1) := by decide +kernel
theorem dL_law_247 : decode cL_law 247 = .ok (.iadd, 1) := by decide +kernel
theorem dL_law_248 : decode cL_law 248 = .ok (.iaload, 1) := by decide +kernel
theorem dL_law_249 : decode cL_law 249 = .ok (.invokevirtual 17, 3) := by decide +kernel
theorem dL_law_252 : decode cL_law 252 = .ok (.if_icmp .eq 1322, 3) := by decide +kernel
theorem dL_law_255 : decode cL_law 255 = .ok (.iconst 0, 1) := by decide +kernel
theorem dL_law_256 : decode cL_law 256 = .ok (.ireturn, 1) := by decide +kernel
theorem dL_law_257 : decode cL_law 257 = .ok (.aload_n 1, 1) := by decide +kernel
theorem dL_law_258 : decode cL_law 258 = .ok (.aload_n 0, 1) := by decide +kernel
theorem dL_law_259 : decode cL_law 259 = .ok (.iload_n 3, 1) := by decide +kernel
theorem dL_law_260 : decode cL_law 260 = .ok (.iconst 1, 1) := by decide +kernel
theorem dL_law_261 : decode cL_law 261 = .ok (.iadd, 1) := by decide +kernel
theorem dL_law_262 : decode cL_law 262 = .ok (.iaload, 1) := by decide +kernel
theorem dL_law_263 : decode cL_law 263 = .ok (.aload_n 0, 1) := by decide +kernel
theorem dL_law_264 : decode cL_law 264 = .ok (.iload_n 3, 1) := by decide +kernel
theorem dL_law_265 : decode cL_law 265 = .ok (.iconst 2, 1) := by decide +kernel
theorem dL_law_266 : decode cL_law 266 = .ok (.iadd, 1) := by decide +kernel
theorem dL_law_267 : decode cL_law 267 = .ok (.iaload, 1) := by decide +kernel
theorem dL_law_268 : decode cL_law 268 = .ok (.invokevirtual 18, 3) := by decide +kernel
theorem dL_law_271 : decode cL_law 271 = .ok (.aload_n 2, 1) := by decide +kernel
theorem dL_law_272 : decode cL_law 272 = .ok (.aload_n 0, 1) := by decide +kernel
theorem dL_law_273 : decode cL_law 273 = .ok (.iload_n 3, 1) := by decide +kernel
theorem dL_law_274 : decode cL_law 274 = .ok (.iconst 1, 1) := by decide +kernel
theorem dL_law_275 : decode cL_law 275 = .ok (.iadd, 1) := by decide +kernel
theorem dL_law_276 : decode cL_law 276 = .ok (.iaload, 1) := by decide +kernel
theorem dL_law_277 : decode cL_law 277 = .ok (.aload_n 0, 1) := by decide +kernel
theorem dL_law_278 : decode cL_law 278 = .ok (.iload_n 3, 1) := by decide +kernel
theorem dL_law_279 : decode cL_law 279 = .ok (.iconst 2, 1) := by decide +kernel
theorem dL_law_280 : decode cL_law 280 = .ok (.iadd, 1) := by decide +kernel
theorem dL_law_281 : decode cL_law 281 = .ok (.iaload, 1) := by decide +kernel
theorem dL_law_282 : decode cL_law 282 = .ok (.invokevirtual 22, 3) := by decide +kernel
theorem dL_law_285 : decode cL_law 285 = .ok (.if_icmp .eq 1289, 3) := by decide +kernel
theorem dL_law_288 : decode cL_law 288 = .ok (.iconst 0, 1) := by decide +kernel
theorem dL_law_289 : decode cL_law 289 = .ok (.ireturn, 1) := by decide +kernel
theorem dL_law_290 : decode cL_law 290 = .ok (.aload_n 1, 1) := by decide +kernel
theorem dL_law_291 : decode cL_law 291 = .ok (.aload_n 0, 1) := by decide +kernel
theorem dL_law_292 : decode cL_law 292 = .ok (.iload_n 3, 1) := by decide +kernel
theorem dL_law_293 : decode cL_law 293 = .ok (.iconst 1, 1) := by decide +kernel
theorem dL_law_294 : decode cL_law 294 = .ok (.iadd, 1) := by decide +kernel
theorem dL_law_295 : decode cL_law 295 = .ok (.iaload, 1) := by decide +kernel
theorem dL_law_296 : decode cL_law 296 = .ok (.aload_n 0, 1) := by decide +kernel
theorem dL_law_297 : decode cL_law 297 = .ok (.iload_n 3, 1) := by decide +kernel
theorem dL_law_298 : decode cL_law 298 = .ok (.iconst 2, 1) := by decide +kernel
theorem dL_law_299 : decode cL_law 299 = .ok (.iadd, 1) := by decide +kernel
theorem dL_law_300 : decode cL_law 300 = .ok (.iaload, 1) := by decide +kernel
theorem dL_law_301 : decode cL_law 301 = .ok (.invokevirtual 23, 3) := by decide +kernel
theorem dL_law_304 : decode cL_law 304 = .ok (.aload_n 2, 1) := by decide +kernel
theorem dL_law_305 : decode cL_law 305 = .ok (.aload_n 0, 1) := by decide +kernel
theorem dL_law_306 : decode cL_law 306 = .ok (.iload_n 3, 1) := by decide +kernel
theorem dL_law_307 : decode cL_law 307 = .ok (.iconst 1, 1) := by decide +kernel
theorem dL_law_308 : decode cL_law 308 = .ok (.iadd, 1) := by decide +kernel
theorem dL_law_309 : decode cL_law 309 = .ok (.iaload, 1) := by decide +kernel
theorem dL_law_310 : decode cL_law 310 = .ok (.aload_n 0, 1) := by decide +kernel
theorem dL_law_311 : decode cL_law 311 = .ok (.iload_n 3, 1) := by decide +kernel
theorem dL_law_312 : decode cL_law 312 = .ok (.iconst 2, 1) := by decide +kernel
theorem dL_law_313 : decode cL_law 313 = .ok (.iadd, 1) := by decide +kernel
theorem dL_law_314 : decode cL_law 314 = .ok (.iaload, 1) := by decide +kernel
theorem dL_law_315 : decode cL_law 315 = .ok (.invokevirtual 26, 3) := by decide +kernel
theorem dL_law_318 : decode cL_law 318 = .ok (.if_icmp .eq 1256, 3) := by decide +kernel
theorem dL_law_321 : decode cL_law 321 = .ok (.iconst 0, 1) := by decide +kernel
theorem dL_law_322 : decode cL_law 322 = .ok (.ireturn, 1) := by decide +kernel
theorem dL_law_323 : decode cL_law 323 = .ok (.aload_n 1, 1) := by decide +kernel
theorem dL_law_324 : decode cL_law 324 = .ok (.aload_n 0, 1) := by decide +kernel
theorem dL_law_325 : decode cL_law 325 = .ok (.iload_n 3, 1) := by decide +kernel
theorem dL_law_326 : decode cL_law 326 = .ok (.iconst 1, 1) := by decide +kernel
theorem dL_law_327 : decode cL_law 327 = .ok (.iadd, 1) := by decide +kernel
theorem dL_law_328 : decode cL_law 328 = .ok (.iaload, 1) := by decide +kernel
theorem dL_law_329 : decode cL_law 329 = .ok (.aload_n 0, 1) := by decide +kernel
theorem dL_law_330 : decode cL_law 330 = .ok (.iload_n 3, 1) := by decide +kernel
theorem dL_law_331 : decode cL_law 331 = .ok (.iconst 2, 1) := by decide +kernel
theorem dL_law_332 : decode cL_law 332 = .ok (.iadd, 1) := by decide +kernel
theorem dL_law_333 : decode cL_law 333 = .ok (.iaload, 1) := by decide +kernel
theorem dL_law_334 : decode cL_law 334 = .ok (.invokevirtual 27, 3) := by decide +kernel
theorem dL_law_337 : decode cL_law 337 = .ok (.aload_n 2, 1) := by decide +kernel
theorem dL_law_338 : decode cL_law 338 = .ok (.aload_n 0, 1) := by decide +kernel
theorem dL_law_339 : decode cL_law 339 = .ok (.iload_n 3, 1) := by decide +kernel
theorem dL_law_340 : decode cL_law 340 = .ok (.iconst 1, 1) := by decide +kernel
theorem dL_law_341 : decode cL_law 341 = .ok (.iadd, 1) := by decide +kernel
theorem dL_law_342 : decode cL_law 342 = .ok (.iaload, 1) := by decide +kernel
theorem dL_law_343 : decode cL_law 343 = .ok (.aload_n 0, 1) := by decide +kernel
theorem dL_law_344 : decode cL_law 344 = .ok (.iload_n 3, 1) := by decide +kernel
theorem dL_law_345 : decode cL_law 345 = .ok (.iconst 2, 1) := by decide +kernel
theorem dL_law_346 : decode cL_law 346 = .ok (.iadd, 1) := by decide +kernel
theorem dL_law_347 : decode cL_law 347 = .ok (.iaload, 1) := by decide +kernel
theorem dL_law_348 : decode cL_law 348 = .ok (.invokevirtual 30, 3) := by decide +kernel
theorem dL_law_351 : decode cL_law 351 = .ok (.if_icmp .eq 1223, 3) := by decide +kernel
theorem dL_law_354 : decode cL_law 354 = .ok (.iconst 0, 1) := by decide +kernel
theorem dL_law_355 : decode cL_law 355 = .ok (.ireturn, 1) := by decide +kernel
theorem dL_law_356 : decode cL_law 356 = .ok (.aload_n 1, 1) := by decide +kernel
theorem dL_law_357 : decode cL_law 357 = .ok (.aload_n 0, 1) := by decide +kernel
theorem dL_law_358 : decode cL_law 358 = .ok (.iload_n 3, 1) := by decide +kernel
theorem dL_law_359 : decode cL_law 359 = .ok (.iconst 1, 1) := by decide +kernel
theorem dL_law_360 : decode cL_law 360 = .ok (.iadd, 1) := by decide +kernel
theorem dL_law_361 : decode cL_law 361 = .ok (.iaload, 1) := by decide +kernel
theorem dL_law_362 : decode cL_law 362 = .ok (.aload_n 0, 1) := by decide +kernel
theorem dL_law_363 : decode cL_law 363 = .ok (.iload_n 3, 1) := by decide +kernel
theorem dL_law_364 : decode cL_law 364 = .ok (.iconst 2, 1) := by decide +kernel
theorem dL_law_365 : decode cL_law 365 = .ok (.iadd, 1) := by decide +kernel
theorem dL_law_366 : decode cL_law 366 = .ok (.iaload, 1) := by decide +kernel
theorem dL_law_367 : decode cL_law 367 = .ok (.aload_n 0, 1) := by decide +kernel
theorem dL_law_368 : decode cL_law 368 = .ok (.iload_n 3, 1) := by decide +kernel
theorem dL_law_369 : decode cL_law 369 = .ok (.iconst 3, 1) := by decide +kernel
theorem dL_law_370 : decode cL_law 370 = .ok (.iadd, 1) := by decide +kernel
theorem dL_law_371 : decode cL_law 371 = .ok (.iaload, 1) := by decide +kernel
theorem dL_law_372 : decode cL_law 372 = .ok (.invokevirtual 31, 3) := by decide +kernel
theorem dL_law_375 : decode cL_law 375 = .ok (.aload_n 2, 1) := by decide +kernel
theorem dL_law_376 : decode cL_law 376 = .ok (.aload_n 0, 1) := by decide +kernel
theorem dL_law_377 : decode cL_law 377 = .ok (.iload_n 3, 1) := by decide +kernel
theorem dL_law_378 : decode cL_law 378 = .ok (.iconst 1, 1) := by decide +kernel
theorem dL_law_379 : decode cL_law 379 = .ok (.iadd, 1) := by decide +kernel
theorem dL_law_380 : decode cL_law 380 = .ok (.iaload, 1) := by decide +kernel
theorem dL_law_381 : decode cL_law 381 = .ok (.aload_n 0, 1) := by decide +kernel
theorem dL_law_382 : decode cL_law 382 = .ok (.iload_n 3, 1) := by decide +kernel
theorem dL_law_383 : decode cL_law 383 = .ok (.iconst 2, 1) := by decide +kernel
theorem dL_law_384 : decode cL_law 384 = .ok (.iadd, 1) := by decide +kernel
theorem dL_law_385 : decode cL_law 385 = .ok (.iaload, 1) := by decide +kernel
theorem dL_law_386 : decode cL_law 386 = .ok (.aload_n 0, 1) := by decide +kernel
theorem dL_law_387 : decode cL_law 387 = .ok (.iload_n 3, 1) := by decide +kernel
theorem dL_law_388 : decode cL_law 388 = .ok (.iconst 3, 1) := by decide +kernel
theorem dL_law_389 : decode cL_law 389 = .ok (.iadd, 1) := by decide +kernel
theorem dL_law_390 : decode cL_law 390 = .ok (.iaload, 1) := by decide +kernel
theorem dL_law_391 : decode cL_law 391 = .ok (.invokevirtual 35, 3) := by decide +kernel
theorem dL_law_394 : decode cL_law 394 = .ok (.if_icmp .eq 1180, 3) := by decide +kernel
theorem dL_law_397 : decode cL_law 397 = .ok (.iconst 0, 1) := by decide +kernel
theorem dL_law_398 : decode cL_law 398 = .ok (.ireturn, 1) := by decide +kernel
theorem dL_law_399 : decode cL_law 399 = .ok (.aload_n 1, 1) := by decide +kernel
theorem dL_law_400 : decode cL_law 400 = .ok (.invokevirtual 36, 3) := by decide +kernel
theorem dL_law_403 : decode cL_law 403 = .ok (.aload_n 2, 1) := by decide +kernel
theorem dL_law_404 : decode cL_law 404 = .ok (.invokevirtual 40, 3) := by decide +kernel
theorem dL_law_407 : decode cL_law 407 = .ok (.if_icmp .eq 1167, 3) := by decide +kernel
theorem dL_law_410 : decode cL_law 410 = .ok (.iconst 0, 1) := by decide +kernel
theorem dL_law_411 : decode cL_law 411 = .ok (.ireturn, 1) := by decide +kernel
theorem dL_law_412 : decode cL_law 412 = .ok (.aload_n 1, 1) := by decide +kernel
theorem dL_law_413 : decode cL_law 413 = .ok (.aload_n 0, 1) := by decide +kernel
theorem dL_law_414 : decode cL_law 414 = .ok (.iload_n 3, 1) := by decide +kernel
theorem dL_law_415 : decode cL_law 415 = .ok (.iconst 1, 1) := by decide +kernel
theorem dL_law_416 : decode cL_law 416 = .ok (.iadd, 1) := by decide +kernel
theorem dL_law_417 : decode cL_law 417 = .ok (.iaload, 1) := by decide +kernel
theorem dL_law_418 : decode cL_law 418 = .ok (.aload_n 0, 1) := by decide +kernel
theorem dL_law_419 : decode cL_law 419 = .ok (.iload_n 3, 1) := by decide +kernel
theorem dL_law_420 : decode cL_law 420 = .ok (.iconst 2, 1) := by decide +kernel
theorem dL_law_421 : decode cL_law 421 = .ok (.iadd, 1) := by decide +kernel
theorem dL_law_422 : decode cL_law 422 = .ok (.iaload, 1) := by decide +kernel
theorem dL_law_423 : decode cL_law 423 = .ok (.aload_n 0, 1) := by decide +kernel
theorem dL_law_424 : decode cL_law 424 = .ok (.iload_n 3, 1) := by decide +kernel
theorem dL_law_425 : decode cL_law 425 = .ok (.iconst 3, 1) := by decide +kernel
theorem dL_law_426 : decode cL_law 426 = .ok (.iadd, 1) := by decide +kernel
theorem dL_law_427 : decode cL_law 427 = .ok (.iaload, 1) := by decide +kernel
theorem dL_law_428 : decode cL_law 428 = .ok (.invokevirtual 41, 3) := by decide +kernel
theorem dL_law_431 : decode cL_law 431 = .ok (.aload_n 2, 1) := by decide +kernel
theorem dL_law_432 : decode cL_law 432 = .ok (.aload_n 0, 1) := by decide +kernel
theorem dL_law_433 : decode cL_law 433 = .ok (.iload_n 3, 1) := by decide +kernel
theorem dL_law_434 : decode cL_law 434 = .ok (.iconst 1, 1) := by decide +kernel
theorem dL_law_435 : decode cL_law 435 = .ok (.iadd, 1) := by decide +kernel
theorem dL_law_436 : decode cL_law 436 = .ok (.iaload, 1) := by decide +kernel
theorem dL_law_437 : decode cL_law 437 = .ok (.aload_n 0, 1) := by decide +kernel
theorem dL_law_438 : decode cL_law 438 = .ok (.iload_n 3, 1) := by decide +kernel
theorem dL_law_439 : decode cL_law 439 = .ok (.iconst 2, 1) := by decide +kernel
theorem dL_law_440 : decode cL_law 440 = .ok (.iadd, 1) := by decide +kernel
theorem dL_law_441 : decode cL_law 441 = .ok (.iaload, 1) := by decide +kernel
theorem dL_law_442 : decode cL_law 442 = .ok (.aload_n 0, 1) := by decide +kernel
theorem dL_law_443 : decode cL_law 443 = .ok (.iload_n 3, 1) := by decide +kernel
theorem dL_law_444 : decode cL_law 444 = .ok (.iconst 3, 1) := by decide +kernel
theorem dL_law_445 : decode cL_law 445 = .ok (.iadd, 1) := by decide +kernel
theorem dL_law_446 : decode cL_law 446 = .ok (.iaload, 1) := by decide +kernel
theorem dL_law_447 : decode cL_law 447 = .ok (.invokevirtual 44, 3) := by decide +kernel
theorem dL_law_450 : decode cL_law 450 = .ok (.if_icmp .eq 1124, 3) := by decide +kernel
theorem dL_law_453 : decode cL_law 453 = .ok (.iconst 0, 1) := by decide +kernel
theorem dL_law_454 : decode cL_law 454 = .ok (.ireturn, 1) := by decide +kernel
theorem dL_law_455 : decode cL_law 455 = .ok (.aload_n 1, 1) := by decide +kernel
theorem dL_law_456 : decode cL_law 456 = .ok (.aload_n 0, 1) := by decide +kernel
theorem dL_law_457 : decode cL_law 457 = .ok (.iload_n 3, 1) := by decide +kernel
theorem dL_law_458 : decode cL_law 458 = .ok (.iconst 1, 1) := by decide +kernel
theorem dL_law_459 : decode cL_law 459 = .ok (.iadd, 1) := by decide +kernel
theorem dL_law_460 : decode cL_law 460 = .ok (.iaload, 1) := by decide +kernel
theorem dL_law_461 : decode cL_law 461 = .ok (.aload_n 0, 1) := by decide +kernel
theorem dL_law_462 : decode cL_law 462 = .ok (.iload_n 3, 1) := by decide +kernel
theorem dL_law_463 : decode cL_law 463 = .ok (.iconst 2, 1) := by decide +kernel
theorem dL_law_464 : decode cL_law 464 = .ok (.iadd, 1) := by decide +kernel
theorem dL_law_465 : decode cL_law 465 = .ok (.iaload, 1) := by decide +kernel
theorem dL_law_466 : decode cL_law 466 = .ok (.aload_n 0, 1) := by decide +kernel
theorem dL_law_467 : decode cL_law 467 = .ok (.iload_n 3, 1) := by decide +kernel
theorem dL_law_468 : decode cL_law 468 = .ok (.iconst 3, 1) := by decide +kernel
theorem dL_law_469 : decode cL_law 469 = .ok (.iadd, 1) := by decide +kernel
theorem dL_law_470 : decode cL_law 470 = .ok (.iaload, 1) := by decide +kernel
theorem dL_law_471 : decode cL_law 471 = .ok (.invokevirtual 45, 3) := by decide +kernel
theorem dL_law_474 : decode cL_law 474 = .ok (.aload_n 2, 1) := by decide +kernel
theorem dL_law_475 : decode cL_law 475 = .ok (.aload_n 0, 1) := by decide +kernel
theorem dL_law_476 : decode cL_law 476 = .ok (.iload_n 3, 1) := by decide +kernel
theorem dL_law_477 : decode cL_law 477 = .ok (.iconst 1, 1) := by decide +kernel
theorem dL_law_478 : decode cL_law 478 = .ok (.iadd, 1) := by decide +kernel
theorem dL_law_479 : decode cL_law 479 = .ok (.iaload, 1) := by decide +kernel
theorem dL_law_480 : decode cL_law 480 = .ok (.aload_n 0, 1) := by decide +kernel
theorem dL_law_481 : decode cL_law 481 = .ok (.iload_n 3, 1) := by decide +kernel
theorem dL_law_482 : decode cL_law 482 = .ok (.iconst 2, 1) := by decide +kernel
theorem dL_law_483 : decode cL_law 483 = .ok (.iadd, 1) := by decide +kernel
theorem dL_law_484 : decode cL_law 484 = .ok (.iaload, 1) := by decide +kernel
theorem dL_law_485 : decode cL_law 485 = .ok (.aload_n 0, 1) := by decide +kernel
theorem dL_law_486 : decode cL_law 486 = .ok (.iload_n 3, 1) := by decide +kernel
theorem dL_law_487 : decode cL_law 487 = .ok (.iconst 3, 1) := by decide +kernel
theorem dL_law_488 : decode cL_law 488 = .ok (.iadd, 1) := by decide +kernel
theorem dL_law_489 : decode cL_law 489 = .ok (.iaload, 1) := by decide +kernel
theorem dL_law_490 : decode cL_law 490 = .ok (.invokevirtual 48, 3) := by decide +kernel
theorem dL_law_493 : decode cL_law 493 = .ok (.if_icmp .eq 1081, 3) := by decide +kernel
theorem dL_law_496 : decode cL_law 496 = .ok (.iconst 0, 1) := by decide +kernel
theorem dL_law_497 : decode cL_law 497 = .ok (.ireturn, 1) := by decide +kernel
theorem dL_law_498 : decode cL_law 498 = .ok (.aload_n 1, 1) := by decide +kernel
theorem dL_law_499 : decode cL_law 499 = .ok (.aload_n 0, 1) := by decide +kernel
theorem dL_law_500 : decode cL_law 500 = .ok (.iload_n 3, 1) := by decide +kernel
theorem dL_law_501 : decode cL_law 501 = .ok (.iconst 1, 1) := by decide +kernel
theorem dL_law_502 : decode cL_law 502 = .ok (.iadd, 1) := by decide +kernel
theorem dL_law_503 : decode cL_law 503 = .ok (.iaload, 1) := by decide +kernel
theorem dL_law_504 : decode cL_law 504 = .ok (.aload_n 0, 1) := by decide +kernel
theorem dL_law_505 : decode cL_law 505 = .ok (.iload_n 3, 1) := by decide +kernel
theorem dL_law_506 : decode cL_law 506 = .ok (.iconst 2, 1) := by decide +kernel
theorem dL_law_507 : decode cL_law 507 = .ok (.iadd, 1) := by decide +kernel
theorem dL_law_508 : decode cL_law 508 = .ok (.iaload, 1) := by decide +kernel
theorem dL_law_509 : decode cL_law 509 = .ok (.invokevirtual 49, 3) := by decide +kernel
theorem dL_law_512 : decode cL_law 512 = .ok (.aload_n 2, 1) := by decide +kernel
theorem dL_law_513 : decode cL_law 513 = .ok (.aload_n 0, 1) := by decide +kernel
theorem dL_law_514 : decode cL_law 514 = .ok (.iload_n 3, 1) := by decide +kernel
theorem dL_law_515 : decode cL_law 515 = .ok (.iconst 1, 1) := by decide +kernel
theorem dL_law_516 : decode cL_law 516 = .ok (.iadd, 1) := by decide +kernel
theorem dL_law_517 : decode cL_law 517 = .ok (.iaload, 1) := by decide +kernel
theorem dL_law_518 : decode cL_law 518 = .ok (.aload_n 0, 1) := by decide +kernel
theorem dL_law_519 : decode cL_law 519 = .ok (.iload_n 3, 1) := by decide +kernel
theorem dL_law_520 : decode cL_law 520 = .ok (.iconst 2, 1) := by decide +kernel
theorem dL_law_521 : decode cL_law 521 = .ok (.iadd, 1) := by decide +kernel
theorem dL_law_522 : decode cL_law 522 = .ok (.iaload, 1) := by decide +kernel
theorem dL_law_523 : decode cL_law 523 = .ok (.invokevirtual 52, 3) := by decide +kernel
theorem dL_law_526 : decode cL_law 526 = .ok (.if_icmp .eq 1048, 3) := by decide +kernel
theorem dL_law_529 : decode cL_law 529 = .ok (.iconst 0, 1) := by decide +kernel
theorem dL_law_530 : decode cL_law 530 = .ok (.ireturn, 1) := by decide +kernel
theorem dL_law_531 : decode cL_law 531 = .ok (.aload_n 1, 1) := by decide +kernel
theorem dL_law_532 : decode cL_law 532 = .ok (.aload_n 0, 1) := by decide +kernel
theorem dL_law_533 : decode cL_law 533 = .ok (.iload_n 3, 1) := by decide +kernel
theorem dL_law_534 : decode cL_law 534 = .ok (.iconst 1, 1) := by decide +kernel
theorem dL_law_535 : decode cL_law 535 = .ok (.iadd, 1) := by decide +kernel
theorem dL_law_536 : decode cL_law 536 = .ok (.iaload, 1) := by decide +kernel
theorem dL_law_537 : decode cL_law 537 = .ok (.aload_n 0, 1) := by decide +kernel
theorem dL_law_538 : decode cL_law 538 = .ok (.iload_n 3, 1) := by decide +kernel
theorem dL_law_539 : decode cL_law 539 = .ok (.iconst 2, 1) := by decide +kernel
theorem dL_law_540 : decode cL_law 540 = .ok (.iadd, 1) := by decide +kernel
theorem dL_law_541 : decode cL_law 541 = .ok (.iaload, 1) := by decide +kernel
theorem dL_law_542 : decode cL_law 542 = .ok (.invokevirtual 53, 3) := by decide +kernel
theorem dL_law_545 : decode cL_law 545 = .ok (.aload_n 2, 1) := by decide +kernel
theorem dL_law_546 : decode cL_law 546 = .ok (.aload_n 0, 1) := by decide +kernel
theorem dL_law_547 : decode cL_law 547 = .ok (.iload_n 3, 1) := by decide +kernel
theorem dL_law_548 : decode cL_law 548 = .ok (.iconst 1, 1) := by decide +kernel
theorem dL_law_549 : decode cL_law 549 = .ok (.iadd, 1) := by decide +kernel
theorem dL_law_550 : decode cL_law 550 = .ok (.iaload, 1) := by decide +kernel
theorem dL_law_551 : decode cL_law 551 = .ok (.aload_n 0, 1) := by decide +kernel
theorem dL_law_552 : decode cL_law 552 = .ok (.iload_n 3, 1) := by decide +kernel
theorem dL_law_553 : decode cL_law 553 = .ok (.iconst 2, 1) := by decide +kernel
theorem dL_law_554 : decode cL_law 554 = .ok (.iadd, 1) := by decide +kernel
theorem dL_law_555 : decode cL_law 555 = .ok (.iaload, 1) := by decide +kernel
theorem dL_law_556 : decode cL_law 556 = .ok (.invokevirtual 56, 3) := by decide +kernel
theorem dL_law_559 : decode cL_law 559 = .ok (.if_icmp .eq 1015, 3) := by decide +kernel
theorem dL_law_562 : decode cL_law 562 = .ok (.iconst 0, 1) := by decide +kernel
theorem dL_law_563 : decode cL_law 563 = .ok (.ireturn, 1) := by decide +kernel
theorem dL_law_564 : decode cL_law 564 = .ok (.aload_n 1, 1) := by decide +kernel
theorem dL_law_565 : decode cL_law 565 = .ok (.aload_n 0, 1) := by decide +kernel
theorem dL_law_566 : decode cL_law 566 = .ok (.iload_n 3, 1) := by decide +kernel
theorem dL_law_567 : decode cL_law 567 = .ok (.iconst 1, 1) := by decide +kernel
theorem dL_law_568 : decode cL_law 568 = .ok (.iadd, 1) := by decide +kernel
theorem dL_law_569 : decode cL_law 569 = .ok (.iaload, 1) := by decide +kernel
theorem dL_law_570 : decode cL_law 570 = .ok (.invokevirtual 57, 3) := by decide +kernel
theorem dL_law_573 : decode cL_law 573 = .ok (.aload_n 2, 1) := by decide +kernel
theorem dL_law_574 : decode cL_law 574 = .ok (.aload_n 0, 1) := by decide +kernel
theorem dL_law_575 : decode cL_law 575 = .ok (.iload_n 3, 1) := by decide +kernel
theorem dL_law_576 : decode cL_law 576 = .ok (.iconst 1, 1) := by decide +kernel
theorem dL_law_577 : decode cL_law 577 = .ok (.iadd, 1) := by decide +kernel
theorem dL_law_578 : decode cL_law 578 = .ok (.iaload, 1) := by decide +kernel
theorem dL_law_579 : decode cL_law 579 = .ok (.invokevirtual 61, 3) := by decide +kernel
theorem dL_law_582 : decode cL_law 582 = .ok (.if_icmp .eq 992, 3) := by decide +kernel
theorem dL_law_585 : decode cL_law 585 = .ok (.iconst 0, 1) := by decide +kernel
theorem dL_law_586 : decode cL_law 586 = .ok (.ireturn, 1) := by decide +kernel
theorem dL_law_587 : decode cL_law 587 = .ok (.aload_n 1, 1) := by decide +kernel
theorem dL_law_588 : decode cL_law 588 = .ok (.aload_n 0, 1) := by decide +kernel
theorem dL_law_589 : decode cL_law 589 = .ok (.iload_n 3, 1) := by decide +kernel
theorem dL_law_590 : decode cL_law 590 = .ok (.iconst 1, 1) := by decide +kernel
theorem dL_law_591 : decode cL_law 591 = .ok (.iadd, 1) := by decide +kernel
theorem dL_law_592 : decode cL_law 592 = .ok (.iaload, 1) := by decide +kernel
theorem dL_law_593 : decode cL_law 593 = .ok (.aload_n 0, 1) := by decide +kernel
theorem dL_law_594 : decode cL_law 594 = .ok (.iload_n 3, 1) := by decide +kernel
theorem dL_law_595 : decode cL_law 595 = .ok (.iconst 2, 1) := by decide +kernel
theorem dL_law_596 : decode cL_law 596 = .ok (.iadd, 1) := by decide +kernel
theorem dL_law_597 : decode cL_law 597 = .ok (.iaload, 1) := by decide +kernel
theorem dL_law_598 : decode cL_law 598 = .ok (.invokevirtual 62, 3) := by decide +kernel
theorem dL_law_601 : decode cL_law 601 = .ok (.aload_n 2, 1) := by decide +kernel
theorem dL_law_602 : decode cL_law 602 = .ok (.aload_n 0, 1) := by decide +kernel
theorem dL_law_603 : decode cL_law 603 = .ok (.iload_n 3, 1) := by decide +kernel
theorem dL_law_604 : decode cL_law 604 = .ok (.iconst 1, 1) := by decide +kernel
theorem dL_law_605 : decode cL_law 605 = .ok (.iadd, 1) := by decide +kernel
theorem dL_law_606 : decode cL_law 606 = .ok (.iaload, 1) := by decide +kernel
theorem dL_law_607 : decode cL_law 607 = .ok (.aload_n 0, 1) := by decide +kernel
theorem dL_law_608 : decode cL_law 608 = .ok (.iload_n 3, 1) := by decide +kernel
theorem dL_law_609 : decode cL_law 609 = .ok (.iconst 2, 1) := by decide +kernel
theorem dL_law_610 : decode cL_law 610 = .ok (.iadd, 1) := by decide +kernel
theorem dL_law_611 : decode cL_law 611 = .ok (.iaload, 1) := by decide +kernel
theorem dL_law_612 : decode cL_law 612 = .ok (.invokevirtual 65, 3) := by decide +kernel
theorem dL_law_615 : decode cL_law 615 = .ok (.if_icmp .eq 959, 3) := by decide +kernel
theorem dL_law_618 : decode cL_law 618 = .ok (.iconst 0, 1) := by decide +kernel
theorem dL_law_619 : decode cL_law 619 = .ok (.ireturn, 1) := by decide +kernel
theorem dL_law_620 : decode cL_law 620 = .ok (.aload_n 1, 1) := by decide +kernel
theorem dL_law_621 : decode cL_law 621 = .ok (.aload_n 0, 1) := by decide +kernel
theorem dL_law_622 : decode cL_law 622 = .ok (.iload_n 3, 1) := by decide +kernel
theorem dL_law_623 : decode cL_law 623 = .ok (.iconst 1, 1) := by decide +kernel
theorem dL_law_624 : decode cL_law 624 = .ok (.iadd, 1) := by decide +kernel
theorem dL_law_625 : decode cL_law 625 = .ok (.iaload, 1) := by decide +kernel
theorem dL_law_626 : decode cL_law 626 = .ok (.invokevirtual 66, 3) := by decide +kernel
theorem dL_law_629 : decode cL_law 629 = .ok (.aload_n 2, 1) := by decide +kernel
theorem dL_law_630 : decode cL_law 630 = .ok (.aload_n 0, 1) := by decide +kernel
theorem dL_law_631 : decode cL_law 631 = .ok (.iload_n 3, 1) := by decide +kernel
theorem dL_law_632 : decode cL_law 632 = .ok (.iconst 1, 1) := by decide +kernel
theorem dL_law_633 : decode cL_law 633 = .ok (.iadd, 1) := by decide +kernel
theorem dL_law_634 : decode cL_law 634 = .ok (.iaload, 1) := by decide +kernel
theorem dL_law_635 : decode cL_law 635 = .ok (.invokevirtual 69, 3) := by decide +kernel
theorem dL_law_638 : decode cL_law 638 = .ok (.if_icmp .eq 936, 3) := by decide +kernel
theorem dL_law_641 : decode cL_law 641 = .ok (.iconst 0, 1) := by decide +kernel
theorem dL_law_642 : decode cL_law 642 = .ok (.ireturn, 1) := by decide +kernel
theorem dL_law_643 : decode cL_law 643 = .ok (.aload_n 1, 1) := by decide +kernel
theorem dL_law_644 : decode cL_law 644 = .ok (.aload_n 0, 1) := by decide +kernel
theorem dL_law_645 : decode cL_law 645 = .ok (.iload_n 3, 1) := by decide +kernel
theorem dL_law_646 : decode cL_law 646 = .ok (.iconst 1, 1) := by decide +kernel
theorem dL_law_647 : decode cL_law 647 = .ok (.iadd, 1) := by decide +kernel
theorem dL_law_648 : decode cL_law 648 = .ok (.iaload, 1) := by decide +kernel
theorem dL_law_649 : decode cL_law 649 = .ok (.aload_n 0, 1) := by decide +kernel
theorem dL_law_650 : decode cL_law 650 = .ok (.iload_n 3, 1) := by decide +kernel
theorem dL_law_651 : decode cL_law 651 = .ok (.iconst 2, 1) := by decide +kernel
theorem dL_law_652 : decode cL_law 652 = .ok (.iadd, 1) := by decide +kernel
theorem dL_law_653 : decode cL_law 653 = .ok (.iaload, 1) := by decide +kernel
theorem dL_law_654 : decode cL_law 654 = .ok (.aload_n 0, 1) := by decide +kernel
theorem dL_law_655 : decode cL_law 655 = .ok (.iload_n 3, 1) := by decide +kernel
theorem dL_law_656 : decode cL_law 656 = .ok (.iconst 3, 1) := by decide +kernel
theorem dL_law_657 : decode cL_law 657 = .ok (.iadd, 1) := by decide +kernel
theorem dL_law_658 : decode cL_law 658 = .ok (.iaload, 1) := by decide +kernel
theorem dL_law_659 : decode cL_law 659 = .ok (.invokevirtual 70, 3) := by decide +kernel
theorem dL_law_662 : decode cL_law 662 = .ok (.aload_n 2, 1) := by decide +kernel
theorem dL_law_663 : decode cL_law 663 = .ok (.aload_n 0, 1) := by decide +kernel
theorem dL_law_664 : decode cL_law 664 = .ok (.iload_n 3, 1) := by decide +kernel
theorem dL_law_665 : decode cL_law 665 = .ok (.iconst 1, 1) := by decide +kernel
theorem dL_law_666 : decode cL_law 666 = .ok (.iadd, 1) := by decide +kernel
theorem dL_law_667 : decode cL_law 667 = .ok (.iaload, 1) := by decide +kernel
theorem dL_law_668 : decode cL_law 668 = .ok (.aload_n 0, 1) := by decide +kernel
theorem dL_law_669 : decode cL_law 669 = .ok (.iload_n 3, 1) := by decide +kernel
theorem dL_law_670 : decode cL_law 670 = .ok (.iconst 2, 1) := by decide +kernel
theorem dL_law_671 : decode cL_law 671 = .ok (.iadd, 1) := by decide +kernel
theorem dL_law_672 : decode cL_law 672 = .ok (.iaload, 1) := by decide +kernel
theorem dL_law_673 : decode cL_law 673 = .ok (.aload_n 0, 1) := by decide +kernel
theorem dL_law_674 : decode cL_law 674 = .ok (.iload_n 3, 1) := by decide +kernel
theorem dL_law_675 : decode cL_law 675 = .ok (.iconst 3, 1) := by decide +kernel
theorem dL_law_676 : decode cL_law 676 = .ok (.iadd, 1) := by decide +kernel
theorem dL_law_677 : decode cL_law 677 = .ok (.iaload, 1) := by decide +kernel
theorem dL_law_678 : decode cL_law 678 = .ok (.invokevirtual 73, 3) := by decide +kernel
theorem dL_law_681 : decode cL_law 681 = .ok (.if_icmp .eq 893, 3) := by decide +kernel
theorem dL_law_684 : decode cL_law 684 = .ok (.iconst 0, 1) := by decide +kernel
theorem dL_law_685 : decode cL_law 685 = .ok (.ireturn, 1) := by decide +kernel
theorem dL_law_686 : decode cL_law 686 = .ok (.aload_n 1, 1) := by decide +kernel
theorem dL_law_687 : decode cL_law 687 = .ok (.aload_n 0, 1) := by decide +kernel
theorem dL_law_688 : decode cL_law 688 = .ok (.iload_n 3, 1) := by decide +kernel
theorem dL_law_689 : decode cL_law 689 = .ok (.iconst 1, 1) := by decide +kernel
theorem dL_law_690 : decode cL_law 690 = .ok (.iadd, 1) := by decide +kernel
theorem dL_law_691 : decode cL_law 691 = .ok (.iaload, 1) := by decide +kernel
theorem dL_law_692 : decode cL_law 692 = .ok (.aload_n 0, 1) := by decide +kernel
theorem dL_law_693 : decode cL_law 693 = .ok (.iload_n 3, 1) := by decide +kernel
theorem dL_law_694 : decode cL_law 694 = .ok (.iconst 2, 1) := by decide +kernel
theorem dL_law_695 : decode cL_law 695 = .ok (.iadd, 1) := by decide +kernel
theorem dL_law_696 : decode cL_law 696 = .ok (.iaload, 1) := by decide +kernel
theorem dL_law_697 : decode cL_law 697 = .ok (.aload_n 0, 1) := by decide +kernel
theorem dL_law_698 : decode cL_law 698 = .ok (.iload_n 3, 1) := by decide +kernel
theorem dL_law_699 : decode cL_law 699 = .ok (.iconst 3, 1) := by decide +kernel
theorem dL_law_700 : decode cL_law 700 = .ok (.iadd, 1) := by decide +kernel
theorem dL_law_701 : decode cL_law 701 = .ok (.iaload, 1) := by decide +kernel
theorem dL_law_702 : decode cL_law 702 = .ok (.invokevirtual 74, 3) := by decide +kernel
theorem dL_law_705 : decode cL_law 705 = .ok (.aload_n 2, 1) := by decide +kernel
theorem dL_law_706 : decode cL_law 706 = .ok (.aload_n 0, 1) := by decide +kernel
theorem dL_law_707 : decode cL_law 707 = .ok (.iload_n 3, 1) := by decide +kernel
theorem dL_law_708 : decode cL_law 708 = .ok (.iconst 1, 1) := by decide +kernel
theorem dL_law_709 : decode cL_law 709 = .ok (.iadd, 1) := by decide +kernel
theorem dL_law_710 : decode cL_law 710 = .ok (.iaload, 1) := by decide +kernel
theorem dL_law_711 : decode cL_law 711 = .ok (.aload_n 0, 1) := by decide +kernel
theorem dL_law_712 : decode cL_law 712 = .ok (.iload_n 3, 1) := by decide +kernel
theorem dL_law_713 : decode cL_law 713 = .ok (.iconst 2, 1) := by decide +kernel
theorem dL_law_714 : decode cL_law 714 = .ok (.iadd, 1) := by decide +kernel
theorem dL_law_715 : decode cL_law 715 = .ok (.iaload, 1) := by decide +kernel
theorem dL_law_716 : decode cL_law 716 = .ok (.aload_n 0, 1) := by decide +kernel
theorem dL_law_717 : decode cL_law 717 = .ok (.iload_n 3, 1) := by decide +kernel
theorem dL_law_718 : decode cL_law 718 = .ok (.iconst 3, 1) := by decide +kernel
theorem dL_law_719 : decode cL_law 719 = .ok (.iadd, 1) := by decide +kernel
theorem dL_law_720 : decode cL_law 720 = .ok (.iaload, 1) := by decide +kernel
theorem dL_law_721 : decode cL_law 721 = .ok (.invokevirtual 77, 3) := by decide +kernel
theorem dL_law_724 : decode cL_law 724 = .ok (.if_icmp .eq 850, 3) := by decide +kernel
theorem dL_law_727 : decode cL_law 727 = .ok (.iconst 0, 1) := by decide +kernel
theorem dL_law_728 : decode cL_law 728 = .ok (.ireturn, 1) := by decide +kernel
theorem dL_law_729 : decode cL_law 729 = .ok (.aload_n 1, 1) := by decide +kernel
theorem dL_law_730 : decode cL_law 730 = .ok (.aload_n 0, 1) := by decide +kernel
theorem dL_law_731 : decode cL_law 731 = .ok (.iload_n 3, 1) := by decide +kernel
theorem dL_law_732 : decode cL_law 732 = .ok (.iconst 1, 1) := by decide +kernel
theorem dL_law_733 : decode cL_law 733 = .ok (.iadd, 1) := by decide +kernel
theorem dL_law_734 : decode cL_law 734 = .ok (.iaload, 1) := by decide +kernel
theorem dL_law_735 : decode cL_law 735 = .ok (.aload_n 0, 1) := by decide +kernel
theorem dL_law_736 : decode cL_law 736 = .ok (.iload_n 3, 1) := by decide +kernel
theorem dL_law_737 : decode cL_law 737 = .ok (.iconst 2, 1) := by decide +kernel
theorem dL_law_738 : decode cL_law 738 = .ok (.iadd, 1) := by decide +kernel
theorem dL_law_739 : decode cL_law 739 = .ok (.iaload, 1) := by decide +kernel
theorem dL_law_740 : decode cL_law 740 = .ok (.invokevirtual 78, 3) := by decide +kernel
theorem dL_law_743 : decode cL_law 743 = .ok (.aload_n 2, 1) := by decide +kernel
theorem dL_law_744 : decode cL_law 744 = .ok (.aload_n 0, 1) := by decide +kernel
theorem dL_law_745 : decode cL_law 745 = .ok (.iload_n 3, 1) := by decide +kernel
theorem dL_law_746 : decode cL_law 746 = .ok (.iconst 1, 1) := by decide +kernel
theorem dL_law_747 : decode cL_law 747 = .ok (.iadd, 1) := by decide +kernel
theorem dL_law_748 : decode cL_law 748 = .ok (.iaload, 1) := by decide +kernel
theorem dL_law_749 : decode cL_law 749 = .ok (.aload_n 0, 1) := by decide +kernel
theorem dL_law_750 : decode cL_law 750 = .ok (.iload_n 3, 1) := by decide +kernel
theorem dL_law_751 : decode cL_law 751 = .ok (.iconst 2, 1) := by decide +kernel
theorem dL_law_752 : decode cL_law 752 = .ok (.iadd, 1) := by decide +kernel
theorem dL_law_753 : decode cL_law 753 = .ok (.iaload, 1) := by decide +kernel
theorem dL_law_754 : decode cL_law 754 = .ok (.invokevirtual 81, 3) := by decide +kernel
theorem dL_law_757 : decode cL_law 757 = .ok (.if_icmp .eq 817, 3) := by decide +kernel
theorem dL_law_760 : decode cL_law 760 = .ok (.iconst 0, 1) := by decide +kernel
theorem dL_law_761 : decode cL_law 761 = .ok (.ireturn, 1) := by decide +kernel
theorem dL_law_762 : decode cL_law 762 = .ok (.aload_n 1, 1) := by decide +kernel
theorem dL_law_763 : decode cL_law 763 = .ok (.aload_n 0, 1) := by decide +kernel
theorem dL_law_764 : decode cL_law 764 = .ok (.iload_n 3, 1) := by decide +kernel
theorem dL_law_765 : decode cL_law 765 = .ok (.iconst 1, 1) := by decide +kernel
theorem dL_law_766 : decode cL_law 766 = .ok (.iadd, 1) := by decide +kernel
theorem dL_law_767 : decode cL_law 767 = .ok (.iaload, 1) := by decide +kernel
theorem dL_law_768 : decode cL_law 768 = .ok (.aload_n 0, 1) := by decide +kernel
theorem dL_law_769 : decode cL_law 769 = .ok (.iload_n 3, 1) := by decide +kernel
theorem dL_law_770 : decode cL_law 770 = .ok (.iconst 2, 1) := by decide +kernel
theorem dL_law_771 : decode cL_law 771 = .ok (.iadd, 1) := by decide +kernel
theorem dL_law_772 : decode cL_law 772 = .ok (.iaload, 1) := by decide +kernel
theorem dL_law_773 : decode cL_law 773 = .ok (.aload_n 0, 1) := by decide +kernel
theorem dL_law_774 : decode cL_law 774 = .ok (.iload_n 3, 1) := by decide +kernel
theorem dL_law_775 : decode cL_law 775 = .ok (.iconst 3, 1) := by decide +kernel
theorem dL_law_776 : decode cL_law 776 = .ok (.iadd, 1) := by decide +kernel
theorem dL_law_777 : decode cL_law 777 = .ok (.iaload, 1) := by decide +kernel
theorem dL_law_778 : decode cL_law 778 = .ok (.aload_n 0, 1) := by decide +kernel
theorem dL_law_779 : decode cL_law 779 = .ok (.iload_n 3, 1) := by decide +kernel
theorem dL_law_780 : decode cL_law 780 = .ok (.iconst 4, 1) := by decide +kernel
theorem dL_law_781 : decode cL_law 781 = .ok (.iadd, 1) := by decide +kernel
theorem dL_law_782 : decode cL_law 782 = .ok (.iaload, 1) := by decide +kernel
theorem dL_law_783 : decode cL_law 783 = .ok (.invokevirtual 82, 3) := by decide +kernel
theorem dL_law_786 : decode cL_law 786 = .ok (.aload_n 2, 1) := by decide +kernel
theorem dL_law_787 : decode cL_law 787 = .ok (.aload_n 0, 1) := by decide +kernel
theorem dL_law_788 : decode cL_law 788 = .ok (.iload_n 3, 1) := by decide +kernel
theorem dL_law_789 : decode cL_law 789 = .ok (.iconst 1, 1) := by decide +kernel
theorem dL_law_790 : decode cL_law 790 = .ok (.iadd, 1) := by decide +kernel
theorem dL_law_791 : decode cL_law 791 = .ok (.iaload, 1) := by decide +kernel
theorem dL_law_792 : decode cL_law 792 = .ok (.aload_n 0, 1) := by decide +kernel
theorem dL_law_793 : decode cL_law 793 = .ok (.iload_n 3, 1) := by decide +kernel
theorem dL_law_794 : decode cL_law 794 = .ok (.iconst 2, 1) := by decide +kernel
theorem dL_law_795 : decode cL_law 795 = .ok (.iadd, 1) := by decide +kernel
theorem dL_law_796 : decode cL_law 796 = .ok (.iaload, 1) := by decide +kernel
theorem dL_law_797 : decode cL_law 797 = .ok (.aload_n 0, 1) := by decide +kernel
theorem dL_law_798 : decode cL_law 798 = .ok (.iload_n 3, 1) := by decide +kernel
theorem dL_law_799 : decode cL_law 799 = .ok (.iconst 3, 1) := by decide +kernel
theorem dL_law_800 : decode cL_law 800 = .ok (.iadd, 1) := by decide +kernel
theorem dL_law_801 : decode cL_law 801 = .ok (.iaload, 1) := by decide +kernel
theorem dL_law_802 : decode cL_law 802 = .ok (.aload_n 0, 1) := by decide +kernel
theorem dL_law_803 : decode cL_law 803 = .ok (.iload_n 3, 1) := by decide +kernel
theorem dL_law_804 : decode cL_law 804 = .ok (.iconst 4, 1) := by decide +kernel
theorem dL_law_805 : decode cL_law 805 = .ok (.iadd, 1) := by decide +kernel
theorem dL_law_806 : decode cL_law 806 = .ok (.iaload, 1) := by decide +kernel
theorem dL_law_807 : decode cL_law 807 = .ok (.invokevirtual 85, 3) := by decide +kernel
theorem dL_law_810 : decode cL_law 810 = .ok (.if_icmp .eq 764, 3) := by decide +kernel
theorem dL_law_813 : decode cL_law 813 = .ok (.iconst 0, 1) := by decide +kernel
theorem dL_law_814 : decode cL_law 814 = .ok (.ireturn, 1) := by decide +kernel
theorem dL_law_815 : decode cL_law 815 = .ok (.aload_n 1, 1) := by decide +kernel
theorem dL_law_816 : decode cL_law 816 = .ok (.aload_n 0, 1) := by decide +kernel
theorem dL_law_817 : decode cL_law 817 = .ok (.iload_n 3, 1) := by decide +kernel
theorem dL_law_818 : decode cL_law 818 = .ok (.iconst 1, 1) := by decide +kernel
theorem dL_law_819 : decode cL_law 819 = .ok (.iadd, 1) := by decide +kernel
theorem dL_law_820 : decode cL_law 820 = .ok (.iaload, 1) := by decide +kernel
theorem dL_law_821 : decode cL_law 821 = .ok (.aload_n 0, 1) := by decide +kernel
theorem dL_law_822 : decode cL_law 822 = .ok (.iload_n 3, 1) := by decide +kernel
theorem dL_law_823 : decode cL_law 823 = .ok (.iconst 2, 1) := by decide +kernel
theorem dL_law_824 : decode cL_law 824 = .ok (.iadd, 1) := by decide +kernel
theorem dL_law_825 : decode cL_law 825 = .ok (.iaload, 1) := by decide +kernel
theorem dL_law_826 : decode cL_law 826 = .ok (.invokevirtual 86, 3) := by decide +kernel
theorem dL_law_829 : decode cL_law 829 = .ok (.aload_n 2, 1) := by decide +kernel
theorem dL_law_830 : decode cL_law 830 = .ok (.aload_n 0, 1) := by decide +kernel
theorem dL_law_831 : decode cL_law 831 = .ok (.iload_n 3, 1) := by decide +kernel
theorem dL_law_832 : decode cL_law 832 = .ok (.iconst 1, 1) := by decide +kernel
theorem dL_law_833 : decode cL_law 833 = .ok (.iadd, 1) := by decide +kernel
theorem dL_law_834 : decode cL_law 834 = .ok (.iaload, 1) := by decide +kernel
theorem dL_law_835 : decode cL_law 835 = .ok (.aload_n 0, 1) := by decide +kernel
theorem dL_law_836 : decode cL_law 836 = .ok (.iload_n 3, 1) := by decide +kernel
theorem dL_law_837 : decode cL_law 837 = .ok (.iconst 2, 1) := by decide +kernel
theorem dL_law_838 : decode cL_law 838 = .ok (.iadd, 1) := by decide +kernel
theorem dL_law_839 : decode cL_law 839 = .ok (.iaload, 1) := by decide +kernel
theorem dL_law_840 : decode cL_law 840 = .ok (.invokevirtual 89, 3) := by decide +kernel
theorem dL_law_843 : decode cL_law 843 = .ok (.if_icmp .eq 731, 3) := by decide +kernel
theorem dL_law_846 : decode cL_law 846 = .ok (.iconst 0, 1) := by decide +kernel
theorem dL_law_847 : decode cL_law 847 = .ok (.ireturn, 1) := by decide +kernel
theorem dL_law_848 : decode cL_law 848 = .ok (.aload_n 1, 1) := by decide +kernel
theorem dL_law_849 : decode cL_law 849 = .ok (.aload_n 0, 1) := by decide +kernel
theorem dL_law_850 : decode cL_law 850 = .ok (.iload_n 3, 1) := by decide +kernel
theorem dL_law_851 : decode cL_law 851 = .ok (.iconst 1, 1) := by decide +kernel
theorem dL_law_852 : decode cL_law 852 = .ok (.iadd, 1) := by decide +kernel
theorem dL_law_853 : decode cL_law 853 = .ok (.iaload, 1) := by decide +kernel
theorem dL_law_854 : decode cL_law 854 = .ok (.invokevirtual 90, 3) := by decide +kernel
theorem dL_law_857 : decode cL_law 857 = .ok (.aload_n 2, 1) := by decide +kernel
theorem dL_law_858 : decode cL_law 858 = .ok (.aload_n 0, 1) := by decide +kernel
theorem dL_law_859 : decode cL_law 859 = .ok (.iload_n 3, 1) := by decide +kernel
theorem dL_law_860 : decode cL_law 860 = .ok (.iconst 1, 1) := by decide +kernel
theorem dL_law_861 : decode cL_law 861 = .ok (.iadd, 1) := by decide +kernel
theorem dL_law_862 : decode cL_law 862 = .ok (.iaload, 1) := by decide +kernel
theorem dL_law_863 : decode cL_law 863 = .ok (.invokevirtual 93, 3) := by decide +kernel
theorem dL_law_866 : decode cL_law 866 = .ok (.if_icmp .eq 708, 3) := by decide +kernel
theorem dL_law_869 : decode cL_law 869 = .ok (.iconst 0, 1) := by decide +kernel
theorem dL_law_870 : decode cL_law 870 = .ok (.ireturn, 1) := by decide +kernel
theorem dL_law_871 : decode cL_law 871 = .ok (.aload_n 1, 1) := by decide +kernel
theorem dL_law_872 : decode cL_law 872 = .ok (.aload_n 0, 1) := by decide +kernel
theorem dL_law_873 : decode cL_law 873 = .ok (.iload_n 3, 1) := by decide +kernel
theorem dL_law_874 : decode cL_law 874 = .ok (.iconst 1, 1) := by decide +kernel
theorem dL_law_875 : decode cL_law 875 = .ok (.iadd, 1) := by decide +kernel
theorem dL_law_876 : decode cL_law 876 = .ok (.iaload, 1) := by decide +kernel
theorem dL_law_877 : decode cL_law 877 = .ok (.invokevirtual 94, 3) := by decide +kernel
theorem dL_law_880 : decode cL_law 880 = .ok (.aload_n 2, 1) := by decide +kernel
theorem dL_law_881 : decode cL_law 881 = .ok (.aload_n 0, 1) := by decide +kernel
theorem dL_law_882 : decode cL_law 882 = .ok (.iload_n 3, 1) := by decide +kernel
theorem dL_law_883 : decode cL_law 883 = .ok (.iconst 1, 1) := by decide +kernel
theorem dL_law_884 : decode cL_law 884 = .ok (.iadd, 1) := by decide +kernel
theorem dL_law_885 : decode cL_law 885 = .ok (.iaload, 1) := by decide +kernel
theorem dL_law_886 : decode cL_law 886 = .ok (.invokevirtual 97, 3) := by decide +kernel
theorem dL_law_889 : decode cL_law 889 = .ok (.if_icmp .eq 685, 3) := by decide +kernel
theorem dL_law_892 : decode cL_law 892 = .ok (.iconst 0, 1) := by decide +kernel
theorem dL_law_893 : decode cL_law 893 = .ok (.ireturn, 1) := by decide +kernel
theorem dL_law_894 : decode cL_law 894 = .ok (.aload_n 1, 1) := by decide +kernel
theorem dL_law_895 : decode cL_law 895 = .ok (.aload_n 0, 1) := by decide +kernel
theorem dL_law_896 : decode cL_law 896 = .ok (.iload_n 3, 1) := by decide +kernel
theorem dL_law_897 : decode cL_law 897 = .ok (.iconst 1, 1) := by decide +kernel
theorem dL_law_898 : decode cL_law 898 = .ok (.iadd, 1) := by decide +kernel
theorem dL_law_899 : decode cL_law 899 = .ok (.iaload, 1) := by decide +kernel
theorem dL_law_900 : decode cL_law 900 = .ok (.aload_n 0, 1) := by decide +kernel
theorem dL_law_901 : decode cL_law 901 = .ok (.iload_n 3, 1) := by decide +kernel
theorem dL_law_902 : decode cL_law 902 = .ok (.iconst 2, 1) := by decide +kernel
theorem dL_law_903 : decode cL_law 903 = .ok (.iadd, 1) := by decide +kernel
theorem dL_law_904 : decode cL_law 904 = .ok (.iaload, 1) := by decide +kernel
theorem dL_law_905 : decode cL_law 905 = .ok (.invokevirtual 98, 3) := by decide +kernel
theorem dL_law_908 : decode cL_law 908 = .ok (.aload_n 2, 1) := by decide +kernel
theorem dL_law_909 : decode cL_law 909 = .ok (.aload_n 0, 1) := by decide +kernel
theorem dL_law_910 : decode cL_law 910 = .ok (.iload_n 3, 1) := by decide +kernel
theorem dL_law_911 : decode cL_law 911 = .ok (.iconst 1, 1) := by decide +kernel
theorem dL_law_912 : decode cL_law 912 = .ok (.iadd, 1) := by decide +kernel
theorem dL_law_913 : decode cL_law 913 = .ok (.iaload, 1) := by decide +kernel
theorem dL_law_914 : decode cL_law 914 = .ok (.aload_n 0, 1) := by decide +kernel
theorem dL_law_915 : decode cL_law 915 = .ok (.iload_n 3, 1) := by decide +kernel
theorem dL_law_916 : decode cL_law 916 = .ok (.iconst 2, 1) := by decide +kernel
theorem dL_law_917 : decode cL_law 917 = .ok (.iadd, 1) := by decide +kernel
theorem dL_law_918 : decode cL_law 918 = .ok (.iaload, 1) := by decide +kernel
theorem dL_law_919 : decode cL_law 919 = .ok (.invokevirtual 101, 3) := by decide +kernel
theorem dL_law_922 : decode cL_law 922 = .ok (.if_icmp .eq 652, 3) := by decide +kernel
theorem dL_law_925 : decode cL_law 925 = .ok (.iconst 0, 1) := by decide +kernel
theorem dL_law_926 : decode cL_law 926 = .ok (.ireturn, 1) := by decide +kernel
theorem dL_law_927 : decode cL_law 927 = .ok (.aload_n 1, 1) := by decide +kernel
theorem dL_law_928 : decode cL_law 928 = .ok (.aload_n 0, 1) := by decide +kernel
theorem dL_law_929 : decode cL_law 929 = .ok (.iload_n 3, 1) := by decide +kernel
theorem dL_law_930 : decode cL_law 930 = .ok (.iconst 1, 1) := by decide +kernel
theorem dL_law_931 : decode cL_law 931 = .ok (.iadd, 1) := by decide +kernel
theorem dL_law_932 : decode cL_law 932 = .ok (.iaload, 1) := by decide +kernel
theorem dL_law_933 : decode cL_law 933 = .ok (.aload_n 0, 1) := by decide +kernel
theorem dL_law_934 : decode cL_law 934 = .ok (.iload_n 3, 1) := by decide +kernel
theorem dL_law_935 : decode cL_law 935 = .ok (.iconst 2, 1) := by decide +kernel
theorem dL_law_936 : decode cL_law 936 = .ok (.iadd, 1) := by decide +kernel
theorem dL_law_937 : decode cL_law 937 = .ok (.iaload, 1) := by decide +kernel
theorem dL_law_938 : decode cL_law 938 = .ok (.invokevirtual 102, 3) := by decide +kernel
theorem dL_law_941 : decode cL_law 941 = .ok (.aload_n 2, 1) := by decide +kernel
theorem dL_law_942 : decode cL_law 942 = .ok (.aload_n 0, 1) := by decide +kernel
theorem dL_law_943 : decode cL_law 943 = .ok (.iload_n 3, 1) := by decide +kernel
theorem dL_law_944 : decode cL_law 944 = .ok (.iconst 1, 1) := by decide +kernel
theorem dL_law_945 : decode cL_law 945 = .ok (.iadd, 1) := by decide +kernel
theorem dL_law_946 : decode cL_law 946 = .ok (.iaload, 1) := by decide +kernel
theorem dL_law_947 : decode cL_law 947 = .ok (.aload_n 0, 1) := by decide +kernel
theorem dL_law_948 : decode cL_law 948 = .ok (.iload_n 3, 1) := by decide +kernel
theorem dL_law_949 : decode cL_law 949 = .ok (.iconst 2, 1) := by decide +kernel
theorem dL_law_950 : decode cL_law 950 = .ok (.iadd, 1) := by decide +kernel
theorem dL_law_951 : decode cL_law 951 = .ok (.iaload, 1) := by decide +kernel
theorem dL_law_952 : decode cL_law 952 = .ok (.invokevirtual 105, 3) := by decide +kernel
theorem dL_law_955 : decode cL_law 955 = .ok (.if_icmp .eq 619, 3) := by decide +kernel
theorem dL_law_958 : decode cL_law 958 = .ok (.iconst 0, 1) := by decide +kernel
theorem dL_law_959 : decode cL_law 959 = .ok (.ireturn, 1) := by decide +kernel
theorem dL_law_960 : decode cL_law 960 = .ok (.aload_n 1, 1) := by decide +kernel
theorem dL_law_961 : decode cL_law 961 = .ok (.aload_n 0, 1) := by decide +kernel
theorem dL_law_962 : decode cL_law 962 = .ok (.iload_n 3, 1) := by decide +kernel
theorem dL_law_963 : decode cL_law 963 = .ok (.iconst 1, 1) := by decide +kernel
theorem dL_law_964 : decode cL_law 964 = .ok (.iadd, 1) := by decide +kernel
theorem dL_law_965 : decode cL_law 965 = .ok (.iaload, 1) := by decide +kernel
theorem dL_law_966 : decode cL_law 966 = .ok (.aload_n 0, 1) := by decide +kernel
theorem dL_law_967 : decode cL_law 967 = .ok (.iload_n 3, 1) := by decide +kernel
theorem dL_law_968 : decode cL_law 968 = .ok (.iconst 2, 1) := by decide +kernel
theorem dL_law_969 : decode cL_law 969 = .ok (.iadd, 1) := by decide +kernel
theorem dL_law_970 : decode cL_law 970 = .ok (.iaload, 1) := by decide +kernel
theorem dL_law_971 : decode cL_law 971 = .ok (.invokevirtual 106, 3) := by decide +kernel
theorem dL_law_974 : decode cL_law 974 = .ok (.aload_n 2, 1) := by decide +kernel
theorem dL_law_975 : decode cL_law 975 = .ok (.aload_n 0, 1) := by decide +kernel
theorem dL_law_976 : decode cL_law 976 = .ok (.iload_n 3, 1) := by decide +kernel
theorem dL_law_977 : decode cL_law 977 = .ok (.iconst 1, 1) := by decide +kernel
theorem dL_law_978 : decode cL_law 978 = .ok (.iadd, 1) := by decide +kernel
theorem dL_law_979 : decode cL_law 979 = .ok (.iaload, 1) := by decide +kernel
theorem dL_law_980 : decode cL_law 980 = .ok (.aload_n 0, 1) := by decide +kernel
theorem dL_law_981 : decode cL_law 981 = .ok (.iload_n 3, 1) := by decide +kernel
theorem dL_law_982 : decode cL_law 982 = .ok (.iconst 2, 1) := by decide +kernel
theorem dL_law_983 : decode cL_law 983 = .ok (.iadd, 1) := by decide +kernel
theorem dL_law_984 : decode cL_law 984 = .ok (.iaload, 1) := by decide +kernel
theorem dL_law_985 : decode cL_law 985 = .ok (.invokevirtual 110, 3) := by decide +kernel
theorem dL_law_988 : decode cL_law 988 = .ok (.lcmp, 1) := by decide +kernel
theorem dL_law_989 : decode cL_law 989 = .ok (.ifCond .eq 585, 3) := by decide +kernel
theorem dL_law_992 : decode cL_law 992 = .ok (.iconst 0, 1) := by decide +kernel
theorem dL_law_993 : decode cL_law 993 = .ok (.ireturn, 1) := by decide +kernel
theorem dL_law_994 : decode cL_law 994 = .ok (.aload_n 1, 1) := by decide +kernel
theorem dL_law_995 : decode cL_law 995 = .ok (.aload_n 0, 1) := by decide +kernel
theorem dL_law_996 : decode cL_law 996 = .ok (.iload_n 3, 1) := by decide +kernel
theorem dL_law_997 : decode cL_law 997 = .ok (.iconst 1, 1) := by decide +kernel
theorem dL_law_998 : decode cL_law 998 = .ok (.iadd, 1) := by decide +kernel
theorem dL_law_999 : decode cL_law 999 = .ok (.iaload, 1) := by decide +kernel
theorem dL_law_1000 : decode cL_law 1000 = .ok (.aload_n 0, 1) := by decide +kernel
theorem dL_law_1001 : decode cL_law 1001 = .ok (.iload_n 3, 1) := by decide +kernel
theorem dL_law_1002 : decode cL_law 1002 = .ok (.iconst 2, 1) := by decide +kernel
theorem dL_law_1003 : decode cL_law 1003 = .ok (.iadd, 1) := by decide +kernel
theorem dL_law_1004 : decode cL_law 1004 = .ok (.iaload, 1) := by decide +kernel
theorem dL_law_1005 : decode cL_law 1005 = .ok (.aload_n 0, 1) := by decide +kernel
theorem dL_law_1006 : decode cL_law 1006 = .ok (.iload_n 3, 1) := by decide +kernel
theorem dL_law_1007 : decode cL_law 1007 = .ok (.iconst 3, 1) := by decide +kernel
theorem dL_law_1008 : decode cL_law 1008 = .ok (.iadd, 1) := by decide +kernel
theorem dL_law_1009 : decode cL_law 1009 = .ok (.iaload, 1) := by decide +kernel
theorem dL_law_1010 : decode cL_law 1010 = .ok (.invokevirtual 111, 3) := by decide +kernel
theorem dL_law_1013 : decode cL_law 1013 = .ok (.aload_n 2, 1) := by decide +kernel
theorem dL_law_1014 : decode cL_law 1014 = .ok (.aload_n 0, 1) := by decide +kernel
theorem dL_law_1015 : decode cL_law 1015 = .ok (.iload_n 3, 1) := by decide +kernel
theorem dL_law_1016 : decode cL_law 1016 = .ok (.iconst 1, 1) := by decide +kernel
theorem dL_law_1017 : decode cL_law 1017 = .ok (.iadd, 1) := by decide +kernel
theorem dL_law_1018 : decode cL_law 1018 = .ok (.iaload, 1) := by decide +kernel
theorem dL_law_1019 : decode cL_law 1019 = .ok (.aload_n 0, 1) := by decide +kernel
theorem dL_law_1020 : decode cL_law 1020 = .ok (.iload_n 3, 1) := by decide +kernel
theorem dL_law_1021 : decode cL_law 1021 = .ok (.iconst 2, 1) := by decide +kernel
theorem dL_law_1022 : decode cL_law 1022 = .ok (.iadd, 1) := by decide +kernel
theorem dL_law_1023 : decode cL_law 1023 = .ok (.iaload, 1) := by decide +kernel
theorem dL_law_1024 : decode cL_law 1024 = .ok (.aload_n 0, 1) := by decide +kernel
theorem dL_law_1025 : decode cL_law 1025 = .ok (.iload_n 3, 1) := by decide +kernel
theorem dL_law_1026 : decode cL_law 1026 = .ok (.iconst 3, 1) := by decide +kernel
theorem dL_law_1027 : decode cL_law 1027 = .ok (.iadd, 1) := by decide +kernel
theorem dL_law_1028 : decode cL_law 1028 = .ok (.iaload, 1) := by decide +kernel
theorem dL_law_1029 : decode cL_law 1029 = .ok (.invokevirtual 114, 3) := by decide +kernel
theorem dL_law_1032 : decode cL_law 1032 = .ok (.if_icmp .eq 542, 3) := by decide +kernel
theorem dL_law_1035 : decode cL_law 1035 = .ok (.iconst 0, 1) := by decide +kernel
theorem dL_law_1036 : decode cL_law 1036 = .ok (.ireturn, 1) := by decide +kernel
theorem dL_law_1037 : decode cL_law 1037 = .ok (.aload_n 1, 1) := by decide +kernel
theorem dL_law_1038 : decode cL_law 1038 = .ok (.aload_n 0, 1) := by decide +kernel
theorem dL_law_1039 : decode cL_law 1039 = .ok (.iload_n 3, 1) := by decide +kernel
theorem dL_law_1040 : decode cL_law 1040 = .ok (.iconst 1, 1) := by decide +kernel
theorem dL_law_1041 : decode cL_law 1041 = .ok (.iadd, 1) := by decide +kernel
theorem dL_law_1042 : decode cL_law 1042 = .ok (.iaload, 1) := by decide +kernel
theorem dL_law_1043 : decode cL_law 1043 = .ok (.aload_n 0, 1) := by decide +kernel
theorem dL_law_1044 : decode cL_law 1044 = .ok (.iload_n 3, 1) := by decide +kernel
theorem dL_law_1045 : decode cL_law 1045 = .ok (.iconst 2, 1) := by decide +kernel
theorem dL_law_1046 : decode cL_law 1046 = .ok (.iadd, 1) := by decide +kernel
theorem dL_law_1047 : decode cL_law 1047 = .ok (.iaload, 1) := by decide +kernel
theorem dL_law_1048 : decode cL_law 1048 = .ok (.invokevirtual 115, 3) := by decide +kernel
theorem dL_law_1051 : decode cL_law 1051 = .ok (.aload_n 2, 1) := by decide +kernel
theorem dL_law_1052 : decode cL_law 1052 = .ok (.aload_n 0, 1) := by decide +kernel
theorem dL_law_1053 : decode cL_law 1053 = .ok (.iload_n 3, 1) := by decide +kernel
theorem dL_law_1054 : decode cL_law 1054 = .ok (.iconst 1, 1) := by decide +kernel
theorem dL_law_1055 : decode cL_law 1055 = .ok (.iadd, 1) := by decide +kernel
theorem dL_law_1056 : decode cL_law 1056 = .ok (.iaload, 1) := by decide +kernel
theorem dL_law_1057 : decode cL_law 1057 = .ok (.aload_n 0, 1) := by decide +kernel
theorem dL_law_1058 : decode cL_law 1058 = .ok (.iload_n 3, 1) := by decide +kernel
theorem dL_law_1059 : decode cL_law 1059 = .ok (.iconst 2, 1) := by decide +kernel
theorem dL_law_1060 : decode cL_law 1060 = .ok (.iadd, 1) := by decide +kernel
theorem dL_law_1061 : decode cL_law 1061 = .ok (.iaload, 1) := by decide +kernel
theorem dL_law_1062 : decode cL_law 1062 = .ok (.invokevirtual 118, 3) := by decide +kernel
theorem dL_law_1065 : decode cL_law 1065 = .ok (.lcmp, 1) := by decide +kernel
theorem dL_law_1066 : decode cL_law 1066 = .ok (.ifCond .eq 508, 3) := by decide +kernel
theorem dL_law_1069 : decode cL_law 1069 = .ok (.iconst 0, 1) := by decide +kernel
theorem dL_law_1070 : decode cL_law 1070 = .ok (.ireturn, 1) := by decide +kernel
theorem dL_law_1071 : decode cL_law 1071 = .ok (.aload_n 1, 1) := by decide +kernel
theorem dL_law_1072 : decode cL_law 1072 = .ok (.aload_n 0, 1) := by decide +kernel
theorem dL_law_1073 : decode cL_law 1073 = .ok (.iload_n 3, 1) := by decide +kernel
theorem dL_law_1074 : decode cL_law 1074 = .ok (.iconst 1, 1) := by decide +kernel
theorem dL_law_1075 : decode cL_law 1075 = .ok (.iadd, 1) := by decide +kernel
theorem dL_law_1076 : decode cL_law 1076 = .ok (.iaload, 1) := by decide +kernel
theorem dL_law_1077 : decode cL_law 1077 = .ok (.aload_n 0, 1) := by decide +kernel
theorem dL_law_1078 : decode cL_law 1078 = .ok (.iload_n 3, 1) := by decide +kernel
theorem dL_law_1079 : decode cL_law 1079 = .ok (.iconst 2, 1) := by decide +kernel
theorem dL_law_1080 : decode cL_law 1080 = .ok (.iadd, 1) := by decide +kernel
theorem dL_law_1081 : decode cL_law 1081 = .ok (.iaload, 1) := by decide +kernel
theorem dL_law_1082 : decode cL_law 1082 = .ok (.aload_n 0, 1) := by decide +kernel
theorem dL_law_1083 : decode cL_law 1083 = .ok (.iload_n 3, 1) := by decide +kernel
theorem dL_law_1084 : decode cL_law 1084 = .ok (.iconst 3, 1) := by decide +kernel
theorem dL_law_1085 : decode cL_law 1085 = .ok (.iadd, 1) := by decide +kernel
theorem dL_law_1086 : decode cL_law 1086 = .ok (.iaload, 1) := by decide +kernel
theorem dL_law_1087 : decode cL_law 1087 = .ok (.aload_n 0, 1) := by decide +kernel
theorem dL_law_1088 : decode cL_law 1088 = .ok (.iload_n 3, 1) := by decide +kernel
theorem dL_law_1089 : decode cL_law 1089 = .ok (.iconst 4, 1) := by decide +kernel
theorem dL_law_1090 : decode cL_law 1090 = .ok (.iadd, 1) := by decide +kernel
theorem dL_law_1091 : decode cL_law 1091 = .ok (.iaload, 1) := by decide +kernel
theorem dL_law_1092 : decode cL_law 1092 = .ok (.invokevirtual 119, 3) := by decide +kernel
theorem dL_law_1095 : decode cL_law 1095 = .ok (.aload_n 2, 1) := by decide +kernel
theorem dL_law_1096 : decode cL_law 1096 = .ok (.aload_n 0, 1) := by decide +kernel
theorem dL_law_1097 : decode cL_law 1097 = .ok (.iload_n 3, 1) := by decide +kernel
theorem dL_law_1098 : decode cL_law 1098 = .ok (.iconst 1, 1) := by decide +kernel
theorem dL_law_1099 : decode cL_law 1099 = .ok (.iadd, 1) := by decide +kernel
theorem dL_law_1100 : decode cL_law 1100 = .ok (.iaload, 1) := by decide +kernel
theorem dL_law_1101 : decode cL_law 1101 = .ok (.aload_n 0, 1) := by decide +kernel
theorem dL_law_1102 : decode cL_law 1102 = .ok (.iload_n 3, 1) := by decide +kernel
theorem dL_law_1103 : decode cL_law 1103 = .ok (.iconst 2, 1) := by decide +kernel
theorem dL_law_1104 : decode cL_law 1104 = .ok (.iadd, 1) := by decide +kernel
theorem dL_law_1105 : decode cL_law 1105 = .ok (.iaload, 1) := by decide +kernel
theorem dL_law_1106 : decode cL_law 1106 = .ok (.aload_n 0, 1) := by decide +kernel
theorem dL_law_1107 : decode cL_law 1107 = .ok (.iload_n 3, 1) := by decide +kernel
theorem dL_law_1108 : decode cL_law 1108 = .ok (.iconst 3, 1) := by decide +kernel
theorem dL_law_1109 : decode cL_law 1109 = .ok (.iadd, 1) := by decide +kernel
theorem dL_law_1110 : decode cL_law 1110 = .ok (.iaload, 1) := by decide +kernel
theorem dL_law_1111 : decode cL_law 1111 = .ok (.aload_n 0, 1) := by decide +kernel
theorem dL_law_1112 : decode cL_law 1112 = .ok (.iload_n 3, 1) := by decide +kernel
theorem dL_law_1113 : decode cL_law 1113 = .ok (.iconst 4, 1) := by decide +kernel
theorem dL_law_1114 : decode cL_law 1114 = .ok (.iadd, 1) := by decide +kernel
theorem dL_law_1115 : decode cL_law 1115 = .ok (.iaload, 1) := by decide +kernel
theorem dL_law_1116 : decode cL_law 1116 = .ok (.invokevirtual 122, 3) := by decide +kernel
theorem dL_law_1119 : decode cL_law 1119 = .ok (.if_icmp .eq 455, 3) := by decide +kernel
theorem dL_law_1122 : decode cL_law 1122 = .ok (.iconst 0, 1) := by decide +kernel
theorem dL_law_1123 : decode cL_law 1123 = .ok (.ireturn, 1) := by decide +kernel
theorem dL_law_1124 : decode cL_law 1124 = .ok (.aload_n 1, 1) := by decide +kernel
theorem dL_law_1125 : decode cL_law 1125 = .ok (.aload_n 0, 1) := by decide +kernel
theorem dL_law_1126 : decode cL_law 1126 = .ok (.iload_n 3, 1) := by decide +kernel
theorem dL_law_1127 : decode cL_law 1127 = .ok (.iconst 1, 1) := by decide +kernel
theorem dL_law_1128 : decode cL_law 1128 = .ok (.iadd, 1) := by decide +kernel
theorem dL_law_1129 : decode cL_law 1129 = .ok (.iaload, 1) := by decide +kernel
theorem dL_law_1130 : decode cL_law 1130 = .ok (.aload_n 0, 1) := by decide +kernel
theorem dL_law_1131 : decode cL_law 1131 = .ok (.iload_n 3, 1) := by decide +kernel
theorem dL_law_1132 : decode cL_law 1132 = .ok (.iconst 2, 1) := by decide +kernel
theorem dL_law_1133 : decode cL_law 1133 = .ok (.iadd, 1) := by decide +kernel
theorem dL_law_1134 : decode cL_law 1134 = .ok (.iaload, 1) := by decide +kernel
theorem dL_law_1135 : decode cL_law 1135 = .ok (.aload_n 0, 1) := by decide +kernel
theorem dL_law_1136 : decode cL_law 1136 = .ok (.iload_n 3, 1) := by decide +kernel
theorem dL_law_1137 : decode cL_law 1137 = .ok (.iconst 3, 1) := by decide +kernel
theorem dL_law_1138 : decode cL_law 1138 = .ok (.iadd, 1) := by decide +kernel
theorem dL_law_1139 : decode cL_law 1139 = .ok (.iaload, 1) := by decide +kernel
theorem dL_law_1140 : decode cL_law 1140 = .ok (.aload_n 0, 1) := by decide +kernel
theorem dL_law_1141 : decode cL_law 1141 = .ok (.iload_n 3, 1) := by decide +kernel
theorem dL_law_1142 : decode cL_law 1142 = .ok (.iconst 4, 1) := by decide +kernel
theorem dL_law_1143 : decode cL_law 1143 = .ok (.iadd, 1) := by decide +kernel
theorem dL_law_1144 : decode cL_law 1144 = .ok (.iaload, 1) := by decide +kernel
theorem dL_law_1145 : decode cL_law 1145 = .ok (.invokevirtual 123, 3) := by decide +kernel
theorem dL_law_1148 : decode cL_law 1148 = .ok (.aload_n 2, 1) := by decide +kernel
theorem dL_law_1149 : decode cL_law 1149 = .ok (.aload_n 0, 1) := by decide +kernel
theorem dL_law_1150 : decode cL_law 1150 = .ok (.iload_n 3, 1) := by decide +kernel
theorem dL_law_1151 : decode cL_law 1151 = .ok (.iconst 1, 1) := by decide +kernel
theorem dL_law_1152 : decode cL_law 1152 = .ok (.iadd, 1) := by decide +kernel
theorem dL_law_1153 : decode cL_law 1153 = .ok (.iaload, 1) := by decide +kernel
theorem dL_law_1154 : decode cL_law 1154 = .ok (.aload_n 0, 1) := by decide +kernel
theorem dL_law_1155 : decode cL_law 1155 = .ok (.iload_n 3, 1) := by decide +kernel
theorem dL_law_1156 : decode cL_law 1156 = .ok (.iconst 2, 1) := by decide +kernel
theorem dL_law_1157 : decode cL_law 1157 = .ok (.iadd, 1) := by decide +kernel
theorem dL_law_1158 : decode cL_law 1158 = .ok (.iaload, 1) := by decide +kernel
theorem dL_law_1159 : decode cL_law 1159 = .ok (.aload_n 0, 1) := by decide +kernel
theorem dL_law_1160 : decode cL_law 1160 = .ok (.iload_n 3, 1) := by decide +kernel
theorem dL_law_1161 : decode cL_law 1161 = .ok (.iconst 3, 1) := by decide +kernel
theorem dL_law_1162 : decode cL_law 1162 = .ok (.iadd, 1) := by decide +kernel
theorem dL_law_1163 : decode cL_law 1163 = .ok (.iaload, 1) := by decide +kernel
theorem dL_law_1164 : decode cL_law 1164 = .ok (.aload_n 0, 1) := by decide +kernel
theorem dL_law_1165 : decode cL_law 1165 = .ok (.iload_n 3, 1) := by decide +kernel
theorem dL_law_1166 : decode cL_law 1166 = .ok (.iconst 4, 1) := by decide +kernel
theorem dL_law_1167 : decode cL_law 1167 = .ok (.iadd, 1) := by decide +kernel
theorem dL_law_1168 : decode cL_law 1168 = .ok (.iaload, 1) := by decide +kernel
theorem dL_law_1169 : decode cL_law 1169 = .ok (.invokevirtual 126, 3) := by decide +kernel
theorem dL_law_1172 : decode cL_law 1172 = .ok (.if_icmp .eq 402, 3) := by decide +kernel
theorem dL_law_1175 : decode cL_law 1175 = .ok (.iconst 0, 1) := by decide +kernel
theorem dL_law_1176 : decode cL_law 1176 = .ok (.ireturn, 1) := by decide +kernel
theorem dL_law_1177 : decode cL_law 1177 = .ok (.aload_n 1, 1) := by decide +kernel
theorem dL_law_1178 : decode cL_law 1178 = .ok (.aload_n 0, 1) := by decide +kernel
theorem dL_law_1179 : decode cL_law 1179 = .ok (.iload_n 3, 1) := by decide +kernel
theorem dL_law_1180 : decode cL_law 1180 = .ok (.iconst 1, 1) := by decide +kernel
theorem dL_law_1181 : decode cL_law 1181 = .ok (.iadd, 1) := by decide +kernel
theorem dL_law_1182 : decode cL_law 1182 = .ok (.iaload, 1) := by decide +kernel
theorem dL_law_1183 : decode cL_law 1183 = .ok (.aload_n 0, 1) := by decide +kernel
theorem dL_law_1184 : decode cL_law 1184 = .ok (.iload_n 3, 1) := by decide +kernel
theorem dL_law_1185 : decode cL_law 1185 = .ok (.iconst 2, 1) := by decide +kernel
theorem dL_law_1186 : decode cL_law 1186 = .ok (.iadd, 1) := by decide +kernel
theorem dL_law_1187 : decode cL_law 1187 = .ok (.iaload, 1) := by decide +kernel
theorem dL_law_1188 : decode cL_law 1188 = .ok (.aload_n 0, 1) := by decide +kernel
theorem dL_law_1189 : decode cL_law 1189 = .ok (.iload_n 3, 1) := by decide +kernel
theorem dL_law_1190 : decode cL_law 1190 = .ok (.iconst 3, 1) := by decide +kernel
theorem dL_law_1191 : decode cL_law 1191 = .ok (.iadd, 1) := by decide +kernel
theorem dL_law_1192 : decode cL_law 1192 = .ok (.iaload, 1) := by decide +kernel
theorem dL_law_1193 : decode cL_law 1193 = .ok (.aload_n 0, 1) := by decide +kernel
theorem dL_law_1194 : decode cL_law 1194 = .ok (.iload_n 3, 1) := by decide +kernel
theorem dL_law_1195 : decode cL_law 1195 = .ok (.iconst 4, 1) := by decide +kernel
theorem dL_law_1196 : decode cL_law 1196 = .ok (.iadd, 1) := by decide +kernel
theorem dL_law_1197 : decode cL_law 1197 = .ok (.iaload, 1) := by decide +kernel
theorem dL_law_1198 : decode cL_law 1198 = .ok (.invokevirtual 127, 3) := by decide +kernel
theorem dL_law_1201 : decode cL_law 1201 = .ok (.aload_n 2, 1) := by decide +kernel
theorem dL_law_1202 : decode cL_law 1202 = .ok (.aload_n 0, 1) := by decide +kernel
theorem dL_law_1203 : decode cL_law 1203 = .ok (.iload_n 3, 1) := by decide +kernel
theorem dL_law_1204 : decode cL_law 1204 = .ok (.iconst 1, 1) := by decide +kernel
theorem dL_law_1205 : decode cL_law 1205 = .ok (.iadd, 1) := by decide +kernel
theorem dL_law_1206 : decode cL_law 1206 = .ok (.iaload, 1) := by decide +kernel
theorem dL_law_1207 : decode cL_law 1207 = .ok (.aload_n 0, 1) := by decide +kernel
theorem dL_law_1208 : decode cL_law 1208 = .ok (.iload_n 3, 1) := by decide +kernel
theorem dL_law_1209 : decode cL_law 1209 = .ok (.iconst 2, 1) := by decide +kernel
theorem dL_law_1210 : decode cL_law 1210 = .ok (.iadd, 1) := by decide +kernel
theorem dL_law_1211 : decode cL_law 1211 = .ok (.iaload, 1) := by decide +kernel
theorem dL_law_1212 : decode cL_law 1212 = .ok (.aload_n 0, 1) := by decide +kernel
theorem dL_law_1213 : decode cL_law 1213 = .ok (.iload_n 3, 1) := by decide +kernel
theorem dL_law_1214 : decode cL_law 1214 = .ok (.iconst 3, 1) := by decide +kernel
theorem dL_law_1215 : decode cL_law 1215 = .ok (.iadd, 1) := by decide +kernel
theorem dL_law_1216 : decode cL_law 1216 = .ok (.iaload, 1) := by decide +kernel
theorem dL_law_1217 : decode cL_law 1217 = .ok (.aload_n 0, 1) := by decide +kernel
theorem dL_law_1218 : decode cL_law 1218 = .ok (.iload_n 3, 1) := by decide +kernel
theorem dL_law_1219 : decode cL_law 1219 = .ok (.iconst 4, 1) := by decide +kernel
theorem dL_law_1220 : decode cL_law 1220 = .ok (.iadd, 1) := by decide +kernel
theorem dL_law_1221 : decode cL_law 1221 = .ok (.iaload, 1) := by decide +kernel
theorem dL_law_1222 : decode cL_law 1222 = .ok (.invokevirtual 130, 3) := by decide +kernel
theorem dL_law_1225 : decode cL_law 1225 = .ok (.if_icmp .eq 349, 3) := by decide +kernel
theorem dL_law_1228 : decode cL_law 1228 = .ok (.iconst 0, 1) := by decide +kernel
theorem dL_law_1229 : decode cL_law 1229 = .ok (.ireturn, 1) := by decide +kernel
theorem dL_law_1230 : decode cL_law 1230 = .ok (.aload_n 1, 1) := by decide +kernel
theorem dL_law_1231 : decode cL_law 1231 = .ok (.aload_n 0, 1) := by decide +kernel
theorem dL_law_1232 : decode cL_law 1232 = .ok (.iload_n 3, 1) := by decide +kernel
theorem dL_law_1233 : decode cL_law 1233 = .ok (.iconst 1, 1) := by decide +kernel
theorem dL_law_1234 : decode cL_law 1234 = .ok (.iadd, 1) := by decide +kernel
theorem dL_law_1235 : decode cL_law 1235 = .ok (.iaload, 1) := by decide +kernel
theorem dL_law_1236 : decode cL_law 1236 = .ok (.aload_n 0, 1) := by decide +kernel
theorem dL_law_1237 : decode cL_law 1237 = .ok (.iload_n 3, 1) := by decide +kernel
theorem dL_law_1238 : decode cL_law 1238 = .ok (.iconst 2, 1) := by decide +kernel
theorem dL_law_1239 : decode cL_law 1239 = .ok (.iadd, 1) := by decide +kernel
theorem dL_law_1240 : decode cL_law 1240 = .ok (.iaload, 1) := by decide +kernel
theorem dL_law_1241 : decode cL_law 1241 = .ok (.aload_n 0, 1) := by decide +kernel
theorem dL_law_1242 : decode cL_law 1242 = .ok (.iload_n 3, 1) := by decide +kernel
theorem dL_law_1243 : decode cL_law 1243 = .ok (.iconst 3, 1) := by decide +kernel
theorem dL_law_1244 : decode cL_law 1244 = .ok (.iadd, 1) := by decide +kernel
theorem dL_law_1245 : decode cL_law 1245 = .ok (.iaload, 1) := by decide +kernel
theorem dL_law_1246 : decode cL_law 1246 = .ok (.invokevirtual 131, 3) := by decide +kernel
theorem dL_law_1249 : decode cL_law 1249 = .ok (.aload_n 2, 1) := by decide +kernel
theorem dL_law_1250 : decode cL_law 1250 = .ok (.aload_n 0, 1) := by decide +kernel
theorem dL_law_1251 : decode cL_law 1251 = .ok (.iload_n 3, 1) := by decide +kernel
theorem dL_law_1252 : decode cL_law 1252 = .ok (.iconst 1, 1) := by decide +kernel
theorem dL_law_1253 : decode cL_law 1253 = .ok (.iadd, 1) := by decide +kernel
theorem dL_law_1254 : decode cL_law 1254 = .ok (.iaload, 1) := by decide +kernel
theorem dL_law_1255 : decode cL_law 1255 = .ok (.aload_n 0, 1) := by decide +kernel
theorem dL_law_1256 : decode cL_law 1256 = .ok (.iload_n 3, 1) := by decide +kernel
theorem dL_law_1257 : decode cL_law 1257 = .ok (.iconst 2, 1) := by decide +kernel
theorem dL_law_1258 : decode cL_law 1258 = .ok (.iadd, 1) := by decide +kernel
theorem dL_law_1259 : decode cL_law 1259 = .ok (.iaload, 1) := by decide +kernel
theorem dL_law_1260 : decode cL_law 1260 = .ok (.aload_n 0, 1) := by decide +kernel
theorem dL_law_1261 : decode cL_law 1261 = .ok (.iload_n 3, 1) := by decide +kernel
theorem dL_law_1262 : decode cL_law 1262 = .ok (.iconst 3, 1) := by decide +kernel
theorem dL_law_1263 : decode cL_law 1263 = .ok (.iadd, 1) := by decide +kernel
theorem dL_law_1264 : decode cL_law 1264 = .ok (.iaload, 1) := by decide +kernel
theorem dL_law_1265 : decode cL_law 1265 = .ok (.invokevirtual 134, 3) := by decide +kernel
theorem dL_law_1268 : decode cL_law 1268 = .ok (.if_icmp .eq 306, 3) := by decide +kernel
theorem dL_law_1271 : decode cL_law 1271 = .ok (.iconst 0, 1) := by decide +kernel
theorem dL_law_1272 : decode cL_law 1272 = .ok (.ireturn, 1) := by decide +kernel
theorem dL_law_1273 : decode cL_law 1273 = .ok (.aload_n 1, 1) := by decide +kernel
theorem dL_law_1274 : decode cL_law 1274 = .ok (.aload_n 0, 1) := by decide +kernel
theorem dL_law_1275 : decode cL_law 1275 = .ok (.iload_n 3, 1) := by decide +kernel
theorem dL_law_1276 : decode cL_law 1276 = .ok (.iconst 1, 1) := by decide +kernel
theorem dL_law_1277 : decode cL_law 1277 = .ok (.iadd, 1) := by decide +kernel
theorem dL_law_1278 : decode cL_law 1278 = .ok (.iaload, 1) := by decide +kernel
theorem dL_law_1279 : decode cL_law 1279 = .ok (.invokevirtual 135, 3) := by decide +kernel
theorem dL_law_1282 : decode cL_law 1282 = .ok (.aload_n 2, 1) := by decide +kernel
theorem dL_law_1283 : decode cL_law 1283 = .ok (.aload_n 0, 1) := by decide +kernel
theorem dL_law_1284 : decode cL_law 1284 = .ok (.iload_n 3, 1) := by decide +kernel
theorem dL_law_1285 : decode cL_law 1285 = .ok (.iconst 1, 1) := by decide +kernel
theorem dL_law_1286 : decode cL_law 1286 = .ok (.iadd, 1) := by decide +kernel
theorem dL_law_1287 : decode cL_law 1287 = .ok (.iaload, 1) := by decide +kernel
theorem dL_law_1288 : decode cL_law 1288 = .ok (.invokevirtual 138, 3) := by decide +kernel
theorem dL_law_1291 : decode cL_law 1291 = .ok (.if_icmp .eq 283, 3) := by decide +kernel
theorem dL_law_1294 : decode cL_law 1294 = .ok (.iconst 0, 1) := by decide +kernel
theorem dL_law_1295 : decode cL_law 1295 = .ok (.ireturn, 1) := by decide +kernel
theorem dL_law_1296 : decode cL_law 1296 = .ok (.aload_n 1, 1) := by decide +kernel
theorem dL_law_1297 : decode cL_law 1297 = .ok (.aload_n 0, 1) := by decide +kernel
theorem dL_law_1298 : decode cL_law 1298 = .ok (.iload_n 3, 1) := by decide +kernel
theorem dL_law_1299 : decode cL_law 1299 = .ok (.iconst 1, 1) := by decide +kernel
theorem dL_law_1300 : decode cL_law 1300 = .ok (.iadd, 1) := by decide +kernel
theorem dL_law_1301 : decode cL_law 1301 = .ok (.iaload, 1) := by decide +kernel
theorem dL_law_1302 : decode cL_law 1302 = .ok (.aload_n 0, 1) := by decide +kernel
theorem dL_law_1303 : decode cL_law 1303 = .ok (.iload_n 3, 1) := by decide +kernel
theorem dL_law_1304 : decode cL_law 1304 = .ok (.iconst 2, 1) := by decide +kernel
theorem dL_law_1305 : decode cL_law 1305 = .ok (.iadd, 1) := by decide +kernel
theorem dL_law_1306 : decode cL_law 1306 = .ok (.iaload, 1) := by decide +kernel
theorem dL_law_1307 : decode cL_law 1307 = .ok (.aload_n 0, 1) := by decide +kernel
theorem dL_law_1308 : decode cL_law 1308 = .ok (.iload_n 3, 1) := by decide +kernel
theorem dL_law_1309 : decode cL_law 1309 = .ok (.iconst 3, 1) := by decide +kernel
theorem dL_law_1310 : decode cL_law 1310 = .ok (.iadd, 1) := by decide +kernel
theorem dL_law_1311 : decode cL_law 1311 = .ok (.iaload, 1) := by decide +kernel
theorem dL_law_1312 : decode cL_law 1312 = .ok (.invokevirtual 139, 3) := by decide +kernel
theorem dL_law_1315 : decode cL_law 1315 = .ok (.aload_n 2, 1) := by decide +kernel
theorem dL_law_1316 : decode cL_law 1316 = .ok (.aload_n 0, 1) := by decide +kernel
theorem dL_law_1317 : decode cL_law 1317 = .ok (.iload_n 3, 1) := by decide +kernel
theorem dL_law_1318 : decode cL_law 1318 = .ok (.iconst 1, 1) := by decide +kernel
theorem dL_law_1319 : decode cL_law 1319 = .ok (.iadd, 1) := by decide +kernel
theorem dL_law_1320 : decode cL_law 1320 = .ok (.iaload, 1) := by decide +kernel
theorem dL_law_1321 : decode cL_law 1321 = .ok (.aload_n 0, 1) := by decide +kernel
theorem dL_law_1322 : decode cL_law 1322 = .ok (.iload_n 3, 1) := by decide +kernel
theorem dL_law_1323 : decode cL_law 1323 = .ok (.iconst 2, 1) := by decide +kernel
theorem dL_law_1324 : decode cL_law 1324 = .ok (.iadd, 1) := by decide +kernel
theorem dL_law_1325 : decode cL_law 1325 = .ok (.iaload, 1) := by decide +kernel
theorem dL_law_1326 : decode cL_law 1326 = .ok (.aload_n 0, 1) := by decide +kernel
theorem dL_law_1327 : decode cL_law 1327 = .ok (.iload_n 3, 1) := by decide +kernel
theorem dL_law_1328 : decode cL_law 1328 = .ok (.iconst 3, 1) := by decide +kernel
theorem dL_law_1329 : decode cL_law 1329 = .ok (.iadd, 1) := by decide +kernel
theorem dL_law_1330 : decode cL_law 1330 = .ok (.iaload, 1) := by decide +kernel
theorem dL_law_1331 : decode cL_law 1331 = .ok (.invokevirtual 142, 3) := by decide +kernel
theorem dL_law_1334 : decode cL_law 1334 = .ok (.if_icmp .eq 240, 3) := by decide +kernel
theorem dL_law_1337 : decode cL_law 1337 = .ok (.iconst 0, 1) := by decide +kernel
theorem dL_law_1338 : decode cL_law 1338 = .ok (.ireturn, 1) := by decide +kernel
theorem dL_law_1339 : decode cL_law 1339 = .ok (.aload_n 1, 1) := by decide +kernel
theorem dL_law_1340 : decode cL_law 1340 = .ok (.aload_n 0, 1) := by decide +kernel
theorem dL_law_1341 : decode cL_law 1341 = .ok (.iload_n 3, 1) := by decide +kernel
theorem dL_law_1342 : decode cL_law 1342 = .ok (.iconst 1, 1) := by decide +kernel
theorem dL_law_1343 : decode cL_law 1343 = .ok (.iadd, 1) := by decide +kernel
theorem dL_law_1344 : decode cL_law 1344 = .ok (.iaload, 1) := by decide +kernel
theorem dL_law_1345 : decode cL_law 1345 = .ok (.aload_n 0, 1) := by decide +kernel
theorem dL_law_1346 : decode cL_law 1346 = .ok (.iload_n 3, 1) := by decide +kernel
theorem dL_law_1347 : decode cL_law 1347 = .ok (.iconst 2, 1) := by decide +kernel
theorem dL_law_1348 : decode cL_law 1348 = .ok (.iadd, 1) := by decide +kernel
theorem dL_law_1349 : decode cL_law 1349 = .ok (.iaload, 1) := by decide +kernel
theorem dL_law_1350 : decode cL_law 1350 = .ok (.aload_n 0, 1) := by decide +kernel
theorem dL_law_1351 : decode cL_law 1351 = .ok (.iload_n 3, 1) := by decide +kernel
theorem dL_law_1352 : decode cL_law 1352 = .ok (.iconst 3, 1) := by decide +kernel
theorem dL_law_1353 : decode cL_law 1353 = .ok (.iadd, 1) := by decide +kernel
theorem dL_law_1354 : decode cL_law 1354 = .ok (.iaload, 1) := by decide +kernel
theorem dL_law_1355 : decode cL_law 1355 = .ok (.invokevirtual 143, 3) := by decide +kernel
theorem dL_law_1358 : decode cL_law 1358 = .ok (.aload_n 2, 1) := by decide +kernel
theorem dL_law_1359 : decode cL_law 1359 = .ok (.aload_n 0, 1) := by decide +kernel
theorem dL_law_1360 : decode cL_law 1360 = .ok (.iload_n 3, 1) := by decide +kernel
theorem dL_law_1361 : decode cL_law 1361 = .ok (.iconst 1, 1) := by decide +kernel
theorem dL_law_1362 : decode cL_law 1362 = .ok (.iadd, 1) := by decide +kernel
theorem dL_law_1363 : decode cL_law 1363 = .ok (.iaload, 1) := by decide +kernel
theorem dL_law_1364 : decode cL_law 1364 = .ok (.aload_n 0, 1) := by decide +kernel
theorem dL_law_1365 : decode cL_law 1365 = .ok (.iload_n 3, 1) := by decide +kernel
theorem dL_law_1366 : decode cL_law 1366 = .ok (.iconst 2, 1) := by decide +kernel
theorem dL_law_1367 : decode cL_law 1367 = .ok (.iadd, 1) := by decide +kernel
theorem dL_law_1368 : decode cL_law 1368 = .ok (.iaload, 1) := by decide +kernel
theorem dL_law_1369 : decode cL_law 1369 = .ok (.aload_n 0, 1) := by decide +kernel
theorem dL_law_1370 : decode cL_law 1370 = .ok (.iload_n 3, 1) := by decide +kernel
theorem dL_law_1371 : decode cL_law 1371 = .ok (.iconst 3, 1) := by decide +kernel
theorem dL_law_1372 : decode cL_law 1372 = .ok (.iadd, 1) := by decide +kernel
theorem dL_law_1373 : decode cL_law 1373 = .ok (.iaload, 1) := by decide +kernel
theorem dL_law_1374 : decode cL_law 1374 = .ok (.invokevirtual 147, 3) := by decide +kernel
theorem dL_law_1377 : decode cL_law 1377 = .ok (.lcmp, 1) := by decide +kernel
theorem dL_law_1378 : decode cL_law 1378 = .ok (.ifCond .eq 196, 3) := by decide +kernel
theorem dL_law_1381 : decode cL_law 1381 = .ok (.iconst 0, 1) := by decide +kernel
theorem dL_law_1382 : decode cL_law 1382 = .ok (.ireturn, 1) := by decide +kernel
theorem dL_law_1383 : decode cL_law 1383 = .ok (.aload_n 1, 1) := by decide +kernel
theorem dL_law_1384 : decode cL_law 1384 = .ok (.aload_n 0, 1) := by decide +kernel
theorem dL_law_1385 : decode cL_law 1385 = .ok (.iload_n 3, 1) := by decide +kernel
theorem dL_law_1386 : decode cL_law 1386 = .ok (.iconst 1, 1) := by decide +kernel
theorem dL_law_1387 : decode cL_law 1387 = .ok (.iadd, 1) := by decide +kernel
theorem dL_law_1388 : decode cL_law 1388 = .ok (.iaload, 1) := by decide +kernel
theorem dL_law_1389 : decode cL_law 1389 = .ok (.aload_n 0, 1) := by decide +kernel
theorem dL_law_1390 : decode cL_law 1390 = .ok (.iload_n 3, 1) := by decide +kernel
theorem dL_law_1391 : decode cL_law 1391 = .ok (.iconst 2, 1) := by decide +kernel
theorem dL_law_1392 : decode cL_law 1392 = .ok (.iadd, 1) := by decide +kernel
theorem dL_law_1393 : decode cL_law 1393 = .ok (.iaload, 1) := by decide +kernel
theorem dL_law_1394 : decode cL_law 1394 = .ok (.aload_n 0, 1) := by decide +kernel
theorem dL_law_1395 : decode cL_law 1395 = .ok (.iload_n 3, 1) := by decide +kernel
theorem dL_law_1396 : decode cL_law 1396 = .ok (.iconst 3, 1) := by decide +kernel
theorem dL_law_1397 : decode cL_law 1397 = .ok (.iadd, 1) := by decide +kernel
theorem dL_law_1398 : decode cL_law 1398 = .ok (.iaload, 1) := by decide +kernel
theorem dL_law_1399 : decode cL_law 1399 = .ok (.aload_n 0, 1) := by decide +kernel
theorem dL_law_1400 : decode cL_law 1400 = .ok (.iload_n 3, 1) := by decide +kernel
theorem dL_law_1401 : decode cL_law 1401 = .ok (.iconst 4, 1) := by decide +kernel
theorem dL_law_1402 : decode cL_law 1402 = .ok (.iadd, 1) := by decide +kernel
theorem dL_law_1403 : decode cL_law 1403 = .ok (.iaload, 1) := by decide +kernel
theorem dL_law_1404 : decode cL_law 1404 = .ok (.aload_n 0, 1) := by decide +kernel
theorem dL_law_1405 : decode cL_law 1405 = .ok (.iload_n 3, 1) := by decide +kernel
theorem dL_law_1406 : decode cL_law 1406 = .ok (.iconst 5, 1) := by decide +kernel
theorem dL_law_1407 : decode cL_law 1407 = .ok (.iadd, 1) := by decide +kernel
theorem dL_law_1408 : decode cL_law 1408 = .ok (.iaload, 1) := by decide +kernel
theorem dL_law_1409 : decode cL_law 1409 = .ok (.invokevirtual 148, 3) := by decide +kernel
theorem dL_law_1412 : decode cL_law 1412 = .ok (.aload_n 2, 1) := by decide +kernel
theorem dL_law_1413 : decode cL_law 1413 = .ok (.aload_n 0, 1) := by decide +kernel
theorem dL_law_1414 : decode cL_law 1414 = .ok (.iload_n 3, 1) := by decide +kernel
theorem dL_law_1415 : decode cL_law 1415 = .ok (.iconst 1, 1) := by decide +kernel
theorem dL_law_1416 : decode cL_law 1416 = .ok (.iadd, 1) := by decide +kernel
theorem dL_law_1417 : decode cL_law 1417 = .ok (.iaload, 1) := by decide +kernel
theorem dL_law_1418 : decode cL_law 1418 = .ok (.aload_n 0, 1) := by decide +kernel
theorem dL_law_1419 : decode cL_law 1419 = .ok (.iload_n 3, 1) := by decide +kernel
theorem dL_law_1420 : decode cL_law 1420 = .ok (.iconst 2, 1) := by decide +kernel
theorem dL_law_1421 : decode cL_law 1421 = .ok (.iadd, 1) := by decide +kernel
theorem dL_law_1422 : decode cL_law 1422 = .ok (.iaload, 1) := by decide +kernel
theorem dL_law_1423 : decode cL_law 1423 = .ok (.aload_n 0, 1) := by decide +kernel
theorem dL_law_1424 : decode cL_law 1424 = .ok (.iload_n 3, 1) := by decide +kernel
theorem dL_law_1425 : decode cL_law 1425 = .ok (.iconst 3, 1) := by decide +kernel
theorem dL_law_1426 : decode cL_law 1426 = .ok (.iadd, 1) := by decide +kernel
theorem dL_law_1427 : decode cL_law 1427 = .ok (.iaload, 1) := by decide +kernel
theorem dL_law_1428 : decode cL_law 1428 = .ok (.aload_n 0, 1) := by decide +kernel
theorem dL_law_1429 : decode cL_law 1429 = .ok (.iload_n 3, 1) := by decide +kernel
theorem dL_law_1430 : decode cL_law 1430 = .ok (.iconst 4, 1) := by decide +kernel
theorem dL_law_1431 : decode cL_law 1431 = .ok (.iadd, 1) := by decide +kernel
theorem dL_law_1432 : decode cL_law 1432 = .ok (.iaload, 1) := by decide +kernel
theorem dL_law_1433 : decode cL_law 1433 = .ok (.aload_n 0, 1) := by decide +kernel
theorem dL_law_1434 : decode cL_law 1434 = .ok (.iload_n 3, 1) := by decide +kernel
theorem dL_law_1435 : decode cL_law 1435 = .ok (.iconst 5, 1) := by decide +kernel
theorem dL_law_1436 : decode cL_law 1436 = .ok (.iadd, 1) := by decide +kernel
theorem dL_law_1437 : decode cL_law 1437 = .ok (.iaload, 1) := by decide +kernel
theorem dL_law_1438 : decode cL_law 1438 = .ok (.invokevirtual 152, 3) := by decide +kernel
theorem dL_law_1441 : decode cL_law 1441 = .ok (.if_icmp .eq 133, 3) := by decide +kernel
theorem dL_law_1444 : decode cL_law 1444 = .ok (.iconst 0, 1) := by decide +kernel
theorem dL_law_1445 : decode cL_law 1445 = .ok (.ireturn, 1) := by decide +kernel
theorem dL_law_1446 : decode cL_law 1446 = .ok (.aload_n 1, 1) := by decide +kernel
theorem dL_law_1447 : decode cL_law 1447 = .ok (.aload_n 0, 1) := by decide +kernel
theorem dL_law_1448 : decode cL_law 1448 = .ok (.iload_n 3, 1) := by decide +kernel
theorem dL_law_1449 : decode cL_law 1449 = .ok (.iconst 1, 1) := by decide +kernel
theorem dL_law_1450 : decode cL_law 1450 = .ok (.iadd, 1) := by decide +kernel
theorem dL_law_1451 : decode cL_law 1451 = .ok (.iaload, 1) := by decide +kernel
theorem dL_law_1452 : decode cL_law 1452 = .ok (.invokevirtual 153, 3) := by decide +kernel
theorem dL_law_1455 : decode cL_law 1455 = .ok (.aload_n 2, 1) := by decide +kernel
theorem dL_law_1456 : decode cL_law 1456 = .ok (.aload_n 0, 1) := by decide +kernel
theorem dL_law_1457 : decode cL_law 1457 = .ok (.iload_n 3, 1) := by decide +kernel
theorem dL_law_1458 : decode cL_law 1458 = .ok (.iconst 1, 1) := by decide +kernel
theorem dL_law_1459 : decode cL_law 1459 = .ok (.iadd, 1) := by decide +kernel
theorem dL_law_1460 : decode cL_law 1460 = .ok (.iaload, 1) := by decide +kernel
theorem dL_law_1461 : decode cL_law 1461 = .ok (.invokevirtual 156, 3) := by decide +kernel
theorem dL_law_1464 : decode cL_law 1464 = .ok (.if_icmp .eq 110, 3) := by decide +kernel
theorem dL_law_1467 : decode cL_law 1467 = .ok (.iconst 0, 1) := by decide +kernel
theorem dL_law_1468 : decode cL_law 1468 = .ok (.ireturn, 1) := by decide +kernel
theorem dL_law_1469 : decode cL_law 1469 = .ok (.aload_n 1, 1) := by decide +kernel
theorem dL_law_1470 : decode cL_law 1470 = .ok (.aload_n 0, 1) := by decide +kernel
theorem dL_law_1471 : decode cL_law 1471 = .ok (.iload_n 3, 1) := by decide +kernel
theorem dL_law_1472 : decode cL_law 1472 = .ok (.iconst 1, 1) := by decide +kernel
theorem dL_law_1473 : decode cL_law 1473 = .ok (.iadd, 1) := by decide +kernel
theorem dL_law_1474 : decode cL_law 1474 = .ok (.iaload, 1) := by decide +kernel
theorem dL_law_1475 : decode cL_law 1475 = .ok (.invokevirtual 157, 3) := by decide +kernel
theorem dL_law_1478 : decode cL_law 1478 = .ok (.aload_n 2, 1) := by decide +kernel
theorem dL_law_1479 : decode cL_law 1479 = .ok (.aload_n 0, 1) := by decide +kernel
theorem dL_law_1480 : decode cL_law 1480 = .ok (.iload_n 3, 1) := by decide +kernel
theorem dL_law_1481 : decode cL_law 1481 = .ok (.iconst 1, 1) := by decide +kernel
theorem dL_law_1482 : decode cL_law 1482 = .ok (.iadd, 1) := by decide +kernel
theorem dL_law_1483 : decode cL_law 1483 = .ok (.iaload, 1) := by decide +kernel
theorem dL_law_1484 : decode cL_law 1484 = .ok (.invokevirtual 160, 3) := by decide +kernel
theorem dL_law_1487 : decode cL_law 1487 = .ok (.if_icmp .eq 87, 3) := by decide +kernel
theorem dL_law_1490 : decode cL_law 1490 = .ok (.iconst 0, 1) := by decide +kernel
theorem dL_law_1491 : decode cL_law 1491 = .ok (.ireturn, 1) := by decide +kernel
theorem dL_law_1492 : decode cL_law 1492 = .ok (.aload_n 1, 1) := by decide +kernel
theorem dL_law_1493 : decode cL_law 1493 = .ok (.aload_n 0, 1) := by decide +kernel
theorem dL_law_1494 : decode cL_law 1494 = .ok (.iload_n 3, 1) := by decide +kernel
theorem dL_law_1495 : decode cL_law 1495 = .ok (.iconst 1, 1) := by decide +kernel
theorem dL_law_1496 : decode cL_law 1496 = .ok (.iadd, 1) := by decide +kernel
theorem dL_law_1497 : decode cL_law 1497 = .ok (.iaload, 1) := by decide +kernel
theorem dL_law_1498 : decode cL_law 1498 = .ok (.aload_n 0, 1) := by decide +kernel
theorem dL_law_1499 : decode cL_law 1499 = .ok (.iload_n 3, 1) := by decide +kernel
theorem dL_law_1500 : decode cL_law 1500 = .ok (.iconst 2, 1) := by decide +kernel
theorem dL_law_1501 : decode cL_law 1501 = .ok (.iadd, 1) := by decide +kernel
theorem dL_law_1502 : decode cL_law 1502 = .ok (.iaload, 1) := by decide +kernel
theorem dL_law_1503 : decode cL_law 1503 = .ok (.invokevirtual 161, 3) := by decide +kernel
theorem dL_law_1506 : decode cL_law 1506 = .ok (.aload_n 2, 1) := by decide +kernel
theorem dL_law_1507 : decode cL_law 1507 = .ok (.aload_n 0, 1) := by decide +kernel
theorem dL_law_1508 : decode cL_law 1508 = .ok (.iload_n 3, 1) := by decide +kernel
theorem dL_law_1509 : decode cL_law 1509 = .ok (.iconst 1, 1) := by decide +kernel
theorem dL_law_1510 : decode cL_law 1510 = .ok (.iadd, 1) := by decide +kernel
theorem dL_law_1511 : decode cL_law 1511 = .ok (.iaload, 1) := by decide +kernel
theorem dL_law_1512 : decode cL_law 1512 = .ok (.aload_n 0, 1) := by decide +kernel
theorem dL_law_1513 : decode cL_law 1513 = .ok (.iload_n 3, 1) := by decide +kernel
theorem dL_law_1514 : decode cL_law 1514 = .ok (.iconst 2, 1) := by decide +kernel
theorem dL_law_1515 : decode cL_law 1515 = .ok (.iadd, 1) := by decide +kernel
theorem dL_law_1516 : decode cL_law 1516 = .ok (.iaload, 1) := by decide +kernel
theorem dL_law_1517 : decode cL_law 1517 = .ok (.invokevirtual 164, 3) := by decide +kernel
theorem dL_law_1520 : decode cL_law 1520 = .ok (.if_icmp .eq 54, 3) := by decide +kernel
theorem dL_law_1523 : decode cL_law 1523 = .ok (.iconst 0, 1) := by decide +kernel
theorem dL_law_1524 : decode cL_law 1524 = .ok (.ireturn, 1) := by decide +kernel
theorem dL_law_1525 : decode cL_law 1525 = .ok (.aload_n 1, 1) := by decide +kernel
theorem dL_law_1526 : decode cL_law 1526 = .ok (.invokevirtual 165, 3) := by decide +kernel
theorem dL_law_1529 : decode cL_law 1529 = .ok (.aload_n 2, 1) := by decide +kernel
theorem dL_law_1530 : decode cL_law 1530 = .ok (.invokevirtual 168, 3) := by decide +kernel
theorem dL_law_1533 : decode cL_law 1533 = .ok (.if_icmp .eq 41, 3) := by decide +kernel
theorem dL_law_1536 : decode cL_law 1536 = .ok (.iconst 0, 1) := by decide +kernel
theorem dL_law_1537 : decode cL_law 1537 = .ok (.ireturn, 1) := by decide +kernel
theorem dL_law_1538 : decode cL_law 1538 = .ok (.aload_n 1, 1) := by decide +kernel
theorem dL_law_1539 : decode cL_law 1539 = .ok (.invokevirtual 169, 3) := by decide +kernel
theorem dL_law_1542 : decode cL_law 1542 = .ok (.aload_n 2, 1) := by decide +kernel
theorem dL_law_1543 : decode cL_law 1543 = .ok (.invokevirtual 172, 3) := by decide +kernel
theorem dL_law_1546 : decode cL_law 1546 = .ok (.if_icmp .eq 28, 3) := by decide +kernel
theorem dL_law_1549 : decode cL_law 1549 = .ok (.iconst 0, 1) := by decide +kernel
theorem dL_law_1550 : decode cL_law 1550 = .ok (.ireturn, 1) := by decide +kernel
theorem dL_law_1551 : decode cL_law 1551 = .ok (.aload_n 1, 1) := by decide +kernel
theorem dL_law_1552 : decode cL_law 1552 = .ok (.aload_n 0, 1) := by decide +kernel
theorem dL_law_1553 : decode cL_law 1553 = .ok (.iload_n 3, 1) := by decide +kernel
theorem dL_law_1554 : decode cL_law 1554 = .ok (.iconst 1, 1) := by decide +kernel
theorem dL_law_1555 : decode cL_law 1555 = .ok (.iadd, 1) := by decide +kernel
theorem dL_law_1556 : decode cL_law 1556 = .ok (.iaload, 1) := by decide +kernel
theorem dL_law_1557 : decode cL_law 1557 = .ok (.invokevirtual 173, 3) := by decide +kernel
theorem dL_law_1560 : decode cL_law 1560 = .ok (.aload_n 2, 1) := by decide +kernel
theorem dL_law_1561 : decode cL_law 1561 = .ok (.aload_n 0, 1) := by decide +kernel
theorem dL_law_1562 : decode cL_law 1562 = .ok (.iload_n 3, 1) := by decide +kernel
theorem dL_law_1563 : decode cL_law 1563 = .ok (.iconst 1, 1) := by decide +kernel
theorem dL_law_1564 : decode cL_law 1564 = .ok (.iadd, 1) := by decide +kernel
theorem dL_law_1565 : decode cL_law 1565 = .ok (.iaload, 1) := by decide +kernel
theorem dL_law_1566 : decode cL_law 1566 = .ok (.invokevirtual 176, 3) := by decide +kernel
theorem dL_law_1569 : decode cL_law 1569 = .ok (.if_icmp .eq 5, 3) := by decide +kernel
theorem dL_law_1572 : decode cL_law 1572 = .ok (.iconst 0, 1) := by decide +kernel
theorem dL_law_1573 : decode cL_law 1573 = .ok (.ireturn, 1) := by decide +kernel
theorem dL_law_1574 : decode cL_law 1574 = .ok (.iinc 3 6, 3) := by decide +kernel
theorem dL_law_1577 : decode cL_law 1577 = .ok (.goto (-1559), 3) := by decide +kernel
theorem dL_law_1580 : decode cL_law 1580 = .ok (.iconst 1, 1) := by decide +kernel
theorem dL_law_1581 : decode cL_law 1581 = .ok (.ireturn, 1) := by decide +kernel
theorem dX0_init_0 : decode cX0_init 0 = .ok (.aload_n 0, 1) := by decide +kernel
theorem dX0_init_1 : decode cX0_init 1 = .ok (.invokespecial 3, 3) := by decide +kernel
theorem dX0_init_4 : decode cX0_init 4 = .ok (.aload_n 0, 1) := by decide +kernel
theorem dX0_init_5 : decode cX0_init 5 = .ok (.iconst 0, 1) := by decide +kernel
theorem dX0_init_6 : decode cX0_init 6 = .ok (.putfield 9, 3) := by decide +kernel
theorem dX0_init_9 : decode cX0_init 9 = .ok (.aload_n 0, 1) := by decide +kernel
theorem dX0_init_10 : decode cX0_init 10 = .ok (.bipush 10, 2) := by decide +kernel
theorem dX0_init_12 : decode cX0_init 12 = .ok (.newarray .int, 2) := by decide +kernel
theorem dX0_init_14 : decode cX0_init 14 = .ok (.putfield 15, 3) := by decide +kernel
theorem dX0_init_17 : decode cX0_init 17 = .ok (.return_, 1) := by decide +kernel
theorem dX0_isEmpty_0 : decode cX0_isEmpty 0 = .ok (.aload_n 0, 1) := by decide +kernel
theorem dX0_isEmpty_1 : decode cX0_isEmpty 1 = .ok (.getfield 9, 3) := by decide +kernel
theorem dX0_isEmpty_4 : decode cX0_isEmpty 4 = .ok (.ifCond .ne 7, 3) := by decide +kernel
theorem dX0_isEmpty_7 : decode cX0_isEmpty 7 = .ok (.iconst 1, 1) := by decide +kernel
theorem dX0_isEmpty_8 : decode cX0_isEmpty 8 = .ok (.goto 4, 3) := by decide +kernel
theorem dX0_isEmpty_11 : decode cX0_isEmpty 11 = .ok (.iconst 0, 1) := by decide +kernel
theorem dX0_isEmpty_12 : decode cX0_isEmpty 12 = .ok (.ireturn, 1) := by decide +kernel
theorem dX0_partSet_0 : decode cX0_partSet 0 = .ok (.aload_n 0, 1) := by decide +kernel
theorem dX0_partSet_1 : decode cX0_partSet 1 = .ok (.getfield 9, 3) := by decide +kernel
theorem dX0_partSet_4 : decode cX0_partSet 4 = .ok (.ireturn, 1) := by decide +kernel
theorem dX0_clear_0 : decode cX0_clear 0 = .ok (.aload_n 0, 1) := by decide +kernel
theorem dX0_clear_1 : decode cX0_clear 1 = .ok (.iconst 0, 1) := by decide +kernel
theorem dX0_clear_2 : decode cX0_clear 2 = .ok (.putfield 9, 3) := by decide +kernel
theorem dX0_clear_5 : decode cX0_clear 5 = .ok (.return_, 1) := by decide +kernel
theorem dX0_layPart_0 : decode cX0_layPart 0 = .ok (.aload_n 0, 1) := by decide +kernel
theorem dX0_layPart_1 : decode cX0_layPart 1 = .ok (.dup, 1) := by decide +kernel
theorem dX0_layPart_2 : decode cX0_layPart 2 = .ok (.getfield 9, 3) := by decide +kernel
theorem dX0_layPart_5 : decode cX0_layPart 5 = .ok (.iconst 1, 1) := by decide +kernel
theorem dX0_layPart_6 : decode cX0_layPart 6 = .ok (.iload_n 1, 1) := by decide +kernel
theorem dX0_layPart_7 : decode cX0_layPart 7 = .ok (.ishl, 1) := by decide +kernel
theorem dX0_layPart_8 : decode cX0_layPart 8 = .ok (.ior, 1) := by decide +kernel
theorem dX0_layPart_9 : decode cX0_layPart 9 = .ok (.putfield 9, 3) := by decide +kernel
theorem dX0_layPart_12 : decode cX0_layPart 12 = .ok (.aload_n 0, 1) := by decide +kernel
theorem dX0_layPart_13 : decode cX0_layPart 13 = .ok (.getfield 15, 3) := by decide +kernel
theorem dX0_layPart_16 : decode cX0_layPart 16 = .ok (.iload_n 1, 1) := by decide +kernel
theorem dX0_layPart_17 : decode cX0_layPart 17 = .ok (.iload_n 2, 1) := by decide +kernel
theorem dX0_layPart_18 : decode cX0_layPart 18 = .ok (.iastore, 1) := by decide +kernel
theorem dX0_layPart_19 : decode cX0_layPart 19 = .ok (.return_, 1) := by decide +kernel
theorem dX0_become_0 : decode cX0_become 0 = .ok (.aload_n 0, 1) := by decide +kernel
theorem dX0_become_1 : decode cX0_become 1 = .ok (.aload_n 1, 1) := by decide +kernel
theorem dX0_become_2 : decode cX0_become 2 = .ok (.getfield 9, 3) := by decide +kernel
theorem dX0_become_5 : decode cX0_become 5 = .ok (.putfield 9, 3) := by decide +kernel
theorem dX0_become_8 : decode cX0_become 8 = .ok (.aload_n 1, 1) := by decide +kernel
theorem dX0_become_9 : decode cX0_become 9 = .ok (.getfield 15, 3) := by decide +kernel
theorem dX0_become_12 : decode cX0_become 12 = .ok (.iconst 0, 1) := by decide +kernel
theorem dX0_become_13 : decode cX0_become 13 = .ok (.aload_n 0, 1) := by decide +kernel
theorem dX0_become_14 : decode cX0_become 14 = .ok (.getfield 15, 3) := by decide +kernel
theorem dX0_become_17 : decode cX0_become 17 = .ok (.iconst 0, 1) := by decide +kernel
end
section
theorem dX0_become_18 : decode cX0_become 18 = .ok (.bipush 10, 2) := by decide +kernel
theorem dX0_become_20 : decode cX0_become 20 = .ok (.invokestatic 19, 3) := by decide +kernel
theorem dX0_become_23 : decode cX0_become 23 = .ok (.return_, 1) := by decide +kernel
theorem dX0_hasPart_0 : decode cX0_hasPart 0 = .ok (.aload_n 0, 1) := by decide +kernel
theorem dX0_hasPart_1 : decode cX0_hasPart 1 = .ok (.getfield 9, 3) := by decide +kernel
theorem dX0_hasPart_4 : decode cX0_hasPart 4 = .ok (.iload_n 1, 1) := by decide +kernel
theorem dX0_hasPart_5 : decode cX0_hasPart 5 = .ok (.ishr, 1) := by decide +kernel
theorem dX0_hasPart_6 : decode cX0_hasPart 6 = .ok (.iconst 1, 1) := by decide +kernel
theorem dX0_hasPart_7 : decode cX0_hasPart 7 = .ok (.iand, 1) := by decide +kernel
theorem dX0_hasPart_8 : decode cX0_hasPart 8 = .ok (.iconst 1, 1) := by decide +kernel
theorem dX0_hasPart_9 : decode cX0_hasPart 9 = .ok (.if_icmp .ne 7, 3) := by decide +kernel
theorem dX0_hasPart_12 : decode cX0_hasPart 12 = .ok (.iconst 1, 1) := by decide +kernel
theorem dX0_hasPart_13 : decode cX0_hasPart 13 = .ok (.goto 4, 3) := by decide +kernel
theorem dX0_hasPart_16 : decode cX0_hasPart 16 = .ok (.iconst 0, 1) := by decide +kernel
theorem dX0_hasPart_17 : decode cX0_hasPart 17 = .ok (.ireturn, 1) := by decide +kernel
theorem dX0_placeOf_0 : decode cX0_placeOf 0 = .ok (.aload_n 0, 1) := by decide +kernel
theorem dX0_placeOf_1 : decode cX0_placeOf 1 = .ok (.iload_n 1, 1) := by decide +kernel
theorem dX0_placeOf_2 : decode cX0_placeOf 2 = .ok (.invokevirtual 25, 3) := by decide +kernel
theorem dX0_placeOf_5 : decode cX0_placeOf 5 = .ok (.ifCond .eq 12, 3) := by decide +kernel
theorem dX0_placeOf_8 : decode cX0_placeOf 8 = .ok (.aload_n 0, 1) := by decide +kernel
theorem dX0_placeOf_9 : decode cX0_placeOf 9 = .ok (.getfield 15, 3) := by decide +kernel
theorem dX0_placeOf_12 : decode cX0_placeOf 12 = .ok (.iload_n 1, 1) := by decide +kernel
theorem dX0_placeOf_13 : decode cX0_placeOf 13 = .ok (.iaload, 1) := by decide +kernel
theorem dX0_placeOf_14 : decode cX0_placeOf 14 = .ok (.goto 5, 3) := by decide +kernel
theorem dX0_placeOf_17 : decode cX0_placeOf 17 = .ok (.bipush (-9), 2) := by decide +kernel
theorem dX0_placeOf_19 : decode cX0_placeOf 19 = .ok (.ireturn, 1) := by decide +kernel
theorem dX0_partAt_0 : decode cX0_partAt 0 = .ok (.iconst 0, 1) := by decide +kernel
theorem dX0_partAt_1 : decode cX0_partAt 1 = .ok (.istore_n 2, 1) := by decide +kernel
theorem dX0_partAt_2 : decode cX0_partAt 2 = .ok (.iload_n 2, 1) := by decide +kernel
theorem dX0_partAt_3 : decode cX0_partAt 3 = .ok (.bipush 10, 2) := by decide +kernel
theorem dX0_partAt_5 : decode cX0_partAt 5 = .ok (.if_icmp .ge 29, 3) := by decide +kernel
theorem dX0_partAt_8 : decode cX0_partAt 8 = .ok (.aload_n 0, 1) := by decide +kernel
theorem dX0_partAt_9 : decode cX0_partAt 9 = .ok (.iload_n 2, 1) := by decide +kernel
theorem dX0_partAt_10 : decode cX0_partAt 10 = .ok (.invokevirtual 25, 3) := by decide +kernel
theorem dX0_partAt_13 : decode cX0_partAt 13 = .ok (.ifCond .eq 15, 3) := by decide +kernel
theorem dX0_partAt_16 : decode cX0_partAt 16 = .ok (.aload_n 0, 1) := by decide +kernel
theorem dX0_partAt_17 : decode cX0_partAt 17 = .ok (.getfield 15, 3) := by decide +kernel
theorem dX0_partAt_20 : decode cX0_partAt 20 = .ok (.iload_n 2, 1) := by decide +kernel
theorem dX0_partAt_21 : decode cX0_partAt 21 = .ok (.iaload, 1) := by decide +kernel
theorem dX0_partAt_22 : decode cX0_partAt 22 = .ok (.iload_n 1, 1) := by decide +kernel
theorem dX0_partAt_23 : decode cX0_partAt 23 = .ok (.if_icmp .ne 5, 3) := by decide +kernel
theorem dX0_partAt_26 : decode cX0_partAt 26 = .ok (.iload_n 2, 1) := by decide +kernel
theorem dX0_partAt_27 : decode cX0_partAt 27 = .ok (.ireturn, 1) := by decide +kernel
theorem dX0_partAt_28 : decode cX0_partAt 28 = .ok (.iinc 2 1, 3) := by decide +kernel
theorem dX0_partAt_31 : decode cX0_partAt 31 = .ok (.goto (-29), 3) := by decide +kernel
theorem dX0_partAt_34 : decode cX0_partAt 34 = .ok (.bipush (-9), 2) := by decide +kernel
theorem dX0_partAt_36 : decode cX0_partAt 36 = .ok (.ireturn, 1) := by decide +kernel
theorem dX0_priceBy_0 : decode cX0_priceBy 0 = .ok (.iconst 0, 1) := by decide +kernel
theorem dX0_priceBy_1 : decode cX0_priceBy 1 = .ok (.istore_n 2, 1) := by decide +kernel
theorem dX0_priceBy_2 : decode cX0_priceBy 2 = .ok (.iconst 0, 1) := by decide +kernel
theorem dX0_priceBy_3 : decode cX0_priceBy 3 = .ok (.istore_n 3, 1) := by decide +kernel
theorem dX0_priceBy_4 : decode cX0_priceBy 4 = .ok (.iload_n 3, 1) := by decide +kernel
theorem dX0_priceBy_5 : decode cX0_priceBy 5 = .ok (.aload_n 1, 1) := by decide +kernel
theorem dX0_priceBy_6 : decode cX0_priceBy 6 = .ok (.getfield 29, 3) := by decide +kernel
theorem dX0_priceBy_9 : decode cX0_priceBy 9 = .ok (.if_icmp .ge 68, 3) := by decide +kernel
theorem dX0_priceBy_12 : decode cX0_priceBy 12 = .ok (.iconst 0, 1) := by decide +kernel
theorem dX0_priceBy_13 : decode cX0_priceBy 13 = .ok (.istore 4, 2) := by decide +kernel
theorem dX0_priceBy_15 : decode cX0_priceBy 15 = .ok (.iload 4, 2) := by decide +kernel
theorem dX0_priceBy_17 : decode cX0_priceBy 17 = .ok (.iload_n 3, 1) := by decide +kernel
theorem dX0_priceBy_18 : decode cX0_priceBy 18 = .ok (.if_icmp .ge 53, 3) := by decide +kernel
theorem dX0_priceBy_21 : decode cX0_priceBy 21 = .ok (.aload_n 0, 1) := by decide +kernel
theorem dX0_priceBy_22 : decode cX0_priceBy 22 = .ok (.iload 4, 2) := by decide +kernel
theorem dX0_priceBy_24 : decode cX0_priceBy 24 = .ok (.invokevirtual 25, 3) := by decide +kernel
theorem dX0_priceBy_27 : decode cX0_priceBy 27 = .ok (.ifCond .eq 38, 3) := by decide +kernel
theorem dX0_priceBy_30 : decode cX0_priceBy 30 = .ok (.aload_n 0, 1) := by decide +kernel
theorem dX0_priceBy_31 : decode cX0_priceBy 31 = .ok (.iload_n 3, 1) := by decide +kernel
theorem dX0_priceBy_32 : decode cX0_priceBy 32 = .ok (.invokevirtual 25, 3) := by decide +kernel
theorem dX0_priceBy_35 : decode cX0_priceBy 35 = .ok (.ifCond .eq 30, 3) := by decide +kernel
theorem dX0_priceBy_38 : decode cX0_priceBy 38 = .ok (.iload_n 2, 1) := by decide +kernel
theorem dX0_priceBy_39 : decode cX0_priceBy 39 = .ok (.aload_n 1, 1) := by decide +kernel
theorem dX0_priceBy_40 : decode cX0_priceBy 40 = .ok (.iload 4, 2) := by decide +kernel
theorem dX0_priceBy_42 : decode cX0_priceBy 42 = .ok (.iload_n 3, 1) := by decide +kernel
theorem dX0_priceBy_43 : decode cX0_priceBy 43 = .ok (.invokevirtual 34, 3) := by decide +kernel
theorem dX0_priceBy_46 : decode cX0_priceBy 46 = .ok (.aload_n 0, 1) := by decide +kernel
theorem dX0_priceBy_47 : decode cX0_priceBy 47 = .ok (.getfield 15, 3) := by decide +kernel
theorem dX0_priceBy_50 : decode cX0_priceBy 50 = .ok (.iload 4, 2) := by decide +kernel
theorem dX0_priceBy_52 : decode cX0_priceBy 52 = .ok (.iaload, 1) := by decide +kernel
theorem dX0_priceBy_53 : decode cX0_priceBy 53 = .ok (.aload_n 0, 1) := by decide +kernel
theorem dX0_priceBy_54 : decode cX0_priceBy 54 = .ok (.getfield 15, 3) := by decide +kernel
theorem dX0_priceBy_57 : decode cX0_priceBy 57 = .ok (.iload_n 3, 1) := by decide +kernel
theorem dX0_priceBy_58 : decode cX0_priceBy 58 = .ok (.iaload, 1) := by decide +kernel
theorem dX0_priceBy_59 : decode cX0_priceBy 59 = .ok (.invokestatic 38, 3) := by decide +kernel
theorem dX0_priceBy_62 : decode cX0_priceBy 62 = .ok (.imul, 1) := by decide +kernel
theorem dX0_priceBy_63 : decode cX0_priceBy 63 = .ok (.iadd, 1) := by decide +kernel
theorem dX0_priceBy_64 : decode cX0_priceBy 64 = .ok (.istore_n 2, 1) := by decide +kernel
theorem dX0_priceBy_65 : decode cX0_priceBy 65 = .ok (.iinc 4 1, 3) := by decide +kernel
theorem dX0_priceBy_68 : decode cX0_priceBy 68 = .ok (.goto (-53), 3) := by decide +kernel
theorem dX0_priceBy_71 : decode cX0_priceBy 71 = .ok (.iinc 3 1, 3) := by decide +kernel
theorem dX0_priceBy_74 : decode cX0_priceBy 74 = .ok (.goto (-70), 3) := by decide +kernel
theorem dX0_priceBy_77 : decode cX0_priceBy 77 = .ok (.iload_n 2, 1) := by decide +kernel
theorem dX0_priceBy_78 : decode cX0_priceBy 78 = .ok (.ireturn, 1) := by decide +kernel
theorem dX0_errorOf_0 : decode cX0_errorOf 0 = .ok (.aload_n 0, 1) := by decide +kernel
theorem dX0_errorOf_1 : decode cX0_errorOf 1 = .ok (.iload_n 1, 1) := by decide +kernel
theorem dX0_errorOf_2 : decode cX0_errorOf 2 = .ok (.invokevirtual 25, 3) := by decide +kernel
theorem dX0_errorOf_5 : decode cX0_errorOf 5 = .ok (.ifCond .ne 6, 3) := by decide +kernel
theorem dX0_errorOf_8 : decode cX0_errorOf 8 = .ok (.bipush (-9), 2) := by decide +kernel
theorem dX0_errorOf_10 : decode cX0_errorOf 10 = .ok (.ireturn, 1) := by decide +kernel
theorem dX0_errorOf_11 : decode cX0_errorOf 11 = .ok (.bipush 10, 2) := by decide +kernel
theorem dX0_errorOf_13 : decode cX0_errorOf 13 = .ok (.aload_n 0, 1) := by decide +kernel
theorem dX0_errorOf_14 : decode cX0_errorOf 14 = .ok (.getfield 15, 3) := by decide +kernel
theorem dX0_errorOf_17 : decode cX0_errorOf 17 = .ok (.iload_n 1, 1) := by decide +kernel
theorem dX0_errorOf_18 : decode cX0_errorOf 18 = .ok (.iaload, 1) := by decide +kernel
theorem dX0_errorOf_19 : decode cX0_errorOf 19 = .ok (.invokestatic 41, 3) := by decide +kernel
theorem dX0_errorOf_22 : decode cX0_errorOf 22 = .ok (.imul, 1) := by decide +kernel
theorem dX0_errorOf_23 : decode cX0_errorOf 23 = .ok (.iconst 5, 1) := by decide +kernel
theorem dX0_errorOf_24 : decode cX0_errorOf 24 = .ok (.iadd, 1) := by decide +kernel
theorem dX0_errorOf_25 : decode cX0_errorOf 25 = .ok (.istore 4, 2) := by decide +kernel
theorem dX0_errorOf_27 : decode cX0_errorOf 27 = .ok (.bipush 10, 2) := by decide +kernel
theorem dX0_errorOf_29 : decode cX0_errorOf 29 = .ok (.aload_n 0, 1) := by decide +kernel
theorem dX0_errorOf_30 : decode cX0_errorOf 30 = .ok (.getfield 15, 3) := by decide +kernel
theorem dX0_errorOf_33 : decode cX0_errorOf 33 = .ok (.iload_n 1, 1) := by decide +kernel
theorem dX0_errorOf_34 : decode cX0_errorOf 34 = .ok (.iaload, 1) := by decide +kernel
theorem dX0_errorOf_35 : decode cX0_errorOf 35 = .ok (.invokestatic 45, 3) := by decide +kernel
theorem dX0_errorOf_38 : decode cX0_errorOf 38 = .ok (.imul, 1) := by decide +kernel
theorem dX0_errorOf_39 : decode cX0_errorOf 39 = .ok (.iconst 5, 1) := by decide +kernel
theorem dX0_errorOf_40 : decode cX0_errorOf 40 = .ok (.iadd, 1) := by decide +kernel
theorem dX0_errorOf_41 : decode cX0_errorOf 41 = .ok (.istore 5, 2) := by decide +kernel
theorem dX0_errorOf_43 : decode cX0_errorOf 43 = .ok (.iload_n 2, 1) := by decide +kernel
theorem dX0_errorOf_44 : decode cX0_errorOf 44 = .ok (.iload 4, 2) := by decide +kernel
theorem dX0_errorOf_46 : decode cX0_errorOf 46 = .ok (.isub, 1) := by decide +kernel
theorem dX0_errorOf_47 : decode cX0_errorOf 47 = .ok (.invokestatic 48, 3) := by decide +kernel
theorem dX0_errorOf_50 : decode cX0_errorOf 50 = .ok (.iload_n 3, 1) := by decide +kernel
theorem dX0_errorOf_51 : decode cX0_errorOf 51 = .ok (.iload 5, 2) := by decide +kernel
theorem dX0_errorOf_53 : decode cX0_errorOf 53 = .ok (.isub, 1) := by decide +kernel
theorem dX0_errorOf_54 : decode cX0_errorOf 54 = .ok (.invokestatic 48, 3) := by decide +kernel
theorem dX0_errorOf_57 : decode cX0_errorOf 57 = .ok (.invokestatic 53, 3) := by decide +kernel
theorem dX0_errorOf_60 : decode cX0_errorOf 60 = .ok (.iconst 5, 1) := by decide +kernel
theorem dX0_errorOf_61 : decode cX0_errorOf 61 = .ok (.idiv, 1) := by decide +kernel
theorem dX0_errorOf_62 : decode cX0_errorOf 62 = .ok (.ireturn, 1) := by decide +kernel
theorem dX0_wayBetween_0 : decode cX0_wayBetween 0 = .ok (.iload_n 0, 1) := by decide +kernel
theorem dX0_wayBetween_1 : decode cX0_wayBetween 1 = .ok (.invokestatic 41, 3) := by decide +kernel
theorem dX0_wayBetween_4 : decode cX0_wayBetween 4 = .ok (.iload_n 1, 1) := by decide +kernel
theorem dX0_wayBetween_5 : decode cX0_wayBetween 5 = .ok (.invokestatic 41, 3) := by decide +kernel
theorem dX0_wayBetween_8 : decode cX0_wayBetween 8 = .ok (.isub, 1) := by decide +kernel
theorem dX0_wayBetween_9 : decode cX0_wayBetween 9 = .ok (.invokestatic 48, 3) := by decide +kernel
theorem dX0_wayBetween_12 : decode cX0_wayBetween 12 = .ok (.iload_n 0, 1) := by decide +kernel
theorem dX0_wayBetween_13 : decode cX0_wayBetween 13 = .ok (.invokestatic 45, 3) := by decide +kernel
theorem dX0_wayBetween_16 : decode cX0_wayBetween 16 = .ok (.iload_n 1, 1) := by decide +kernel
theorem dX0_wayBetween_17 : decode cX0_wayBetween 17 = .ok (.invokestatic 45, 3) := by decide +kernel
theorem dX0_wayBetween_20 : decode cX0_wayBetween 20 = .ok (.isub, 1) := by decide +kernel
theorem dX0_wayBetween_21 : decode cX0_wayBetween 21 = .ok (.invokestatic 48, 3) := by decide +kernel
theorem dX0_wayBetween_24 : decode cX0_wayBetween 24 = .ok (.iadd, 1) := by decide +kernel
theorem dX0_wayBetween_25 : decode cX0_wayBetween 25 = .ok (.ireturn, 1) := by decide +kernel
theorem dX0_apart_0 : decode cX0_apart 0 = .ok (.iload_n 0, 1) := by decide +kernel
theorem dX0_apart_1 : decode cX0_apart 1 = .ok (.invokestatic 41, 3) := by decide +kernel
theorem dX0_apart_4 : decode cX0_apart 4 = .ok (.iload_n 1, 1) := by decide +kernel
theorem dX0_apart_5 : decode cX0_apart 5 = .ok (.invokestatic 41, 3) := by decide +kernel
theorem dX0_apart_8 : decode cX0_apart 8 = .ok (.isub, 1) := by decide +kernel
theorem dX0_apart_9 : decode cX0_apart 9 = .ok (.invokestatic 48, 3) := by decide +kernel
theorem dX0_apart_12 : decode cX0_apart 12 = .ok (.iload_n 0, 1) := by decide +kernel
theorem dX0_apart_13 : decode cX0_apart 13 = .ok (.invokestatic 45, 3) := by decide +kernel
theorem dX0_apart_16 : decode cX0_apart 16 = .ok (.iload_n 1, 1) := by decide +kernel
theorem dX0_apart_17 : decode cX0_apart 17 = .ok (.invokestatic 45, 3) := by decide +kernel
theorem dX0_apart_20 : decode cX0_apart 20 = .ok (.isub, 1) := by decide +kernel
theorem dX0_apart_21 : decode cX0_apart 21 = .ok (.invokestatic 48, 3) := by decide +kernel
theorem dX0_apart_24 : decode cX0_apart 24 = .ok (.invokestatic 53, 3) := by decide +kernel
theorem dX0_apart_27 : decode cX0_apart 27 = .ok (.ireturn, 1) := by decide +kernel
theorem dX1_init_0 : decode cX1_init 0 = .ok (.aload_n 0, 1) := by decide +kernel
theorem dX1_init_1 : decode cX1_init 1 = .ok (.invokespecial 3, 3) := by decide +kernel
theorem dX1_init_4 : decode cX1_init 4 = .ok (.aload_n 0, 1) := by decide +kernel
theorem dX1_init_5 : decode cX1_init 5 = .ok (.bipush 20, 2) := by decide +kernel
theorem dX1_init_7 : decode cX1_init 7 = .ok (.newarray .int, 2) := by decide +kernel
theorem dX1_init_9 : decode cX1_init 9 = .ok (.putfield 11, 3) := by decide +kernel
theorem dX1_init_12 : decode cX1_init 12 = .ok (.aload_n 0, 1) := by decide +kernel
theorem dX1_init_13 : decode cX1_init 13 = .ok (.bipush 20, 2) := by decide +kernel
theorem dX1_init_15 : decode cX1_init 15 = .ok (.newarray .int, 2) := by decide +kernel
theorem dX1_init_17 : decode cX1_init 17 = .ok (.putfield 15, 3) := by decide +kernel
theorem dX1_init_20 : decode cX1_init 20 = .ok (.aload_n 0, 1) := by decide +kernel
theorem dX1_init_21 : decode cX1_init 21 = .ok (.bipush 10, 2) := by decide +kernel
theorem dX1_init_23 : decode cX1_init 23 = .ok (.newarray .int, 2) := by decide +kernel
theorem dX1_init_25 : decode cX1_init 25 = .ok (.putfield 18, 3) := by decide +kernel
theorem dX1_init_28 : decode cX1_init 28 = .ok (.aload_n 0, 1) := by decide +kernel
theorem dX1_init_29 : decode cX1_init 29 = .ok (.iconst 0, 1) := by decide +kernel
theorem dX1_init_30 : decode cX1_init 30 = .ok (.putfield 21, 3) := by decide +kernel
theorem dX1_init_33 : decode cX1_init 33 = .ok (.return_, 1) := by decide +kernel
theorem dX1_build_0 : decode cX1_build 0 = .ok (.aload_n 0, 1) := by decide +kernel
theorem dX1_build_1 : decode cX1_build 1 = .ok (.iconst 0, 1) := by decide +kernel
theorem dX1_build_2 : decode cX1_build 2 = .ok (.putfield 21, 3) := by decide +kernel
theorem dX1_build_5 : decode cX1_build 5 = .ok (.iconst 0, 1) := by decide +kernel
theorem dX1_build_6 : decode cX1_build 6 = .ok (.istore 4, 2) := by decide +kernel
theorem dX1_build_8 : decode cX1_build 8 = .ok (.iload 4, 2) := by decide +kernel
theorem dX1_build_10 : decode cX1_build 10 = .ok (.bipush 10, 2) := by decide +kernel
theorem dX1_build_12 : decode cX1_build 12 = .ok (.if_icmp .ge 59, 3) := by decide +kernel
theorem dX1_build_15 : decode cX1_build 15 = .ok (.aload_n 0, 1) := by decide +kernel
theorem dX1_build_16 : decode cX1_build 16 = .ok (.getfield 18, 3) := by decide +kernel
theorem dX1_build_19 : decode cX1_build 19 = .ok (.iload 4, 2) := by decide +kernel
theorem dX1_build_21 : decode cX1_build 21 = .ok (.bipush (-9), 2) := by decide +kernel
theorem dX1_build_23 : decode cX1_build 23 = .ok (.iastore, 1) := by decide +kernel
theorem dX1_build_24 : decode cX1_build 24 = .ok (.iload 4, 2) := by decide +kernel
theorem dX1_build_26 : decode cX1_build 26 = .ok (.aload_n 1, 1) := by decide +kernel
theorem dX1_build_27 : decode cX1_build 27 = .ok (.getfield 25, 3) := by decide +kernel
theorem dX1_build_30 : decode cX1_build 30 = .ok (.if_icmp .ge 35, 3) := by decide +kernel
theorem dX1_build_33 : decode cX1_build 33 = .ok (.iload_n 2, 1) := by decide +kernel
theorem dX1_build_34 : decode cX1_build 34 = .ok (.iload 4, 2) := by decide +kernel
theorem dX1_build_36 : decode cX1_build 36 = .ok (.ishr, 1) := by decide +kernel
theorem dX1_build_37 : decode cX1_build 37 = .ok (.iconst 1, 1) := by decide +kernel
theorem dX1_build_38 : decode cX1_build 38 = .ok (.iand, 1) := by decide +kernel
theorem dX1_build_39 : decode cX1_build 39 = .ok (.iconst 1, 1) := by decide +kernel
theorem dX1_build_40 : decode cX1_build 40 = .ok (.if_icmp .ne 25, 3) := by decide +kernel
theorem dX1_build_43 : decode cX1_build 43 = .ok (.aload_n 0, 1) := by decide +kernel
theorem dX1_build_44 : decode cX1_build 44 = .ok (.getfield 18, 3) := by decide +kernel
theorem dX1_build_47 : decode cX1_build 47 = .ok (.iload 4, 2) := by decide +kernel
theorem dX1_build_49 : decode cX1_build 49 = .ok (.aload_n 0, 1) := by decide +kernel
theorem dX1_build_50 : decode cX1_build 50 = .ok (.getfield 21, 3) := by decide +kernel
theorem dX1_build_53 : decode cX1_build 53 = .ok (.iastore, 1) := by decide +kernel
theorem dX1_build_54 : decode cX1_build 54 = .ok (.aload_n 0, 1) := by decide +kernel
theorem dX1_build_55 : decode cX1_build 55 = .ok (.aload_n 1, 1) := by decide +kernel
theorem dX1_build_56 : decode cX1_build 56 = .ok (.getfield 30, 3) := by decide +kernel
theorem dX1_build_59 : decode cX1_build 59 = .ok (.iload 4, 2) := by decide +kernel
theorem dX1_build_61 : decode cX1_build 61 = .ok (.iaload, 1) := by decide +kernel
theorem dX1_build_62 : decode cX1_build 62 = .ok (.invokevirtual 33, 3) := by decide +kernel
theorem dX1_build_65 : decode cX1_build 65 = .ok (.iinc 4 1, 3) := by decide +kernel
theorem dX1_build_68 : decode cX1_build 68 = .ok (.goto (-60), 3) := by decide +kernel
theorem dX1_build_71 : decode cX1_build 71 = .ok (.aload_n 0, 1) := by decide +kernel
theorem dX1_build_72 : decode cX1_build 72 = .ok (.getfield 21, 3) := by decide +kernel
theorem dX1_build_75 : decode cX1_build 75 = .ok (.istore 4, 2) := by decide +kernel
theorem dX1_build_77 : decode cX1_build 77 = .ok (.iload 4, 2) := by decide +kernel
theorem dX1_build_79 : decode cX1_build 79 = .ok (.iconst 2, 1) := by decide +kernel
theorem dX1_build_80 : decode cX1_build 80 = .ok (.if_icmp .lt 8, 3) := by decide +kernel
theorem dX1_build_83 : decode cX1_build 83 = .ok (.iload_n 3, 1) := by decide +kernel
theorem dX1_build_84 : decode cX1_build 84 = .ok (.iconst 2, 1) := by decide +kernel
theorem dX1_build_85 : decode cX1_build 85 = .ok (.if_icmp .ge 7, 3) := by decide +kernel
theorem dX1_build_88 : decode cX1_build 88 = .ok (.iconst 1, 1) := by decide +kernel
theorem dX1_build_89 : decode cX1_build 89 = .ok (.goto 13, 3) := by decide +kernel
theorem dX1_build_92 : decode cX1_build 92 = .ok (.iconst 2, 1) := by decide +kernel
theorem dX1_build_93 : decode cX1_build 93 = .ok (.iload 4, 2) := by decide +kernel
theorem dX1_build_95 : decode cX1_build 95 = .ok (.iconst 2, 1) := by decide +kernel
theorem dX1_build_96 : decode cX1_build 96 = .ok (.isub, 1) := by decide +kernel
theorem dX1_build_97 : decode cX1_build 97 = .ok (.iload_n 3, 1) := by decide +kernel
theorem dX1_build_98 : decode cX1_build 98 = .ok (.iconst 1, 1) := by decide +kernel
theorem dX1_build_99 : decode cX1_build 99 = .ok (.isub, 1) := by decide +kernel
theorem dX1_build_100 : decode cX1_build 100 = .ok (.irem, 1) := by decide +kernel
theorem dX1_build_101 : decode cX1_build 101 = .ok (.iadd, 1) := by decide +kernel
theorem dX1_build_102 : decode cX1_build 102 = .ok (.istore 5, 2) := by decide +kernel
theorem dX1_build_104 : decode cX1_build 104 = .ok (.aload_n 0, 1) := by decide +kernel
theorem dX1_build_105 : decode cX1_build 105 = .ok (.iload 5, 2) := by decide +kernel
theorem dX1_build_107 : decode cX1_build 107 = .ok (.invokevirtual 37, 3) := by decide +kernel
theorem dX1_build_110 : decode cX1_build 110 = .ok (.iload 4, 2) := by decide +kernel
theorem dX1_build_112 : decode cX1_build 112 = .ok (.iload 5, 2) := by decide +kernel
theorem dX1_build_114 : decode cX1_build 114 = .ok (.iconst 1, 1) := by decide +kernel
theorem dX1_build_115 : decode cX1_build 115 = .ok (.isub, 1) := by decide +kernel
theorem dX1_build_116 : decode cX1_build 116 = .ok (.isub, 1) := by decide +kernel
theorem dX1_build_117 : decode cX1_build 117 = .ok (.istore 4, 2) := by decide +kernel
theorem dX1_build_119 : decode cX1_build 119 = .ok (.iconst 0, 1) := by decide +kernel
theorem dX1_build_120 : decode cX1_build 120 = .ok (.istore 6, 2) := by decide +kernel
theorem dX1_build_122 : decode cX1_build 122 = .ok (.iload 6, 2) := by decide +kernel
theorem dX1_build_124 : decode cX1_build 124 = .ok (.bipush 10, 2) := by decide +kernel
theorem dX1_build_126 : decode cX1_build 126 = .ok (.if_icmp .ge 28, 3) := by decide +kernel
theorem dX1_build_129 : decode cX1_build 129 = .ok (.iload 4, 2) := by decide +kernel
theorem dX1_build_131 : decode cX1_build 131 = .ok (.iconst 1, 1) := by decide +kernel
theorem dX1_build_132 : decode cX1_build 132 = .ok (.if_icmp .le 22, 3) := by decide +kernel
theorem dX1_build_135 : decode cX1_build 135 = .ok (.aload_n 0, 1) := by decide +kernel
theorem dX1_build_136 : decode cX1_build 136 = .ok (.iload_n 3, 1) := by decide +kernel
theorem dX1_build_137 : decode cX1_build 137 = .ok (.invokevirtual 37, 3) := by decide +kernel
theorem dX1_build_140 : decode cX1_build 140 = .ok (.iload 4, 2) := by decide +kernel
theorem dX1_build_142 : decode cX1_build 142 = .ok (.iload_n 3, 1) := by decide +kernel
theorem dX1_build_143 : decode cX1_build 143 = .ok (.iconst 1, 1) := by decide +kernel
theorem dX1_build_144 : decode cX1_build 144 = .ok (.isub, 1) := by decide +kernel
theorem dX1_build_145 : decode cX1_build 145 = .ok (.isub, 1) := by decide +kernel
theorem dX1_build_146 : decode cX1_build 146 = .ok (.istore 4, 2) := by decide +kernel
theorem dX1_build_148 : decode cX1_build 148 = .ok (.iinc 6 1, 3) := by decide +kernel
theorem dX1_build_151 : decode cX1_build 151 = .ok (.goto (-29), 3) := by decide +kernel
theorem dX1_build_154 : decode cX1_build 154 = .ok (.return_, 1) := by decide +kernel
theorem dX1_addNode_0 : decode cX1_addNode 0 = .ok (.aload_n 0, 1) := by decide +kernel
theorem dX1_addNode_1 : decode cX1_addNode 1 = .ok (.getfield 21, 3) := by decide +kernel
theorem dX1_addNode_4 : decode cX1_addNode 4 = .ok (.bipush 20, 2) := by decide +kernel
theorem dX1_addNode_6 : decode cX1_addNode 6 = .ok (.if_icmp .ge 33, 3) := by decide +kernel
theorem dX1_addNode_9 : decode cX1_addNode 9 = .ok (.aload_n 0, 1) := by decide +kernel
theorem dX1_addNode_10 : decode cX1_addNode 10 = .ok (.getfield 11, 3) := by decide +kernel
theorem dX1_addNode_13 : decode cX1_addNode 13 = .ok (.aload_n 0, 1) := by decide +kernel
theorem dX1_addNode_14 : decode cX1_addNode 14 = .ok (.getfield 21, 3) := by decide +kernel
theorem dX1_addNode_17 : decode cX1_addNode 17 = .ok (.iload_n 1, 1) := by decide +kernel
theorem dX1_addNode_18 : decode cX1_addNode 18 = .ok (.iastore, 1) := by decide +kernel
theorem dX1_addNode_19 : decode cX1_addNode 19 = .ok (.aload_n 0, 1) := by decide +kernel
theorem dX1_addNode_20 : decode cX1_addNode 20 = .ok (.getfield 15, 3) := by decide +kernel
theorem dX1_addNode_23 : decode cX1_addNode 23 = .ok (.aload_n 0, 1) := by decide +kernel
theorem dX1_addNode_24 : decode cX1_addNode 24 = .ok (.getfield 21, 3) := by decide +kernel
theorem dX1_addNode_27 : decode cX1_addNode 27 = .ok (.iconst (-1), 1) := by decide +kernel
theorem dX1_addNode_28 : decode cX1_addNode 28 = .ok (.iastore, 1) := by decide +kernel
theorem dX1_addNode_29 : decode cX1_addNode 29 = .ok (.aload_n 0, 1) := by decide +kernel
theorem dX1_addNode_30 : decode cX1_addNode 30 = .ok (.dup, 1) := by decide +kernel
theorem dX1_addNode_31 : decode cX1_addNode 31 = .ok (.getfield 21, 3) := by decide +kernel
theorem dX1_addNode_34 : decode cX1_addNode 34 = .ok (.iconst 1, 1) := by decide +kernel
theorem dX1_addNode_35 : decode cX1_addNode 35 = .ok (.iadd, 1) := by decide +kernel
theorem dX1_addNode_36 : decode cX1_addNode 36 = .ok (.putfield 21, 3) := by decide +kernel
theorem dX1_addNode_39 : decode cX1_addNode 39 = .ok (.return_, 1) := by decide +kernel
theorem dX1_joinLeast_0 : decode cX1_joinLeast 0 = .ok (.aload_n 0, 1) := by decide +kernel
theorem dX1_joinLeast_1 : decode cX1_joinLeast 1 = .ok (.getfield 21, 3) := by decide +kernel
theorem dX1_joinLeast_4 : decode cX1_joinLeast 4 = .ok (.istore_n 2, 1) := by decide +kernel
theorem dX1_joinLeast_5 : decode cX1_joinLeast 5 = .ok (.iconst 0, 1) := by decide +kernel
theorem dX1_joinLeast_6 : decode cX1_joinLeast 6 = .ok (.istore_n 3, 1) := by decide +kernel
theorem dX1_joinLeast_7 : decode cX1_joinLeast 7 = .ok (.iconst 0, 1) := by decide +kernel
theorem dX1_joinLeast_8 : decode cX1_joinLeast 8 = .ok (.istore 4, 2) := by decide +kernel
theorem dX1_joinLeast_10 : decode cX1_joinLeast 10 = .ok (.iload 4, 2) := by decide +kernel
theorem dX1_joinLeast_12 : decode cX1_joinLeast 12 = .ok (.iload_n 1, 1) := by decide +kernel
theorem dX1_joinLeast_13 : decode cX1_joinLeast 13 = .ok (.if_icmp .ge 40, 3) := by decide +kernel
theorem dX1_joinLeast_16 : decode cX1_joinLeast 16 = .ok (.aload_n 0, 1) := by decide +kernel
theorem dX1_joinLeast_17 : decode cX1_joinLeast 17 = .ok (.invokevirtual 40, 3) := by decide +kernel
theorem dX1_joinLeast_20 : decode cX1_joinLeast 20 = .ok (.istore 5, 2) := by decide +kernel
theorem dX1_joinLeast_22 : decode cX1_joinLeast 22 = .ok (.iload 5, 2) := by decide +kernel
theorem dX1_joinLeast_24 : decode cX1_joinLeast 24 = .ok (.bipush (-9), 2) := by decide +kernel
theorem dX1_joinLeast_26 : decode cX1_joinLeast 26 = .ok (.if_icmp .eq 21, 3) := by decide +kernel
theorem dX1_joinLeast_29 : decode cX1_joinLeast 29 = .ok (.aload_n 0, 1) := by decide +kernel
theorem dX1_joinLeast_30 : decode cX1_joinLeast 30 = .ok (.getfield 15, 3) := by decide +kernel
theorem dX1_joinLeast_33 : decode cX1_joinLeast 33 = .ok (.iload 5, 2) := by decide +kernel
theorem dX1_joinLeast_35 : decode cX1_joinLeast 35 = .ok (.iload_n 2, 1) := by decide +kernel
theorem dX1_joinLeast_36 : decode cX1_joinLeast 36 = .ok (.iastore, 1) := by decide +kernel
theorem dX1_joinLeast_37 : decode cX1_joinLeast 37 = .ok (.iload_n 3, 1) := by decide +kernel
theorem dX1_joinLeast_38 : decode cX1_joinLeast 38 = .ok (.aload_n 0, 1) := by decide +kernel
theorem dX1_joinLeast_39 : decode cX1_joinLeast 39 = .ok (.getfield 11, 3) := by decide +kernel
theorem dX1_joinLeast_42 : decode cX1_joinLeast 42 = .ok (.iload 5, 2) := by decide +kernel
theorem dX1_joinLeast_44 : decode cX1_joinLeast 44 = .ok (.iaload, 1) := by decide +kernel
theorem dX1_joinLeast_45 : decode cX1_joinLeast 45 = .ok (.iadd, 1) := by decide +kernel
theorem dX1_joinLeast_46 : decode cX1_joinLeast 46 = .ok (.istore_n 3, 1) := by decide +kernel
theorem dX1_joinLeast_47 : decode cX1_joinLeast 47 = .ok (.iinc 4 1, 3) := by decide +kernel
theorem dX1_joinLeast_50 : decode cX1_joinLeast 50 = .ok (.goto (-40), 3) := by decide +kernel
theorem dX1_joinLeast_53 : decode cX1_joinLeast 53 = .ok (.aload_n 0, 1) := by decide +kernel
theorem dX1_joinLeast_54 : decode cX1_joinLeast 54 = .ok (.iload_n 3, 1) := by decide +kernel
theorem dX1_joinLeast_55 : decode cX1_joinLeast 55 = .ok (.invokevirtual 33, 3) := by decide +kernel
theorem dX1_joinLeast_58 : decode cX1_joinLeast 58 = .ok (.return_, 1) := by decide +kernel
theorem dX1_leastOpenNode_0 : decode cX1_leastOpenNode 0 = .ok (.bipush (-9), 2) := by decide +kernel
theorem dX1_leastOpenNode_2 : decode cX1_leastOpenNode 2 = .ok (.istore_n 1, 1) := by decide +kernel
theorem dX1_leastOpenNode_3 : decode cX1_leastOpenNode 3 = .ok (.iconst 0, 1) := by decide +kernel
theorem dX1_leastOpenNode_4 : decode cX1_leastOpenNode 4 = .ok (.istore_n 2, 1) := by decide +kernel
theorem dX1_leastOpenNode_5 : decode cX1_leastOpenNode 5 = .ok (.iload_n 2, 1) := by decide +kernel
theorem dX1_leastOpenNode_6 : decode cX1_leastOpenNode 6 = .ok (.aload_n 0, 1) := by decide +kernel
theorem dX1_leastOpenNode_7 : decode cX1_leastOpenNode 7 = .ok (.getfield 21, 3) := by decide +kernel
theorem dX1_leastOpenNode_10 : decode cX1_leastOpenNode 10 = .ok (.if_icmp .ge 42, 3) := by decide +kernel
theorem dX1_leastOpenNode_13 : decode cX1_leastOpenNode 13 = .ok (.aload_n 0, 1) := by decide +kernel
theorem dX1_leastOpenNode_14 : decode cX1_leastOpenNode 14 = .ok (.getfield 15, 3) := by decide +kernel
theorem dX1_leastOpenNode_17 : decode cX1_leastOpenNode 17 = .ok (.iload_n 2, 1) := by decide +kernel
theorem dX1_leastOpenNode_18 : decode cX1_leastOpenNode 18 = .ok (.iaload, 1) := by decide +kernel
theorem dX1_leastOpenNode_19 : decode cX1_leastOpenNode 19 = .ok (.iconst (-1), 1) := by decide +kernel
theorem dX1_leastOpenNode_20 : decode cX1_leastOpenNode 20 = .ok (.if_icmp .ne 26, 3) := by decide +kernel
theorem dX1_leastOpenNode_23 : decode cX1_leastOpenNode 23 = .ok (.iload_n 1, 1) := by decide +kernel
theorem dX1_leastOpenNode_24 : decode cX1_leastOpenNode 24 = .ok (.bipush (-9), 2) := by decide +kernel
theorem dX1_leastOpenNode_26 : decode cX1_leastOpenNode 26 = .ok (.if_icmp .eq 18, 3) := by decide +kernel
theorem dX1_leastOpenNode_29 : decode cX1_leastOpenNode 29 = .ok (.aload_n 0, 1) := by decide +kernel
theorem dX1_leastOpenNode_30 : decode cX1_leastOpenNode 30 = .ok (.getfield 11, 3) := by decide +kernel
theorem dX1_leastOpenNode_33 : decode cX1_leastOpenNode 33 = .ok (.iload_n 2, 1) := by decide +kernel
theorem dX1_leastOpenNode_34 : decode cX1_leastOpenNode 34 = .ok (.iaload, 1) := by decide +kernel
theorem dX1_leastOpenNode_35 : decode cX1_leastOpenNode 35 = .ok (.aload_n 0, 1) := by decide +kernel
theorem dX1_leastOpenNode_36 : decode cX1_leastOpenNode 36 = .ok (.getfield 11, 3) := by decide +kernel
theorem dX1_leastOpenNode_39 : decode cX1_leastOpenNode 39 = .ok (.iload_n 1, 1) := by decide +kernel
theorem dX1_leastOpenNode_40 : decode cX1_leastOpenNode 40 = .ok (.iaload, 1) := by decide +kernel
theorem dX1_leastOpenNode_41 : decode cX1_leastOpenNode 41 = .ok (.if_icmp .ge 5, 3) := by decide +kernel
theorem dX1_leastOpenNode_44 : decode cX1_leastOpenNode 44 = .ok (.iload_n 2, 1) := by decide +kernel
theorem dX1_leastOpenNode_45 : decode cX1_leastOpenNode 45 = .ok (.istore_n 1, 1) := by decide +kernel
theorem dX1_leastOpenNode_46 : decode cX1_leastOpenNode 46 = .ok (.iinc 2 1, 3) := by decide +kernel
theorem dX1_leastOpenNode_49 : decode cX1_leastOpenNode 49 = .ok (.goto (-44), 3) := by decide +kernel
theorem dX1_leastOpenNode_52 : decode cX1_leastOpenNode 52 = .ok (.iload_n 1, 1) := by decide +kernel
theorem dX1_leastOpenNode_53 : decode cX1_leastOpenNode 53 = .ok (.ireturn, 1) := by decide +kernel
theorem dX1_stepsOf_0 : decode cX1_stepsOf 0 = .ok (.aload_n 0, 1) := by decide +kernel
theorem dX1_stepsOf_1 : decode cX1_stepsOf 1 = .ok (.getfield 18, 3) := by decide +kernel
theorem dX1_stepsOf_4 : decode cX1_stepsOf 4 = .ok (.iload_n 1, 1) := by decide +kernel
theorem dX1_stepsOf_5 : decode cX1_stepsOf 5 = .ok (.iaload, 1) := by decide +kernel
theorem dX1_stepsOf_6 : decode cX1_stepsOf 6 = .ok (.bipush (-9), 2) := by decide +kernel
theorem dX1_stepsOf_8 : decode cX1_stepsOf 8 = .ok (.if_icmp .ne 6, 3) := by decide +kernel
theorem dX1_stepsOf_11 : decode cX1_stepsOf 11 = .ok (.bipush (-9), 2) := by decide +kernel
theorem dX1_stepsOf_13 : decode cX1_stepsOf 13 = .ok (.ireturn, 1) := by decide +kernel
theorem dX1_stepsOf_14 : decode cX1_stepsOf 14 = .ok (.iconst 0, 1) := by decide +kernel
theorem dX1_stepsOf_15 : decode cX1_stepsOf 15 = .ok (.istore_n 2, 1) := by decide +kernel
theorem dX1_stepsOf_16 : decode cX1_stepsOf 16 = .ok (.aload_n 0, 1) := by decide +kernel
theorem dX1_stepsOf_17 : decode cX1_stepsOf 17 = .ok (.getfield 18, 3) := by decide +kernel
theorem dX1_stepsOf_20 : decode cX1_stepsOf 20 = .ok (.iload_n 1, 1) := by decide +kernel
theorem dX1_stepsOf_21 : decode cX1_stepsOf 21 = .ok (.iaload, 1) := by decide +kernel
theorem dX1_stepsOf_22 : decode cX1_stepsOf 22 = .ok (.istore_n 3, 1) := by decide +kernel
theorem dX1_stepsOf_23 : decode cX1_stepsOf 23 = .ok (.iload_n 2, 1) := by decide +kernel
theorem dX1_stepsOf_24 : decode cX1_stepsOf 24 = .ok (.bipush 20, 2) := by decide +kernel
theorem dX1_stepsOf_26 : decode cX1_stepsOf 26 = .ok (.if_icmp .ge 26, 3) := by decide +kernel
theorem dX1_stepsOf_29 : decode cX1_stepsOf 29 = .ok (.aload_n 0, 1) := by decide +kernel
theorem dX1_stepsOf_30 : decode cX1_stepsOf 30 = .ok (.getfield 15, 3) := by decide +kernel
theorem dX1_stepsOf_33 : decode cX1_stepsOf 33 = .ok (.iload_n 3, 1) := by decide +kernel
theorem dX1_stepsOf_34 : decode cX1_stepsOf 34 = .ok (.iaload, 1) := by decide +kernel
theorem dX1_stepsOf_35 : decode cX1_stepsOf 35 = .ok (.iconst (-1), 1) := by decide +kernel
theorem dX1_stepsOf_36 : decode cX1_stepsOf 36 = .ok (.if_icmp .eq 16, 3) := by decide +kernel
theorem dX1_stepsOf_39 : decode cX1_stepsOf 39 = .ok (.aload_n 0, 1) := by decide +kernel
theorem dX1_stepsOf_40 : decode cX1_stepsOf 40 = .ok (.getfield 15, 3) := by decide +kernel
theorem dX1_stepsOf_43 : decode cX1_stepsOf 43 = .ok (.iload_n 3, 1) := by decide +kernel
theorem dX1_stepsOf_44 : decode cX1_stepsOf 44 = .ok (.iaload, 1) := by decide +kernel
theorem dX1_stepsOf_45 : decode cX1_stepsOf 45 = .ok (.istore_n 3, 1) := by decide +kernel
theorem dX1_stepsOf_46 : decode cX1_stepsOf 46 = .ok (.iinc 2 1, 3) := by decide +kernel
theorem dX1_stepsOf_49 : decode cX1_stepsOf 49 = .ok (.goto (-26), 3) := by decide +kernel
theorem dX1_stepsOf_52 : decode cX1_stepsOf 52 = .ok (.iload_n 2, 1) := by decide +kernel
theorem dX1_stepsOf_53 : decode cX1_stepsOf 53 = .ok (.ireturn, 1) := by decide +kernel
theorem dX1_costBy_0 : decode cX1_costBy 0 = .ok (.iconst 0, 1) := by decide +kernel
theorem dX1_costBy_1 : decode cX1_costBy 1 = .ok (.istore_n 2, 1) := by decide +kernel
theorem dX1_costBy_2 : decode cX1_costBy 2 = .ok (.iconst 0, 1) := by decide +kernel
theorem dX1_costBy_3 : decode cX1_costBy 3 = .ok (.istore_n 3, 1) := by decide +kernel
theorem dX1_costBy_4 : decode cX1_costBy 4 = .ok (.iload_n 3, 1) := by decide +kernel
theorem dX1_costBy_5 : decode cX1_costBy 5 = .ok (.aload_n 1, 1) := by decide +kernel
theorem dX1_costBy_6 : decode cX1_costBy 6 = .ok (.getfield 25, 3) := by decide +kernel
theorem dX1_costBy_9 : decode cX1_costBy 9 = .ok (.if_icmp .ge 35, 3) := by decide +kernel
theorem dX1_costBy_12 : decode cX1_costBy 12 = .ok (.aload_n 0, 1) := by decide +kernel
theorem dX1_costBy_13 : decode cX1_costBy 13 = .ok (.getfield 18, 3) := by decide +kernel
theorem dX1_costBy_16 : decode cX1_costBy 16 = .ok (.iload_n 3, 1) := by decide +kernel
theorem dX1_costBy_17 : decode cX1_costBy 17 = .ok (.iaload, 1) := by decide +kernel
theorem dX1_costBy_18 : decode cX1_costBy 18 = .ok (.bipush (-9), 2) := by decide +kernel
theorem dX1_costBy_20 : decode cX1_costBy 20 = .ok (.if_icmp .eq 18, 3) := by decide +kernel
theorem dX1_costBy_23 : decode cX1_costBy 23 = .ok (.iload_n 2, 1) := by decide +kernel
theorem dX1_costBy_24 : decode cX1_costBy 24 = .ok (.aload_n 1, 1) := by decide +kernel
theorem dX1_costBy_25 : decode cX1_costBy 25 = .ok (.getfield 30, 3) := by decide +kernel
theorem dX1_costBy_28 : decode cX1_costBy 28 = .ok (.iload_n 3, 1) := by decide +kernel
theorem dX1_costBy_29 : decode cX1_costBy 29 = .ok (.iaload, 1) := by decide +kernel
theorem dX1_costBy_30 : decode cX1_costBy 30 = .ok (.aload_n 0, 1) := by decide +kernel
theorem dX1_costBy_31 : decode cX1_costBy 31 = .ok (.iload_n 3, 1) := by decide +kernel
theorem dX1_costBy_32 : decode cX1_costBy 32 = .ok (.invokevirtual 44, 3) := by decide +kernel
theorem dX1_costBy_35 : decode cX1_costBy 35 = .ok (.imul, 1) := by decide +kernel
theorem dX1_costBy_36 : decode cX1_costBy 36 = .ok (.iadd, 1) := by decide +kernel
theorem dX1_costBy_37 : decode cX1_costBy 37 = .ok (.istore_n 2, 1) := by decide +kernel
theorem dX1_costBy_38 : decode cX1_costBy 38 = .ok (.iinc 3 1, 3) := by decide +kernel
theorem dX1_costBy_41 : decode cX1_costBy 41 = .ok (.goto (-37), 3) := by decide +kernel
theorem dX1_costBy_44 : decode cX1_costBy 44 = .ok (.iload_n 2, 1) := by decide +kernel
theorem dX1_costBy_45 : decode cX1_costBy 45 = .ok (.ireturn, 1) := by decide +kernel
theorem dX2_init_0 : decode cX2_init 0 = .ok (.aload_n 0, 1) := by decide +kernel
theorem dX2_init_1 : decode cX2_init 1 = .ok (.invokespecial 3, 3) := by decide +kernel
theorem dX2_init_4 : decode cX2_init 4 = .ok (.aload_n 0, 1) := by decide +kernel
theorem dX2_init_5 : decode cX2_init 5 = .ok (.iconst 0, 1) := by decide +kernel
theorem dX2_init_6 : decode cX2_init 6 = .ok (.putfield 9, 3) := by decide +kernel
theorem dX2_init_9 : decode cX2_init 9 = .ok (.aload_n 0, 1) := by decide +kernel
theorem dX2_init_10 : decode cX2_init 10 = .ok (.bipush 10, 2) := by decide +kernel
theorem dX2_init_12 : decode cX2_init 12 = .ok (.newarray .int, 2) := by decide +kernel
theorem dX2_init_14 : decode cX2_init 14 = .ok (.putfield 15, 3) := by decide +kernel
theorem dX2_init_17 : decode cX2_init 17 = .ok (.aload_n 0, 1) := by decide +kernel
theorem dX2_init_18 : decode cX2_init 18 = .ok (.bipush 10, 2) := by decide +kernel
theorem dX2_init_20 : decode cX2_init 20 = .ok (.newarray .int, 2) := by decide +kernel
theorem dX2_init_22 : decode cX2_init 22 = .ok (.putfield 19, 3) := by decide +kernel
theorem dX2_init_25 : decode cX2_init 25 = .ok (.aload_n 0, 1) := by decide +kernel
theorem dX2_init_26 : decode cX2_init 26 = .ok (.bipush 10, 2) := by decide +kernel
theorem dX2_init_28 : decode cX2_init 28 = .ok (.bipush 10, 2) := by decide +kernel
theorem dX2_init_30 : decode cX2_init 30 = .ok (.multianewarray 22 2, 4) := by decide +kernel
theorem dX2_init_34 : decode cX2_init 34 = .ok (.putfield 24, 3) := by decide +kernel
theorem dX2_init_37 : decode cX2_init 37 = .ok (.return_, 1) := by decide +kernel
theorem dX2_has_0 : decode cX2_has 0 = .ok (.iload_n 1, 1) := by decide +kernel
theorem dX2_has_1 : decode cX2_has 1 = .ok (.ifCond .lt 15, 3) := by decide +kernel
theorem dX2_has_4 : decode cX2_has 4 = .ok (.iload_n 1, 1) := by decide +kernel
theorem dX2_has_5 : decode cX2_has 5 = .ok (.aload_n 0, 1) := by decide +kernel
theorem dX2_has_6 : decode cX2_has 6 = .ok (.getfield 9, 3) := by decide +kernel
theorem dX2_has_9 : decode cX2_has 9 = .ok (.if_icmp .ge 7, 3) := by decide +kernel
theorem dX2_has_12 : decode cX2_has 12 = .ok (.iconst 1, 1) := by decide +kernel
theorem dX2_has_13 : decode cX2_has 13 = .ok (.goto 4, 3) := by decide +kernel
theorem dX2_has_16 : decode cX2_has 16 = .ok (.iconst 0, 1) := by decide +kernel
theorem dX2_has_17 : decode cX2_has 17 = .ok (.ireturn, 1) := by decide +kernel
theorem dX2_hasSet_0 : decode cX2_hasSet 0 = .ok (.iload_n 1, 1) := by decide +kernel
theorem dX2_hasSet_1 : decode cX2_hasSet 1 = .ok (.ifCond .le 17, 3) := by decide +kernel
theorem dX2_hasSet_4 : decode cX2_hasSet 4 = .ok (.iload_n 1, 1) := by decide +kernel
theorem dX2_hasSet_5 : decode cX2_hasSet 5 = .ok (.iconst 1, 1) := by decide +kernel
theorem dX2_hasSet_6 : decode cX2_hasSet 6 = .ok (.aload_n 0, 1) := by decide +kernel
theorem dX2_hasSet_7 : decode cX2_hasSet 7 = .ok (.getfield 9, 3) := by decide +kernel
theorem dX2_hasSet_10 : decode cX2_hasSet 10 = .ok (.ishl, 1) := by decide +kernel
theorem dX2_hasSet_11 : decode cX2_hasSet 11 = .ok (.if_icmp .ge 7, 3) := by decide +kernel
theorem dX2_hasSet_14 : decode cX2_hasSet 14 = .ok (.iconst 1, 1) := by decide +kernel
theorem dX2_hasSet_15 : decode cX2_hasSet 15 = .ok (.goto 4, 3) := by decide +kernel
theorem dX2_hasSet_18 : decode cX2_hasSet 18 = .ok (.iconst 0, 1) := by decide +kernel
theorem dX2_hasSet_19 : decode cX2_hasSet 19 = .ok (.ireturn, 1) := by decide +kernel
theorem dX2_canBeLaid_0 : decode cX2_canBeLaid 0 = .ok (.aload_n 0, 1) := by decide +kernel
theorem dX2_canBeLaid_1 : decode cX2_canBeLaid 1 = .ok (.iload_n 1, 1) := by decide +kernel
theorem dX2_canBeLaid_2 : decode cX2_canBeLaid 2 = .ok (.invokevirtual 27, 3) := by decide +kernel
theorem dX2_canBeLaid_5 : decode cX2_canBeLaid 5 = .ok (.ifCond .eq 15, 3) := by decide +kernel
theorem dX2_canBeLaid_8 : decode cX2_canBeLaid 8 = .ok (.iload_n 1, 1) := by decide +kernel
theorem dX2_canBeLaid_9 : decode cX2_canBeLaid 9 = .ok (.invokestatic 31, 3) := by decide +kernel
theorem dX2_canBeLaid_12 : decode cX2_canBeLaid 12 = .ok (.iconst 5, 1) := by decide +kernel
theorem dX2_canBeLaid_13 : decode cX2_canBeLaid 13 = .ok (.if_icmp .gt 7, 3) := by decide +kernel
theorem dX2_canBeLaid_16 : decode cX2_canBeLaid 16 = .ok (.iconst 1, 1) := by decide +kernel
theorem dX2_canBeLaid_17 : decode cX2_canBeLaid 17 = .ok (.goto 4, 3) := by decide +kernel
theorem dX2_canBeLaid_20 : decode cX2_canBeLaid 20 = .ok (.iconst 0, 1) := by decide +kernel
theorem dX2_canBeLaid_21 : decode cX2_canBeLaid 21 = .ok (.ireturn, 1) := by decide +kernel
theorem dX2_followsBothWays_0 : decode cX2_followsBothWays 0 = .ok (.aload_n 0, 1) := by decide +kernel
theorem dX2_followsBothWays_1 : decode cX2_followsBothWays 1 = .ok (.getfield 24, 3) := by decide +kernel
theorem dX2_followsBothWays_4 : decode cX2_followsBothWays 4 = .ok (.iload_n 1, 1) := by decide +kernel
theorem dX2_followsBothWays_5 : decode cX2_followsBothWays 5 = .ok (.aaload, 1) := by decide +kernel
theorem dX2_followsBothWays_6 : decode cX2_followsBothWays 6 = .ok (.iload_n 2, 1) := by decide +kernel
theorem dX2_followsBothWays_7 : decode cX2_followsBothWays 7 = .ok (.iaload, 1) := by decide +kernel
theorem dX2_followsBothWays_8 : decode cX2_followsBothWays 8 = .ok (.aload_n 0, 1) := by decide +kernel
theorem dX2_followsBothWays_9 : decode cX2_followsBothWays 9 = .ok (.getfield 24, 3) := by decide +kernel
theorem dX2_followsBothWays_12 : decode cX2_followsBothWays 12 = .ok (.iload_n 2, 1) := by decide +kernel
theorem dX2_followsBothWays_13 : decode cX2_followsBothWays 13 = .ok (.aaload, 1) := by decide +kernel
theorem dX2_followsBothWays_14 : decode cX2_followsBothWays 14 = .ok (.iload_n 1, 1) := by decide +kernel
theorem dX2_followsBothWays_15 : decode cX2_followsBothWays 15 = .ok (.iaload, 1) := by decide +kernel
theorem dX2_followsBothWays_16 : decode cX2_followsBothWays 16 = .ok (.iadd, 1) := by decide +kernel
theorem dX2_followsBothWays_17 : decode cX2_followsBothWays 17 = .ok (.ireturn, 1) := by decide +kernel
theorem dX2_clear_0 : decode cX2_clear 0 = .ok (.aload_n 0, 1) := by decide +kernel
theorem dX2_clear_1 : decode cX2_clear 1 = .ok (.iconst 0, 1) := by decide +kernel
theorem dX2_clear_2 : decode cX2_clear 2 = .ok (.putfield 9, 3) := by decide +kernel
theorem dX2_clear_5 : decode cX2_clear 5 = .ok (.iconst 0, 1) := by decide +kernel
theorem dX2_clear_6 : decode cX2_clear 6 = .ok (.istore_n 1, 1) := by decide +kernel
theorem dX2_clear_7 : decode cX2_clear 7 = .ok (.iload_n 1, 1) := by decide +kernel
theorem dX2_clear_8 : decode cX2_clear 8 = .ok (.bipush 10, 2) := by decide +kernel
theorem dX2_clear_10 : decode cX2_clear 10 = .ok (.if_icmp .ge 19, 3) := by decide +kernel
theorem dX2_clear_13 : decode cX2_clear 13 = .ok (.aload_n 0, 1) := by decide +kernel
theorem dX2_clear_14 : decode cX2_clear 14 = .ok (.getfield 24, 3) := by decide +kernel
theorem dX2_clear_17 : decode cX2_clear 17 = .ok (.iload_n 1, 1) := by decide +kernel
theorem dX2_clear_18 : decode cX2_clear 18 = .ok (.aaload, 1) := by decide +kernel
theorem dX2_clear_19 : decode cX2_clear 19 = .ok (.iconst 0, 1) := by decide +kernel
theorem dX2_clear_20 : decode cX2_clear 20 = .ok (.invokestatic 37, 3) := by decide +kernel
theorem dX2_clear_23 : decode cX2_clear 23 = .ok (.iinc 1 1, 3) := by decide +kernel
theorem dX2_clear_26 : decode cX2_clear 26 = .ok (.goto (-19), 3) := by decide +kernel
theorem dX2_clear_29 : decode cX2_clear 29 = .ok (.return_, 1) := by decide +kernel
theorem dX2_become_0 : decode cX2_become 0 = .ok (.aload_n 0, 1) := by decide +kernel
theorem dX2_become_1 : decode cX2_become 1 = .ok (.aload_n 1, 1) := by decide +kernel
theorem dX2_become_2 : decode cX2_become 2 = .ok (.getfield 9, 3) := by decide +kernel
theorem dX2_become_5 : decode cX2_become 5 = .ok (.putfield 9, 3) := by decide +kernel
theorem dX2_become_8 : decode cX2_become 8 = .ok (.aload_n 1, 1) := by decide +kernel
theorem dX2_become_9 : decode cX2_become 9 = .ok (.getfield 15, 3) := by decide +kernel
theorem dX2_become_12 : decode cX2_become 12 = .ok (.iconst 0, 1) := by decide +kernel
theorem dX2_become_13 : decode cX2_become 13 = .ok (.aload_n 0, 1) := by decide +kernel
theorem dX2_become_14 : decode cX2_become 14 = .ok (.getfield 15, 3) := by decide +kernel
theorem dX2_become_17 : decode cX2_become 17 = .ok (.iconst 0, 1) := by decide +kernel
theorem dX2_become_18 : decode cX2_become 18 = .ok (.bipush 10, 2) := by decide +kernel
theorem dX2_become_20 : decode cX2_become 20 = .ok (.invokestatic 43, 3) := by decide +kernel
theorem dX2_become_23 : decode cX2_become 23 = .ok (.aload_n 1, 1) := by decide +kernel
theorem dX2_become_24 : decode cX2_become 24 = .ok (.getfield 19, 3) := by decide +kernel
theorem dX2_become_27 : decode cX2_become 27 = .ok (.iconst 0, 1) := by decide +kernel
theorem dX2_become_28 : decode cX2_become 28 = .ok (.aload_n 0, 1) := by decide +kernel
theorem dX2_become_29 : decode cX2_become 29 = .ok (.getfield 19, 3) := by decide +kernel
theorem dX2_become_32 : decode cX2_become 32 = .ok (.iconst 0, 1) := by decide +kernel
theorem dX2_become_33 : decode cX2_become 33 = .ok (.bipush 10, 2) := by decide +kernel
theorem dX2_become_35 : decode cX2_become 35 = .ok (.invokestatic 43, 3) := by decide +kernel
theorem dX2_become_38 : decode cX2_become 38 = .ok (.iconst 0, 1) := by decide +kernel
theorem dX2_become_39 : decode cX2_become 39 = .ok (.istore_n 2, 1) := by decide +kernel
theorem dX2_become_40 : decode cX2_become 40 = .ok (.iload_n 2, 1) := by decide +kernel
theorem dX2_become_41 : decode cX2_become 41 = .ok (.bipush 10, 2) := by decide +kernel
theorem dX2_become_43 : decode cX2_become 43 = .ok (.if_icmp .ge 28, 3) := by decide +kernel
theorem dX2_become_46 : decode cX2_become 46 = .ok (.aload_n 1, 1) := by decide +kernel
theorem dX2_become_47 : decode cX2_become 47 = .ok (.getfield 24, 3) := by decide +kernel
theorem dX2_become_50 : decode cX2_become 50 = .ok (.iload_n 2, 1) := by decide +kernel
theorem dX2_become_51 : decode cX2_become 51 = .ok (.aaload, 1) := by decide +kernel
theorem dX2_become_52 : decode cX2_become 52 = .ok (.iconst 0, 1) := by decide +kernel
theorem dX2_become_53 : decode cX2_become 53 = .ok (.aload_n 0, 1) := by decide +kernel
theorem dX2_become_54 : decode cX2_become 54 = .ok (.getfield 24, 3) := by decide +kernel
theorem dX2_become_57 : decode cX2_become 57 = .ok (.iload_n 2, 1) := by decide +kernel
theorem dX2_become_58 : decode cX2_become 58 = .ok (.aaload, 1) := by decide +kernel
theorem dX2_become_59 : decode cX2_become 59 = .ok (.iconst 0, 1) := by decide +kernel
theorem dX2_become_60 : decode cX2_become 60 = .ok (.bipush 10, 2) := by decide +kernel
theorem dX2_become_62 : decode cX2_become 62 = .ok (.invokestatic 43, 3) := by decide +kernel
theorem dX2_become_65 : decode cX2_become 65 = .ok (.iinc 2 1, 3) := by decide +kernel
theorem dX2_become_68 : decode cX2_become 68 = .ok (.goto (-28), 3) := by decide +kernel
theorem dX2_become_71 : decode cX2_become 71 = .ok (.return_, 1) := by decide +kernel
theorem dX2_add_0 : decode cX2_add 0 = .ok (.aload_n 0, 1) := by decide +kernel
theorem dX2_add_1 : decode cX2_add 1 = .ok (.getfield 9, 3) := by decide +kernel
theorem dX2_add_4 : decode cX2_add 4 = .ok (.bipush 10, 2) := by decide +kernel
theorem dX2_add_6 : decode cX2_add 6 = .ok (.if_icmp .ge 33, 3) := by decide +kernel
theorem dX2_add_9 : decode cX2_add 9 = .ok (.aload_n 0, 1) := by decide +kernel
theorem dX2_add_10 : decode cX2_add 10 = .ok (.getfield 15, 3) := by decide +kernel
theorem dX2_add_13 : decode cX2_add 13 = .ok (.aload_n 0, 1) := by decide +kernel
theorem dX2_add_14 : decode cX2_add 14 = .ok (.getfield 9, 3) := by decide +kernel
theorem dX2_add_17 : decode cX2_add 17 = .ok (.iload_n 1, 1) := by decide +kernel
theorem dX2_add_18 : decode cX2_add 18 = .ok (.iastore, 1) := by decide +kernel
theorem dX2_add_19 : decode cX2_add 19 = .ok (.aload_n 0, 1) := by decide +kernel
theorem dX2_add_20 : decode cX2_add 20 = .ok (.getfield 19, 3) := by decide +kernel
theorem dX2_add_23 : decode cX2_add 23 = .ok (.aload_n 0, 1) := by decide +kernel
theorem dX2_add_24 : decode cX2_add 24 = .ok (.getfield 9, 3) := by decide +kernel
theorem dX2_add_27 : decode cX2_add 27 = .ok (.iconst 0, 1) := by decide +kernel
theorem dX2_add_28 : decode cX2_add 28 = .ok (.iastore, 1) := by decide +kernel
theorem dX2_add_29 : decode cX2_add 29 = .ok (.aload_n 0, 1) := by decide +kernel
theorem dX2_add_30 : decode cX2_add 30 = .ok (.dup, 1) := by decide +kernel
theorem dX2_add_31 : decode cX2_add 31 = .ok (.getfield 9, 3) := by decide +kernel
theorem dX2_add_34 : decode cX2_add 34 = .ok (.iconst 1, 1) := by decide +kernel
theorem dX2_add_35 : decode cX2_add 35 = .ok (.iadd, 1) := by decide +kernel
theorem dX2_add_36 : decode cX2_add 36 = .ok (.putfield 9, 3) := by decide +kernel
theorem dX2_add_39 : decode cX2_add 39 = .ok (.return_, 1) := by decide +kernel
theorem dX2_addDigitToLatest_0 : decode cX2_addDigitToLatest 0 = .ok (.aload_n 0, 1) := by decide +kernel
theorem dX2_addDigitToLatest_1 : decode cX2_addDigitToLatest 1 = .ok (.getfield 9, 3) := by decide +kernel
theorem dX2_addDigitToLatest_4 : decode cX2_addDigitToLatest 4 = .ok (.ifCond .le 30, 3) := by decide +kernel
theorem dX2_addDigitToLatest_7 : decode cX2_addDigitToLatest 7 = .ok (.aload_n 0, 1) := by decide +kernel
theorem dX2_addDigitToLatest_8 : decode cX2_addDigitToLatest 8 = .ok (.getfield 19, 3) := by decide +kernel
theorem dX2_addDigitToLatest_11 : decode cX2_addDigitToLatest 11 = .ok (.aload_n 0, 1) := by decide +kernel
theorem dX2_addDigitToLatest_12 : decode cX2_addDigitToLatest 12 = .ok (.getfield 9, 3) := by decide +kernel
theorem dX2_addDigitToLatest_15 : decode cX2_addDigitToLatest 15 = .ok (.iconst 1, 1) := by decide +kernel
theorem dX2_addDigitToLatest_16 : decode cX2_addDigitToLatest 16 = .ok (.isub, 1) := by decide +kernel
theorem dX2_addDigitToLatest_17 : decode cX2_addDigitToLatest 17 = .ok (.bipush 10, 2) := by decide +kernel
theorem dX2_addDigitToLatest_19 : decode cX2_addDigitToLatest 19 = .ok (.aload_n 0, 1) := by decide +kernel
theorem dX2_addDigitToLatest_20 : decode cX2_addDigitToLatest 20 = .ok (.getfield 19, 3) := by decide +kernel
theorem dX2_addDigitToLatest_23 : decode cX2_addDigitToLatest 23 = .ok (.aload_n 0, 1) := by decide +kernel
theorem dX2_addDigitToLatest_24 : decode cX2_addDigitToLatest 24 = .ok (.getfield 9, 3) := by decide +kernel
theorem dX2_addDigitToLatest_27 : decode cX2_addDigitToLatest 27 = .ok (.iconst 1, 1) := by decide +kernel
theorem dX2_addDigitToLatest_28 : decode cX2_addDigitToLatest 28 = .ok (.isub, 1) := by decide +kernel
theorem dX2_addDigitToLatest_29 : decode cX2_addDigitToLatest 29 = .ok (.iaload, 1) := by decide +kernel
theorem dX2_addDigitToLatest_30 : decode cX2_addDigitToLatest 30 = .ok (.imul, 1) := by decide +kernel
theorem dX2_addDigitToLatest_31 : decode cX2_addDigitToLatest 31 = .ok (.iload_n 1, 1) := by decide +kernel
theorem dX2_addDigitToLatest_32 : decode cX2_addDigitToLatest 32 = .ok (.iadd, 1) := by decide +kernel
theorem dX2_addDigitToLatest_33 : decode cX2_addDigitToLatest 33 = .ok (.iastore, 1) := by decide +kernel
theorem dX2_addDigitToLatest_34 : decode cX2_addDigitToLatest 34 = .ok (.return_, 1) := by decide +kernel
theorem dX2_isAheadOfLatest_0 : decode cX2_isAheadOfLatest 0 = .ok (.iload_n 1, 1) := by decide +kernel
theorem dX2_isAheadOfLatest_1 : decode cX2_isAheadOfLatest 1 = .ok (.ifCond .lt 17, 3) := by decide +kernel
theorem dX2_isAheadOfLatest_4 : decode cX2_isAheadOfLatest 4 = .ok (.iload_n 1, 1) := by decide +kernel
theorem dX2_isAheadOfLatest_5 : decode cX2_isAheadOfLatest 5 = .ok (.aload_n 0, 1) := by decide +kernel
theorem dX2_isAheadOfLatest_6 : decode cX2_isAheadOfLatest 6 = .ok (.getfield 9, 3) := by decide +kernel
theorem dX2_isAheadOfLatest_9 : decode cX2_isAheadOfLatest 9 = .ok (.iconst 1, 1) := by decide +kernel
theorem dX2_isAheadOfLatest_10 : decode cX2_isAheadOfLatest 10 = .ok (.isub, 1) := by decide +kernel
theorem dX2_isAheadOfLatest_11 : decode cX2_isAheadOfLatest 11 = .ok (.if_icmp .ge 7, 3) := by decide +kernel
theorem dX2_isAheadOfLatest_14 : decode cX2_isAheadOfLatest 14 = .ok (.iconst 1, 1) := by decide +kernel
theorem dX2_isAheadOfLatest_15 : decode cX2_isAheadOfLatest 15 = .ok (.goto 4, 3) := by decide +kernel
theorem dX2_isAheadOfLatest_18 : decode cX2_isAheadOfLatest 18 = .ok (.iconst 0, 1) := by decide +kernel
theorem dX2_isAheadOfLatest_19 : decode cX2_isAheadOfLatest 19 = .ok (.ireturn, 1) := by decide +kernel
theorem dX2_putBehindLatest_0 : decode cX2_putBehindLatest 0 = .ok (.aload_n 0, 1) := by decide +kernel
theorem dX2_putBehindLatest_1 : decode cX2_putBehindLatest 1 = .ok (.iload_n 1, 1) := by decide +kernel
theorem dX2_putBehindLatest_2 : decode cX2_putBehindLatest 2 = .ok (.invokevirtual 49, 3) := by decide +kernel
theorem dX2_putBehindLatest_5 : decode cX2_putBehindLatest 5 = .ok (.ifCond .eq 20, 3) := by decide +kernel
theorem dX2_putBehindLatest_8 : decode cX2_putBehindLatest 8 = .ok (.aload_n 0, 1) := by decide +kernel
theorem dX2_putBehindLatest_9 : decode cX2_putBehindLatest 9 = .ok (.getfield 24, 3) := by decide +kernel
theorem dX2_putBehindLatest_12 : decode cX2_putBehindLatest 12 = .ok (.aload_n 0, 1) := by decide +kernel
theorem dX2_putBehindLatest_13 : decode cX2_putBehindLatest 13 = .ok (.getfield 9, 3) := by decide +kernel
theorem dX2_putBehindLatest_16 : decode cX2_putBehindLatest 16 = .ok (.iconst 1, 1) := by decide +kernel
theorem dX2_putBehindLatest_17 : decode cX2_putBehindLatest 17 = .ok (.isub, 1) := by decide +kernel
theorem dX2_putBehindLatest_18 : decode cX2_putBehindLatest 18 = .ok (.aaload, 1) := by decide +kernel
theorem dX2_putBehindLatest_19 : decode cX2_putBehindLatest 19 = .ok (.iload_n 1, 1) := by decide +kernel
theorem dX2_putBehindLatest_20 : decode cX2_putBehindLatest 20 = .ok (.dup2, 1) := by decide +kernel
theorem dX2_putBehindLatest_21 : decode cX2_putBehindLatest 21 = .ok (.iaload, 1) := by decide +kernel
theorem dX2_putBehindLatest_22 : decode cX2_putBehindLatest 22 = .ok (.iconst 1, 1) := by decide +kernel
theorem dX2_putBehindLatest_23 : decode cX2_putBehindLatest 23 = .ok (.iadd, 1) := by decide +kernel
theorem dX2_putBehindLatest_24 : decode cX2_putBehindLatest 24 = .ok (.iastore, 1) := by decide +kernel
theorem dX2_putBehindLatest_25 : decode cX2_putBehindLatest 25 = .ok (.return_, 1) := by decide +kernel
theorem dX3_init_0 : decode cX3_init 0 = .ok (.aload_n 0, 1) := by decide +kernel
theorem dX3_init_1 : decode cX3_init 1 = .ok (.invokespecial 3, 3) := by decide +kernel
theorem dX3_init_4 : decode cX3_init 4 = .ok (.aload_n 0, 1) := by decide +kernel
theorem dX3_init_5 : decode cX3_init 5 = .ok (.iconst 3, 1) := by decide +kernel
theorem dX3_init_6 : decode cX3_init 6 = .ok (.newarray .int, 2) := by decide +kernel
theorem dX3_init_8 : decode cX3_init 8 = .ok (.putfield 9, 3) := by decide +kernel
theorem dX3_init_11 : decode cX3_init 11 = .ok (.aload_n 0, 1) := by decide +kernel
theorem dX3_init_12 : decode cX3_init 12 = .ok (.new 15, 3) := by decide +kernel
theorem dX3_init_15 : decode cX3_init 15 = .ok (.dup, 1) := by decide +kernel
theorem dX3_init_16 : decode cX3_init 16 = .ok (.invokespecial 17, 3) := by decide +kernel
theorem dX3_init_19 : decode cX3_init 19 = .ok (.putfield 18, 3) := by decide +kernel
theorem dX3_init_22 : decode cX3_init 22 = .ok (.aload_n 0, 1) := by decide +kernel
theorem dX3_init_23 : decode cX3_init 23 = .ok (.new 15, 3) := by decide +kernel
theorem dX3_init_26 : decode cX3_init 26 = .ok (.dup, 1) := by decide +kernel
theorem dX3_init_27 : decode cX3_init 27 = .ok (.invokespecial 17, 3) := by decide +kernel
theorem dX3_init_30 : decode cX3_init 30 = .ok (.putfield 22, 3) := by decide +kernel
theorem dX3_init_33 : decode cX3_init 33 = .ok (.aload_n 0, 1) := by decide +kernel
theorem dX3_init_34 : decode cX3_init 34 = .ok (.iconst 0, 1) := by decide +kernel
theorem dX3_init_35 : decode cX3_init 35 = .ok (.putfield 25, 3) := by decide +kernel
theorem dX3_init_38 : decode cX3_init 38 = .ok (.aload_n 0, 1) := by decide +kernel
theorem dX3_init_39 : decode cX3_init 39 = .ok (.bipush (-9), 2) := by decide +kernel
theorem dX3_init_41 : decode cX3_init 41 = .ok (.putfield 29, 3) := by decide +kernel
theorem dX3_init_44 : decode cX3_init 44 = .ok (.aload_n 0, 1) := by decide +kernel
theorem dX3_init_45 : decode cX3_init 45 = .ok (.iconst 0, 1) := by decide +kernel
theorem dX3_init_46 : decode cX3_init 46 = .ok (.putfield 32, 3) := by decide +kernel
theorem dX3_init_49 : decode cX3_init 49 = .ok (.aload_n 0, 1) := by decide +kernel
theorem dX3_init_50 : decode cX3_init 50 = .ok (.iconst 0, 1) := by decide +kernel
theorem dX3_init_51 : decode cX3_init 51 = .ok (.putfield 35, 3) := by decide +kernel
theorem dX3_init_54 : decode cX3_init 54 = .ok (.aload_n 0, 1) := by decide +kernel
theorem dX3_init_55 : decode cX3_init 55 = .ok (.iconst 3, 1) := by decide +kernel
theorem dX3_init_56 : decode cX3_init 56 = .ok (.newarray .int, 2) := by decide +kernel
theorem dX3_init_58 : decode cX3_init 58 = .ok (.putfield 38, 3) := by decide +kernel
theorem dX3_init_61 : decode cX3_init 61 = .ok (.aload_n 0, 1) := by decide +kernel
theorem dX3_init_62 : decode cX3_init 62 = .ok (.bipush 12, 2) := by decide +kernel
theorem dX3_init_64 : decode cX3_init 64 = .ok (.newarray .int, 2) := by decide +kernel
theorem dX3_init_66 : decode cX3_init 66 = .ok (.putfield 41, 3) := by decide +kernel
theorem dX3_init_69 : decode cX3_init 69 = .ok (.aload_n 0, 1) := by decide +kernel
theorem dX3_init_70 : decode cX3_init 70 = .ok (.iconst 0, 1) := by decide +kernel
theorem dX3_init_71 : decode cX3_init 71 = .ok (.putfield 44, 3) := by decide +kernel
theorem dX3_init_74 : decode cX3_init 74 = .ok (.aload_n 0, 1) := by decide +kernel
theorem dX3_init_75 : decode cX3_init 75 = .ok (.bipush 10, 2) := by decide +kernel
theorem dX3_init_77 : decode cX3_init 77 = .ok (.newarray .int, 2) := by decide +kernel
theorem dX3_init_79 : decode cX3_init 79 = .ok (.putfield 47, 3) := by decide +kernel
theorem dX3_init_82 : decode cX3_init 82 = .ok (.aload_n 0, 1) := by decide +kernel
theorem dX3_init_83 : decode cX3_init 83 = .ok (.iconst 0, 1) := by decide +kernel
theorem dX3_init_84 : decode cX3_init 84 = .ok (.putfield 50, 3) := by decide +kernel
theorem dX3_init_87 : decode cX3_init 87 = .ok (.aload_n 0, 1) := by decide +kernel
theorem dX3_init_88 : decode cX3_init 88 = .ok (.bipush 8, 2) := by decide +kernel
theorem dX3_init_90 : decode cX3_init 90 = .ok (.newarray .int, 2) := by decide +kernel
theorem dX3_init_92 : decode cX3_init 92 = .ok (.putfield 53, 3) := by decide +kernel
theorem dX3_init_95 : decode cX3_init 95 = .ok (.aload_n 0, 1) := by decide +kernel
theorem dX3_init_96 : decode cX3_init 96 = .ok (.getfield 9, 3) := by decide +kernel
theorem dX3_init_99 : decode cX3_init 99 = .ok (.iconst 1, 1) := by decide +kernel
theorem dX3_init_100 : decode cX3_init 100 = .ok (.getstatic 56, 3) := by decide +kernel
theorem dX3_init_103 : decode cX3_init 103 = .ok (.iconst 1, 1) := by decide +kernel
theorem dX3_init_104 : decode cX3_init 104 = .ok (.iaload, 1) := by decide +kernel
theorem dX3_init_105 : decode cX3_init 105 = .ok (.iastore, 1) := by decide +kernel
theorem dX3_init_106 : decode cX3_init 106 = .ok (.aload_n 0, 1) := by decide +kernel
theorem dX3_init_107 : decode cX3_init 107 = .ok (.getfield 9, 3) := by decide +kernel
theorem dX3_init_110 : decode cX3_init 110 = .ok (.iconst 2, 1) := by decide +kernel
theorem dX3_init_111 : decode cX3_init 111 = .ok (.getstatic 56, 3) := by decide +kernel
theorem dX3_init_114 : decode cX3_init 114 = .ok (.iconst 2, 1) := by decide +kernel
theorem dX3_init_115 : decode cX3_init 115 = .ok (.iaload, 1) := by decide +kernel
theorem dX3_init_116 : decode cX3_init 116 = .ok (.iastore, 1) := by decide +kernel
theorem dX3_init_117 : decode cX3_init 117 = .ok (.aload_n 0, 1) := by decide +kernel
theorem dX3_init_118 : decode cX3_init 118 = .ok (.getfield 53, 3) := by decide +kernel
theorem dX3_init_121 : decode cX3_init 121 = .ok (.iconst (-1), 1) := by decide +kernel
theorem dX3_init_122 : decode cX3_init 122 = .ok (.invokestatic 59, 3) := by decide +kernel
theorem dX3_init_125 : decode cX3_init 125 = .ok (.return_, 1) := by decide +kernel
theorem dX3_receiveLaying_0 : decode cX3_receiveLaying 0 = .ok (.aload_n 0, 1) := by decide +kernel
theorem dX3_receiveLaying_1 : decode cX3_receiveLaying 1 = .ok (.invokevirtual 65, 3) := by decide +kernel
theorem dX3_receiveLaying_4 : decode cX3_receiveLaying 4 = .ok (.aload_n 0, 1) := by decide +kernel
theorem dX3_receiveLaying_5 : decode cX3_receiveLaying 5 = .ok (.getfield 18, 3) := by decide +kernel
theorem dX3_receiveLaying_8 : decode cX3_receiveLaying 8 = .ok (.aload_n 1, 1) := by decide +kernel
theorem dX3_receiveLaying_9 : decode cX3_receiveLaying 9 = .ok (.invokevirtual 68, 3) := by decide +kernel
theorem dX3_receiveLaying_12 : decode cX3_receiveLaying 12 = .ok (.return_, 1) := by decide +kernel
theorem dX3_swapLayings_0 : decode cX3_swapLayings 0 = .ok (.aload_n 0, 1) := by decide +kernel
theorem dX3_swapLayings_1 : decode cX3_swapLayings 1 = .ok (.getfield 18, 3) := by decide +kernel
theorem dX3_swapLayings_4 : decode cX3_swapLayings 4 = .ok (.astore_n 1, 1) := by decide +kernel
theorem dX3_swapLayings_5 : decode cX3_swapLayings 5 = .ok (.aload_n 0, 1) := by decide +kernel
theorem dX3_swapLayings_6 : decode cX3_swapLayings 6 = .ok (.aload_n 0, 1) := by decide +kernel
theorem dX3_swapLayings_7 : decode cX3_swapLayings 7 = .ok (.getfield 22, 3) := by decide +kernel
theorem dX3_swapLayings_10 : decode cX3_swapLayings 10 = .ok (.putfield 18, 3) := by decide +kernel
theorem dX3_swapLayings_13 : decode cX3_swapLayings 13 = .ok (.aload_n 0, 1) := by decide +kernel
theorem dX3_swapLayings_14 : decode cX3_swapLayings 14 = .ok (.aload_n 1, 1) := by decide +kernel
theorem dX3_swapLayings_15 : decode cX3_swapLayings 15 = .ok (.putfield 22, 3) := by decide +kernel
theorem dX3_swapLayings_18 : decode cX3_swapLayings 18 = .ok (.aload_n 0, 1) := by decide +kernel
theorem dX3_swapLayings_19 : decode cX3_swapLayings 19 = .ok (.bipush (-9), 2) := by decide +kernel
theorem dX3_swapLayings_21 : decode cX3_swapLayings 21 = .ok (.putfield 29, 3) := by decide +kernel
theorem dX3_swapLayings_24 : decode cX3_swapLayings 24 = .ok (.return_, 1) := by decide +kernel
theorem dX3_forgetLayings_0 : decode cX3_forgetLayings 0 = .ok (.aload_n 0, 1) := by decide +kernel
theorem dX3_forgetLayings_1 : decode cX3_forgetLayings 1 = .ok (.getfield 18, 3) := by decide +kernel
theorem dX3_forgetLayings_4 : decode cX3_forgetLayings 4 = .ok (.invokevirtual 72, 3) := by decide +kernel
theorem dX3_forgetLayings_7 : decode cX3_forgetLayings 7 = .ok (.aload_n 0, 1) := by decide +kernel
theorem dX3_forgetLayings_8 : decode cX3_forgetLayings 8 = .ok (.getfield 22, 3) := by decide +kernel
theorem dX3_forgetLayings_11 : decode cX3_forgetLayings 11 = .ok (.invokevirtual 72, 3) := by decide +kernel
theorem dX3_forgetLayings_14 : decode cX3_forgetLayings 14 = .ok (.aload_n 0, 1) := by decide +kernel
theorem dX3_forgetLayings_15 : decode cX3_forgetLayings 15 = .ok (.bipush (-9), 2) := by decide +kernel
theorem dX3_forgetLayings_17 : decode cX3_forgetLayings 17 = .ok (.putfield 29, 3) := by decide +kernel
theorem dX3_forgetLayings_20 : decode cX3_forgetLayings 20 = .ok (.return_, 1) := by decide +kernel
theorem dX3_isStillAsked_0 : decode cX3_isStillAsked 0 = .ok (.aload_n 0, 1) := by decide +kernel
theorem dX3_isStillAsked_1 : decode cX3_isStillAsked 1 = .ok (.getfield 29, 3) := by decide +kernel
theorem dX3_isStillAsked_4 : decode cX3_isStillAsked 4 = .ok (.iload_n 1, 1) := by decide +kernel
theorem dX3_isStillAsked_5 : decode cX3_isStillAsked 5 = .ok (.if_icmp .ne 17, 3) := by decide +kernel
theorem dX3_isStillAsked_8 : decode cX3_isStillAsked 8 = .ok (.iload_n 2, 1) := by decide +kernel
theorem dX3_isStillAsked_9 : decode cX3_isStillAsked 9 = .ok (.aload_n 0, 1) := by decide +kernel
theorem dX3_isStillAsked_10 : decode cX3_isStillAsked 10 = .ok (.getfield 35, 3) := by decide +kernel
theorem dX3_isStillAsked_13 : decode cX3_isStillAsked 13 = .ok (.isub, 1) := by decide +kernel
theorem dX3_isStillAsked_14 : decode cX3_isStillAsked 14 = .ok (.iload_n 3, 1) := by decide +kernel
theorem dX3_isStillAsked_15 : decode cX3_isStillAsked 15 = .ok (.if_icmp .gt 7, 3) := by decide +kernel
theorem dX3_isStillAsked_18 : decode cX3_isStillAsked 18 = .ok (.iconst 1, 1) := by decide +kernel
theorem dX3_isStillAsked_19 : decode cX3_isStillAsked 19 = .ok (.goto 4, 3) := by decide +kernel
theorem dX3_isStillAsked_22 : decode cX3_isStillAsked 22 = .ok (.iconst 0, 1) := by decide +kernel
theorem dX3_isStillAsked_23 : decode cX3_isStillAsked 23 = .ok (.ireturn, 1) := by decide +kernel
theorem dX3_ask_0 : decode cX3_ask 0 = .ok (.aload_n 0, 1) := by decide +kernel
theorem dX3_ask_1 : decode cX3_ask 1 = .ok (.iload_n 1, 1) := by decide +kernel
theorem dX3_ask_2 : decode cX3_ask 2 = .ok (.putfield 29, 3) := by decide +kernel
theorem dX3_ask_5 : decode cX3_ask 5 = .ok (.aload_n 0, 1) := by decide +kernel
theorem dX3_ask_6 : decode cX3_ask 6 = .ok (.iload_n 2, 1) := by decide +kernel
theorem dX3_ask_7 : decode cX3_ask 7 = .ok (.putfield 32, 3) := by decide +kernel
theorem dX3_ask_10 : decode cX3_ask 10 = .ok (.aload_n 0, 1) := by decide +kernel
theorem dX3_ask_11 : decode cX3_ask 11 = .ok (.iload_n 3, 1) := by decide +kernel
theorem dX3_ask_12 : decode cX3_ask 12 = .ok (.putfield 35, 3) := by decide +kernel
theorem dX3_ask_15 : decode cX3_ask 15 = .ok (.return_, 1) := by decide +kernel
theorem dX3_take_0 : decode cX3_take 0 = .ok (.aload_n 0, 1) := by decide +kernel
theorem dX3_take_1 : decode cX3_take 1 = .ok (.bipush (-9), 2) := by decide +kernel
theorem dX3_take_3 : decode cX3_take 3 = .ok (.putfield 29, 3) := by decide +kernel
theorem dX3_take_6 : decode cX3_take 6 = .ok (.aload_n 0, 1) := by decide +kernel
theorem dX3_take_7 : decode cX3_take 7 = .ok (.getfield 38, 3) := by decide +kernel
theorem dX3_take_10 : decode cX3_take 10 = .ok (.iload_n 1, 1) := by decide +kernel
theorem dX3_take_11 : decode cX3_take 11 = .ok (.dup2, 1) := by decide +kernel
theorem dX3_take_12 : decode cX3_take 12 = .ok (.iaload, 1) := by decide +kernel
theorem dX3_take_13 : decode cX3_take 13 = .ok (.iconst 1, 1) := by decide +kernel
theorem dX3_take_14 : decode cX3_take 14 = .ok (.iadd, 1) := by decide +kernel
theorem dX3_take_15 : decode cX3_take 15 = .ok (.iastore, 1) := by decide +kernel
theorem dX3_take_16 : decode cX3_take 16 = .ok (.aload_n 0, 1) := by decide +kernel
theorem dX3_take_17 : decode cX3_take 17 = .ok (.getfield 44, 3) := by decide +kernel
theorem dX3_take_20 : decode cX3_take 20 = .ok (.bipush 12, 2) := by decide +kernel
theorem dX3_take_22 : decode cX3_take 22 = .ok (.if_icmp .ne 28, 3) := by decide +kernel
theorem dX3_take_25 : decode cX3_take 25 = .ok (.aload_n 0, 1) := by decide +kernel
theorem dX3_take_26 : decode cX3_take 26 = .ok (.getfield 41, 3) := by decide +kernel
theorem dX3_take_29 : decode cX3_take 29 = .ok (.iconst 1, 1) := by decide +kernel
theorem dX3_take_30 : decode cX3_take 30 = .ok (.aload_n 0, 1) := by decide +kernel
theorem dX3_take_31 : decode cX3_take 31 = .ok (.getfield 41, 3) := by decide +kernel
theorem dX3_take_34 : decode cX3_take 34 = .ok (.iconst 0, 1) := by decide +kernel
theorem dX3_take_35 : decode cX3_take 35 = .ok (.bipush 11, 2) := by decide +kernel
theorem dX3_take_37 : decode cX3_take 37 = .ok (.invokestatic 75, 3) := by decide +kernel
theorem dX3_take_40 : decode cX3_take 40 = .ok (.aload_n 0, 1) := by decide +kernel
theorem dX3_take_41 : decode cX3_take 41 = .ok (.dup, 1) := by decide +kernel
theorem dX3_take_42 : decode cX3_take 42 = .ok (.getfield 44, 3) := by decide +kernel
theorem dX3_take_45 : decode cX3_take 45 = .ok (.iconst 1, 1) := by decide +kernel
theorem dX3_take_46 : decode cX3_take 46 = .ok (.isub, 1) := by decide +kernel
theorem dX3_take_47 : decode cX3_take 47 = .ok (.putfield 44, 3) := by decide +kernel
theorem dX3_take_50 : decode cX3_take 50 = .ok (.aload_n 0, 1) := by decide +kernel
theorem dX3_take_51 : decode cX3_take 51 = .ok (.getfield 41, 3) := by decide +kernel
theorem dX3_take_54 : decode cX3_take 54 = .ok (.aload_n 0, 1) := by decide +kernel
theorem dX3_take_55 : decode cX3_take 55 = .ok (.getfield 44, 3) := by decide +kernel
theorem dX3_take_58 : decode cX3_take 58 = .ok (.iload_n 1, 1) := by decide +kernel
theorem dX3_take_59 : decode cX3_take 59 = .ok (.iastore, 1) := by decide +kernel
theorem dX3_take_60 : decode cX3_take 60 = .ok (.aload_n 0, 1) := by decide +kernel
theorem dX3_take_61 : decode cX3_take 61 = .ok (.dup, 1) := by decide +kernel
theorem dX3_take_62 : decode cX3_take 62 = .ok (.getfield 44, 3) := by decide +kernel
theorem dX3_take_65 : decode cX3_take 65 = .ok (.iconst 1, 1) := by decide +kernel
theorem dX3_take_66 : decode cX3_take 66 = .ok (.iadd, 1) := by decide +kernel
theorem dX3_take_67 : decode cX3_take 67 = .ok (.putfield 44, 3) := by decide +kernel
theorem dX3_take_70 : decode cX3_take 70 = .ok (.return_, 1) := by decide +kernel
theorem dX3_takeBack_0 : decode cX3_takeBack 0 = .ok (.aload_n 0, 1) := by decide +kernel
theorem dX3_takeBack_1 : decode cX3_takeBack 1 = .ok (.dup, 1) := by decide +kernel
theorem dX3_takeBack_2 : decode cX3_takeBack 2 = .ok (.getfield 44, 3) := by decide +kernel
theorem dX3_takeBack_5 : decode cX3_takeBack 5 = .ok (.iconst 1, 1) := by decide +kernel
theorem dX3_takeBack_6 : decode cX3_takeBack 6 = .ok (.isub, 1) := by decide +kernel
theorem dX3_takeBack_7 : decode cX3_takeBack 7 = .ok (.putfield 44, 3) := by decide +kernel
theorem dX3_takeBack_10 : decode cX3_takeBack 10 = .ok (.aload_n 0, 1) := by decide +kernel
theorem dX3_takeBack_11 : decode cX3_takeBack 11 = .ok (.getfield 41, 3) := by decide +kernel
theorem dX3_takeBack_14 : decode cX3_takeBack 14 = .ok (.aload_n 0, 1) := by decide +kernel
theorem dX3_takeBack_15 : decode cX3_takeBack 15 = .ok (.getfield 44, 3) := by decide +kernel
theorem dX3_takeBack_18 : decode cX3_takeBack 18 = .ok (.iaload, 1) := by decide +kernel
theorem dX3_takeBack_19 : decode cX3_takeBack 19 = .ok (.istore_n 1, 1) := by decide +kernel
theorem dX3_takeBack_20 : decode cX3_takeBack 20 = .ok (.aload_n 0, 1) := by decide +kernel
theorem dX3_takeBack_21 : decode cX3_takeBack 21 = .ok (.getfield 38, 3) := by decide +kernel
theorem dX3_takeBack_24 : decode cX3_takeBack 24 = .ok (.iload_n 1, 1) := by decide +kernel
theorem dX3_takeBack_25 : decode cX3_takeBack 25 = .ok (.dup2, 1) := by decide +kernel
theorem dX3_takeBack_26 : decode cX3_takeBack 26 = .ok (.iaload, 1) := by decide +kernel
theorem dX3_takeBack_27 : decode cX3_takeBack 27 = .ok (.iconst 1, 1) := by decide +kernel
theorem dX3_takeBack_28 : decode cX3_takeBack 28 = .ok (.isub, 1) := by decide +kernel
theorem dX3_takeBack_29 : decode cX3_takeBack 29 = .ok (.iastore, 1) := by decide +kernel
theorem dX3_takeBack_30 : decode cX3_takeBack 30 = .ok (.iload_n 1, 1) := by decide +kernel
theorem dX3_takeBack_31 : decode cX3_takeBack 31 = .ok (.ireturn, 1) := by decide +kernel
theorem dX3_spanFor_0 : decode cX3_spanFor 0 = .ok (.iconst 0, 1) := by decide +kernel
theorem dX3_spanFor_1 : decode cX3_spanFor 1 = .ok (.istore_n 2, 1) := by decide +kernel
theorem dX3_spanFor_2 : decode cX3_spanFor 2 = .ok (.iconst 0, 1) := by decide +kernel
theorem dX3_spanFor_3 : decode cX3_spanFor 3 = .ok (.istore_n 3, 1) := by decide +kernel
theorem dX3_spanFor_4 : decode cX3_spanFor 4 = .ok (.iload_n 3, 1) := by decide +kernel
theorem dX3_spanFor_5 : decode cX3_spanFor 5 = .ok (.iconst 3, 1) := by decide +kernel
theorem dX3_spanFor_6 : decode cX3_spanFor 6 = .ok (.if_icmp .ge 18, 3) := by decide +kernel
theorem dX3_spanFor_9 : decode cX3_spanFor 9 = .ok (.iload_n 2, 1) := by decide +kernel
theorem dX3_spanFor_10 : decode cX3_spanFor 10 = .ok (.aload_n 0, 1) := by decide +kernel
theorem dX3_spanFor_11 : decode cX3_spanFor 11 = .ok (.getfield 38, 3) := by decide +kernel
theorem dX3_spanFor_14 : decode cX3_spanFor 14 = .ok (.iload_n 3, 1) := by decide +kernel
theorem dX3_spanFor_15 : decode cX3_spanFor 15 = .ok (.iaload, 1) := by decide +kernel
theorem dX3_spanFor_16 : decode cX3_spanFor 16 = .ok (.iadd, 1) := by decide +kernel
theorem dX3_spanFor_17 : decode cX3_spanFor 17 = .ok (.istore_n 2, 1) := by decide +kernel
theorem dX3_spanFor_18 : decode cX3_spanFor 18 = .ok (.iinc 3 1, 3) := by decide +kernel
theorem dX3_spanFor_21 : decode cX3_spanFor 21 = .ok (.goto (-17), 3) := by decide +kernel
theorem dX3_spanFor_24 : decode cX3_spanFor 24 = .ok (.iconst 0, 1) := by decide +kernel
theorem dX3_spanFor_25 : decode cX3_spanFor 25 = .ok (.istore_n 3, 1) := by decide +kernel
theorem dX3_spanFor_26 : decode cX3_spanFor 26 = .ok (.iconst 0, 1) := by decide +kernel
theorem dX3_spanFor_27 : decode cX3_spanFor 27 = .ok (.istore 4, 2) := by decide +kernel
theorem dX3_spanFor_29 : decode cX3_spanFor 29 = .ok (.iload 4, 2) := by decide +kernel
theorem dX3_spanFor_31 : decode cX3_spanFor 31 = .ok (.iconst 3, 1) := by decide +kernel
theorem dX3_spanFor_32 : decode cX3_spanFor 32 = .ok (.if_icmp .ge 36, 3) := by decide +kernel
theorem dX3_spanFor_35 : decode cX3_spanFor 35 = .ok (.iload_n 2, 1) := by decide +kernel
theorem dX3_spanFor_36 : decode cX3_spanFor 36 = .ok (.ifCond .le 32, 3) := by decide +kernel
theorem dX3_spanFor_39 : decode cX3_spanFor 39 = .ok (.iload_n 3, 1) := by decide +kernel
theorem dX3_spanFor_40 : decode cX3_spanFor 40 = .ok (.aload_n 0, 1) := by decide +kernel
theorem dX3_spanFor_41 : decode cX3_spanFor 41 = .ok (.getfield 38, 3) := by decide +kernel
theorem dX3_spanFor_44 : decode cX3_spanFor 44 = .ok (.iload 4, 2) := by decide +kernel
theorem dX3_spanFor_46 : decode cX3_spanFor 46 = .ok (.iaload, 1) := by decide +kernel
theorem dX3_spanFor_47 : decode cX3_spanFor 47 = .ok (.iadd, 1) := by decide +kernel
theorem dX3_spanFor_48 : decode cX3_spanFor 48 = .ok (.istore_n 3, 1) := by decide +kernel
theorem dX3_spanFor_49 : decode cX3_spanFor 49 = .ok (.bipush 10, 2) := by decide +kernel
theorem dX3_spanFor_51 : decode cX3_spanFor 51 = .ok (.iload_n 3, 1) := by decide +kernel
theorem dX3_spanFor_52 : decode cX3_spanFor 52 = .ok (.imul, 1) := by decide +kernel
theorem dX3_spanFor_53 : decode cX3_spanFor 53 = .ok (.iload_n 1, 1) := by decide +kernel
theorem dX3_spanFor_54 : decode cX3_spanFor 54 = .ok (.iload_n 2, 1) := by decide +kernel
theorem dX3_spanFor_55 : decode cX3_spanFor 55 = .ok (.imul, 1) := by decide +kernel
theorem dX3_spanFor_56 : decode cX3_spanFor 56 = .ok (.if_icmp .lt 6, 3) := by decide +kernel
theorem dX3_spanFor_59 : decode cX3_spanFor 59 = .ok (.iload 4, 2) := by decide +kernel
theorem dX3_spanFor_61 : decode cX3_spanFor 61 = .ok (.ireturn, 1) := by decide +kernel
theorem dX3_spanFor_62 : decode cX3_spanFor 62 = .ok (.iinc 4 1, 3) := by decide +kernel
theorem dX3_spanFor_65 : decode cX3_spanFor 65 = .ok (.goto (-36), 3) := by decide +kernel
theorem dX3_spanFor_68 : decode cX3_spanFor 68 = .ok (.bipush (-9), 2) := by decide +kernel
theorem dX3_spanFor_70 : decode cX3_spanFor 70 = .ok (.ireturn, 1) := by decide +kernel
theorem dX3_pairsThatGo_0 : decode cX3_pairsThatGo 0 = .ok (.iconst 0, 1) := by decide +kernel
theorem dX3_pairsThatGo_1 : decode cX3_pairsThatGo 1 = .ok (.istore_n 2, 1) := by decide +kernel
theorem dX3_pairsThatGo_2 : decode cX3_pairsThatGo 2 = .ok (.iconst 0, 1) := by decide +kernel
theorem dX3_pairsThatGo_3 : decode cX3_pairsThatGo 3 = .ok (.istore_n 3, 1) := by decide +kernel
theorem dX3_pairsThatGo_4 : decode cX3_pairsThatGo 4 = .ok (.iload_n 3, 1) := by decide +kernel
theorem dX3_pairsThatGo_5 : decode cX3_pairsThatGo 5 = .ok (.aload_n 0, 1) := by decide +kernel
theorem dX3_pairsThatGo_6 : decode cX3_pairsThatGo 6 = .ok (.getfield 44, 3) := by decide +kernel
theorem dX3_pairsThatGo_9 : decode cX3_pairsThatGo 9 = .ok (.if_icmp .ge 47, 3) := by decide +kernel
theorem dX3_pairsThatGo_12 : decode cX3_pairsThatGo 12 = .ok (.iconst 0, 1) := by decide +kernel
theorem dX3_pairsThatGo_13 : decode cX3_pairsThatGo 13 = .ok (.istore 4, 2) := by decide +kernel
theorem dX3_pairsThatGo_15 : decode cX3_pairsThatGo 15 = .ok (.iload 4, 2) := by decide +kernel
theorem dX3_pairsThatGo_17 : decode cX3_pairsThatGo 17 = .ok (.iload_n 3, 1) := by decide +kernel
theorem dX3_pairsThatGo_18 : decode cX3_pairsThatGo 18 = .ok (.if_icmp .ge 32, 3) := by decide +kernel
theorem dX3_pairsThatGo_21 : decode cX3_pairsThatGo 21 = .ok (.aload_n 0, 1) := by decide +kernel
theorem dX3_pairsThatGo_22 : decode cX3_pairsThatGo 22 = .ok (.getfield 41, 3) := by decide +kernel
theorem dX3_pairsThatGo_25 : decode cX3_pairsThatGo 25 = .ok (.iload_n 3, 1) := by decide +kernel
theorem dX3_pairsThatGo_26 : decode cX3_pairsThatGo 26 = .ok (.iaload, 1) := by decide +kernel
theorem dX3_pairsThatGo_27 : decode cX3_pairsThatGo 27 = .ok (.aload_n 0, 1) := by decide +kernel
theorem dX3_pairsThatGo_28 : decode cX3_pairsThatGo 28 = .ok (.getfield 41, 3) := by decide +kernel
theorem dX3_pairsThatGo_31 : decode cX3_pairsThatGo 31 = .ok (.iload 4, 2) := by decide +kernel
theorem dX3_pairsThatGo_33 : decode cX3_pairsThatGo 33 = .ok (.iaload, 1) := by decide +kernel
theorem dX3_pairsThatGo_34 : decode cX3_pairsThatGo 34 = .ok (.invokestatic 81, 3) := by decide +kernel
theorem dX3_pairsThatGo_37 : decode cX3_pairsThatGo 37 = .ok (.iload_n 1, 1) := by decide +kernel
theorem dX3_pairsThatGo_38 : decode cX3_pairsThatGo 38 = .ok (.if_icmp .ne 6, 3) := by decide +kernel
theorem dX3_pairsThatGo_41 : decode cX3_pairsThatGo 41 = .ok (.iinc 2 1, 3) := by decide +kernel
theorem dX3_pairsThatGo_44 : decode cX3_pairsThatGo 44 = .ok (.iinc 4 1, 3) := by decide +kernel
theorem dX3_pairsThatGo_47 : decode cX3_pairsThatGo 47 = .ok (.goto (-32), 3) := by decide +kernel
theorem dX3_pairsThatGo_50 : decode cX3_pairsThatGo 50 = .ok (.iinc 3 1, 3) := by decide +kernel
theorem dX3_pairsThatGo_53 : decode cX3_pairsThatGo 53 = .ok (.goto (-49), 3) := by decide +kernel
theorem dX3_pairsThatGo_56 : decode cX3_pairsThatGo 56 = .ok (.iload_n 2, 1) := by decide +kernel
theorem dX3_pairsThatGo_57 : decode cX3_pairsThatGo 57 = .ok (.ireturn, 1) := by decide +kernel
theorem dX4_init_0 : decode cX4_init 0 = .ok (.aload_n 0, 1) := by decide +kernel
theorem dX4_init_1 : decode cX4_init 1 = .ok (.invokespecial 3, 3) := by decide +kernel
theorem dX4_init_4 : decode cX4_init 4 = .ok (.aload_n 0, 1) := by decide +kernel
theorem dX4_init_5 : decode cX4_init 5 = .ok (.new 9, 3) := by decide +kernel
theorem dX4_init_8 : decode cX4_init 8 = .ok (.dup, 1) := by decide +kernel
theorem dX4_init_9 : decode cX4_init 9 = .ok (.invokespecial 11, 3) := by decide +kernel
theorem dX4_init_12 : decode cX4_init 12 = .ok (.putfield 12, 3) := by decide +kernel
theorem dX4_init_15 : decode cX4_init 15 = .ok (.aload_n 0, 1) := by decide +kernel
theorem dX4_init_16 : decode cX4_init 16 = .ok (.iconst 0, 1) := by decide +kernel
theorem dX4_init_17 : decode cX4_init 17 = .ok (.putfield 18, 3) := by decide +kernel
theorem dX4_init_20 : decode cX4_init 20 = .ok (.aload_n 0, 1) := by decide +kernel
theorem dX4_init_21 : decode cX4_init 21 = .ok (.iconst 0, 1) := by decide +kernel
theorem dX4_init_22 : decode cX4_init 22 = .ok (.putfield 22, 3) := by decide +kernel
theorem dX4_init_25 : decode cX4_init 25 = .ok (.return_, 1) := by decide +kernel
theorem dX4_firstFault_0 : decode cX4_firstFault 0 = .ok (.aload_n 0, 1) := by decide +kernel
theorem dX4_firstFault_1 : decode cX4_firstFault 1 = .ok (.getfield 12, 3) := by decide +kernel
theorem dX4_firstFault_4 : decode cX4_firstFault 4 = .ok (.invokevirtual 25, 3) := by decide +kernel
theorem dX4_firstFault_7 : decode cX4_firstFault 7 = .ok (.aload_n 0, 1) := by decide +kernel
theorem dX4_firstFault_8 : decode cX4_firstFault 8 = .ok (.iconst 0, 1) := by decide +kernel
theorem dX4_firstFault_9 : decode cX4_firstFault 9 = .ok (.putfield 18, 3) := by decide +kernel
theorem dX4_firstFault_12 : decode cX4_firstFault 12 = .ok (.iconst 0, 1) := by decide +kernel
theorem dX4_firstFault_13 : decode cX4_firstFault 13 = .ok (.istore 4, 2) := by decide +kernel
theorem dX4_firstFault_15 : decode cX4_firstFault 15 = .ok (.iload 4, 2) := by decide +kernel
theorem dX4_firstFault_17 : decode cX4_firstFault 17 = .ok (.iload_n 3, 1) := by decide +kernel
theorem dX4_firstFault_18 : decode cX4_firstFault 18 = .ok (.if_icmp .ge 25, 3) := by decide +kernel
theorem dX4_firstFault_21 : decode cX4_firstFault 21 = .ok (.aload_n 0, 1) := by decide +kernel
theorem dX4_firstFault_22 : decode cX4_firstFault 22 = .ok (.aload_n 1, 1) := by decide +kernel
theorem dX4_firstFault_23 : decode cX4_firstFault 23 = .ok (.iload_n 2, 1) := by decide +kernel
theorem dX4_firstFault_24 : decode cX4_firstFault 24 = .ok (.iload 4, 2) := by decide +kernel
theorem dX4_firstFault_26 : decode cX4_firstFault 26 = .ok (.iadd, 1) := by decide +kernel
theorem dX4_firstFault_27 : decode cX4_firstFault 27 = .ok (.iaload, 1) := by decide +kernel
theorem dX4_firstFault_28 : decode cX4_firstFault 28 = .ok (.invokevirtual 28, 3) := by decide +kernel
theorem dX4_firstFault_31 : decode cX4_firstFault 31 = .ok (.ifCond .ne 6, 3) := by decide +kernel
theorem dX4_firstFault_34 : decode cX4_firstFault 34 = .ok (.iload 4, 2) := by decide +kernel
theorem dX4_firstFault_36 : decode cX4_firstFault 36 = .ok (.ireturn, 1) := by decide +kernel
theorem dX4_firstFault_37 : decode cX4_firstFault 37 = .ok (.iinc 4 1, 3) := by decide +kernel
theorem dX4_firstFault_40 : decode cX4_firstFault 40 = .ok (.goto (-25), 3) := by decide +kernel
theorem dX4_firstFault_43 : decode cX4_firstFault 43 = .ok (.aload_n 0, 1) := by decide +kernel
theorem dX4_firstFault_44 : decode cX4_firstFault 44 = .ok (.getfield 18, 3) := by decide +kernel
theorem dX4_firstFault_47 : decode cX4_firstFault 47 = .ok (.iconst 2, 1) := by decide +kernel
theorem dX4_firstFault_48 : decode cX4_firstFault 48 = .ok (.if_icmp .eq 11, 3) := by decide +kernel
theorem dX4_firstFault_51 : decode cX4_firstFault 51 = .ok (.aload_n 0, 1) := by decide +kernel
theorem dX4_firstFault_52 : decode cX4_firstFault 52 = .ok (.getfield 18, 3) := by decide +kernel
theorem dX4_firstFault_55 : decode cX4_firstFault 55 = .ok (.iconst 4, 1) := by decide +kernel
theorem dX4_firstFault_56 : decode cX4_firstFault 56 = .ok (.if_icmp .ne 8, 3) := by decide +kernel
theorem dX4_firstFault_59 : decode cX4_firstFault 59 = .ok (.bipush (-9), 2) := by decide +kernel
theorem dX4_firstFault_61 : decode cX4_firstFault 61 = .ok (.goto 4, 3) := by decide +kernel
theorem dX4_firstFault_64 : decode cX4_firstFault 64 = .ok (.iload_n 3, 1) := by decide +kernel
theorem dX4_firstFault_65 : decode cX4_firstFault 65 = .ok (.ireturn, 1) := by decide +kernel
theorem dX4_takes_0 : decode cX4_takes 0 = .ok (.aload_n 0, 1) := by decide +kernel
theorem dX4_takes_1 : decode cX4_takes 1 = .ok (.getfield 18, 3) := by decide +kernel
theorem dX4_takes_4 : decode cX4_takes 4 = .ok (.tableswitch 80 0 3 #[32, 38, 44, 74], 32) := by decide +kernel
theorem dX4_takes_36 : decode cX4_takes 36 = .ok (.aload_n 0, 1) := by decide +kernel
theorem dX4_takes_37 : decode cX4_takes 37 = .ok (.iload_n 1, 1) := by decide +kernel
theorem dX4_takes_38 : decode cX4_takes 38 = .ok (.invokevirtual 32, 3) := by decide +kernel
theorem dX4_takes_41 : decode cX4_takes 41 = .ok (.ireturn, 1) := by decide +kernel
theorem dX4_takes_42 : decode cX4_takes 42 = .ok (.aload_n 0, 1) := by decide +kernel
theorem dX4_takes_43 : decode cX4_takes 43 = .ok (.iload_n 1, 1) := by decide +kernel
theorem dX4_takes_44 : decode cX4_takes 44 = .ok (.invokevirtual 35, 3) := by decide +kernel
theorem dX4_takes_47 : decode cX4_takes 47 = .ok (.ireturn, 1) := by decide +kernel
theorem dX4_takes_48 : decode cX4_takes 48 = .ok (.aload_n 0, 1) := by decide +kernel
theorem dX4_takes_49 : decode cX4_takes 49 = .ok (.getfield 22, 3) := by decide +kernel
theorem dX4_takes_52 : decode cX4_takes 52 = .ok (.iconst 3, 1) := by decide +kernel
theorem dX4_takes_53 : decode cX4_takes 53 = .ok (.if_icmp .ge 11, 3) := by decide +kernel
theorem dX4_takes_56 : decode cX4_takes 56 = .ok (.aload_n 0, 1) := by decide +kernel
theorem dX4_takes_57 : decode cX4_takes 57 = .ok (.iload_n 1, 1) := by decide +kernel
theorem dX4_takes_58 : decode cX4_takes 58 = .ok (.invokevirtual 35, 3) := by decide +kernel
theorem dX4_takes_61 : decode cX4_takes 61 = .ok (.ifCond .ne 11, 3) := by decide +kernel
theorem dX4_takes_64 : decode cX4_takes 64 = .ok (.aload_n 0, 1) := by decide +kernel
theorem dX4_takes_65 : decode cX4_takes 65 = .ok (.iload_n 1, 1) := by decide +kernel
theorem dX4_takes_66 : decode cX4_takes 66 = .ok (.invokevirtual 38, 3) := by decide +kernel
theorem dX4_takes_69 : decode cX4_takes 69 = .ok (.ifCond .eq 7, 3) := by decide +kernel
theorem dX4_takes_72 : decode cX4_takes 72 = .ok (.iconst 1, 1) := by decide +kernel
theorem dX4_takes_73 : decode cX4_takes 73 = .ok (.goto 4, 3) := by decide +kernel
theorem dX4_takes_76 : decode cX4_takes 76 = .ok (.iconst 0, 1) := by decide +kernel
theorem dX4_takes_77 : decode cX4_takes 77 = .ok (.ireturn, 1) := by decide +kernel
theorem dX4_takes_78 : decode cX4_takes 78 = .ok (.aload_n 0, 1) := by decide +kernel
theorem dX4_takes_79 : decode cX4_takes 79 = .ok (.iload_n 1, 1) := by decide +kernel
theorem dX4_takes_80 : decode cX4_takes 80 = .ok (.invokevirtual 41, 3) := by decide +kernel
theorem dX4_takes_83 : decode cX4_takes 83 = .ok (.ireturn, 1) := by decide +kernel
theorem dX4_takes_84 : decode cX4_takes 84 = .ok (.aload_n 0, 1) := by decide +kernel
theorem dX4_takes_85 : decode cX4_takes 85 = .ok (.iload_n 1, 1) := by decide +kernel
theorem dX4_takes_86 : decode cX4_takes 86 = .ok (.invokevirtual 38, 3) := by decide +kernel
theorem dX4_takes_89 : decode cX4_takes 89 = .ok (.ireturn, 1) := by decide +kernel
theorem dX4_takesLetter_0 : decode cX4_takesLetter 0 = .ok (.iload_n 1, 1) := by decide +kernel
theorem dX4_takesLetter_1 : decode cX4_takesLetter 1 = .ok (.invokestatic 44, 3) := by decide +kernel
theorem dX4_takesLetter_4 : decode cX4_takesLetter 4 = .ok (.istore_n 2, 1) := by decide +kernel
theorem dX4_takesLetter_5 : decode cX4_takesLetter 5 = .ok (.iload_n 2, 1) := by decide +kernel
theorem dX4_takesLetter_6 : decode cX4_takesLetter 6 = .ok (.bipush (-9), 2) := by decide +kernel
theorem dX4_takesLetter_8 : decode cX4_takesLetter 8 = .ok (.if_icmp .ne 5, 3) := by decide +kernel
theorem dX4_takesLetter_11 : decode cX4_takesLetter 11 = .ok (.iconst 0, 1) := by decide +kernel
theorem dX4_takesLetter_12 : decode cX4_takesLetter 12 = .ok (.ireturn, 1) := by decide +kernel
theorem dX4_takesLetter_13 : decode cX4_takesLetter 13 = .ok (.aload_n 0, 1) := by decide +kernel
theorem dX4_takesLetter_14 : decode cX4_takesLetter 14 = .ok (.getfield 12, 3) := by decide +kernel
theorem dX4_takesLetter_17 : decode cX4_takesLetter 17 = .ok (.iload_n 2, 1) := by decide +kernel
theorem dX4_takesLetter_18 : decode cX4_takesLetter 18 = .ok (.invokevirtual 48, 3) := by decide +kernel
theorem dX4_takesLetter_21 : decode cX4_takesLetter 21 = .ok (.aload_n 0, 1) := by decide +kernel
theorem dX4_takesLetter_22 : decode cX4_takesLetter 22 = .ok (.iconst 0, 1) := by decide +kernel
theorem dX4_takesLetter_23 : decode cX4_takesLetter 23 = .ok (.putfield 22, 3) := by decide +kernel
theorem dX4_takesLetter_26 : decode cX4_takesLetter 26 = .ok (.aload_n 0, 1) := by decide +kernel
theorem dX4_takesLetter_27 : decode cX4_takesLetter 27 = .ok (.iconst 1, 1) := by decide +kernel
theorem dX4_takesLetter_28 : decode cX4_takesLetter 28 = .ok (.putfield 18, 3) := by decide +kernel
theorem dX4_takesLetter_31 : decode cX4_takesLetter 31 = .ok (.iconst 1, 1) := by decide +kernel
theorem dX4_takesLetter_32 : decode cX4_takesLetter 32 = .ok (.ireturn, 1) := by decide +kernel
theorem dX4_kindOf_0 : decode cX4_kindOf 0 = .ok (.iload_n 0, 1) := by decide +kernel
theorem dX4_kindOf_1 : decode cX4_kindOf 1 = .ok (.lookupswitch 41 #[(100, 37), (112, 35), (120, 39)], 35) := by decide +kernel
theorem dX4_kindOf_36 : decode cX4_kindOf 36 = .ok (.iconst 0, 1) := by decide +kernel
theorem dX4_kindOf_37 : decode cX4_kindOf 37 = .ok (.ireturn, 1) := by decide +kernel
theorem dX4_kindOf_38 : decode cX4_kindOf 38 = .ok (.iconst 1, 1) := by decide +kernel
theorem dX4_kindOf_39 : decode cX4_kindOf 39 = .ok (.ireturn, 1) := by decide +kernel
theorem dX4_kindOf_40 : decode cX4_kindOf 40 = .ok (.iconst 2, 1) := by decide +kernel
theorem dX4_kindOf_41 : decode cX4_kindOf 41 = .ok (.ireturn, 1) := by decide +kernel
theorem dX4_kindOf_42 : decode cX4_kindOf 42 = .ok (.bipush (-9), 2) := by decide +kernel
theorem dX4_kindOf_44 : decode cX4_kindOf 44 = .ok (.ireturn, 1) := by decide +kernel
theorem dX4_takesDigit_0 : decode cX4_takesDigit 0 = .ok (.iload_n 1, 1) := by decide +kernel
theorem dX4_takesDigit_1 : decode cX4_takesDigit 1 = .ok (.bipush 48, 2) := by decide +kernel
theorem dX4_takesDigit_3 : decode cX4_takesDigit 3 = .ok (.bipush 57, 2) := by decide +kernel
theorem dX4_takesDigit_5 : decode cX4_takesDigit 5 = .ok (.invokestatic 52, 3) := by decide +kernel
theorem dX4_takesDigit_8 : decode cX4_takesDigit 8 = .ok (.ifCond .ne 5, 3) := by decide +kernel
theorem dX4_takesDigit_11 : decode cX4_takesDigit 11 = .ok (.iconst 0, 1) := by decide +kernel
theorem dX4_takesDigit_12 : decode cX4_takesDigit 12 = .ok (.ireturn, 1) := by decide +kernel
theorem dX4_takesDigit_13 : decode cX4_takesDigit 13 = .ok (.aload_n 0, 1) := by decide +kernel
theorem dX4_takesDigit_14 : decode cX4_takesDigit 14 = .ok (.getfield 12, 3) := by decide +kernel
theorem dX4_takesDigit_17 : decode cX4_takesDigit 17 = .ok (.iload_n 1, 1) := by decide +kernel
theorem dX4_takesDigit_18 : decode cX4_takesDigit 18 = .ok (.bipush 48, 2) := by decide +kernel
theorem dX4_takesDigit_20 : decode cX4_takesDigit 20 = .ok (.isub, 1) := by decide +kernel
theorem dX4_takesDigit_21 : decode cX4_takesDigit 21 = .ok (.invokevirtual 56, 3) := by decide +kernel
theorem dX4_takesDigit_24 : decode cX4_takesDigit 24 = .ok (.aload_n 0, 1) := by decide +kernel
theorem dX4_takesDigit_25 : decode cX4_takesDigit 25 = .ok (.dup, 1) := by decide +kernel
theorem dX4_takesDigit_26 : decode cX4_takesDigit 26 = .ok (.getfield 22, 3) := by decide +kernel
theorem dX4_takesDigit_29 : decode cX4_takesDigit 29 = .ok (.iconst 1, 1) := by decide +kernel
theorem dX4_takesDigit_30 : decode cX4_takesDigit 30 = .ok (.iadd, 1) := by decide +kernel
theorem dX4_takesDigit_31 : decode cX4_takesDigit 31 = .ok (.putfield 22, 3) := by decide +kernel
theorem dX4_takesDigit_34 : decode cX4_takesDigit 34 = .ok (.aload_n 0, 1) := by decide +kernel
theorem dX4_takesDigit_35 : decode cX4_takesDigit 35 = .ok (.iconst 2, 1) := by decide +kernel
theorem dX4_takesDigit_36 : decode cX4_takesDigit 36 = .ok (.putfield 18, 3) := by decide +kernel
theorem dX4_takesDigit_39 : decode cX4_takesDigit 39 = .ok (.iconst 1, 1) := by decide +kernel
theorem dX4_takesDigit_40 : decode cX4_takesDigit 40 = .ok (.ireturn, 1) := by decide +kernel
theorem dX4_takesSign_0 : decode cX4_takesSign 0 = .ok (.iload_n 1, 1) := by decide +kernel
theorem dX4_takesSign_1 : decode cX4_takesSign 1 = .ok (.bipush 62, 2) := by decide +kernel
theorem dX4_takesSign_3 : decode cX4_takesSign 3 = .ok (.if_icmp .ne 10, 3) := by decide +kernel
theorem dX4_takesSign_6 : decode cX4_takesSign 6 = .ok (.aload_n 0, 1) := by decide +kernel
theorem dX4_takesSign_7 : decode cX4_takesSign 7 = .ok (.iconst 3, 1) := by decide +kernel
theorem dX4_takesSign_8 : decode cX4_takesSign 8 = .ok (.putfield 18, 3) := by decide +kernel
theorem dX4_takesSign_11 : decode cX4_takesSign 11 = .ok (.iconst 1, 1) := by decide +kernel
theorem dX4_takesSign_12 : decode cX4_takesSign 12 = .ok (.ireturn, 1) := by decide +kernel
theorem dX4_takesSign_13 : decode cX4_takesSign 13 = .ok (.iload_n 1, 1) := by decide +kernel
theorem dX4_takesSign_14 : decode cX4_takesSign 14 = .ok (.bipush 59, 2) := by decide +kernel
theorem dX4_takesSign_16 : decode cX4_takesSign 16 = .ok (.if_icmp .ne 22, 3) := by decide +kernel
theorem dX4_takesSign_19 : decode cX4_takesSign 19 = .ok (.aload_n 0, 1) := by decide +kernel
theorem dX4_takesSign_20 : decode cX4_takesSign 20 = .ok (.getfield 12, 3) := by decide +kernel
theorem dX4_takesSign_23 : decode cX4_takesSign 23 = .ok (.getfield 59, 3) := by decide +kernel
theorem dX4_takesSign_26 : decode cX4_takesSign 26 = .ok (.bipush 10, 2) := by decide +kernel
theorem dX4_takesSign_28 : decode cX4_takesSign 28 = .ok (.if_icmp .ge 10, 3) := by decide +kernel
theorem dX4_takesSign_31 : decode cX4_takesSign 31 = .ok (.aload_n 0, 1) := by decide +kernel
theorem dX4_takesSign_32 : decode cX4_takesSign 32 = .ok (.iconst 0, 1) := by decide +kernel
theorem dX4_takesSign_33 : decode cX4_takesSign 33 = .ok (.putfield 18, 3) := by decide +kernel
theorem dX4_takesSign_36 : decode cX4_takesSign 36 = .ok (.iconst 1, 1) := by decide +kernel
theorem dX4_takesSign_37 : decode cX4_takesSign 37 = .ok (.ireturn, 1) := by decide +kernel
theorem dX4_takesSign_38 : decode cX4_takesSign 38 = .ok (.iconst 0, 1) := by decide +kernel
theorem dX4_takesSign_39 : decode cX4_takesSign 39 = .ok (.ireturn, 1) := by decide +kernel
theorem dX4_takesAhead_0 : decode cX4_takesAhead 0 = .ok (.iload_n 1, 1) := by decide +kernel
theorem dX4_takesAhead_1 : decode cX4_takesAhead 1 = .ok (.bipush 48, 2) := by decide +kernel
theorem dX4_takesAhead_3 : decode cX4_takesAhead 3 = .ok (.isub, 1) := by decide +kernel
theorem dX4_takesAhead_4 : decode cX4_takesAhead 4 = .ok (.istore_n 2, 1) := by decide +kernel
theorem dX4_takesAhead_5 : decode cX4_takesAhead 5 = .ok (.iload_n 1, 1) := by decide +kernel
theorem dX4_takesAhead_6 : decode cX4_takesAhead 6 = .ok (.bipush 48, 2) := by decide +kernel
theorem dX4_takesAhead_8 : decode cX4_takesAhead 8 = .ok (.bipush 57, 2) := by decide +kernel
theorem dX4_takesAhead_10 : decode cX4_takesAhead 10 = .ok (.invokestatic 52, 3) := by decide +kernel
theorem dX4_takesAhead_13 : decode cX4_takesAhead 13 = .ok (.ifCond .eq 14, 3) := by decide +kernel
theorem dX4_takesAhead_16 : decode cX4_takesAhead 16 = .ok (.aload_n 0, 1) := by decide +kernel
theorem dX4_takesAhead_17 : decode cX4_takesAhead 17 = .ok (.getfield 12, 3) := by decide +kernel
theorem dX4_takesAhead_20 : decode cX4_takesAhead 20 = .ok (.iload_n 2, 1) := by decide +kernel
theorem dX4_takesAhead_21 : decode cX4_takesAhead 21 = .ok (.invokevirtual 62, 3) := by decide +kernel
theorem dX4_takesAhead_24 : decode cX4_takesAhead 24 = .ok (.ifCond .ne 5, 3) := by decide +kernel
theorem dX4_takesAhead_27 : decode cX4_takesAhead 27 = .ok (.iconst 0, 1) := by decide +kernel
theorem dX4_takesAhead_28 : decode cX4_takesAhead 28 = .ok (.ireturn, 1) := by decide +kernel
theorem dX4_takesAhead_29 : decode cX4_takesAhead 29 = .ok (.aload_n 0, 1) := by decide +kernel
theorem dX4_takesAhead_30 : decode cX4_takesAhead 30 = .ok (.getfield 12, 3) := by decide +kernel
theorem dX4_takesAhead_33 : decode cX4_takesAhead 33 = .ok (.iload_n 2, 1) := by decide +kernel
theorem dX4_takesAhead_34 : decode cX4_takesAhead 34 = .ok (.invokevirtual 65, 3) := by decide +kernel
theorem dX4_takesAhead_37 : decode cX4_takesAhead 37 = .ok (.aload_n 0, 1) := by decide +kernel
theorem dX4_takesAhead_38 : decode cX4_takesAhead 38 = .ok (.iconst 4, 1) := by decide +kernel
theorem dX4_takesAhead_39 : decode cX4_takesAhead 39 = .ok (.putfield 18, 3) := by decide +kernel
theorem dX4_takesAhead_42 : decode cX4_takesAhead 42 = .ok (.iconst 1, 1) := by decide +kernel
theorem dX4_takesAhead_43 : decode cX4_takesAhead 43 = .ok (.ireturn, 1) := by decide +kernel
theorem dX5_init_0 : decode cX5_init 0 = .ok (.aload_n 0, 1) := by decide +kernel
theorem dX5_init_1 : decode cX5_init 1 = .ok (.invokespecial 5, 3) := by decide +kernel
theorem dX5_init_4 : decode cX5_init 4 = .ok (.aload_n 0, 1) := by decide +kernel
theorem dX5_init_5 : decode cX5_init 5 = .ok (.new 11, 3) := by decide +kernel
theorem dX5_init_8 : decode cX5_init 8 = .ok (.dup, 1) := by decide +kernel
theorem dX5_init_9 : decode cX5_init 9 = .ok (.invokespecial 13, 3) := by decide +kernel
theorem dX5_init_12 : decode cX5_init 12 = .ok (.putfield 14, 3) := by decide +kernel
theorem dX5_init_15 : decode cX5_init 15 = .ok (.aload_n 0, 1) := by decide +kernel
theorem dX5_init_16 : decode cX5_init 16 = .ok (.iconst 5, 1) := by decide +kernel
theorem dX5_init_17 : decode cX5_init 17 = .ok (.newarray .int, 2) := by decide +kernel
theorem dX5_init_19 : decode cX5_init 19 = .ok (.putfield 20, 3) := by decide +kernel
theorem dX5_init_22 : decode cX5_init 22 = .ok (.aload_n 0, 1) := by decide +kernel
theorem dX5_init_23 : decode cX5_init 23 = .ok (.iconst 5, 1) := by decide +kernel
theorem dX5_init_24 : decode cX5_init 24 = .ok (.newarray .int, 2) := by decide +kernel
theorem dX5_init_26 : decode cX5_init 26 = .ok (.putfield 24, 3) := by decide +kernel
theorem dX5_init_29 : decode cX5_init 29 = .ok (.aload_n 0, 1) := by decide +kernel
theorem dX5_init_30 : decode cX5_init 30 = .ok (.iconst 5, 1) := by decide +kernel
theorem dX5_init_31 : decode cX5_init 31 = .ok (.iconst 5, 1) := by decide +kernel
theorem dX5_init_32 : decode cX5_init 32 = .ok (.multianewarray 27 2, 4) := by decide +kernel
theorem dX5_init_36 : decode cX5_init 36 = .ok (.putfield 29, 3) := by decide +kernel
theorem dX5_init_39 : decode cX5_init 39 = .ok (.aload_n 0, 1) := by decide +kernel
theorem dX5_init_40 : decode cX5_init 40 = .ok (.bipush 6, 2) := by decide +kernel
theorem dX5_init_42 : decode cX5_init 42 = .ok (.newarray .int, 2) := by decide +kernel
theorem dX5_init_44 : decode cX5_init 44 = .ok (.putfield 32, 3) := by decide +kernel
theorem dX5_init_47 : decode cX5_init 47 = .ok (.aload_n 0, 1) := by decide +kernel
theorem dX5_init_48 : decode cX5_init 48 = .ok (.bipush 12, 2) := by decide +kernel
theorem dX5_init_50 : decode cX5_init 50 = .ok (.newarray .int, 2) := by decide +kernel
theorem dX5_init_52 : decode cX5_init 52 = .ok (.putfield 35, 3) := by decide +kernel
theorem dX5_init_55 : decode cX5_init 55 = .ok (.aload_n 0, 1) := by decide +kernel
theorem dX5_init_56 : decode cX5_init 56 = .ok (.iconst 0, 1) := by decide +kernel
theorem dX5_init_57 : decode cX5_init 57 = .ok (.putfield 38, 3) := by decide +kernel
theorem dX5_init_60 : decode cX5_init 60 = .ok (.aload_n 0, 1) := by decide +kernel
theorem dX5_init_61 : decode cX5_init 61 = .ok (.ldc 42, 2) := by decide +kernel
theorem dX5_init_63 : decode cX5_init 63 = .ok (.putfield 43, 3) := by decide +kernel
theorem dX5_init_66 : decode cX5_init 66 = .ok (.return_, 1) := by decide +kernel
theorem dX5_seek_0 : decode cX5_seek 0 = .ok (.aload_n 0, 1) := by decide +kernel
theorem dX5_seek_1 : decode cX5_seek 1 = .ok (.getfield 14, 3) := by decide +kernel
theorem dX5_seek_4 : decode cX5_seek 4 = .ok (.invokevirtual 46, 3) := by decide +kernel
theorem dX5_seek_7 : decode cX5_seek 7 = .ok (.aload_n 0, 1) := by decide +kernel
theorem dX5_seek_8 : decode cX5_seek 8 = .ok (.iload_n 2, 1) := by decide +kernel
theorem dX5_seek_9 : decode cX5_seek 9 = .ok (.invokevirtual 49, 3) := by decide +kernel
theorem dX5_seek_12 : decode cX5_seek 12 = .ok (.aload_n 0, 1) := by decide +kernel
theorem dX5_seek_13 : decode cX5_seek 13 = .ok (.getfield 38, 3) := by decide +kernel
theorem dX5_seek_16 : decode cX5_seek 16 = .ok (.aload_n 3, 1) := by decide +kernel
theorem dX5_seek_17 : decode cX5_seek 17 = .ok (.getfield 53, 3) := by decide +kernel
theorem dX5_seek_20 : decode cX5_seek 20 = .ok (.iconst 2, 1) := by decide +kernel
theorem dX5_seek_21 : decode cX5_seek 21 = .ok (.iaload, 1) := by decide +kernel
theorem dX5_seek_22 : decode cX5_seek 22 = .ok (.if_icmp .le 6, 3) := by decide +kernel
theorem dX5_seek_25 : decode cX5_seek 25 = .ok (.bipush (-9), 2) := by decide +kernel
theorem dX5_seek_27 : decode cX5_seek 27 = .ok (.ireturn, 1) := by decide +kernel
theorem dX5_seek_28 : decode cX5_seek 28 = .ok (.aload_n 0, 1) := by decide +kernel
theorem dX5_seek_29 : decode cX5_seek 29 = .ok (.aload_n 1, 1) := by decide +kernel
theorem dX5_seek_30 : decode cX5_seek 30 = .ok (.aload_n 3, 1) := by decide +kernel
theorem dX5_seek_31 : decode cX5_seek 31 = .ok (.getfield 53, 3) := by decide +kernel
theorem dX5_seek_34 : decode cX5_seek 34 = .ok (.iconst 0, 1) := by decide +kernel
theorem dX5_seek_35 : decode cX5_seek 35 = .ok (.iaload, 1) := by decide +kernel
theorem dX5_seek_36 : decode cX5_seek 36 = .ok (.invokevirtual 58, 3) := by decide +kernel
theorem dX5_seek_39 : decode cX5_seek 39 = .ok (.aload_n 0, 1) := by decide +kernel
theorem dX5_seek_40 : decode cX5_seek 40 = .ok (.aload_n 3, 1) := by decide +kernel
theorem dX5_seek_41 : decode cX5_seek 41 = .ok (.getfield 53, 3) := by decide +kernel
theorem dX5_seek_44 : decode cX5_seek 44 = .ok (.iconst 0, 1) := by decide +kernel
theorem dX5_seek_45 : decode cX5_seek 45 = .ok (.iaload, 1) := by decide +kernel
theorem dX5_seek_46 : decode cX5_seek 46 = .ok (.invokevirtual 62, 3) := by decide +kernel
theorem dX5_seek_49 : decode cX5_seek 49 = .ok (.aload_n 0, 1) := by decide +kernel
theorem dX5_seek_50 : decode cX5_seek 50 = .ok (.ldc 42, 2) := by decide +kernel
theorem dX5_seek_52 : decode cX5_seek 52 = .ok (.putfield 43, 3) := by decide +kernel
theorem dX5_seek_55 : decode cX5_seek 55 = .ok (.aload_n 0, 1) := by decide +kernel
theorem dX5_seek_56 : decode cX5_seek 56 = .ok (.iconst 0, 1) := by decide +kernel
theorem dX5_seek_57 : decode cX5_seek 57 = .ok (.iconst 0, 1) := by decide +kernel
theorem dX5_seek_58 : decode cX5_seek 58 = .ok (.aload_n 3, 1) := by decide +kernel
theorem dX5_seek_59 : decode cX5_seek 59 = .ok (.getfield 53, 3) := by decide +kernel
theorem dX5_seek_62 : decode cX5_seek 62 = .ok (.iconst 1, 1) := by decide +kernel
theorem dX5_seek_63 : decode cX5_seek 63 = .ok (.iaload, 1) := by decide +kernel
theorem dX5_seek_64 : decode cX5_seek 64 = .ok (.invokevirtual 65, 3) := by decide +kernel
theorem dX5_seek_67 : decode cX5_seek 67 = .ok (.aload_n 0, 1) := by decide +kernel
theorem dX5_seek_68 : decode cX5_seek 68 = .ok (.getfield 14, 3) := by decide +kernel
theorem dX5_seek_71 : decode cX5_seek 71 = .ok (.invokevirtual 69, 3) := by decide +kernel
theorem dX5_seek_74 : decode cX5_seek 74 = .ok (.ifCond .eq 8, 3) := by decide +kernel
theorem dX5_seek_77 : decode cX5_seek 77 = .ok (.bipush (-9), 2) := by decide +kernel
theorem dX5_seek_79 : decode cX5_seek 79 = .ok (.goto 7, 3) := by decide +kernel
theorem dX5_seek_82 : decode cX5_seek 82 = .ok (.aload_n 0, 1) := by decide +kernel
theorem dX5_seek_83 : decode cX5_seek 83 = .ok (.getfield 43, 3) := by decide +kernel
theorem dX5_seek_86 : decode cX5_seek 86 = .ok (.ireturn, 1) := by decide +kernel
theorem dX5_choose_0 : decode cX5_choose 0 = .ok (.aload_n 0, 1) := by decide +kernel
theorem dX5_choose_1 : decode cX5_choose 1 = .ok (.iconst 0, 1) := by decide +kernel
theorem dX5_choose_2 : decode cX5_choose 2 = .ok (.putfield 38, 3) := by decide +kernel
theorem dX5_choose_5 : decode cX5_choose 5 = .ok (.iconst 0, 1) := by decide +kernel
theorem dX5_choose_6 : decode cX5_choose 6 = .ok (.istore_n 2, 1) := by decide +kernel
theorem dX5_choose_7 : decode cX5_choose 7 = .ok (.iload_n 2, 1) := by decide +kernel
theorem dX5_choose_8 : decode cX5_choose 8 = .ok (.bipush 10, 2) := by decide +kernel
theorem dX5_choose_10 : decode cX5_choose 10 = .ok (.if_icmp .ge 46, 3) := by decide +kernel
theorem dX5_choose_13 : decode cX5_choose 13 = .ok (.aload_n 0, 1) := by decide +kernel
theorem dX5_choose_14 : decode cX5_choose 14 = .ok (.getfield 38, 3) := by decide +kernel
theorem dX5_choose_17 : decode cX5_choose 17 = .ok (.iconst 5, 1) := by decide +kernel
theorem dX5_choose_18 : decode cX5_choose 18 = .ok (.if_icmp .ge 38, 3) := by decide +kernel
theorem dX5_choose_21 : decode cX5_choose 21 = .ok (.iload_n 1, 1) := by decide +kernel
theorem dX5_choose_22 : decode cX5_choose 22 = .ok (.iload_n 2, 1) := by decide +kernel
theorem dX5_choose_23 : decode cX5_choose 23 = .ok (.ishr, 1) := by decide +kernel
theorem dX5_choose_24 : decode cX5_choose 24 = .ok (.iconst 1, 1) := by decide +kernel
theorem dX5_choose_25 : decode cX5_choose 25 = .ok (.iand, 1) := by decide +kernel
theorem dX5_choose_26 : decode cX5_choose 26 = .ok (.iconst 1, 1) := by decide +kernel
theorem dX5_choose_27 : decode cX5_choose 27 = .ok (.if_icmp .ne 23, 3) := by decide +kernel
theorem dX5_choose_30 : decode cX5_choose 30 = .ok (.aload_n 0, 1) := by decide +kernel
theorem dX5_choose_31 : decode cX5_choose 31 = .ok (.getfield 20, 3) := by decide +kernel
theorem dX5_choose_34 : decode cX5_choose 34 = .ok (.aload_n 0, 1) := by decide +kernel
theorem dX5_choose_35 : decode cX5_choose 35 = .ok (.getfield 38, 3) := by decide +kernel
theorem dX5_choose_38 : decode cX5_choose 38 = .ok (.iload_n 2, 1) := by decide +kernel
theorem dX5_choose_39 : decode cX5_choose 39 = .ok (.iastore, 1) := by decide +kernel
theorem dX5_choose_40 : decode cX5_choose 40 = .ok (.aload_n 0, 1) := by decide +kernel
theorem dX5_choose_41 : decode cX5_choose 41 = .ok (.dup, 1) := by decide +kernel
theorem dX5_choose_42 : decode cX5_choose 42 = .ok (.getfield 38, 3) := by decide +kernel
theorem dX5_choose_45 : decode cX5_choose 45 = .ok (.iconst 1, 1) := by decide +kernel
theorem dX5_choose_46 : decode cX5_choose 46 = .ok (.iadd, 1) := by decide +kernel
theorem dX5_choose_47 : decode cX5_choose 47 = .ok (.putfield 38, 3) := by decide +kernel
theorem dX5_choose_50 : decode cX5_choose 50 = .ok (.iinc 2 1, 3) := by decide +kernel
theorem dX5_choose_53 : decode cX5_choose 53 = .ok (.goto (-46), 3) := by decide +kernel
theorem dX5_choose_56 : decode cX5_choose 56 = .ok (.return_, 1) := by decide +kernel
theorem dX5_weighPairs_0 : decode cX5_weighPairs 0 = .ok (.aload_n 0, 1) := by decide +kernel
theorem dX5_weighPairs_1 : decode cX5_weighPairs 1 = .ok (.getfield 32, 3) := by decide +kernel
theorem dX5_weighPairs_4 : decode cX5_weighPairs 4 = .ok (.aload_n 0, 1) := by decide +kernel
theorem dX5_weighPairs_5 : decode cX5_weighPairs 5 = .ok (.getfield 38, 3) := by decide +kernel
theorem dX5_weighPairs_8 : decode cX5_weighPairs 8 = .ok (.iconst 0, 1) := by decide +kernel
theorem dX5_weighPairs_9 : decode cX5_weighPairs 9 = .ok (.iastore, 1) := by decide +kernel
theorem dX5_weighPairs_10 : decode cX5_weighPairs 10 = .ok (.aload_n 0, 1) := by decide +kernel
theorem dX5_weighPairs_11 : decode cX5_weighPairs 11 = .ok (.getfield 38, 3) := by decide +kernel
theorem dX5_weighPairs_14 : decode cX5_weighPairs 14 = .ok (.iconst 1, 1) := by decide +kernel
theorem dX5_weighPairs_15 : decode cX5_weighPairs 15 = .ok (.isub, 1) := by decide +kernel
theorem dX5_weighPairs_16 : decode cX5_weighPairs 16 = .ok (.istore_n 3, 1) := by decide +kernel
theorem dX5_weighPairs_17 : decode cX5_weighPairs 17 = .ok (.iload_n 3, 1) := by decide +kernel
theorem dX5_weighPairs_18 : decode cX5_weighPairs 18 = .ok (.ifCond .lt 88, 3) := by decide +kernel
theorem dX5_weighPairs_21 : decode cX5_weighPairs 21 = .ok (.iconst 0, 1) := by decide +kernel
theorem dX5_weighPairs_22 : decode cX5_weighPairs 22 = .ok (.istore 4, 2) := by decide +kernel
theorem dX5_weighPairs_24 : decode cX5_weighPairs 24 = .ok (.iconst 0, 1) := by decide +kernel
theorem dX5_weighPairs_25 : decode cX5_weighPairs 25 = .ok (.istore 5, 2) := by decide +kernel
theorem dX5_weighPairs_27 : decode cX5_weighPairs 27 = .ok (.iload 5, 2) := by decide +kernel
theorem dX5_weighPairs_29 : decode cX5_weighPairs 29 = .ok (.iload_n 3, 1) := by decide +kernel
theorem dX5_weighPairs_30 : decode cX5_weighPairs 30 = .ok (.if_icmp .ge 49, 3) := by decide +kernel
theorem dX5_weighPairs_33 : decode cX5_weighPairs 33 = .ok (.aload_n 0, 1) := by decide +kernel
theorem dX5_weighPairs_34 : decode cX5_weighPairs 34 = .ok (.getfield 29, 3) := by decide +kernel
theorem dX5_weighPairs_37 : decode cX5_weighPairs 37 = .ok (.iload_n 3, 1) := by decide +kernel
theorem dX5_weighPairs_38 : decode cX5_weighPairs 38 = .ok (.aaload, 1) := by decide +kernel
theorem dX5_weighPairs_39 : decode cX5_weighPairs 39 = .ok (.iload 5, 2) := by decide +kernel
theorem dX5_weighPairs_41 : decode cX5_weighPairs 41 = .ok (.aload_n 1, 1) := by decide +kernel
theorem dX5_weighPairs_42 : decode cX5_weighPairs 42 = .ok (.aload_n 0, 1) := by decide +kernel
theorem dX5_weighPairs_43 : decode cX5_weighPairs 43 = .ok (.getfield 20, 3) := by decide +kernel
theorem dX5_weighPairs_46 : decode cX5_weighPairs 46 = .ok (.iload 5, 2) := by decide +kernel
theorem dX5_weighPairs_48 : decode cX5_weighPairs 48 = .ok (.iaload, 1) := by decide +kernel
theorem dX5_weighPairs_49 : decode cX5_weighPairs 49 = .ok (.aload_n 0, 1) := by decide +kernel
theorem dX5_weighPairs_50 : decode cX5_weighPairs 50 = .ok (.getfield 20, 3) := by decide +kernel
theorem dX5_weighPairs_53 : decode cX5_weighPairs 53 = .ok (.iload_n 3, 1) := by decide +kernel
theorem dX5_weighPairs_54 : decode cX5_weighPairs 54 = .ok (.iaload, 1) := by decide +kernel
theorem dX5_weighPairs_55 : decode cX5_weighPairs 55 = .ok (.invokevirtual 73, 3) := by decide +kernel
theorem dX5_weighPairs_58 : decode cX5_weighPairs 58 = .ok (.iastore, 1) := by decide +kernel
theorem dX5_weighPairs_59 : decode cX5_weighPairs 59 = .ok (.iload 4, 2) := by decide +kernel
theorem dX5_weighPairs_61 : decode cX5_weighPairs 61 = .ok (.aload_n 0, 1) := by decide +kernel
theorem dX5_weighPairs_62 : decode cX5_weighPairs 62 = .ok (.getfield 29, 3) := by decide +kernel
theorem dX5_weighPairs_65 : decode cX5_weighPairs 65 = .ok (.iload_n 3, 1) := by decide +kernel
theorem dX5_weighPairs_66 : decode cX5_weighPairs 66 = .ok (.aaload, 1) := by decide +kernel
theorem dX5_weighPairs_67 : decode cX5_weighPairs 67 = .ok (.iload 5, 2) := by decide +kernel
theorem dX5_weighPairs_69 : decode cX5_weighPairs 69 = .ok (.iaload, 1) := by decide +kernel
theorem dX5_weighPairs_70 : decode cX5_weighPairs 70 = .ok (.iadd, 1) := by decide +kernel
theorem dX5_weighPairs_71 : decode cX5_weighPairs 71 = .ok (.istore 4, 2) := by decide +kernel
theorem dX5_weighPairs_73 : decode cX5_weighPairs 73 = .ok (.iinc 5 1, 3) := by decide +kernel
theorem dX5_weighPairs_76 : decode cX5_weighPairs 76 = .ok (.goto (-49), 3) := by decide +kernel
theorem dX5_weighPairs_79 : decode cX5_weighPairs 79 = .ok (.aload_n 0, 1) := by decide +kernel
theorem dX5_weighPairs_80 : decode cX5_weighPairs 80 = .ok (.getfield 32, 3) := by decide +kernel
theorem dX5_weighPairs_83 : decode cX5_weighPairs 83 = .ok (.iload_n 3, 1) := by decide +kernel
theorem dX5_weighPairs_84 : decode cX5_weighPairs 84 = .ok (.aload_n 0, 1) := by decide +kernel
theorem dX5_weighPairs_85 : decode cX5_weighPairs 85 = .ok (.getfield 32, 3) := by decide +kernel
theorem dX5_weighPairs_88 : decode cX5_weighPairs 88 = .ok (.iload_n 3, 1) := by decide +kernel
theorem dX5_weighPairs_89 : decode cX5_weighPairs 89 = .ok (.iconst 1, 1) := by decide +kernel
theorem dX5_weighPairs_90 : decode cX5_weighPairs 90 = .ok (.iadd, 1) := by decide +kernel
theorem dX5_weighPairs_91 : decode cX5_weighPairs 91 = .ok (.iaload, 1) := by decide +kernel
theorem dX5_weighPairs_92 : decode cX5_weighPairs 92 = .ok (.iload 4, 2) := by decide +kernel
theorem dX5_weighPairs_94 : decode cX5_weighPairs 94 = .ok (.iload_n 2, 1) := by decide +kernel
theorem dX5_weighPairs_95 : decode cX5_weighPairs 95 = .ok (.iconst 1, 1) := by decide +kernel
theorem dX5_weighPairs_96 : decode cX5_weighPairs 96 = .ok (.iadd, 1) := by decide +kernel
theorem dX5_weighPairs_97 : decode cX5_weighPairs 97 = .ok (.imul, 1) := by decide +kernel
theorem dX5_weighPairs_98 : decode cX5_weighPairs 98 = .ok (.iadd, 1) := by decide +kernel
theorem dX5_weighPairs_99 : decode cX5_weighPairs 99 = .ok (.iastore, 1) := by decide +kernel
theorem dX5_weighPairs_100 : decode cX5_weighPairs 100 = .ok (.iinc 3 (-1), 3) := by decide +kernel
theorem dX5_weighPairs_103 : decode cX5_weighPairs 103 = .ok (.goto (-86), 3) := by decide +kernel
theorem dX5_weighPairs_106 : decode cX5_weighPairs 106 = .ok (.return_, 1) := by decide +kernel
theorem dX5_findTooNear_0 : decode cX5_findTooNear 0 = .ok (.iconst 0, 1) := by decide +kernel
theorem dX5_findTooNear_1 : decode cX5_findTooNear 1 = .ok (.istore_n 2, 1) := by decide +kernel
theorem dX5_findTooNear_2 : decode cX5_findTooNear 2 = .ok (.iload_n 2, 1) := by decide +kernel
theorem dX5_findTooNear_3 : decode cX5_findTooNear 3 = .ok (.bipush 12, 2) := by decide +kernel
theorem dX5_findTooNear_5 : decode cX5_findTooNear 5 = .ok (.if_icmp .ge 51, 3) := by decide +kernel
theorem dX5_findTooNear_8 : decode cX5_findTooNear 8 = .ok (.aload_n 0, 1) := by decide +kernel
theorem dX5_findTooNear_9 : decode cX5_findTooNear 9 = .ok (.getfield 35, 3) := by decide +kernel
theorem dX5_findTooNear_12 : decode cX5_findTooNear 12 = .ok (.iload_n 2, 1) := by decide +kernel
theorem dX5_findTooNear_13 : decode cX5_findTooNear 13 = .ok (.iconst 0, 1) := by decide +kernel
theorem dX5_findTooNear_14 : decode cX5_findTooNear 14 = .ok (.iastore, 1) := by decide +kernel
theorem dX5_findTooNear_15 : decode cX5_findTooNear 15 = .ok (.iconst 0, 1) := by decide +kernel
theorem dX5_findTooNear_16 : decode cX5_findTooNear 16 = .ok (.istore_n 3, 1) := by decide +kernel
theorem dX5_findTooNear_17 : decode cX5_findTooNear 17 = .ok (.iload_n 3, 1) := by decide +kernel
theorem dX5_findTooNear_18 : decode cX5_findTooNear 18 = .ok (.bipush 12, 2) := by decide +kernel
theorem dX5_findTooNear_20 : decode cX5_findTooNear 20 = .ok (.if_icmp .ge 30, 3) := by decide +kernel
theorem dX5_findTooNear_23 : decode cX5_findTooNear 23 = .ok (.iload_n 2, 1) := by decide +kernel
theorem dX5_findTooNear_24 : decode cX5_findTooNear 24 = .ok (.iload_n 3, 1) := by decide +kernel
theorem dX5_findTooNear_25 : decode cX5_findTooNear 25 = .ok (.invokestatic 79, 3) := by decide +kernel
theorem dX5_findTooNear_28 : decode cX5_findTooNear 28 = .ok (.iload_n 1, 1) := by decide +kernel
theorem dX5_findTooNear_29 : decode cX5_findTooNear 29 = .ok (.if_icmp .gt 15, 3) := by decide +kernel
theorem dX5_findTooNear_32 : decode cX5_findTooNear 32 = .ok (.aload_n 0, 1) := by decide +kernel
theorem dX5_findTooNear_33 : decode cX5_findTooNear 33 = .ok (.getfield 35, 3) := by decide +kernel
theorem dX5_findTooNear_36 : decode cX5_findTooNear 36 = .ok (.iload_n 2, 1) := by decide +kernel
theorem dX5_findTooNear_37 : decode cX5_findTooNear 37 = .ok (.dup2, 1) := by decide +kernel
theorem dX5_findTooNear_38 : decode cX5_findTooNear 38 = .ok (.iaload, 1) := by decide +kernel
theorem dX5_findTooNear_39 : decode cX5_findTooNear 39 = .ok (.iconst 1, 1) := by decide +kernel
theorem dX5_findTooNear_40 : decode cX5_findTooNear 40 = .ok (.iload_n 3, 1) := by decide +kernel
theorem dX5_findTooNear_41 : decode cX5_findTooNear 41 = .ok (.ishl, 1) := by decide +kernel
theorem dX5_findTooNear_42 : decode cX5_findTooNear 42 = .ok (.ior, 1) := by decide +kernel
theorem dX5_findTooNear_43 : decode cX5_findTooNear 43 = .ok (.iastore, 1) := by decide +kernel
theorem dX5_findTooNear_44 : decode cX5_findTooNear 44 = .ok (.iinc 3 1, 3) := by decide +kernel
theorem dX5_findTooNear_47 : decode cX5_findTooNear 47 = .ok (.goto (-30), 3) := by decide +kernel
theorem dX5_findTooNear_50 : decode cX5_findTooNear 50 = .ok (.iinc 2 1, 3) := by decide +kernel
theorem dX5_findTooNear_53 : decode cX5_findTooNear 53 = .ok (.goto (-51), 3) := by decide +kernel
theorem dX5_findTooNear_56 : decode cX5_findTooNear 56 = .ok (.return_, 1) := by decide +kernel
theorem dX5_layFrom_0 : decode cX5_layFrom 0 = .ok (.iload_n 1, 1) := by decide +kernel
theorem dX5_layFrom_1 : decode cX5_layFrom 1 = .ok (.aload_n 0, 1) := by decide +kernel
theorem dX5_layFrom_2 : decode cX5_layFrom 2 = .ok (.getfield 38, 3) := by decide +kernel
theorem dX5_layFrom_5 : decode cX5_layFrom 5 = .ok (.if_icmp .gt 18, 3) := by decide +kernel
theorem dX5_layFrom_8 : decode cX5_layFrom 8 = .ok (.iload_n 2, 1) := by decide +kernel
theorem dX5_layFrom_9 : decode cX5_layFrom 9 = .ok (.aload_n 0, 1) := by decide +kernel
theorem dX5_layFrom_10 : decode cX5_layFrom 10 = .ok (.getfield 32, 3) := by decide +kernel
theorem dX5_layFrom_13 : decode cX5_layFrom 13 = .ok (.iload_n 1, 1) := by decide +kernel
theorem dX5_layFrom_14 : decode cX5_layFrom 14 = .ok (.iaload, 1) := by decide +kernel
theorem dX5_layFrom_15 : decode cX5_layFrom 15 = .ok (.iadd, 1) := by decide +kernel
theorem dX5_layFrom_16 : decode cX5_layFrom 16 = .ok (.aload_n 0, 1) := by decide +kernel
theorem dX5_layFrom_17 : decode cX5_layFrom 17 = .ok (.getfield 43, 3) := by decide +kernel
theorem dX5_layFrom_20 : decode cX5_layFrom 20 = .ok (.if_icmp .lt 4, 3) := by decide +kernel
theorem dX5_layFrom_23 : decode cX5_layFrom 23 = .ok (.return_, 1) := by decide +kernel
theorem dX5_layFrom_24 : decode cX5_layFrom 24 = .ok (.iload_n 1, 1) := by decide +kernel
theorem dX5_layFrom_25 : decode cX5_layFrom 25 = .ok (.aload_n 0, 1) := by decide +kernel
theorem dX5_layFrom_26 : decode cX5_layFrom 26 = .ok (.getfield 38, 3) := by decide +kernel
theorem dX5_layFrom_29 : decode cX5_layFrom 29 = .ok (.if_icmp .ne 9, 3) := by decide +kernel
theorem dX5_layFrom_32 : decode cX5_layFrom 32 = .ok (.aload_n 0, 1) := by decide +kernel
end
section
theorem dX5_layFrom_33 : decode cX5_layFrom 33 = .ok (.iload_n 2, 1) := by decide +kernel
theorem dX5_layFrom_34 : decode cX5_layFrom 34 = .ok (.invokevirtual 82, 3) := by decide +kernel
theorem dX5_layFrom_37 : decode cX5_layFrom 37 = .ok (.return_, 1) := by decide +kernel
theorem dX5_layFrom_38 : decode cX5_layFrom 38 = .ok (.iconst 0, 1) := by decide +kernel
theorem dX5_layFrom_39 : decode cX5_layFrom 39 = .ok (.istore 4, 2) := by decide +kernel
theorem dX5_layFrom_41 : decode cX5_layFrom 41 = .ok (.iload 4, 2) := by decide +kernel
theorem dX5_layFrom_43 : decode cX5_layFrom 43 = .ok (.bipush 12, 2) := by decide +kernel
theorem dX5_layFrom_45 : decode cX5_layFrom 45 = .ok (.if_icmp .ge 54, 3) := by decide +kernel
theorem dX5_layFrom_48 : decode cX5_layFrom 48 = .ok (.iload_n 3, 1) := by decide +kernel
theorem dX5_layFrom_49 : decode cX5_layFrom 49 = .ok (.iload 4, 2) := by decide +kernel
theorem dX5_layFrom_51 : decode cX5_layFrom 51 = .ok (.ishr, 1) := by decide +kernel
theorem dX5_layFrom_52 : decode cX5_layFrom 52 = .ok (.iconst 1, 1) := by decide +kernel
theorem dX5_layFrom_53 : decode cX5_layFrom 53 = .ok (.iand, 1) := by decide +kernel
theorem dX5_layFrom_54 : decode cX5_layFrom 54 = .ok (.iconst 1, 1) := by decide +kernel
theorem dX5_layFrom_55 : decode cX5_layFrom 55 = .ok (.if_icmp .ne 38, 3) := by decide +kernel
theorem dX5_layFrom_58 : decode cX5_layFrom 58 = .ok (.aload_n 0, 1) := by decide +kernel
theorem dX5_layFrom_59 : decode cX5_layFrom 59 = .ok (.getfield 24, 3) := by decide +kernel
theorem dX5_layFrom_62 : decode cX5_layFrom 62 = .ok (.iload_n 1, 1) := by decide +kernel
theorem dX5_layFrom_63 : decode cX5_layFrom 63 = .ok (.iload 4, 2) := by decide +kernel
theorem dX5_layFrom_65 : decode cX5_layFrom 65 = .ok (.iastore, 1) := by decide +kernel
theorem dX5_layFrom_66 : decode cX5_layFrom 66 = .ok (.aload_n 0, 1) := by decide +kernel
theorem dX5_layFrom_67 : decode cX5_layFrom 67 = .ok (.iload_n 1, 1) := by decide +kernel
theorem dX5_layFrom_68 : decode cX5_layFrom 68 = .ok (.iconst 1, 1) := by decide +kernel
theorem dX5_layFrom_69 : decode cX5_layFrom 69 = .ok (.iadd, 1) := by decide +kernel
theorem dX5_layFrom_70 : decode cX5_layFrom 70 = .ok (.iload_n 2, 1) := by decide +kernel
theorem dX5_layFrom_71 : decode cX5_layFrom 71 = .ok (.aload_n 0, 1) := by decide +kernel
theorem dX5_layFrom_72 : decode cX5_layFrom 72 = .ok (.iload_n 1, 1) := by decide +kernel
theorem dX5_layFrom_73 : decode cX5_layFrom 73 = .ok (.iload 4, 2) := by decide +kernel
theorem dX5_layFrom_75 : decode cX5_layFrom 75 = .ok (.invokevirtual 85, 3) := by decide +kernel
theorem dX5_layFrom_78 : decode cX5_layFrom 78 = .ok (.iadd, 1) := by decide +kernel
theorem dX5_layFrom_79 : decode cX5_layFrom 79 = .ok (.iload_n 3, 1) := by decide +kernel
theorem dX5_layFrom_80 : decode cX5_layFrom 80 = .ok (.aload_n 0, 1) := by decide +kernel
theorem dX5_layFrom_81 : decode cX5_layFrom 81 = .ok (.getfield 35, 3) := by decide +kernel
theorem dX5_layFrom_84 : decode cX5_layFrom 84 = .ok (.iload 4, 2) := by decide +kernel
theorem dX5_layFrom_86 : decode cX5_layFrom 86 = .ok (.iaload, 1) := by decide +kernel
theorem dX5_layFrom_87 : decode cX5_layFrom 87 = .ok (.iconst (-1), 1) := by decide +kernel
theorem dX5_layFrom_88 : decode cX5_layFrom 88 = .ok (.ixor, 1) := by decide +kernel
theorem dX5_layFrom_89 : decode cX5_layFrom 89 = .ok (.iand, 1) := by decide +kernel
theorem dX5_layFrom_90 : decode cX5_layFrom 90 = .ok (.invokevirtual 65, 3) := by decide +kernel
theorem dX5_layFrom_93 : decode cX5_layFrom 93 = .ok (.iinc 4 1, 3) := by decide +kernel
theorem dX5_layFrom_96 : decode cX5_layFrom 96 = .ok (.goto (-55), 3) := by decide +kernel
theorem dX5_layFrom_99 : decode cX5_layFrom 99 = .ok (.return_, 1) := by decide +kernel
theorem dX5_pullOf_0 : decode cX5_pullOf 0 = .ok (.iconst 0, 1) := by decide +kernel
theorem dX5_pullOf_1 : decode cX5_pullOf 1 = .ok (.istore_n 3, 1) := by decide +kernel
theorem dX5_pullOf_2 : decode cX5_pullOf 2 = .ok (.iconst 0, 1) := by decide +kernel
theorem dX5_pullOf_3 : decode cX5_pullOf 3 = .ok (.istore 4, 2) := by decide +kernel
theorem dX5_pullOf_5 : decode cX5_pullOf 5 = .ok (.iload 4, 2) := by decide +kernel
theorem dX5_pullOf_7 : decode cX5_pullOf 7 = .ok (.iload_n 1, 1) := by decide +kernel
theorem dX5_pullOf_8 : decode cX5_pullOf 8 = .ok (.if_icmp .ge 33, 3) := by decide +kernel
theorem dX5_pullOf_11 : decode cX5_pullOf 11 = .ok (.iload_n 3, 1) := by decide +kernel
theorem dX5_pullOf_12 : decode cX5_pullOf 12 = .ok (.aload_n 0, 1) := by decide +kernel
theorem dX5_pullOf_13 : decode cX5_pullOf 13 = .ok (.getfield 29, 3) := by decide +kernel
theorem dX5_pullOf_16 : decode cX5_pullOf 16 = .ok (.iload_n 1, 1) := by decide +kernel
theorem dX5_pullOf_17 : decode cX5_pullOf 17 = .ok (.aaload, 1) := by decide +kernel
theorem dX5_pullOf_18 : decode cX5_pullOf 18 = .ok (.iload 4, 2) := by decide +kernel
theorem dX5_pullOf_20 : decode cX5_pullOf 20 = .ok (.iaload, 1) := by decide +kernel
theorem dX5_pullOf_21 : decode cX5_pullOf 21 = .ok (.aload_n 0, 1) := by decide +kernel
theorem dX5_pullOf_22 : decode cX5_pullOf 22 = .ok (.getfield 24, 3) := by decide +kernel
theorem dX5_pullOf_25 : decode cX5_pullOf 25 = .ok (.iload 4, 2) := by decide +kernel
theorem dX5_pullOf_27 : decode cX5_pullOf 27 = .ok (.iaload, 1) := by decide +kernel
theorem dX5_pullOf_28 : decode cX5_pullOf 28 = .ok (.iload_n 2, 1) := by decide +kernel
theorem dX5_pullOf_29 : decode cX5_pullOf 29 = .ok (.invokestatic 88, 3) := by decide +kernel
theorem dX5_pullOf_32 : decode cX5_pullOf 32 = .ok (.imul, 1) := by decide +kernel
theorem dX5_pullOf_33 : decode cX5_pullOf 33 = .ok (.iadd, 1) := by decide +kernel
theorem dX5_pullOf_34 : decode cX5_pullOf 34 = .ok (.istore_n 3, 1) := by decide +kernel
theorem dX5_pullOf_35 : decode cX5_pullOf 35 = .ok (.iinc 4 1, 3) := by decide +kernel
theorem dX5_pullOf_38 : decode cX5_pullOf 38 = .ok (.goto (-33), 3) := by decide +kernel
theorem dX5_pullOf_41 : decode cX5_pullOf 41 = .ok (.iload_n 3, 1) := by decide +kernel
theorem dX5_pullOf_42 : decode cX5_pullOf 42 = .ok (.ireturn, 1) := by decide +kernel
theorem dX5_keepAsBest_0 : decode cX5_keepAsBest 0 = .ok (.aload_n 0, 1) := by decide +kernel
theorem dX5_keepAsBest_1 : decode cX5_keepAsBest 1 = .ok (.iload_n 1, 1) := by decide +kernel
theorem dX5_keepAsBest_2 : decode cX5_keepAsBest 2 = .ok (.putfield 43, 3) := by decide +kernel
theorem dX5_keepAsBest_5 : decode cX5_keepAsBest 5 = .ok (.iconst 0, 1) := by decide +kernel
theorem dX5_keepAsBest_6 : decode cX5_keepAsBest 6 = .ok (.istore_n 2, 1) := by decide +kernel
theorem dX5_keepAsBest_7 : decode cX5_keepAsBest 7 = .ok (.iload_n 2, 1) := by decide +kernel
theorem dX5_keepAsBest_8 : decode cX5_keepAsBest 8 = .ok (.aload_n 0, 1) := by decide +kernel
theorem dX5_keepAsBest_9 : decode cX5_keepAsBest 9 = .ok (.getfield 38, 3) := by decide +kernel
theorem dX5_keepAsBest_12 : decode cX5_keepAsBest 12 = .ok (.if_icmp .ge 28, 3) := by decide +kernel
theorem dX5_keepAsBest_15 : decode cX5_keepAsBest 15 = .ok (.aload_n 0, 1) := by decide +kernel
theorem dX5_keepAsBest_16 : decode cX5_keepAsBest 16 = .ok (.getfield 14, 3) := by decide +kernel
theorem dX5_keepAsBest_19 : decode cX5_keepAsBest 19 = .ok (.aload_n 0, 1) := by decide +kernel
theorem dX5_keepAsBest_20 : decode cX5_keepAsBest 20 = .ok (.getfield 20, 3) := by decide +kernel
theorem dX5_keepAsBest_23 : decode cX5_keepAsBest 23 = .ok (.iload_n 2, 1) := by decide +kernel
theorem dX5_keepAsBest_24 : decode cX5_keepAsBest 24 = .ok (.iaload, 1) := by decide +kernel
theorem dX5_keepAsBest_25 : decode cX5_keepAsBest 25 = .ok (.aload_n 0, 1) := by decide +kernel
theorem dX5_keepAsBest_26 : decode cX5_keepAsBest 26 = .ok (.getfield 24, 3) := by decide +kernel
theorem dX5_keepAsBest_29 : decode cX5_keepAsBest 29 = .ok (.iload_n 2, 1) := by decide +kernel
theorem dX5_keepAsBest_30 : decode cX5_keepAsBest 30 = .ok (.iaload, 1) := by decide +kernel
theorem dX5_keepAsBest_31 : decode cX5_keepAsBest 31 = .ok (.invokevirtual 91, 3) := by decide +kernel
theorem dX5_keepAsBest_34 : decode cX5_keepAsBest 34 = .ok (.iinc 2 1, 3) := by decide +kernel
theorem dX5_keepAsBest_37 : decode cX5_keepAsBest 37 = .ok (.goto (-30), 3) := by decide +kernel
theorem dX5_keepAsBest_40 : decode cX5_keepAsBest 40 = .ok (.return_, 1) := by decide +kernel
theorem dX6_init_0 : decode cX6_init 0 = .ok (.aload_n 0, 1) := by decide +kernel
theorem dX6_init_1 : decode cX6_init 1 = .ok (.invokespecial 1, 3) := by decide +kernel
theorem dX6_init_4 : decode cX6_init 4 = .ok (.aload_n 0, 1) := by decide +kernel
theorem dX6_init_5 : decode cX6_init 5 = .ok (.iload_n 1, 1) := by decide +kernel
theorem dX6_init_6 : decode cX6_init 6 = .ok (.putfield 7, 3) := by decide +kernel
theorem dX6_init_9 : decode cX6_init 9 = .ok (.aload_n 0, 1) := by decide +kernel
theorem dX6_init_10 : decode cX6_init 10 = .ok (.iconst 0, 1) := by decide +kernel
theorem dX6_init_11 : decode cX6_init 11 = .ok (.iload_n 2, 1) := by decide +kernel
theorem dX6_init_12 : decode cX6_init 12 = .ok (.invokestatic 13, 3) := by decide +kernel
theorem dX6_init_15 : decode cX6_init 15 = .ok (.newarray .int, 2) := by decide +kernel
theorem dX6_init_17 : decode cX6_init 17 = .ok (.putfield 19, 3) := by decide +kernel
theorem dX6_init_20 : decode cX6_init 20 = .ok (.return_, 1) := by decide +kernel
theorem dX6_hasCells_0 : decode cX6_hasCells 0 = .ok (.iload_n 1, 1) := by decide +kernel
theorem dX6_hasCells_1 : decode cX6_hasCells 1 = .ok (.ifCond .lt 31, 3) := by decide +kernel
theorem dX6_hasCells_4 : decode cX6_hasCells 4 = .ok (.iload_n 1, 1) := by decide +kernel
theorem dX6_hasCells_5 : decode cX6_hasCells 5 = .ok (.aload_n 0, 1) := by decide +kernel
theorem dX6_hasCells_6 : decode cX6_hasCells 6 = .ok (.getfield 19, 3) := by decide +kernel
theorem dX6_hasCells_9 : decode cX6_hasCells 9 = .ok (.arraylength, 1) := by decide +kernel
theorem dX6_hasCells_10 : decode cX6_hasCells 10 = .ok (.if_icmp .gt 22, 3) := by decide +kernel
theorem dX6_hasCells_13 : decode cX6_hasCells 13 = .ok (.iload_n 2, 1) := by decide +kernel
theorem dX6_hasCells_14 : decode cX6_hasCells 14 = .ok (.ifCond .lt 18, 3) := by decide +kernel
theorem dX6_hasCells_17 : decode cX6_hasCells 17 = .ok (.iload_n 2, 1) := by decide +kernel
theorem dX6_hasCells_18 : decode cX6_hasCells 18 = .ok (.aload_n 0, 1) := by decide +kernel
theorem dX6_hasCells_19 : decode cX6_hasCells 19 = .ok (.getfield 19, 3) := by decide +kernel
theorem dX6_hasCells_22 : decode cX6_hasCells 22 = .ok (.arraylength, 1) := by decide +kernel
theorem dX6_hasCells_23 : decode cX6_hasCells 23 = .ok (.iload_n 1, 1) := by decide +kernel
theorem dX6_hasCells_24 : decode cX6_hasCells 24 = .ok (.isub, 1) := by decide +kernel
theorem dX6_hasCells_25 : decode cX6_hasCells 25 = .ok (.if_icmp .gt 7, 3) := by decide +kernel
theorem dX6_hasCells_28 : decode cX6_hasCells 28 = .ok (.iconst 1, 1) := by decide +kernel
theorem dX6_hasCells_29 : decode cX6_hasCells 29 = .ok (.goto 4, 3) := by decide +kernel
theorem dX6_hasCells_32 : decode cX6_hasCells 32 = .ok (.iconst 0, 1) := by decide +kernel
theorem dX6_hasCells_33 : decode cX6_hasCells 33 = .ok (.ireturn, 1) := by decide +kernel
theorem dX7_init_0 : decode cX7_init 0 = .ok (.aload_n 0, 1) := by decide +kernel
theorem dX7_init_1 : decode cX7_init 1 = .ok (.invokespecial 3, 3) := by decide +kernel
theorem dX7_init_4 : decode cX7_init 4 = .ok (.aload_n 0, 1) := by decide +kernel
theorem dX7_init_5 : decode cX7_init 5 = .ok (.new 9, 3) := by decide +kernel
theorem dX7_init_8 : decode cX7_init 8 = .ok (.dup, 1) := by decide +kernel
theorem dX7_init_9 : decode cX7_init 9 = .ok (.invokespecial 11, 3) := by decide +kernel
theorem dX7_init_12 : decode cX7_init 12 = .ok (.putfield 12, 3) := by decide +kernel
theorem dX7_init_15 : decode cX7_init 15 = .ok (.aload_n 0, 1) := by decide +kernel
theorem dX7_init_16 : decode cX7_init 16 = .ok (.new 18, 3) := by decide +kernel
theorem dX7_init_19 : decode cX7_init 19 = .ok (.dup, 1) := by decide +kernel
theorem dX7_init_20 : decode cX7_init 20 = .ok (.invokespecial 20, 3) := by decide +kernel
theorem dX7_init_23 : decode cX7_init 23 = .ok (.putfield 21, 3) := by decide +kernel
theorem dX7_init_26 : decode cX7_init 26 = .ok (.aload_n 0, 1) := by decide +kernel
theorem dX7_init_27 : decode cX7_init 27 = .ok (.iconst 4, 1) := by decide +kernel
theorem dX7_init_28 : decode cX7_init 28 = .ok (.anewarray 25, 3) := by decide +kernel
theorem dX7_init_31 : decode cX7_init 31 = .ok (.putfield 27, 3) := by decide +kernel
theorem dX7_init_34 : decode cX7_init 34 = .ok (.aload_n 0, 1) := by decide +kernel
theorem dX7_init_35 : decode cX7_init 35 = .ok (.iconst 0, 1) := by decide +kernel
theorem dX7_init_36 : decode cX7_init 36 = .ok (.putfield 31, 3) := by decide +kernel
theorem dX7_init_39 : decode cX7_init 39 = .ok (.aload_n 0, 1) := by decide +kernel
theorem dX7_init_40 : decode cX7_init 40 = .ok (.new 35, 3) := by decide +kernel
theorem dX7_init_43 : decode cX7_init 43 = .ok (.dup, 1) := by decide +kernel
theorem dX7_init_44 : decode cX7_init 44 = .ok (.invokespecial 37, 3) := by decide +kernel
theorem dX7_init_47 : decode cX7_init 47 = .ok (.putfield 38, 3) := by decide +kernel
theorem dX7_init_50 : decode cX7_init 50 = .ok (.aload_n 0, 1) := by decide +kernel
theorem dX7_init_51 : decode cX7_init 51 = .ok (.new 42, 3) := by decide +kernel
theorem dX7_init_54 : decode cX7_init 54 = .ok (.dup, 1) := by decide +kernel
theorem dX7_init_55 : decode cX7_init 55 = .ok (.invokespecial 44, 3) := by decide +kernel
theorem dX7_init_58 : decode cX7_init 58 = .ok (.putfield 45, 3) := by decide +kernel
theorem dX7_init_61 : decode cX7_init 61 = .ok (.aload_n 0, 1) := by decide +kernel
theorem dX7_init_62 : decode cX7_init 62 = .ok (.iconst 2, 1) := by decide +kernel
theorem dX7_init_63 : decode cX7_init 63 = .ok (.newarray .int, 2) := by decide +kernel
theorem dX7_init_65 : decode cX7_init 65 = .ok (.putfield 49, 3) := by decide +kernel
theorem dX7_init_68 : decode cX7_init 68 = .ok (.aload_n 0, 1) := by decide +kernel
theorem dX7_init_69 : decode cX7_init 69 = .ok (.iconst 4, 1) := by decide +kernel
theorem dX7_init_70 : decode cX7_init 70 = .ok (.anewarray 53, 3) := by decide +kernel
theorem dX7_init_73 : decode cX7_init 73 = .ok (.putfield 55, 3) := by decide +kernel
theorem dX7_init_76 : decode cX7_init 76 = .ok (.aload_n 0, 1) := by decide +kernel
theorem dX7_init_77 : decode cX7_init 77 = .ok (.iconst 0, 1) := by decide +kernel
theorem dX7_init_78 : decode cX7_init 78 = .ok (.putfield 59, 3) := by decide +kernel
theorem dX7_init_81 : decode cX7_init 81 = .ok (.aload_n 0, 1) := by decide +kernel
theorem dX7_init_82 : decode cX7_init 82 = .ok (.iconst 0, 1) := by decide +kernel
theorem dX7_init_83 : decode cX7_init 83 = .ok (.putfield 62, 3) := by decide +kernel
theorem dX7_init_86 : decode cX7_init 86 = .ok (.aload_n 0, 1) := by decide +kernel
theorem dX7_init_87 : decode cX7_init 87 = .ok (.getfield 49, 3) := by decide +kernel
theorem dX7_init_90 : decode cX7_init 90 = .ok (.iconst 0, 1) := by decide +kernel
theorem dX7_init_91 : decode cX7_init 91 = .ok (.iconst 5, 1) := by decide +kernel
theorem dX7_init_92 : decode cX7_init 92 = .ok (.iastore, 1) := by decide +kernel
theorem dX7_init_93 : decode cX7_init 93 = .ok (.aload_n 0, 1) := by decide +kernel
theorem dX7_init_94 : decode cX7_init 94 = .ok (.getfield 49, 3) := by decide +kernel
theorem dX7_init_97 : decode cX7_init 97 = .ok (.iconst 1, 1) := by decide +kernel
theorem dX7_init_98 : decode cX7_init 98 = .ok (.bipush 10, 2) := by decide +kernel
theorem dX7_init_100 : decode cX7_init 100 = .ok (.iastore, 1) := by decide +kernel
theorem dX7_init_101 : decode cX7_init 101 = .ok (.iconst 0, 1) := by decide +kernel
theorem dX7_init_102 : decode cX7_init 102 = .ok (.istore_n 1, 1) := by decide +kernel
theorem dX7_init_103 : decode cX7_init 103 = .ok (.iload_n 1, 1) := by decide +kernel
theorem dX7_init_104 : decode cX7_init 104 = .ok (.iconst 4, 1) := by decide +kernel
theorem dX7_init_105 : decode cX7_init 105 = .ok (.if_icmp .ge 22, 3) := by decide +kernel
theorem dX7_init_108 : decode cX7_init 108 = .ok (.aload_n 0, 1) := by decide +kernel
theorem dX7_init_109 : decode cX7_init 109 = .ok (.getfield 27, 3) := by decide +kernel
theorem dX7_init_112 : decode cX7_init 112 = .ok (.iload_n 1, 1) := by decide +kernel
theorem dX7_init_113 : decode cX7_init 113 = .ok (.new 25, 3) := by decide +kernel
theorem dX7_init_116 : decode cX7_init 116 = .ok (.dup, 1) := by decide +kernel
theorem dX7_init_117 : decode cX7_init 117 = .ok (.invokespecial 65, 3) := by decide +kernel
theorem dX7_init_120 : decode cX7_init 120 = .ok (.aastore, 1) := by decide +kernel
theorem dX7_init_121 : decode cX7_init 121 = .ok (.iinc 1 1, 3) := by decide +kernel
theorem dX7_init_124 : decode cX7_init 124 = .ok (.goto (-21), 3) := by decide +kernel
theorem dX7_init_127 : decode cX7_init 127 = .ok (.return_, 1) := by decide +kernel
theorem dX7_text_0 : decode cX7_text 0 = .ok (.aload_n 0, 1) := by decide +kernel
theorem dX7_text_1 : decode cX7_text 1 = .ok (.iconst 0, 1) := by decide +kernel
theorem dX7_text_2 : decode cX7_text 2 = .ok (.putfield 62, 3) := by decide +kernel
theorem dX7_text_5 : decode cX7_text 5 = .ok (.iload_n 1, 1) := by decide +kernel
theorem dX7_text_6 : decode cX7_text 6 = .ok (.iconst 0, 1) := by decide +kernel
theorem dX7_text_7 : decode cX7_text 7 = .ok (.iconst 3, 1) := by decide +kernel
theorem dX7_text_8 : decode cX7_text 8 = .ok (.invokestatic 66, 3) := by decide +kernel
theorem dX7_text_11 : decode cX7_text 11 = .ok (.ifCond .ne 5, 3) := by decide +kernel
theorem dX7_text_14 : decode cX7_text 14 = .ok (.iconst (-1), 1) := by decide +kernel
theorem dX7_text_15 : decode cX7_text 15 = .ok (.ireturn, 1) := by decide +kernel
theorem dX7_text_16 : decode cX7_text 16 = .ok (.iload_n 2, 1) := by decide +kernel
theorem dX7_text_17 : decode cX7_text 17 = .ok (.iconst 0, 1) := by decide +kernel
theorem dX7_text_18 : decode cX7_text 18 = .ok (.iconst 2, 1) := by decide +kernel
theorem dX7_text_19 : decode cX7_text 19 = .ok (.invokestatic 66, 3) := by decide +kernel
theorem dX7_text_22 : decode cX7_text 22 = .ok (.ifCond .ne 6, 3) := by decide +kernel
theorem dX7_text_25 : decode cX7_text 25 = .ok (.bipush (-2), 2) := by decide +kernel
theorem dX7_text_27 : decode cX7_text 27 = .ok (.ireturn, 1) := by decide +kernel
theorem dX7_text_28 : decode cX7_text 28 = .ok (.aload_n 0, 1) := by decide +kernel
theorem dX7_text_29 : decode cX7_text 29 = .ok (.getfield 55, 3) := by decide +kernel
theorem dX7_text_32 : decode cX7_text 32 = .ok (.iload_n 1, 1) := by decide +kernel
theorem dX7_text_33 : decode cX7_text 33 = .ok (.aaload, 1) := by decide +kernel
theorem dX7_text_34 : decode cX7_text 34 = .ok (.astore 5, 2) := by decide +kernel
theorem dX7_text_36 : decode cX7_text 36 = .ok (.aload 5, 2) := by decide +kernel
theorem dX7_text_38 : decode cX7_text 38 = .ok (.ifnonnull 9, 3) := by decide +kernel
theorem dX7_text_41 : decode cX7_text 41 = .ok (.aload_n 0, 1) := by decide +kernel
theorem dX7_text_42 : decode cX7_text 42 = .ok (.iconst 1, 1) := by decide +kernel
theorem dX7_text_43 : decode cX7_text 43 = .ok (.invokevirtual 70, 3) := by decide +kernel
theorem dX7_text_46 : decode cX7_text 46 = .ok (.ireturn, 1) := by decide +kernel
theorem dX7_text_47 : decode cX7_text 47 = .ok (.aload 5, 2) := by decide +kernel
theorem dX7_text_49 : decode cX7_text 49 = .ok (.getfield 74, 3) := by decide +kernel
theorem dX7_text_52 : decode cX7_text 52 = .ok (.iload_n 2, 1) := by decide +kernel
theorem dX7_text_53 : decode cX7_text 53 = .ok (.if_icmp .eq 9, 3) := by decide +kernel
theorem dX7_text_56 : decode cX7_text 56 = .ok (.aload_n 0, 1) := by decide +kernel
theorem dX7_text_57 : decode cX7_text 57 = .ok (.iconst 2, 1) := by decide +kernel
theorem dX7_text_58 : decode cX7_text 58 = .ok (.invokevirtual 70, 3) := by decide +kernel
theorem dX7_text_61 : decode cX7_text 61 = .ok (.ireturn, 1) := by decide +kernel
theorem dX7_text_62 : decode cX7_text 62 = .ok (.iload 4, 2) := by decide +kernel
theorem dX7_text_64 : decode cX7_text 64 = .ok (.ifCond .ge 9, 3) := by decide +kernel
theorem dX7_text_67 : decode cX7_text 67 = .ok (.aload_n 0, 1) := by decide +kernel
theorem dX7_text_68 : decode cX7_text 68 = .ok (.iconst 4, 1) := by decide +kernel
theorem dX7_text_69 : decode cX7_text 69 = .ok (.invokevirtual 70, 3) := by decide +kernel
theorem dX7_text_72 : decode cX7_text 72 = .ok (.ireturn, 1) := by decide +kernel
theorem dX7_text_73 : decode cX7_text 73 = .ok (.aload 5, 2) := by decide +kernel
theorem dX7_text_75 : decode cX7_text 75 = .ok (.iload_n 3, 1) := by decide +kernel
theorem dX7_text_76 : decode cX7_text 76 = .ok (.iload 4, 2) := by decide +kernel
theorem dX7_text_78 : decode cX7_text 78 = .ok (.invokevirtual 77, 3) := by decide +kernel
theorem dX7_text_81 : decode cX7_text 81 = .ok (.ifCond .ne 9, 3) := by decide +kernel
theorem dX7_text_84 : decode cX7_text 84 = .ok (.aload_n 0, 1) := by decide +kernel
theorem dX7_text_85 : decode cX7_text 85 = .ok (.iconst 3, 1) := by decide +kernel
theorem dX7_text_86 : decode cX7_text 86 = .ok (.invokevirtual 70, 3) := by decide +kernel
theorem dX7_text_89 : decode cX7_text 89 = .ok (.ireturn, 1) := by decide +kernel
theorem dX7_text_90 : decode cX7_text 90 = .ok (.aload_n 0, 1) := by decide +kernel
theorem dX7_text_91 : decode cX7_text 91 = .ok (.getfield 21, 3) := by decide +kernel
theorem dX7_text_94 : decode cX7_text 94 = .ok (.aload 5, 2) := by decide +kernel
theorem dX7_text_96 : decode cX7_text 96 = .ok (.getfield 81, 3) := by decide +kernel
theorem dX7_text_99 : decode cX7_text 99 = .ok (.iload_n 3, 1) := by decide +kernel
theorem dX7_text_100 : decode cX7_text 100 = .ok (.iload 4, 2) := by decide +kernel
theorem dX7_text_102 : decode cX7_text 102 = .ok (.invokevirtual 84, 3) := by decide +kernel
theorem dX7_text_105 : decode cX7_text 105 = .ok (.istore 6, 2) := by decide +kernel
theorem dX7_text_107 : decode cX7_text 107 = .ok (.iload 6, 2) := by decide +kernel
theorem dX7_text_109 : decode cX7_text 109 = .ok (.bipush (-9), 2) := by decide +kernel
theorem dX7_text_111 : decode cX7_text 111 = .ok (.if_icmp .eq 9, 3) := by decide +kernel
theorem dX7_text_114 : decode cX7_text 114 = .ok (.bipush (-100), 2) := by decide +kernel
theorem dX7_text_116 : decode cX7_text 116 = .ok (.iload 6, 2) := by decide +kernel
theorem dX7_text_118 : decode cX7_text 118 = .ok (.isub, 1) := by decide +kernel
theorem dX7_text_119 : decode cX7_text 119 = .ok (.ireturn, 1) := by decide +kernel
theorem dX7_text_120 : decode cX7_text 120 = .ok (.aload_n 0, 1) := by decide +kernel
theorem dX7_text_121 : decode cX7_text 121 = .ok (.aload_n 0, 1) := by decide +kernel
theorem dX7_text_122 : decode cX7_text 122 = .ok (.getfield 21, 3) := by decide +kernel
theorem dX7_text_125 : decode cX7_text 125 = .ok (.getfield 88, 3) := by decide +kernel
theorem dX7_text_128 : decode cX7_text 128 = .ok (.invokevirtual 91, 3) := by decide +kernel
theorem dX7_text_131 : decode cX7_text 131 = .ok (.aload_n 0, 1) := by decide +kernel
theorem dX7_text_132 : decode cX7_text 132 = .ok (.getfield 12, 3) := by decide +kernel
theorem dX7_text_135 : decode cX7_text 135 = .ok (.getfield 95, 3) := by decide +kernel
theorem dX7_text_138 : decode cX7_text 138 = .ok (.ireturn, 1) := by decide +kernel
theorem dX7_part_0 : decode cX7_part 0 = .ok (.aload_n 0, 1) := by decide +kernel
theorem dX7_part_1 : decode cX7_part 1 = .ok (.getfield 12, 3) := by decide +kernel
theorem dX7_part_4 : decode cX7_part 4 = .ok (.iload_n 1, 1) := by decide +kernel
theorem dX7_part_5 : decode cX7_part 5 = .ok (.invokevirtual 98, 3) := by decide +kernel
theorem dX7_part_8 : decode cX7_part 8 = .ok (.ifCond .ne 5, 3) := by decide +kernel
theorem dX7_part_11 : decode cX7_part 11 = .ok (.iconst (-1), 1) := by decide +kernel
theorem dX7_part_12 : decode cX7_part 12 = .ok (.ireturn, 1) := by decide +kernel
theorem dX7_part_13 : decode cX7_part 13 = .ok (.iload_n 2, 1) := by decide +kernel
theorem dX7_part_14 : decode cX7_part 14 = .ok (.iconst 0, 1) := by decide +kernel
theorem dX7_part_15 : decode cX7_part 15 = .ok (.iconst 1, 1) := by decide +kernel
theorem dX7_part_16 : decode cX7_part 16 = .ok (.invokestatic 66, 3) := by decide +kernel
theorem dX7_part_19 : decode cX7_part 19 = .ok (.ifCond .ne 6, 3) := by decide +kernel
theorem dX7_part_22 : decode cX7_part 22 = .ok (.bipush (-2), 2) := by decide +kernel
theorem dX7_part_24 : decode cX7_part 24 = .ok (.ireturn, 1) := by decide +kernel
theorem dX7_part_25 : decode cX7_part 25 = .ok (.iload_n 2, 1) := by decide +kernel
theorem dX7_part_26 : decode cX7_part 26 = .ok (.ifCond .ne 15, 3) := by decide +kernel
theorem dX7_part_29 : decode cX7_part 29 = .ok (.aload_n 0, 1) := by decide +kernel
theorem dX7_part_30 : decode cX7_part 30 = .ok (.getfield 12, 3) := by decide +kernel
theorem dX7_part_33 : decode cX7_part 33 = .ok (.getfield 102, 3) := by decide +kernel
theorem dX7_part_36 : decode cX7_part 36 = .ok (.iload_n 1, 1) := by decide +kernel
theorem dX7_part_37 : decode cX7_part 37 = .ok (.iaload, 1) := by decide +kernel
theorem dX7_part_38 : decode cX7_part 38 = .ok (.goto 12, 3) := by decide +kernel
theorem dX7_part_41 : decode cX7_part 41 = .ok (.aload_n 0, 1) := by decide +kernel
theorem dX7_part_42 : decode cX7_part 42 = .ok (.getfield 12, 3) := by decide +kernel
theorem dX7_part_45 : decode cX7_part 45 = .ok (.getfield 105, 3) := by decide +kernel
theorem dX7_part_48 : decode cX7_part 48 = .ok (.iload_n 1, 1) := by decide +kernel
theorem dX7_part_49 : decode cX7_part 49 = .ok (.iaload, 1) := by decide +kernel
theorem dX7_part_50 : decode cX7_part 50 = .ok (.ireturn, 1) := by decide +kernel
theorem dX7_wish_0 : decode cX7_wish 0 = .ok (.aload_n 0, 1) := by decide +kernel
theorem dX7_wish_1 : decode cX7_wish 1 = .ok (.getfield 12, 3) := by decide +kernel
theorem dX7_wish_4 : decode cX7_wish 4 = .ok (.iload_n 1, 1) := by decide +kernel
theorem dX7_wish_5 : decode cX7_wish 5 = .ok (.invokevirtual 98, 3) := by decide +kernel
theorem dX7_wish_8 : decode cX7_wish 8 = .ok (.ifCond .ne 5, 3) := by decide +kernel
theorem dX7_wish_11 : decode cX7_wish 11 = .ok (.iconst (-1), 1) := by decide +kernel
theorem dX7_wish_12 : decode cX7_wish 12 = .ok (.ireturn, 1) := by decide +kernel
theorem dX7_wish_13 : decode cX7_wish 13 = .ok (.iload_n 2, 1) := by decide +kernel
theorem dX7_wish_14 : decode cX7_wish 14 = .ok (.iconst 0, 1) := by decide +kernel
theorem dX7_wish_15 : decode cX7_wish 15 = .ok (.sipush 999, 3) := by decide +kernel
theorem dX7_wish_18 : decode cX7_wish 18 = .ok (.invokestatic 66, 3) := by decide +kernel
theorem dX7_wish_21 : decode cX7_wish 21 = .ok (.ifCond .ne 6, 3) := by decide +kernel
theorem dX7_wish_24 : decode cX7_wish 24 = .ok (.bipush (-2), 2) := by decide +kernel
theorem dX7_wish_26 : decode cX7_wish 26 = .ok (.ireturn, 1) := by decide +kernel
theorem dX7_wish_27 : decode cX7_wish 27 = .ok (.aload_n 0, 1) := by decide +kernel
theorem dX7_wish_28 : decode cX7_wish 28 = .ok (.getfield 12, 3) := by decide +kernel
theorem dX7_wish_31 : decode cX7_wish 31 = .ok (.getfield 105, 3) := by decide +kernel
theorem dX7_wish_34 : decode cX7_wish 34 = .ok (.iload_n 1, 1) := by decide +kernel
theorem dX7_wish_35 : decode cX7_wish 35 = .ok (.iaload, 1) := by decide +kernel
theorem dX7_wish_36 : decode cX7_wish 36 = .ok (.istore_n 3, 1) := by decide +kernel
theorem dX7_wish_37 : decode cX7_wish 37 = .ok (.aload_n 0, 1) := by decide +kernel
theorem dX7_wish_38 : decode cX7_wish 38 = .ok (.getfield 12, 3) := by decide +kernel
theorem dX7_wish_41 : decode cX7_wish 41 = .ok (.getfield 105, 3) := by decide +kernel
theorem dX7_wish_44 : decode cX7_wish 44 = .ok (.iload_n 1, 1) := by decide +kernel
theorem dX7_wish_45 : decode cX7_wish 45 = .ok (.iload_n 2, 1) := by decide +kernel
theorem dX7_wish_46 : decode cX7_wish 46 = .ok (.iastore, 1) := by decide +kernel
theorem dX7_wish_47 : decode cX7_wish 47 = .ok (.iload_n 3, 1) := by decide +kernel
theorem dX7_wish_48 : decode cX7_wish 48 = .ok (.ireturn, 1) := by decide +kernel
theorem dX7_follows_0 : decode cX7_follows 0 = .ok (.aload_n 0, 1) := by decide +kernel
theorem dX7_follows_1 : decode cX7_follows 1 = .ok (.getfield 12, 3) := by decide +kernel
theorem dX7_follows_4 : decode cX7_follows 4 = .ok (.iload_n 1, 1) := by decide +kernel
theorem dX7_follows_5 : decode cX7_follows 5 = .ok (.invokevirtual 98, 3) := by decide +kernel
theorem dX7_follows_8 : decode cX7_follows 8 = .ok (.ifCond .eq 14, 3) := by decide +kernel
theorem dX7_follows_11 : decode cX7_follows 11 = .ok (.aload_n 0, 1) := by decide +kernel
theorem dX7_follows_12 : decode cX7_follows 12 = .ok (.getfield 12, 3) := by decide +kernel
theorem dX7_follows_15 : decode cX7_follows 15 = .ok (.iload_n 2, 1) := by decide +kernel
theorem dX7_follows_16 : decode cX7_follows 16 = .ok (.invokevirtual 98, 3) := by decide +kernel
theorem dX7_follows_19 : decode cX7_follows 19 = .ok (.ifCond .ne 5, 3) := by decide +kernel
theorem dX7_follows_22 : decode cX7_follows 22 = .ok (.iconst (-1), 1) := by decide +kernel
theorem dX7_follows_23 : decode cX7_follows 23 = .ok (.ireturn, 1) := by decide +kernel
theorem dX7_follows_24 : decode cX7_follows 24 = .ok (.iload_n 1, 1) := by decide +kernel
theorem dX7_follows_25 : decode cX7_follows 25 = .ok (.iload_n 2, 1) := by decide +kernel
theorem dX7_follows_26 : decode cX7_follows 26 = .ok (.if_icmp .ne 6, 3) := by decide +kernel
theorem dX7_follows_29 : decode cX7_follows 29 = .ok (.bipush (-2), 2) := by decide +kernel
theorem dX7_follows_31 : decode cX7_follows 31 = .ok (.ireturn, 1) := by decide +kernel
theorem dX7_follows_32 : decode cX7_follows 32 = .ok (.aload_n 0, 1) := by decide +kernel
theorem dX7_follows_33 : decode cX7_follows 33 = .ok (.getfield 12, 3) := by decide +kernel
theorem dX7_follows_36 : decode cX7_follows 36 = .ok (.getfield 108, 3) := by decide +kernel
theorem dX7_follows_39 : decode cX7_follows 39 = .ok (.iload_n 1, 1) := by decide +kernel
theorem dX7_follows_40 : decode cX7_follows 40 = .ok (.aaload, 1) := by decide +kernel
theorem dX7_follows_41 : decode cX7_follows 41 = .ok (.iload_n 2, 1) := by decide +kernel
theorem dX7_follows_42 : decode cX7_follows 42 = .ok (.iaload, 1) := by decide +kernel
theorem dX7_follows_43 : decode cX7_follows 43 = .ok (.ireturn, 1) := by decide +kernel
theorem dX7_follow_0 : decode cX7_follow 0 = .ok (.aload_n 0, 1) := by decide +kernel
theorem dX7_follow_1 : decode cX7_follow 1 = .ok (.getfield 12, 3) := by decide +kernel
theorem dX7_follow_4 : decode cX7_follow 4 = .ok (.iload_n 1, 1) := by decide +kernel
theorem dX7_follow_5 : decode cX7_follow 5 = .ok (.invokevirtual 98, 3) := by decide +kernel
theorem dX7_follow_8 : decode cX7_follow 8 = .ok (.ifCond .eq 14, 3) := by decide +kernel
theorem dX7_follow_11 : decode cX7_follow 11 = .ok (.aload_n 0, 1) := by decide +kernel
theorem dX7_follow_12 : decode cX7_follow 12 = .ok (.getfield 12, 3) := by decide +kernel
theorem dX7_follow_15 : decode cX7_follow 15 = .ok (.iload_n 2, 1) := by decide +kernel
theorem dX7_follow_16 : decode cX7_follow 16 = .ok (.invokevirtual 98, 3) := by decide +kernel
theorem dX7_follow_19 : decode cX7_follow 19 = .ok (.ifCond .ne 5, 3) := by decide +kernel
theorem dX7_follow_22 : decode cX7_follow 22 = .ok (.iconst (-1), 1) := by decide +kernel
theorem dX7_follow_23 : decode cX7_follow 23 = .ok (.ireturn, 1) := by decide +kernel
theorem dX7_follow_24 : decode cX7_follow 24 = .ok (.iload_n 3, 1) := by decide +kernel
theorem dX7_follow_25 : decode cX7_follow 25 = .ok (.iconst 0, 1) := by decide +kernel
theorem dX7_follow_26 : decode cX7_follow 26 = .ok (.bipush 99, 2) := by decide +kernel
theorem dX7_follow_28 : decode cX7_follow 28 = .ok (.invokestatic 66, 3) := by decide +kernel
theorem dX7_follow_31 : decode cX7_follow 31 = .ok (.ifCond .eq 8, 3) := by decide +kernel
theorem dX7_follow_34 : decode cX7_follow 34 = .ok (.iload_n 1, 1) := by decide +kernel
theorem dX7_follow_35 : decode cX7_follow 35 = .ok (.iload_n 2, 1) := by decide +kernel
theorem dX7_follow_36 : decode cX7_follow 36 = .ok (.if_icmp .ne 6, 3) := by decide +kernel
theorem dX7_follow_39 : decode cX7_follow 39 = .ok (.bipush (-2), 2) := by decide +kernel
theorem dX7_follow_41 : decode cX7_follow 41 = .ok (.ireturn, 1) := by decide +kernel
theorem dX7_follow_42 : decode cX7_follow 42 = .ok (.aload_n 0, 1) := by decide +kernel
theorem dX7_follow_43 : decode cX7_follow 43 = .ok (.getfield 12, 3) := by decide +kernel
theorem dX7_follow_46 : decode cX7_follow 46 = .ok (.getfield 108, 3) := by decide +kernel
theorem dX7_follow_49 : decode cX7_follow 49 = .ok (.iload_n 1, 1) := by decide +kernel
theorem dX7_follow_50 : decode cX7_follow 50 = .ok (.aaload, 1) := by decide +kernel
theorem dX7_follow_51 : decode cX7_follow 51 = .ok (.iload_n 2, 1) := by decide +kernel
theorem dX7_follow_52 : decode cX7_follow 52 = .ok (.iaload, 1) := by decide +kernel
theorem dX7_follow_53 : decode cX7_follow 53 = .ok (.istore 4, 2) := by decide +kernel
theorem dX7_follow_55 : decode cX7_follow 55 = .ok (.aload_n 0, 1) := by decide +kernel
theorem dX7_follow_56 : decode cX7_follow 56 = .ok (.getfield 12, 3) := by decide +kernel
theorem dX7_follow_59 : decode cX7_follow 59 = .ok (.getfield 108, 3) := by decide +kernel
theorem dX7_follow_62 : decode cX7_follow 62 = .ok (.iload_n 1, 1) := by decide +kernel
theorem dX7_follow_63 : decode cX7_follow 63 = .ok (.aaload, 1) := by decide +kernel
theorem dX7_follow_64 : decode cX7_follow 64 = .ok (.iload_n 2, 1) := by decide +kernel
theorem dX7_follow_65 : decode cX7_follow 65 = .ok (.iload_n 3, 1) := by decide +kernel
theorem dX7_follow_66 : decode cX7_follow 66 = .ok (.iastore, 1) := by decide +kernel
theorem dX7_follow_67 : decode cX7_follow 67 = .ok (.iload 4, 2) := by decide +kernel
theorem dX7_follow_69 : decode cX7_follow 69 = .ok (.ireturn, 1) := by decide +kernel
theorem dX7_person_0 : decode cX7_person 0 = .ok (.aload_n 0, 1) := by decide +kernel
theorem dX7_person_1 : decode cX7_person 1 = .ok (.getfield 31, 3) := by decide +kernel
theorem dX7_person_4 : decode cX7_person 4 = .ok (.iconst 4, 1) := by decide +kernel
theorem dX7_person_5 : decode cX7_person 5 = .ok (.if_icmp .lt 6, 3) := by decide +kernel
theorem dX7_person_8 : decode cX7_person 8 = .ok (.bipush (-4), 2) := by decide +kernel
theorem dX7_person_10 : decode cX7_person 10 = .ok (.ireturn, 1) := by decide +kernel
theorem dX7_person_11 : decode cX7_person 11 = .ok (.aload_n 0, 1) := by decide +kernel
theorem dX7_person_12 : decode cX7_person 12 = .ok (.dup, 1) := by decide +kernel
theorem dX7_person_13 : decode cX7_person 13 = .ok (.getfield 31, 3) := by decide +kernel
theorem dX7_person_16 : decode cX7_person 16 = .ok (.iconst 1, 1) := by decide +kernel
theorem dX7_person_17 : decode cX7_person 17 = .ok (.iadd, 1) := by decide +kernel
theorem dX7_person_18 : decode cX7_person 18 = .ok (.putfield 31, 3) := by decide +kernel
theorem dX7_person_21 : decode cX7_person 21 = .ok (.aload_n 0, 1) := by decide +kernel
theorem dX7_person_22 : decode cX7_person 22 = .ok (.getfield 31, 3) := by decide +kernel
theorem dX7_person_25 : decode cX7_person 25 = .ok (.iconst 1, 1) := by decide +kernel
theorem dX7_person_26 : decode cX7_person 26 = .ok (.isub, 1) := by decide +kernel
theorem dX7_person_27 : decode cX7_person 27 = .ok (.ireturn, 1) := by decide +kernel
theorem dX7_can_0 : decode cX7_can 0 = .ok (.aload_n 0, 1) := by decide +kernel
theorem dX7_can_1 : decode cX7_can 1 = .ok (.iload_n 1, 1) := by decide +kernel
theorem dX7_can_2 : decode cX7_can 2 = .ok (.invokevirtual 112, 3) := by decide +kernel
theorem dX7_can_5 : decode cX7_can 5 = .ok (.ifCond .ne 5, 3) := by decide +kernel
theorem dX7_can_8 : decode cX7_can 8 = .ok (.iconst (-1), 1) := by decide +kernel
theorem dX7_can_9 : decode cX7_can 9 = .ok (.ireturn, 1) := by decide +kernel
theorem dX7_can_10 : decode cX7_can 10 = .ok (.iload_n 2, 1) := by decide +kernel
theorem dX7_can_11 : decode cX7_can 11 = .ok (.iconst 0, 1) := by decide +kernel
theorem dX7_can_12 : decode cX7_can 12 = .ok (.iconst 2, 1) := by decide +kernel
theorem dX7_can_13 : decode cX7_can 13 = .ok (.invokestatic 66, 3) := by decide +kernel
theorem dX7_can_16 : decode cX7_can 16 = .ok (.ifCond .eq 20, 3) := by decide +kernel
theorem dX7_can_19 : decode cX7_can 19 = .ok (.iload_n 3, 1) := by decide +kernel
theorem dX7_can_20 : decode cX7_can 20 = .ok (.getstatic 115, 3) := by decide +kernel
theorem dX7_can_23 : decode cX7_can 23 = .ok (.iload_n 2, 1) := by decide +kernel
theorem dX7_can_24 : decode cX7_can 24 = .ok (.iaload, 1) := by decide +kernel
theorem dX7_can_25 : decode cX7_can 25 = .ok (.getstatic 118, 3) := by decide +kernel
theorem dX7_can_28 : decode cX7_can 28 = .ok (.iload_n 2, 1) := by decide +kernel
theorem dX7_can_29 : decode cX7_can 29 = .ok (.iaload, 1) := by decide +kernel
theorem dX7_can_30 : decode cX7_can 30 = .ok (.invokestatic 66, 3) := by decide +kernel
theorem dX7_can_33 : decode cX7_can 33 = .ok (.ifCond .ne 6, 3) := by decide +kernel
theorem dX7_can_36 : decode cX7_can 36 = .ok (.bipush (-2), 2) := by decide +kernel
theorem dX7_can_38 : decode cX7_can 38 = .ok (.ireturn, 1) := by decide +kernel
theorem dX7_can_39 : decode cX7_can 39 = .ok (.aload_n 0, 1) := by decide +kernel
theorem dX7_can_40 : decode cX7_can 40 = .ok (.getfield 27, 3) := by decide +kernel
theorem dX7_can_43 : decode cX7_can 43 = .ok (.iload_n 1, 1) := by decide +kernel
theorem dX7_can_44 : decode cX7_can 44 = .ok (.aaload, 1) := by decide +kernel
theorem dX7_can_45 : decode cX7_can 45 = .ok (.getfield 121, 3) := by decide +kernel
theorem dX7_can_48 : decode cX7_can 48 = .ok (.astore 4, 2) := by decide +kernel
theorem dX7_can_50 : decode cX7_can 50 = .ok (.aload 4, 2) := by decide +kernel
theorem dX7_can_52 : decode cX7_can 52 = .ok (.iload_n 2, 1) := by decide +kernel
theorem dX7_can_53 : decode cX7_can 53 = .ok (.iaload, 1) := by decide +kernel
theorem dX7_can_54 : decode cX7_can 54 = .ok (.istore 5, 2) := by decide +kernel
theorem dX7_can_56 : decode cX7_can 56 = .ok (.aload 4, 2) := by decide +kernel
theorem dX7_can_58 : decode cX7_can 58 = .ok (.iload_n 2, 1) := by decide +kernel
theorem dX7_can_59 : decode cX7_can 59 = .ok (.iload_n 3, 1) := by decide +kernel
theorem dX7_can_60 : decode cX7_can 60 = .ok (.iastore, 1) := by decide +kernel
theorem dX7_can_61 : decode cX7_can 61 = .ok (.iload 5, 2) := by decide +kernel
theorem dX7_can_63 : decode cX7_can 63 = .ok (.ireturn, 1) := by decide +kernel
theorem dX7_best_0 : decode cX7_best 0 = .ok (.aload_n 0, 1) := by decide +kernel
theorem dX7_best_1 : decode cX7_best 1 = .ok (.iload_n 1, 1) := by decide +kernel
theorem dX7_best_2 : decode cX7_best 2 = .ok (.invokevirtual 112, 3) := by decide +kernel
theorem dX7_best_5 : decode cX7_best 5 = .ok (.ifCond .eq 11, 3) := by decide +kernel
theorem dX7_best_8 : decode cX7_best 8 = .ok (.aload_n 0, 1) := by decide +kernel
theorem dX7_best_9 : decode cX7_best 9 = .ok (.iload_n 3, 1) := by decide +kernel
theorem dX7_best_10 : decode cX7_best 10 = .ok (.invokevirtual 124, 3) := by decide +kernel
theorem dX7_best_13 : decode cX7_best 13 = .ok (.ifCond .ne 5, 3) := by decide +kernel
theorem dX7_best_16 : decode cX7_best 16 = .ok (.iconst (-1), 1) := by decide +kernel
theorem dX7_best_17 : decode cX7_best 17 = .ok (.ireturn, 1) := by decide +kernel
theorem dX7_best_18 : decode cX7_best 18 = .ok (.aload_n 0, 1) := by decide +kernel
theorem dX7_best_19 : decode cX7_best 19 = .ok (.getfield 12, 3) := by decide +kernel
theorem dX7_best_22 : decode cX7_best 22 = .ok (.iload_n 2, 1) := by decide +kernel
theorem dX7_best_23 : decode cX7_best 23 = .ok (.invokevirtual 127, 3) := by decide +kernel
theorem dX7_best_26 : decode cX7_best 26 = .ok (.ifCond .ne 6, 3) := by decide +kernel
theorem dX7_best_29 : decode cX7_best 29 = .ok (.bipush (-2), 2) := by decide +kernel
theorem dX7_best_31 : decode cX7_best 31 = .ok (.ireturn, 1) := by decide +kernel
theorem dX7_best_32 : decode cX7_best 32 = .ok (.aload_n 0, 1) := by decide +kernel
theorem dX7_best_33 : decode cX7_best 33 = .ok (.getfield 38, 3) := by decide +kernel
theorem dX7_best_36 : decode cX7_best 36 = .ok (.aload_n 0, 1) := by decide +kernel
theorem dX7_best_37 : decode cX7_best 37 = .ok (.getfield 12, 3) := by decide +kernel
theorem dX7_best_40 : decode cX7_best 40 = .ok (.iload_n 2, 1) := by decide +kernel
theorem dX7_best_41 : decode cX7_best 41 = .ok (.aload_n 0, 1) := by decide +kernel
theorem dX7_best_42 : decode cX7_best 42 = .ok (.getfield 27, 3) := by decide +kernel
theorem dX7_best_45 : decode cX7_best 45 = .ok (.iload_n 1, 1) := by decide +kernel
theorem dX7_best_46 : decode cX7_best 46 = .ok (.aaload, 1) := by decide +kernel
theorem dX7_best_47 : decode cX7_best 47 = .ok (.invokevirtual 130, 3) := by decide +kernel
theorem dX7_best_50 : decode cX7_best 50 = .ok (.istore 4, 2) := by decide +kernel
theorem dX7_best_52 : decode cX7_best 52 = .ok (.iload_n 3, 1) := by decide +kernel
theorem dX7_best_53 : decode cX7_best 53 = .ok (.ifCond .lt 10, 3) := by decide +kernel
theorem dX7_best_56 : decode cX7_best 56 = .ok (.iload 4, 2) := by decide +kernel
theorem dX7_best_58 : decode cX7_best 58 = .ok (.bipush (-9), 2) := by decide +kernel
theorem dX7_best_60 : decode cX7_best 60 = .ok (.if_icmp .ne 6, 3) := by decide +kernel
theorem dX7_best_63 : decode cX7_best 63 = .ok (.iload 4, 2) := by decide +kernel
theorem dX7_best_65 : decode cX7_best 65 = .ok (.ireturn, 1) := by decide +kernel
theorem dX7_best_66 : decode cX7_best 66 = .ok (.aload_n 0, 1) := by decide +kernel
theorem dX7_best_67 : decode cX7_best 67 = .ok (.getfield 38, 3) := by decide +kernel
theorem dX7_best_70 : decode cX7_best 70 = .ok (.getfield 134, 3) := by decide +kernel
theorem dX7_best_73 : decode cX7_best 73 = .ok (.iload_n 3, 1) := by decide +kernel
theorem dX7_best_74 : decode cX7_best 74 = .ok (.invokevirtual 138, 3) := by decide +kernel
theorem dX7_best_77 : decode cX7_best 77 = .ok (.ireturn, 1) := by decide +kernel
theorem dX7_lay_0 : decode cX7_lay 0 = .ok (.aload_n 0, 1) := by decide +kernel
theorem dX7_lay_1 : decode cX7_lay 1 = .ok (.iload_n 1, 1) := by decide +kernel
theorem dX7_lay_2 : decode cX7_lay 2 = .ok (.invokevirtual 112, 3) := by decide +kernel
theorem dX7_lay_5 : decode cX7_lay 5 = .ok (.ifCond .ne 5, 3) := by decide +kernel
theorem dX7_lay_8 : decode cX7_lay 8 = .ok (.iconst (-1), 1) := by decide +kernel
theorem dX7_lay_9 : decode cX7_lay 9 = .ok (.ireturn, 1) := by decide +kernel
theorem dX7_lay_10 : decode cX7_lay 10 = .ok (.aload_n 0, 1) := by decide +kernel
theorem dX7_lay_11 : decode cX7_lay 11 = .ok (.getfield 12, 3) := by decide +kernel
theorem dX7_lay_14 : decode cX7_lay 14 = .ok (.iload_n 2, 1) := by decide +kernel
theorem dX7_lay_15 : decode cX7_lay 15 = .ok (.invokevirtual 127, 3) := by decide +kernel
theorem dX7_lay_18 : decode cX7_lay 18 = .ok (.ifCond .ne 6, 3) := by decide +kernel
theorem dX7_lay_21 : decode cX7_lay 21 = .ok (.bipush (-2), 2) := by decide +kernel
theorem dX7_lay_23 : decode cX7_lay 23 = .ok (.ireturn, 1) := by decide +kernel
theorem dX7_lay_24 : decode cX7_lay 24 = .ok (.aload_n 0, 1) := by decide +kernel
theorem dX7_lay_25 : decode cX7_lay 25 = .ok (.getfield 38, 3) := by decide +kernel
theorem dX7_lay_28 : decode cX7_lay 28 = .ok (.aload_n 0, 1) := by decide +kernel
theorem dX7_lay_29 : decode cX7_lay 29 = .ok (.getfield 12, 3) := by decide +kernel
theorem dX7_lay_32 : decode cX7_lay 32 = .ok (.iload_n 2, 1) := by decide +kernel
theorem dX7_lay_33 : decode cX7_lay 33 = .ok (.aload_n 0, 1) := by decide +kernel
theorem dX7_lay_34 : decode cX7_lay 34 = .ok (.getfield 27, 3) := by decide +kernel
theorem dX7_lay_37 : decode cX7_lay 37 = .ok (.iload_n 1, 1) := by decide +kernel
theorem dX7_lay_38 : decode cX7_lay 38 = .ok (.aaload, 1) := by decide +kernel
theorem dX7_lay_39 : decode cX7_lay 39 = .ok (.invokevirtual 130, 3) := by decide +kernel
theorem dX7_lay_42 : decode cX7_lay 42 = .ok (.istore_n 3, 1) := by decide +kernel
theorem dX7_lay_43 : decode cX7_lay 43 = .ok (.iload_n 3, 1) := by decide +kernel
theorem dX7_lay_44 : decode cX7_lay 44 = .ok (.bipush (-9), 2) := by decide +kernel
theorem dX7_lay_46 : decode cX7_lay 46 = .ok (.if_icmp .eq 19, 3) := by decide +kernel
theorem dX7_lay_49 : decode cX7_lay 49 = .ok (.aload_n 0, 1) := by decide +kernel
theorem dX7_lay_50 : decode cX7_lay 50 = .ok (.getfield 27, 3) := by decide +kernel
theorem dX7_lay_53 : decode cX7_lay 53 = .ok (.iload_n 1, 1) := by decide +kernel
theorem dX7_lay_54 : decode cX7_lay 54 = .ok (.aaload, 1) := by decide +kernel
theorem dX7_lay_55 : decode cX7_lay 55 = .ok (.aload_n 0, 1) := by decide +kernel
theorem dX7_lay_56 : decode cX7_lay 56 = .ok (.getfield 38, 3) := by decide +kernel
theorem dX7_lay_59 : decode cX7_lay 59 = .ok (.getfield 134, 3) := by decide +kernel
theorem dX7_lay_62 : decode cX7_lay 62 = .ok (.invokevirtual 143, 3) := by decide +kernel
theorem dX7_lay_65 : decode cX7_lay 65 = .ok (.iload_n 3, 1) := by decide +kernel
theorem dX7_lay_66 : decode cX7_lay 66 = .ok (.ireturn, 1) := by decide +kernel
theorem dX7_offer_0 : decode cX7_offer 0 = .ok (.aload_n 0, 1) := by decide +kernel
theorem dX7_offer_1 : decode cX7_offer 1 = .ok (.iload_n 1, 1) := by decide +kernel
theorem dX7_offer_2 : decode cX7_offer 2 = .ok (.invokevirtual 112, 3) := by decide +kernel
theorem dX7_offer_5 : decode cX7_offer 5 = .ok (.ifCond .ne 5, 3) := by decide +kernel
theorem dX7_offer_8 : decode cX7_offer 8 = .ok (.iconst (-1), 1) := by decide +kernel
theorem dX7_offer_9 : decode cX7_offer 9 = .ok (.ireturn, 1) := by decide +kernel
theorem dX7_offer_10 : decode cX7_offer 10 = .ok (.iload_n 2, 1) := by decide +kernel
theorem dX7_offer_11 : decode cX7_offer 11 = .ok (.iconst 0, 1) := by decide +kernel
theorem dX7_offer_12 : decode cX7_offer 12 = .ok (.sipush 9999, 3) := by decide +kernel
theorem dX7_offer_15 : decode cX7_offer 15 = .ok (.invokestatic 66, 3) := by decide +kernel
theorem dX7_offer_18 : decode cX7_offer 18 = .ok (.ifCond .ne 6, 3) := by decide +kernel
theorem dX7_offer_21 : decode cX7_offer 21 = .ok (.bipush (-2), 2) := by decide +kernel
theorem dX7_offer_23 : decode cX7_offer 23 = .ok (.ireturn, 1) := by decide +kernel
theorem dX7_offer_24 : decode cX7_offer 24 = .ok (.aload_n 0, 1) := by decide +kernel
theorem dX7_offer_25 : decode cX7_offer 25 = .ok (.getfield 27, 3) := by decide +kernel
theorem dX7_offer_28 : decode cX7_offer 28 = .ok (.iload_n 1, 1) := by decide +kernel
theorem dX7_offer_29 : decode cX7_offer 29 = .ok (.aaload, 1) := by decide +kernel
theorem dX7_offer_30 : decode cX7_offer 30 = .ok (.astore_n 3, 1) := by decide +kernel
theorem dX7_offer_31 : decode cX7_offer 31 = .ok (.aload_n 3, 1) := by decide +kernel
theorem dX7_offer_32 : decode cX7_offer 32 = .ok (.getfield 147, 3) := by decide +kernel
theorem dX7_offer_35 : decode cX7_offer 35 = .ok (.invokevirtual 150, 3) := by decide +kernel
theorem dX7_offer_38 : decode cX7_offer 38 = .ok (.ifCond .eq 6, 3) := by decide +kernel
theorem dX7_offer_41 : decode cX7_offer 41 = .ok (.bipush (-3), 2) := by decide +kernel
theorem dX7_offer_43 : decode cX7_offer 43 = .ok (.ireturn, 1) := by decide +kernel
theorem dX7_offer_44 : decode cX7_offer 44 = .ok (.aload_n 0, 1) := by decide +kernel
theorem dX7_offer_45 : decode cX7_offer 45 = .ok (.getfield 38, 3) := by decide +kernel
theorem dX7_offer_48 : decode cX7_offer 48 = .ok (.aload_n 0, 1) := by decide +kernel
theorem dX7_offer_49 : decode cX7_offer 49 = .ok (.getfield 12, 3) := by decide +kernel
theorem dX7_offer_52 : decode cX7_offer 52 = .ok (.aload_n 3, 1) := by decide +kernel
theorem dX7_offer_53 : decode cX7_offer 53 = .ok (.getfield 147, 3) := by decide +kernel
theorem dX7_offer_56 : decode cX7_offer 56 = .ok (.invokevirtual 154, 3) := by decide +kernel
theorem dX7_offer_59 : decode cX7_offer 59 = .ok (.aload_n 3, 1) := by decide +kernel
theorem dX7_offer_60 : decode cX7_offer 60 = .ok (.invokevirtual 130, 3) := by decide +kernel
theorem dX7_offer_63 : decode cX7_offer 63 = .ok (.istore 4, 2) := by decide +kernel
theorem dX7_offer_65 : decode cX7_offer 65 = .ok (.iload 4, 2) := by decide +kernel
theorem dX7_offer_67 : decode cX7_offer 67 = .ok (.bipush (-9), 2) := by decide +kernel
theorem dX7_offer_69 : decode cX7_offer 69 = .ok (.if_icmp .ne 6, 3) := by decide +kernel
theorem dX7_offer_72 : decode cX7_offer 72 = .ok (.bipush (-9), 2) := by decide +kernel
theorem dX7_offer_74 : decode cX7_offer 74 = .ok (.ireturn, 1) := by decide +kernel
theorem dX7_offer_75 : decode cX7_offer 75 = .ok (.aload_n 3, 1) := by decide +kernel
theorem dX7_offer_76 : decode cX7_offer 76 = .ok (.getfield 147, 3) := by decide +kernel
theorem dX7_offer_79 : decode cX7_offer 79 = .ok (.aload_n 0, 1) := by decide +kernel
theorem dX7_offer_80 : decode cX7_offer 80 = .ok (.getfield 12, 3) := by decide +kernel
theorem dX7_offer_83 : decode cX7_offer 83 = .ok (.invokevirtual 158, 3) := by decide +kernel
theorem dX7_offer_86 : decode cX7_offer 86 = .ok (.iload 4, 2) := by decide +kernel
theorem dX7_offer_88 : decode cX7_offer 88 = .ok (.isub, 1) := by decide +kernel
theorem dX7_offer_89 : decode cX7_offer 89 = .ok (.iload_n 2, 1) := by decide +kernel
theorem dX7_offer_90 : decode cX7_offer 90 = .ok (.if_icmp .ge 5, 3) := by decide +kernel
theorem dX7_offer_93 : decode cX7_offer 93 = .ok (.iconst 0, 1) := by decide +kernel
theorem dX7_offer_94 : decode cX7_offer 94 = .ok (.ireturn, 1) := by decide +kernel
theorem dX7_offer_95 : decode cX7_offer 95 = .ok (.aload_n 3, 1) := by decide +kernel
theorem dX7_offer_96 : decode cX7_offer 96 = .ok (.aload_n 0, 1) := by decide +kernel
theorem dX7_offer_97 : decode cX7_offer 97 = .ok (.getfield 38, 3) := by decide +kernel
theorem dX7_offer_100 : decode cX7_offer 100 = .ok (.getfield 134, 3) := by decide +kernel
theorem dX7_offer_103 : decode cX7_offer 103 = .ok (.invokevirtual 143, 3) := by decide +kernel
theorem dX7_offer_106 : decode cX7_offer 106 = .ok (.iconst 1, 1) := by decide +kernel
theorem dX7_offer_107 : decode cX7_offer 107 = .ok (.ireturn, 1) := by decide +kernel
theorem dX7_back_0 : decode cX7_back 0 = .ok (.aload_n 0, 1) := by decide +kernel
theorem dX7_back_1 : decode cX7_back 1 = .ok (.iload_n 1, 1) := by decide +kernel
theorem dX7_back_2 : decode cX7_back 2 = .ok (.invokevirtual 112, 3) := by decide +kernel
theorem dX7_back_5 : decode cX7_back 5 = .ok (.ifCond .ne 5, 3) := by decide +kernel
theorem dX7_back_8 : decode cX7_back 8 = .ok (.iconst (-1), 1) := by decide +kernel
theorem dX7_back_9 : decode cX7_back 9 = .ok (.ireturn, 1) := by decide +kernel
theorem dX7_back_10 : decode cX7_back 10 = .ok (.aload_n 0, 1) := by decide +kernel
theorem dX7_back_11 : decode cX7_back 11 = .ok (.getfield 27, 3) := by decide +kernel
theorem dX7_back_14 : decode cX7_back 14 = .ok (.iload_n 1, 1) := by decide +kernel
theorem dX7_back_15 : decode cX7_back 15 = .ok (.aaload, 1) := by decide +kernel
theorem dX7_back_16 : decode cX7_back 16 = .ok (.getfield 162, 3) := by decide +kernel
theorem dX7_back_19 : decode cX7_back 19 = .ok (.invokevirtual 150, 3) := by decide +kernel
theorem dX7_back_22 : decode cX7_back 22 = .ok (.ifCond .eq 6, 3) := by decide +kernel
theorem dX7_back_25 : decode cX7_back 25 = .ok (.bipush (-3), 2) := by decide +kernel
theorem dX7_back_27 : decode cX7_back 27 = .ok (.ireturn, 1) := by decide +kernel
theorem dX7_back_28 : decode cX7_back 28 = .ok (.aload_n 0, 1) := by decide +kernel
theorem dX7_back_29 : decode cX7_back 29 = .ok (.getfield 27, 3) := by decide +kernel
theorem dX7_back_32 : decode cX7_back 32 = .ok (.iload_n 1, 1) := by decide +kernel
theorem dX7_back_33 : decode cX7_back 33 = .ok (.aaload, 1) := by decide +kernel
theorem dX7_back_34 : decode cX7_back 34 = .ok (.invokevirtual 165, 3) := by decide +kernel
theorem dX7_back_37 : decode cX7_back 37 = .ok (.iconst 1, 1) := by decide +kernel
theorem dX7_back_38 : decode cX7_back 38 = .ok (.ireturn, 1) := by decide +kernel
theorem dX7_at_0 : decode cX7_at 0 = .ok (.aload_n 0, 1) := by decide +kernel
theorem dX7_at_1 : decode cX7_at 1 = .ok (.iload_n 1, 1) := by decide +kernel
theorem dX7_at_2 : decode cX7_at 2 = .ok (.invokevirtual 112, 3) := by decide +kernel
theorem dX7_at_5 : decode cX7_at 5 = .ok (.ifCond .eq 10, 3) := by decide +kernel
theorem dX7_at_8 : decode cX7_at 8 = .ok (.iload_n 2, 1) := by decide +kernel
theorem dX7_at_9 : decode cX7_at 9 = .ok (.invokestatic 168, 3) := by decide +kernel
theorem dX7_at_12 : decode cX7_at 12 = .ok (.ifCond .ne 5, 3) := by decide +kernel
theorem dX7_at_15 : decode cX7_at 15 = .ok (.iconst (-1), 1) := by decide +kernel
theorem dX7_at_16 : decode cX7_at 16 = .ok (.ireturn, 1) := by decide +kernel
theorem dX7_at_17 : decode cX7_at 17 = .ok (.aload_n 0, 1) := by decide +kernel
theorem dX7_at_18 : decode cX7_at 18 = .ok (.getfield 27, 3) := by decide +kernel
theorem dX7_at_21 : decode cX7_at 21 = .ok (.iload_n 1, 1) := by decide +kernel
theorem dX7_at_22 : decode cX7_at 22 = .ok (.aaload, 1) := by decide +kernel
theorem dX7_at_23 : decode cX7_at 23 = .ok (.getfield 147, 3) := by decide +kernel
theorem dX7_at_26 : decode cX7_at 26 = .ok (.iload_n 2, 1) := by decide +kernel
theorem dX7_at_27 : decode cX7_at 27 = .ok (.invokevirtual 171, 3) := by decide +kernel
theorem dX7_at_30 : decode cX7_at 30 = .ok (.ireturn, 1) := by decide +kernel
theorem dX7_price_0 : decode cX7_price 0 = .ok (.aload_n 0, 1) := by decide +kernel
theorem dX7_price_1 : decode cX7_price 1 = .ok (.iload_n 1, 1) := by decide +kernel
theorem dX7_price_2 : decode cX7_price 2 = .ok (.invokevirtual 112, 3) := by decide +kernel
theorem dX7_price_5 : decode cX7_price 5 = .ok (.ifCond .ne 5, 3) := by decide +kernel
theorem dX7_price_8 : decode cX7_price 8 = .ok (.iconst (-1), 1) := by decide +kernel
theorem dX7_price_9 : decode cX7_price 9 = .ok (.ireturn, 1) := by decide +kernel
theorem dX7_price_10 : decode cX7_price 10 = .ok (.aload_n 0, 1) := by decide +kernel
theorem dX7_price_11 : decode cX7_price 11 = .ok (.getfield 27, 3) := by decide +kernel
theorem dX7_price_14 : decode cX7_price 14 = .ok (.iload_n 1, 1) := by decide +kernel
theorem dX7_price_15 : decode cX7_price 15 = .ok (.aaload, 1) := by decide +kernel
theorem dX7_price_16 : decode cX7_price 16 = .ok (.getfield 147, 3) := by decide +kernel
theorem dX7_price_19 : decode cX7_price 19 = .ok (.invokevirtual 150, 3) := by decide +kernel
theorem dX7_price_22 : decode cX7_price 22 = .ok (.ifCond .eq 6, 3) := by decide +kernel
theorem dX7_price_25 : decode cX7_price 25 = .ok (.bipush (-3), 2) := by decide +kernel
theorem dX7_price_27 : decode cX7_price 27 = .ok (.ireturn, 1) := by decide +kernel
theorem dX7_price_28 : decode cX7_price 28 = .ok (.aload_n 0, 1) := by decide +kernel
theorem dX7_price_29 : decode cX7_price 29 = .ok (.getfield 27, 3) := by decide +kernel
theorem dX7_price_32 : decode cX7_price 32 = .ok (.iload_n 1, 1) := by decide +kernel
theorem dX7_price_33 : decode cX7_price 33 = .ok (.aaload, 1) := by decide +kernel
theorem dX7_price_34 : decode cX7_price 34 = .ok (.getfield 147, 3) := by decide +kernel
theorem dX7_price_37 : decode cX7_price 37 = .ok (.aload_n 0, 1) := by decide +kernel
theorem dX7_price_38 : decode cX7_price 38 = .ok (.getfield 12, 3) := by decide +kernel
theorem dX7_price_41 : decode cX7_price 41 = .ok (.invokevirtual 158, 3) := by decide +kernel
theorem dX7_price_44 : decode cX7_price 44 = .ok (.ireturn, 1) := by decide +kernel
theorem dX7_ways_0 : decode cX7_ways 0 = .ok (.aload_n 0, 1) := by decide +kernel
theorem dX7_ways_1 : decode cX7_ways 1 = .ok (.getfield 12, 3) := by decide +kernel
theorem dX7_ways_4 : decode cX7_ways 4 = .ok (.iload_n 1, 1) := by decide +kernel
theorem dX7_ways_5 : decode cX7_ways 5 = .ok (.invokevirtual 174, 3) := by decide +kernel
theorem dX7_ways_8 : decode cX7_ways 8 = .ok (.ifCond .eq 13, 3) := by decide +kernel
theorem dX7_ways_11 : decode cX7_ways 11 = .ok (.iload_n 2, 1) := by decide +kernel
theorem dX7_ways_12 : decode cX7_ways 12 = .ok (.iconst 2, 1) := by decide +kernel
theorem dX7_ways_13 : decode cX7_ways 13 = .ok (.bipush 9, 2) := by decide +kernel
theorem dX7_ways_15 : decode cX7_ways 15 = .ok (.invokestatic 66, 3) := by decide +kernel
theorem dX7_ways_18 : decode cX7_ways 18 = .ok (.ifCond .ne 6, 3) := by decide +kernel
theorem dX7_ways_21 : decode cX7_ways 21 = .ok (.bipush (-2), 2) := by decide +kernel
theorem dX7_ways_23 : decode cX7_ways 23 = .ok (.ireturn, 1) := by decide +kernel
theorem dX7_ways_24 : decode cX7_ways 24 = .ok (.aload_n 0, 1) := by decide +kernel
theorem dX7_ways_25 : decode cX7_ways 25 = .ok (.iload_n 3, 1) := by decide +kernel
theorem dX7_ways_26 : decode cX7_ways 26 = .ok (.invokevirtual 124, 3) := by decide +kernel
theorem dX7_ways_29 : decode cX7_ways 29 = .ok (.ifCond .ne 5, 3) := by decide +kernel
theorem dX7_ways_32 : decode cX7_ways 32 = .ok (.iconst (-1), 1) := by decide +kernel
theorem dX7_ways_33 : decode cX7_ways 33 = .ok (.ireturn, 1) := by decide +kernel
theorem dX7_ways_34 : decode cX7_ways 34 = .ok (.aload_n 0, 1) := by decide +kernel
theorem dX7_ways_35 : decode cX7_ways 35 = .ok (.getfield 45, 3) := by decide +kernel
theorem dX7_ways_38 : decode cX7_ways 38 = .ok (.aload_n 0, 1) := by decide +kernel
theorem dX7_ways_39 : decode cX7_ways 39 = .ok (.getfield 12, 3) := by decide +kernel
theorem dX7_ways_42 : decode cX7_ways 42 = .ok (.iload_n 1, 1) := by decide +kernel
theorem dX7_ways_43 : decode cX7_ways 43 = .ok (.iload_n 2, 1) := by decide +kernel
theorem dX7_ways_44 : decode cX7_ways 44 = .ok (.invokevirtual 177, 3) := by decide +kernel
theorem dX7_ways_47 : decode cX7_ways 47 = .ok (.iload_n 3, 1) := by decide +kernel
theorem dX7_ways_48 : decode cX7_ways 48 = .ok (.ifCond .ge 17, 3) := by decide +kernel
theorem dX7_ways_51 : decode cX7_ways 51 = .ok (.aload_n 0, 1) := by decide +kernel
theorem dX7_ways_52 : decode cX7_ways 52 = .ok (.getfield 45, 3) := by decide +kernel
theorem dX7_ways_55 : decode cX7_ways 55 = .ok (.aload_n 0, 1) := by decide +kernel
theorem dX7_ways_56 : decode cX7_ways 56 = .ok (.getfield 12, 3) := by decide +kernel
theorem dX7_ways_59 : decode cX7_ways 59 = .ok (.invokevirtual 181, 3) := by decide +kernel
theorem dX7_ways_62 : decode cX7_ways 62 = .ok (.goto 11, 3) := by decide +kernel
theorem dX7_ways_65 : decode cX7_ways 65 = .ok (.aload_n 0, 1) := by decide +kernel
theorem dX7_ways_66 : decode cX7_ways 66 = .ok (.getfield 45, 3) := by decide +kernel
theorem dX7_ways_69 : decode cX7_ways 69 = .ok (.iload_n 3, 1) := by decide +kernel
theorem dX7_ways_70 : decode cX7_ways 70 = .ok (.invokevirtual 184, 3) := by decide +kernel
theorem dX7_ways_73 : decode cX7_ways 73 = .ok (.ireturn, 1) := by decide +kernel
theorem dX7_kept_0 : decode cX7_kept 0 = .ok (.aload_n 0, 1) := by decide +kernel
theorem dX7_kept_1 : decode cX7_kept 1 = .ok (.iload_n 1, 1) := by decide +kernel
theorem dX7_kept_2 : decode cX7_kept 2 = .ok (.invokevirtual 112, 3) := by decide +kernel
theorem dX7_kept_5 : decode cX7_kept 5 = .ok (.ifCond .ne 5, 3) := by decide +kernel
theorem dX7_kept_8 : decode cX7_kept 8 = .ok (.iconst (-1), 1) := by decide +kernel
theorem dX7_kept_9 : decode cX7_kept 9 = .ok (.ireturn, 1) := by decide +kernel
theorem dX7_kept_10 : decode cX7_kept 10 = .ok (.aload_n 0, 1) := by decide +kernel
theorem dX7_kept_11 : decode cX7_kept 11 = .ok (.getfield 12, 3) := by decide +kernel
theorem dX7_kept_14 : decode cX7_kept 14 = .ok (.iload_n 2, 1) := by decide +kernel
theorem dX7_kept_15 : decode cX7_kept 15 = .ok (.invokevirtual 174, 3) := by decide +kernel
theorem dX7_kept_18 : decode cX7_kept 18 = .ok (.ifCond .eq 13, 3) := by decide +kernel
theorem dX7_kept_21 : decode cX7_kept 21 = .ok (.iload_n 3, 1) := by decide +kernel
theorem dX7_kept_22 : decode cX7_kept 22 = .ok (.iconst 1, 1) := by decide +kernel
theorem dX7_kept_23 : decode cX7_kept 23 = .ok (.bipush 9, 2) := by decide +kernel
theorem dX7_kept_25 : decode cX7_kept 25 = .ok (.invokestatic 66, 3) := by decide +kernel
theorem dX7_kept_28 : decode cX7_kept 28 = .ok (.ifCond .ne 6, 3) := by decide +kernel
theorem dX7_kept_31 : decode cX7_kept 31 = .ok (.bipush (-2), 2) := by decide +kernel
theorem dX7_kept_33 : decode cX7_kept 33 = .ok (.ireturn, 1) := by decide +kernel
theorem dX7_kept_34 : decode cX7_kept 34 = .ok (.aload_n 0, 1) := by decide +kernel
theorem dX7_kept_35 : decode cX7_kept 35 = .ok (.getfield 27, 3) := by decide +kernel
theorem dX7_kept_38 : decode cX7_kept 38 = .ok (.iload_n 1, 1) := by decide +kernel
theorem dX7_kept_39 : decode cX7_kept 39 = .ok (.aaload, 1) := by decide +kernel
theorem dX7_kept_40 : decode cX7_kept 40 = .ok (.getfield 121, 3) := by decide +kernel
theorem dX7_kept_43 : decode cX7_kept 43 = .ok (.iconst 2, 1) := by decide +kernel
theorem dX7_kept_44 : decode cX7_kept 44 = .ok (.iaload, 1) := by decide +kernel
theorem dX7_kept_45 : decode cX7_kept 45 = .ok (.iconst 2, 1) := by decide +kernel
theorem dX7_kept_46 : decode cX7_kept 46 = .ok (.invokestatic 187, 3) := by decide +kernel
theorem dX7_kept_49 : decode cX7_kept 49 = .ok (.bipush 9, 2) := by decide +kernel
theorem dX7_kept_51 : decode cX7_kept 51 = .ok (.invokestatic 193, 3) := by decide +kernel
theorem dX7_kept_54 : decode cX7_kept 54 = .ok (.istore 4, 2) := by decide +kernel
theorem dX7_kept_56 : decode cX7_kept 56 = .ok (.aload_n 0, 1) := by decide +kernel
theorem dX7_kept_57 : decode cX7_kept 57 = .ok (.getfield 45, 3) := by decide +kernel
theorem dX7_kept_60 : decode cX7_kept 60 = .ok (.aload_n 0, 1) := by decide +kernel
theorem dX7_kept_61 : decode cX7_kept 61 = .ok (.getfield 12, 3) := by decide +kernel
theorem dX7_kept_64 : decode cX7_kept 64 = .ok (.iload_n 2, 1) := by decide +kernel
theorem dX7_kept_65 : decode cX7_kept 65 = .ok (.iload 4, 2) := by decide +kernel
theorem dX7_kept_67 : decode cX7_kept 67 = .ok (.invokevirtual 177, 3) := by decide +kernel
theorem dX7_kept_70 : decode cX7_kept 70 = .ok (.iconst 0, 1) := by decide +kernel
theorem dX7_kept_71 : decode cX7_kept 71 = .ok (.istore 5, 2) := by decide +kernel
theorem dX7_kept_73 : decode cX7_kept 73 = .ok (.iconst 0, 1) := by decide +kernel
theorem dX7_kept_74 : decode cX7_kept 74 = .ok (.istore 6, 2) := by decide +kernel
theorem dX7_kept_76 : decode cX7_kept 76 = .ok (.iload 6, 2) := by decide +kernel
theorem dX7_kept_78 : decode cX7_kept 78 = .ok (.aload_n 0, 1) := by decide +kernel
theorem dX7_kept_79 : decode cX7_kept 79 = .ok (.getfield 12, 3) := by decide +kernel
theorem dX7_kept_82 : decode cX7_kept 82 = .ok (.getfield 95, 3) := by decide +kernel
theorem dX7_kept_85 : decode cX7_kept 85 = .ok (.if_icmp .ge 45, 3) := by decide +kernel
theorem dX7_kept_88 : decode cX7_kept 88 = .ok (.aload_n 0, 1) := by decide +kernel
theorem dX7_kept_89 : decode cX7_kept 89 = .ok (.getfield 12, 3) := by decide +kernel
theorem dX7_kept_92 : decode cX7_kept 92 = .ok (.getfield 102, 3) := by decide +kernel
theorem dX7_kept_95 : decode cX7_kept 95 = .ok (.iload 6, 2) := by decide +kernel
theorem dX7_kept_97 : decode cX7_kept 97 = .ok (.iaload, 1) := by decide +kernel
theorem dX7_kept_98 : decode cX7_kept 98 = .ok (.iconst 1, 1) := by decide +kernel
theorem dX7_kept_99 : decode cX7_kept 99 = .ok (.if_icmp .lt 25, 3) := by decide +kernel
theorem dX7_kept_102 : decode cX7_kept 102 = .ok (.aload_n 0, 1) := by decide +kernel
theorem dX7_kept_103 : decode cX7_kept 103 = .ok (.getfield 45, 3) := by decide +kernel
theorem dX7_kept_106 : decode cX7_kept 106 = .ok (.iload 6, 2) := by decide +kernel
theorem dX7_kept_108 : decode cX7_kept 108 = .ok (.invokevirtual 184, 3) := by decide +kernel
theorem dX7_kept_111 : decode cX7_kept 111 = .ok (.iload_n 3, 1) := by decide +kernel
theorem dX7_kept_112 : decode cX7_kept 112 = .ok (.if_icmp .le 12, 3) := by decide +kernel
theorem dX7_kept_115 : decode cX7_kept 115 = .ok (.iload 5, 2) := by decide +kernel
theorem dX7_kept_117 : decode cX7_kept 117 = .ok (.iconst 1, 1) := by decide +kernel
theorem dX7_kept_118 : decode cX7_kept 118 = .ok (.iload 6, 2) := by decide +kernel
theorem dX7_kept_120 : decode cX7_kept 120 = .ok (.ishl, 1) := by decide +kernel
theorem dX7_kept_121 : decode cX7_kept 121 = .ok (.ior, 1) := by decide +kernel
theorem dX7_kept_122 : decode cX7_kept 122 = .ok (.istore 5, 2) := by decide +kernel
theorem dX7_kept_124 : decode cX7_kept 124 = .ok (.iinc 6 1, 3) := by decide +kernel
theorem dX7_kept_127 : decode cX7_kept 127 = .ok (.goto (-51), 3) := by decide +kernel
theorem dX7_kept_130 : decode cX7_kept 130 = .ok (.iload 5, 2) := by decide +kernel
theorem dX7_kept_132 : decode cX7_kept 132 = .ok (.ireturn, 1) := by decide +kernel
theorem dX7_rule_0 : decode cX7_rule 0 = .ok (.iload_n 1, 1) := by decide +kernel
theorem dX7_rule_1 : decode cX7_rule 1 = .ok (.iconst 0, 1) := by decide +kernel
theorem dX7_rule_2 : decode cX7_rule 2 = .ok (.iconst 1, 1) := by decide +kernel
theorem dX7_rule_3 : decode cX7_rule 3 = .ok (.invokestatic 66, 3) := by decide +kernel
theorem dX7_rule_6 : decode cX7_rule 6 = .ok (.ifCond .eq 16, 3) := by decide +kernel
theorem dX7_rule_9 : decode cX7_rule 9 = .ok (.iload_n 2, 1) := by decide +kernel
theorem dX7_rule_10 : decode cX7_rule 10 = .ok (.iconst 0, 1) := by decide +kernel
theorem dX7_rule_11 : decode cX7_rule 11 = .ok (.getstatic 196, 3) := by decide +kernel
theorem dX7_rule_14 : decode cX7_rule 14 = .ok (.iload_n 1, 1) := by decide +kernel
theorem dX7_rule_15 : decode cX7_rule 15 = .ok (.iaload, 1) := by decide +kernel
theorem dX7_rule_16 : decode cX7_rule 16 = .ok (.invokestatic 66, 3) := by decide +kernel
theorem dX7_rule_19 : decode cX7_rule 19 = .ok (.ifCond .ne 6, 3) := by decide +kernel
theorem dX7_rule_22 : decode cX7_rule 22 = .ok (.bipush (-2), 2) := by decide +kernel
theorem dX7_rule_24 : decode cX7_rule 24 = .ok (.ireturn, 1) := by decide +kernel
theorem dX7_rule_25 : decode cX7_rule 25 = .ok (.aload_n 0, 1) := by decide +kernel
theorem dX7_rule_26 : decode cX7_rule 26 = .ok (.getfield 49, 3) := by decide +kernel
theorem dX7_rule_29 : decode cX7_rule 29 = .ok (.iload_n 1, 1) := by decide +kernel
theorem dX7_rule_30 : decode cX7_rule 30 = .ok (.iaload, 1) := by decide +kernel
theorem dX7_rule_31 : decode cX7_rule 31 = .ok (.istore_n 3, 1) := by decide +kernel
theorem dX7_rule_32 : decode cX7_rule 32 = .ok (.aload_n 0, 1) := by decide +kernel
theorem dX7_rule_33 : decode cX7_rule 33 = .ok (.getfield 49, 3) := by decide +kernel
theorem dX7_rule_36 : decode cX7_rule 36 = .ok (.iload_n 1, 1) := by decide +kernel
theorem dX7_rule_37 : decode cX7_rule 37 = .ok (.iload_n 2, 1) := by decide +kernel
theorem dX7_rule_38 : decode cX7_rule 38 = .ok (.iastore, 1) := by decide +kernel
theorem dX7_rule_39 : decode cX7_rule 39 = .ok (.iload_n 3, 1) := by decide +kernel
theorem dX7_rule_40 : decode cX7_rule 40 = .ok (.ireturn, 1) := by decide +kernel
theorem dX7_press_0 : decode cX7_press 0 = .ok (.aload_n 0, 1) := by decide +kernel
theorem dX7_press_1 : decode cX7_press 1 = .ok (.iload_n 1, 1) := by decide +kernel
theorem dX7_press_2 : decode cX7_press 2 = .ok (.invokevirtual 112, 3) := by decide +kernel
theorem dX7_press_5 : decode cX7_press 5 = .ok (.ifCond .ne 5, 3) := by decide +kernel
theorem dX7_press_8 : decode cX7_press 8 = .ok (.iconst (-1), 1) := by decide +kernel
theorem dX7_press_9 : decode cX7_press 9 = .ok (.ireturn, 1) := by decide +kernel
theorem dX7_press_10 : decode cX7_press 10 = .ok (.iload_n 2, 1) := by decide +kernel
theorem dX7_press_11 : decode cX7_press 11 = .ok (.iconst 0, 1) := by decide +kernel
theorem dX7_press_12 : decode cX7_press 12 = .ok (.bipush 39, 2) := by decide +kernel
theorem dX7_press_14 : decode cX7_press 14 = .ok (.invokestatic 66, 3) := by decide +kernel
theorem dX7_press_17 : decode cX7_press 17 = .ok (.ifCond .eq 21, 3) := by decide +kernel
theorem dX7_press_20 : decode cX7_press 20 = .ok (.iload_n 3, 1) := by decide +kernel
theorem dX7_press_21 : decode cX7_press 21 = .ok (.iconst 0, 1) := by decide +kernel
theorem dX7_press_22 : decode cX7_press 22 = .ok (.bipush 29, 2) := by decide +kernel
theorem dX7_press_24 : decode cX7_press 24 = .ok (.invokestatic 66, 3) := by decide +kernel
theorem dX7_press_27 : decode cX7_press 27 = .ok (.ifCond .eq 11, 3) := by decide +kernel
theorem dX7_press_30 : decode cX7_press 30 = .ok (.iload 4, 2) := by decide +kernel
theorem dX7_press_32 : decode cX7_press 32 = .ok (.invokestatic 199, 3) := by decide +kernel
theorem dX7_press_35 : decode cX7_press 35 = .ok (.ifCond .ne 6, 3) := by decide +kernel
theorem dX7_press_38 : decode cX7_press 38 = .ok (.bipush (-2), 2) := by decide +kernel
theorem dX7_press_40 : decode cX7_press 40 = .ok (.ireturn, 1) := by decide +kernel
theorem dX7_press_41 : decode cX7_press 41 = .ok (.aload_n 0, 1) := by decide +kernel
theorem dX7_press_42 : decode cX7_press 42 = .ok (.getfield 27, 3) := by decide +kernel
theorem dX7_press_45 : decode cX7_press 45 = .ok (.iload_n 1, 1) := by decide +kernel
theorem dX7_press_46 : decode cX7_press 46 = .ok (.aaload, 1) := by decide +kernel
theorem dX7_press_47 : decode cX7_press 47 = .ok (.astore 5, 2) := by decide +kernel
theorem dX7_press_49 : decode cX7_press 49 = .ok (.iload 4, 2) := by decide +kernel
theorem dX7_press_51 : decode cX7_press 51 = .ok (.aload 5, 2) := by decide +kernel
theorem dX7_press_53 : decode cX7_press 53 = .ok (.getfield 202, 3) := by decide +kernel
theorem dX7_press_56 : decode cX7_press 56 = .ok (.if_icmp .ge 6, 3) := by decide +kernel
theorem dX7_press_59 : decode cX7_press 59 = .ok (.bipush (-3), 2) := by decide +kernel
theorem dX7_press_61 : decode cX7_press 61 = .ok (.ireturn, 1) := by decide +kernel
theorem dX7_press_62 : decode cX7_press 62 = .ok (.aload 5, 2) := by decide +kernel
theorem dX7_press_64 : decode cX7_press 64 = .ok (.iload 4, 2) := by decide +kernel
theorem dX7_press_66 : decode cX7_press 66 = .ok (.putfield 202, 3) := by decide +kernel
theorem dX7_press_69 : decode cX7_press 69 = .ok (.aload_n 0, 1) := by decide +kernel
theorem dX7_press_70 : decode cX7_press 70 = .ok (.aload 5, 2) := by decide +kernel
theorem dX7_press_72 : decode cX7_press 72 = .ok (.iload_n 2, 1) := by decide +kernel
theorem dX7_press_73 : decode cX7_press 73 = .ok (.iload_n 3, 1) := by decide +kernel
theorem dX7_press_74 : decode cX7_press 74 = .ok (.iload 4, 2) := by decide +kernel
theorem dX7_press_76 : decode cX7_press 76 = .ok (.invokevirtual 205, 3) := by decide +kernel
theorem dX7_press_79 : decode cX7_press 79 = .ok (.ireturn, 1) := by decide +kernel
theorem dX7_confirm_0 : decode cX7_confirm 0 = .ok (.aload_n 0, 1) := by decide +kernel
theorem dX7_confirm_1 : decode cX7_confirm 1 = .ok (.iload_n 1, 1) := by decide +kernel
theorem dX7_confirm_2 : decode cX7_confirm 2 = .ok (.invokevirtual 112, 3) := by decide +kernel
theorem dX7_confirm_5 : decode cX7_confirm 5 = .ok (.ifCond .ne 5, 3) := by decide +kernel
theorem dX7_confirm_8 : decode cX7_confirm 8 = .ok (.iconst (-1), 1) := by decide +kernel
theorem dX7_confirm_9 : decode cX7_confirm 9 = .ok (.ireturn, 1) := by decide +kernel
theorem dX7_confirm_10 : decode cX7_confirm 10 = .ok (.iload_n 2, 1) := by decide +kernel
theorem dX7_confirm_11 : decode cX7_confirm 11 = .ok (.invokestatic 199, 3) := by decide +kernel
theorem dX7_confirm_14 : decode cX7_confirm 14 = .ok (.ifCond .ne 6, 3) := by decide +kernel
theorem dX7_confirm_17 : decode cX7_confirm 17 = .ok (.bipush (-2), 2) := by decide +kernel
theorem dX7_confirm_19 : decode cX7_confirm 19 = .ok (.ireturn, 1) := by decide +kernel
theorem dX7_confirm_20 : decode cX7_confirm 20 = .ok (.aload_n 0, 1) := by decide +kernel
theorem dX7_confirm_21 : decode cX7_confirm 21 = .ok (.getfield 27, 3) := by decide +kernel
theorem dX7_confirm_24 : decode cX7_confirm 24 = .ok (.iload_n 1, 1) := by decide +kernel
theorem dX7_confirm_25 : decode cX7_confirm 25 = .ok (.aaload, 1) := by decide +kernel
theorem dX7_confirm_26 : decode cX7_confirm 26 = .ok (.astore_n 3, 1) := by decide +kernel
theorem dX7_confirm_27 : decode cX7_confirm 27 = .ok (.aload_n 3, 1) := by decide +kernel
theorem dX7_confirm_28 : decode cX7_confirm 28 = .ok (.getfield 209, 3) := by decide +kernel
theorem dX7_confirm_31 : decode cX7_confirm 31 = .ok (.bipush (-9), 2) := by decide +kernel
theorem dX7_confirm_33 : decode cX7_confirm 33 = .ok (.if_icmp .eq 11, 3) := by decide +kernel
theorem dX7_confirm_36 : decode cX7_confirm 36 = .ok (.iload_n 2, 1) := by decide +kernel
theorem dX7_confirm_37 : decode cX7_confirm 37 = .ok (.aload_n 3, 1) := by decide +kernel
theorem dX7_confirm_38 : decode cX7_confirm 38 = .ok (.getfield 202, 3) := by decide +kernel
theorem dX7_confirm_41 : decode cX7_confirm 41 = .ok (.if_icmp .ge 6, 3) := by decide +kernel
theorem dX7_confirm_44 : decode cX7_confirm 44 = .ok (.bipush (-3), 2) := by decide +kernel
theorem dX7_confirm_46 : decode cX7_confirm 46 = .ok (.ireturn, 1) := by decide +kernel
theorem dX7_confirm_47 : decode cX7_confirm 47 = .ok (.aload_n 3, 1) := by decide +kernel
theorem dX7_confirm_48 : decode cX7_confirm 48 = .ok (.getfield 209, 3) := by decide +kernel
theorem dX7_confirm_51 : decode cX7_confirm 51 = .ok (.istore 4, 2) := by decide +kernel
theorem dX7_confirm_53 : decode cX7_confirm 53 = .ok (.aload_n 3, 1) := by decide +kernel
theorem dX7_confirm_54 : decode cX7_confirm 54 = .ok (.iload_n 2, 1) := by decide +kernel
theorem dX7_confirm_55 : decode cX7_confirm 55 = .ok (.putfield 202, 3) := by decide +kernel
theorem dX7_confirm_58 : decode cX7_confirm 58 = .ok (.aload_n 3, 1) := by decide +kernel
theorem dX7_confirm_59 : decode cX7_confirm 59 = .ok (.aload_n 3, 1) := by decide +kernel
theorem dX7_confirm_60 : decode cX7_confirm 60 = .ok (.getfield 212, 3) := by decide +kernel
theorem dX7_confirm_63 : decode cX7_confirm 63 = .ok (.invokevirtual 215, 3) := by decide +kernel
theorem dX7_confirm_66 : decode cX7_confirm 66 = .ok (.iload 4, 2) := by decide +kernel
theorem dX7_confirm_68 : decode cX7_confirm 68 = .ok (.ireturn, 1) := by decide +kernel
theorem dX7_asked_0 : decode cX7_asked 0 = .ok (.aload_n 0, 1) := by decide +kernel
theorem dX7_asked_1 : decode cX7_asked 1 = .ok (.iload_n 1, 1) := by decide +kernel
theorem dX7_asked_2 : decode cX7_asked 2 = .ok (.invokevirtual 112, 3) := by decide +kernel
theorem dX7_asked_5 : decode cX7_asked 5 = .ok (.ifCond .eq 15, 3) := by decide +kernel
theorem dX7_asked_8 : decode cX7_asked 8 = .ok (.aload_n 0, 1) := by decide +kernel
theorem dX7_asked_9 : decode cX7_asked 9 = .ok (.getfield 27, 3) := by decide +kernel
theorem dX7_asked_12 : decode cX7_asked 12 = .ok (.iload_n 1, 1) := by decide +kernel
theorem dX7_asked_13 : decode cX7_asked 13 = .ok (.aaload, 1) := by decide +kernel
theorem dX7_asked_14 : decode cX7_asked 14 = .ok (.getfield 209, 3) := by decide +kernel
theorem dX7_asked_17 : decode cX7_asked 17 = .ok (.goto 4, 3) := by decide +kernel
theorem dX7_asked_20 : decode cX7_asked 20 = .ok (.iconst (-1), 1) := by decide +kernel
theorem dX7_asked_21 : decode cX7_asked 21 = .ok (.ireturn, 1) := by decide +kernel
theorem dX7_undo_0 : decode cX7_undo 0 = .ok (.aload_n 0, 1) := by decide +kernel
theorem dX7_undo_1 : decode cX7_undo 1 = .ok (.iload_n 1, 1) := by decide +kernel
theorem dX7_undo_2 : decode cX7_undo 2 = .ok (.invokevirtual 112, 3) := by decide +kernel
theorem dX7_undo_5 : decode cX7_undo 5 = .ok (.ifCond .ne 5, 3) := by decide +kernel
theorem dX7_undo_8 : decode cX7_undo 8 = .ok (.iconst (-1), 1) := by decide +kernel
theorem dX7_undo_9 : decode cX7_undo 9 = .ok (.ireturn, 1) := by decide +kernel
theorem dX7_undo_10 : decode cX7_undo 10 = .ok (.aload_n 0, 1) := by decide +kernel
theorem dX7_undo_11 : decode cX7_undo 11 = .ok (.getfield 27, 3) := by decide +kernel
theorem dX7_undo_14 : decode cX7_undo 14 = .ok (.iload_n 1, 1) := by decide +kernel
theorem dX7_undo_15 : decode cX7_undo 15 = .ok (.aaload, 1) := by decide +kernel
theorem dX7_undo_16 : decode cX7_undo 16 = .ok (.getfield 219, 3) := by decide +kernel
theorem dX7_undo_19 : decode cX7_undo 19 = .ok (.ifCond .ne 6, 3) := by decide +kernel
theorem dX7_undo_22 : decode cX7_undo 22 = .ok (.bipush (-3), 2) := by decide +kernel
theorem dX7_undo_24 : decode cX7_undo 24 = .ok (.ireturn, 1) := by decide +kernel
theorem dX7_undo_25 : decode cX7_undo 25 = .ok (.aload_n 0, 1) := by decide +kernel
theorem dX7_undo_26 : decode cX7_undo 26 = .ok (.getfield 27, 3) := by decide +kernel
theorem dX7_undo_29 : decode cX7_undo 29 = .ok (.iload_n 1, 1) := by decide +kernel
theorem dX7_undo_30 : decode cX7_undo 30 = .ok (.aaload, 1) := by decide +kernel
theorem dX7_undo_31 : decode cX7_undo 31 = .ok (.invokevirtual 222, 3) := by decide +kernel
theorem dX7_undo_34 : decode cX7_undo 34 = .ok (.ireturn, 1) := by decide +kernel
theorem dX7_counted_0 : decode cX7_counted 0 = .ok (.aload_n 0, 1) := by decide +kernel
theorem dX7_counted_1 : decode cX7_counted 1 = .ok (.iload_n 1, 1) := by decide +kernel
theorem dX7_counted_2 : decode cX7_counted 2 = .ok (.invokevirtual 112, 3) := by decide +kernel
theorem dX7_counted_5 : decode cX7_counted 5 = .ok (.ifCond .ne 5, 3) := by decide +kernel
theorem dX7_counted_8 : decode cX7_counted 8 = .ok (.iconst (-1), 1) := by decide +kernel
theorem dX7_counted_9 : decode cX7_counted 9 = .ok (.ireturn, 1) := by decide +kernel
theorem dX7_counted_10 : decode cX7_counted 10 = .ok (.iload_n 2, 1) := by decide +kernel
theorem dX7_counted_11 : decode cX7_counted 11 = .ok (.iconst 0, 1) := by decide +kernel
theorem dX7_counted_12 : decode cX7_counted 12 = .ok (.iconst 2, 1) := by decide +kernel
theorem dX7_counted_13 : decode cX7_counted 13 = .ok (.invokestatic 66, 3) := by decide +kernel
theorem dX7_counted_16 : decode cX7_counted 16 = .ok (.ifCond .ne 6, 3) := by decide +kernel
theorem dX7_counted_19 : decode cX7_counted 19 = .ok (.bipush (-2), 2) := by decide +kernel
theorem dX7_counted_21 : decode cX7_counted 21 = .ok (.ireturn, 1) := by decide +kernel
theorem dX7_counted_22 : decode cX7_counted 22 = .ok (.aload_n 0, 1) := by decide +kernel
theorem dX7_counted_23 : decode cX7_counted 23 = .ok (.getfield 27, 3) := by decide +kernel
theorem dX7_counted_26 : decode cX7_counted 26 = .ok (.iload_n 1, 1) := by decide +kernel
theorem dX7_counted_27 : decode cX7_counted 27 = .ok (.aaload, 1) := by decide +kernel
theorem dX7_counted_28 : decode cX7_counted 28 = .ok (.getfield 225, 3) := by decide +kernel
theorem dX7_counted_31 : decode cX7_counted 31 = .ok (.iload_n 2, 1) := by decide +kernel
theorem dX7_counted_32 : decode cX7_counted 32 = .ok (.iaload, 1) := by decide +kernel
theorem dX7_counted_33 : decode cX7_counted 33 = .ok (.ireturn, 1) := by decide +kernel
theorem dX7_span_0 : decode cX7_span 0 = .ok (.aload_n 0, 1) := by decide +kernel
theorem dX7_span_1 : decode cX7_span 1 = .ok (.iload_n 1, 1) := by decide +kernel
theorem dX7_span_2 : decode cX7_span 2 = .ok (.invokevirtual 112, 3) := by decide +kernel
theorem dX7_span_5 : decode cX7_span 5 = .ok (.ifCond .ne 5, 3) := by decide +kernel
theorem dX7_span_8 : decode cX7_span 8 = .ok (.iconst (-1), 1) := by decide +kernel
theorem dX7_span_9 : decode cX7_span 9 = .ok (.ireturn, 1) := by decide +kernel
theorem dX7_span_10 : decode cX7_span 10 = .ok (.iload_n 2, 1) := by decide +kernel
theorem dX7_span_11 : decode cX7_span 11 = .ok (.iconst 1, 1) := by decide +kernel
theorem dX7_span_12 : decode cX7_span 12 = .ok (.bipush 10, 2) := by decide +kernel
theorem dX7_span_14 : decode cX7_span 14 = .ok (.invokestatic 66, 3) := by decide +kernel
theorem dX7_span_17 : decode cX7_span 17 = .ok (.ifCond .ne 6, 3) := by decide +kernel
theorem dX7_span_20 : decode cX7_span 20 = .ok (.bipush (-2), 2) := by decide +kernel
theorem dX7_span_22 : decode cX7_span 22 = .ok (.ireturn, 1) := by decide +kernel
theorem dX7_span_23 : decode cX7_span 23 = .ok (.aload_n 0, 1) := by decide +kernel
theorem dX7_span_24 : decode cX7_span 24 = .ok (.getfield 27, 3) := by decide +kernel
theorem dX7_span_27 : decode cX7_span 27 = .ok (.iload_n 1, 1) := by decide +kernel
theorem dX7_span_28 : decode cX7_span 28 = .ok (.aaload, 1) := by decide +kernel
theorem dX7_span_29 : decode cX7_span 29 = .ok (.iload_n 2, 1) := by decide +kernel
theorem dX7_span_30 : decode cX7_span 30 = .ok (.invokevirtual 228, 3) := by decide +kernel
theorem dX7_span_33 : decode cX7_span 33 = .ok (.ireturn, 1) := by decide +kernel
theorem dX7_worse_0 : decode cX7_worse 0 = .ok (.aload_n 0, 1) := by decide +kernel
theorem dX7_worse_1 : decode cX7_worse 1 = .ok (.iload_n 1, 1) := by decide +kernel
theorem dX7_worse_2 : decode cX7_worse 2 = .ok (.invokevirtual 112, 3) := by decide +kernel
theorem dX7_worse_5 : decode cX7_worse 5 = .ok (.ifCond .eq 12, 3) := by decide +kernel
theorem dX7_worse_8 : decode cX7_worse 8 = .ok (.iload_n 2, 1) := by decide +kernel
theorem dX7_worse_9 : decode cX7_worse 9 = .ok (.iconst 0, 1) := by decide +kernel
theorem dX7_worse_10 : decode cX7_worse 10 = .ok (.iconst 1, 1) := by decide +kernel
theorem dX7_worse_11 : decode cX7_worse 11 = .ok (.invokestatic 66, 3) := by decide +kernel
theorem dX7_worse_14 : decode cX7_worse 14 = .ok (.ifCond .ne 7, 3) := by decide +kernel
theorem dX7_worse_17 : decode cX7_worse 17 = .ok (.ldc2_w 231, 3) := by decide +kernel
theorem dX7_worse_20 : decode cX7_worse 20 = .ok (.lreturn, 1) := by decide +kernel
theorem dX7_worse_21 : decode cX7_worse 21 = .ok (.aload_n 0, 1) := by decide +kernel
theorem dX7_worse_22 : decode cX7_worse 22 = .ok (.getfield 27, 3) := by decide +kernel
theorem dX7_worse_25 : decode cX7_worse 25 = .ok (.iload_n 1, 1) := by decide +kernel
theorem dX7_worse_26 : decode cX7_worse 26 = .ok (.aaload, 1) := by decide +kernel
theorem dX7_worse_27 : decode cX7_worse 27 = .ok (.iconst 1, 1) := by decide +kernel
theorem dX7_worse_28 : decode cX7_worse 28 = .ok (.invokevirtual 233, 3) := by decide +kernel
theorem dX7_worse_31 : decode cX7_worse 31 = .ok (.istore_n 3, 1) := by decide +kernel
theorem dX7_worse_32 : decode cX7_worse 32 = .ok (.aload_n 0, 1) := by decide +kernel
theorem dX7_worse_33 : decode cX7_worse 33 = .ok (.getfield 27, 3) := by decide +kernel
theorem dX7_worse_36 : decode cX7_worse 36 = .ok (.iload_n 1, 1) := by decide +kernel
theorem dX7_worse_37 : decode cX7_worse 37 = .ok (.aaload, 1) := by decide +kernel
theorem dX7_worse_38 : decode cX7_worse 38 = .ok (.iconst (-1), 1) := by decide +kernel
theorem dX7_worse_39 : decode cX7_worse 39 = .ok (.invokevirtual 233, 3) := by decide +kernel
theorem dX7_worse_42 : decode cX7_worse 42 = .ok (.istore 4, 2) := by decide +kernel
theorem dX7_worse_44 : decode cX7_worse 44 = .ok (.iload_n 3, 1) := by decide +kernel
theorem dX7_worse_45 : decode cX7_worse 45 = .ok (.iload 4, 2) := by decide +kernel
theorem dX7_worse_47 : decode cX7_worse 47 = .ok (.iadd, 1) := by decide +kernel
theorem dX7_worse_48 : decode cX7_worse 48 = .ok (.ifCond .ne 7, 3) := by decide +kernel
theorem dX7_worse_51 : decode cX7_worse 51 = .ok (.ldc2_w 231, 3) := by decide +kernel
theorem dX7_worse_54 : decode cX7_worse 54 = .ok (.lreturn, 1) := by decide +kernel
theorem dX7_worse_55 : decode cX7_worse 55 = .ok (.iload_n 3, 1) := by decide +kernel
theorem dX7_worse_56 : decode cX7_worse 56 = .ok (.iload_n 3, 1) := by decide +kernel
theorem dX7_worse_57 : decode cX7_worse 57 = .ok (.iload 4, 2) := by decide +kernel
theorem dX7_worse_59 : decode cX7_worse 59 = .ok (.iadd, 1) := by decide +kernel
theorem dX7_worse_60 : decode cX7_worse 60 = .ok (.iload_n 2, 1) := by decide +kernel
theorem dX7_worse_61 : decode cX7_worse 61 = .ok (.invokestatic 236, 3) := by decide +kernel
theorem dX7_worse_64 : decode cX7_worse 64 = .ok (.i2l, 1) := by decide +kernel
theorem dX7_worse_65 : decode cX7_worse 65 = .ok (.lreturn, 1) := by decide +kernel
theorem dX7_trial_0 : decode cX7_trial 0 = .ok (.aload_n 0, 1) := by decide +kernel
theorem dX7_trial_1 : decode cX7_trial 1 = .ok (.iload_n 1, 1) := by decide +kernel
theorem dX7_trial_2 : decode cX7_trial 2 = .ok (.invokevirtual 112, 3) := by decide +kernel
theorem dX7_trial_5 : decode cX7_trial 5 = .ok (.ifCond .ne 5, 3) := by decide +kernel
theorem dX7_trial_8 : decode cX7_trial 8 = .ok (.iconst (-1), 1) := by decide +kernel
theorem dX7_trial_9 : decode cX7_trial 9 = .ok (.ireturn, 1) := by decide +kernel
theorem dX7_trial_10 : decode cX7_trial 10 = .ok (.iload_n 2, 1) := by decide +kernel
theorem dX7_trial_11 : decode cX7_trial 11 = .ok (.iconst 0, 1) := by decide +kernel
theorem dX7_trial_12 : decode cX7_trial 12 = .ok (.bipush 99, 2) := by decide +kernel
theorem dX7_trial_14 : decode cX7_trial 14 = .ok (.invokestatic 66, 3) := by decide +kernel
theorem dX7_trial_17 : decode cX7_trial 17 = .ok (.ifCond .eq 13, 3) := by decide +kernel
theorem dX7_trial_20 : decode cX7_trial 20 = .ok (.iload_n 3, 1) := by decide +kernel
theorem dX7_trial_21 : decode cX7_trial 21 = .ok (.iconst 0, 1) := by decide +kernel
theorem dX7_trial_22 : decode cX7_trial 22 = .ok (.bipush 99, 2) := by decide +kernel
theorem dX7_trial_24 : decode cX7_trial 24 = .ok (.invokestatic 66, 3) := by decide +kernel
theorem dX7_trial_27 : decode cX7_trial 27 = .ok (.ifCond .ne 6, 3) := by decide +kernel
theorem dX7_trial_30 : decode cX7_trial 30 = .ok (.bipush (-2), 2) := by decide +kernel
theorem dX7_trial_32 : decode cX7_trial 32 = .ok (.ireturn, 1) := by decide +kernel
theorem dX7_trial_33 : decode cX7_trial 33 = .ok (.aload_n 0, 1) := by decide +kernel
theorem dX7_trial_34 : decode cX7_trial 34 = .ok (.getfield 27, 3) := by decide +kernel
theorem dX7_trial_37 : decode cX7_trial 37 = .ok (.iload_n 1, 1) := by decide +kernel
theorem dX7_trial_38 : decode cX7_trial 38 = .ok (.aaload, 1) := by decide +kernel
theorem dX7_trial_39 : decode cX7_trial 39 = .ok (.astore 4, 2) := by decide +kernel
theorem dX7_trial_41 : decode cX7_trial 41 = .ok (.aload 4, 2) := by decide +kernel
theorem dX7_trial_43 : decode cX7_trial 43 = .ok (.getfield 240, 3) := by decide +kernel
theorem dX7_trial_46 : decode cX7_trial 46 = .ok (.bipush 10, 2) := by decide +kernel
theorem dX7_trial_48 : decode cX7_trial 48 = .ok (.if_icmp .lt 6, 3) := by decide +kernel
theorem dX7_trial_51 : decode cX7_trial 51 = .ok (.bipush (-4), 2) := by decide +kernel
theorem dX7_trial_53 : decode cX7_trial 53 = .ok (.ireturn, 1) := by decide +kernel
theorem dX7_trial_54 : decode cX7_trial 54 = .ok (.aload 4, 2) := by decide +kernel
theorem dX7_trial_56 : decode cX7_trial 56 = .ok (.getfield 243, 3) := by decide +kernel
theorem dX7_trial_59 : decode cX7_trial 59 = .ok (.aload 4, 2) := by decide +kernel
theorem dX7_trial_61 : decode cX7_trial 61 = .ok (.getfield 240, 3) := by decide +kernel
theorem dX7_trial_64 : decode cX7_trial 64 = .ok (.iload_n 2, 1) := by decide +kernel
theorem dX7_trial_65 : decode cX7_trial 65 = .ok (.iload_n 3, 1) := by decide +kernel
theorem dX7_trial_66 : decode cX7_trial 66 = .ok (.isub, 1) := by decide +kernel
theorem dX7_trial_67 : decode cX7_trial 67 = .ok (.iastore, 1) := by decide +kernel
theorem dX7_trial_68 : decode cX7_trial 68 = .ok (.aload 4, 2) := by decide +kernel
theorem dX7_trial_70 : decode cX7_trial 70 = .ok (.dup, 1) := by decide +kernel
theorem dX7_trial_71 : decode cX7_trial 71 = .ok (.getfield 240, 3) := by decide +kernel
theorem dX7_trial_74 : decode cX7_trial 74 = .ok (.iconst 1, 1) := by decide +kernel
theorem dX7_trial_75 : decode cX7_trial 75 = .ok (.iadd, 1) := by decide +kernel
theorem dX7_trial_76 : decode cX7_trial 76 = .ok (.putfield 240, 3) := by decide +kernel
theorem dX7_trial_79 : decode cX7_trial 79 = .ok (.aload 4, 2) := by decide +kernel
theorem dX7_trial_81 : decode cX7_trial 81 = .ok (.getfield 240, 3) := by decide +kernel
theorem dX7_trial_84 : decode cX7_trial 84 = .ok (.ireturn, 1) := by decide +kernel
theorem dX7_odds_0 : decode cX7_odds 0 = .ok (.aload_n 0, 1) := by decide +kernel
theorem dX7_odds_1 : decode cX7_odds 1 = .ok (.iload_n 1, 1) := by decide +kernel
theorem dX7_odds_2 : decode cX7_odds 2 = .ok (.invokevirtual 112, 3) := by decide +kernel
theorem dX7_odds_5 : decode cX7_odds 5 = .ok (.ifCond .eq 12, 3) := by decide +kernel
theorem dX7_odds_8 : decode cX7_odds 8 = .ok (.iload_n 2, 1) := by decide +kernel
theorem dX7_odds_9 : decode cX7_odds 9 = .ok (.iconst 0, 1) := by decide +kernel
theorem dX7_odds_10 : decode cX7_odds 10 = .ok (.iconst 1, 1) := by decide +kernel
theorem dX7_odds_11 : decode cX7_odds 11 = .ok (.invokestatic 66, 3) := by decide +kernel
theorem dX7_odds_14 : decode cX7_odds 14 = .ok (.ifCond .ne 7, 3) := by decide +kernel
theorem dX7_odds_17 : decode cX7_odds 17 = .ok (.ldc2_w 231, 3) := by decide +kernel
theorem dX7_odds_20 : decode cX7_odds 20 = .ok (.lreturn, 1) := by decide +kernel
theorem dX7_odds_21 : decode cX7_odds 21 = .ok (.aload_n 0, 1) := by decide +kernel
theorem dX7_odds_22 : decode cX7_odds 22 = .ok (.getfield 27, 3) := by decide +kernel
theorem dX7_odds_25 : decode cX7_odds 25 = .ok (.iload_n 1, 1) := by decide +kernel
theorem dX7_odds_26 : decode cX7_odds 26 = .ok (.aaload, 1) := by decide +kernel
theorem dX7_odds_27 : decode cX7_odds 27 = .ok (.astore_n 3, 1) := by decide +kernel
theorem dX7_odds_28 : decode cX7_odds 28 = .ok (.aload_n 3, 1) := by decide +kernel
theorem dX7_odds_29 : decode cX7_odds 29 = .ok (.getfield 240, 3) := by decide +kernel
theorem dX7_odds_32 : decode cX7_odds 32 = .ok (.ifCond .ne 7, 3) := by decide +kernel
theorem dX7_odds_35 : decode cX7_odds 35 = .ok (.ldc2_w 231, 3) := by decide +kernel
theorem dX7_odds_38 : decode cX7_odds 38 = .ok (.lreturn, 1) := by decide +kernel
theorem dX7_odds_39 : decode cX7_odds 39 = .ok (.aload_n 3, 1) := by decide +kernel
theorem dX7_odds_40 : decode cX7_odds 40 = .ok (.getfield 243, 3) := by decide +kernel
theorem dX7_odds_43 : decode cX7_odds 43 = .ok (.aload_n 3, 1) := by decide +kernel
theorem dX7_odds_44 : decode cX7_odds 44 = .ok (.getfield 240, 3) := by decide +kernel
theorem dX7_odds_47 : decode cX7_odds 47 = .ok (.iconst 0, 1) := by decide +kernel
theorem dX7_odds_48 : decode cX7_odds 48 = .ok (.iconst 0, 1) := by decide +kernel
theorem dX7_odds_49 : decode cX7_odds 49 = .ok (.invokestatic 246, 3) := by decide +kernel
theorem dX7_odds_52 : decode cX7_odds 52 = .ok (.istore 4, 2) := by decide +kernel
theorem dX7_odds_54 : decode cX7_odds 54 = .ok (.iload 4, 2) := by decide +kernel
theorem dX7_odds_56 : decode cX7_odds 56 = .ok (.iconst 1, 1) := by decide +kernel
theorem dX7_odds_57 : decode cX7_odds 57 = .ok (.aload_n 3, 1) := by decide +kernel
theorem dX7_odds_58 : decode cX7_odds 58 = .ok (.getfield 240, 3) := by decide +kernel
theorem dX7_odds_61 : decode cX7_odds 61 = .ok (.ishl, 1) := by decide +kernel
theorem dX7_odds_62 : decode cX7_odds 62 = .ok (.iload_n 2, 1) := by decide +kernel
theorem dX7_odds_63 : decode cX7_odds 63 = .ok (.invokestatic 236, 3) := by decide +kernel
theorem dX7_odds_66 : decode cX7_odds 66 = .ok (.i2l, 1) := by decide +kernel
theorem dX7_odds_67 : decode cX7_odds 67 = .ok (.lreturn, 1) := by decide +kernel
theorem dX7_leave_0 : decode cX7_leave 0 = .ok (.aload_n 0, 1) := by decide +kernel
theorem dX7_leave_1 : decode cX7_leave 1 = .ok (.iload_n 1, 1) := by decide +kernel
theorem dX7_leave_2 : decode cX7_leave 2 = .ok (.invokevirtual 112, 3) := by decide +kernel
theorem dX7_leave_5 : decode cX7_leave 5 = .ok (.ifCond .eq 11, 3) := by decide +kernel
theorem dX7_leave_8 : decode cX7_leave 8 = .ok (.aload_n 0, 1) := by decide +kernel
theorem dX7_leave_9 : decode cX7_leave 9 = .ok (.iload_n 2, 1) := by decide +kernel
theorem dX7_leave_10 : decode cX7_leave 10 = .ok (.invokevirtual 112, 3) := by decide +kernel
theorem dX7_leave_13 : decode cX7_leave 13 = .ok (.ifCond .ne 5, 3) := by decide +kernel
theorem dX7_leave_16 : decode cX7_leave 16 = .ok (.iconst (-1), 1) := by decide +kernel
theorem dX7_leave_17 : decode cX7_leave 17 = .ok (.ireturn, 1) := by decide +kernel
theorem dX7_leave_18 : decode cX7_leave 18 = .ok (.iload_n 1, 1) := by decide +kernel
theorem dX7_leave_19 : decode cX7_leave 19 = .ok (.iload_n 2, 1) := by decide +kernel
theorem dX7_leave_20 : decode cX7_leave 20 = .ok (.if_icmp .eq 24, 3) := by decide +kernel
theorem dX7_leave_23 : decode cX7_leave 23 = .ok (.iload_n 3, 1) := by decide +kernel
theorem dX7_leave_24 : decode cX7_leave 24 = .ok (.iconst 0, 1) := by decide +kernel
theorem dX7_leave_25 : decode cX7_leave 25 = .ok (.iconst 1, 1) := by decide +kernel
theorem dX7_leave_26 : decode cX7_leave 26 = .ok (.invokestatic 66, 3) := by decide +kernel
theorem dX7_leave_29 : decode cX7_leave 29 = .ok (.ifCond .eq 15, 3) := by decide +kernel
theorem dX7_leave_32 : decode cX7_leave 32 = .ok (.iload 4, 2) := by decide +kernel
theorem dX7_leave_34 : decode cX7_leave 34 = .ok (.iconst (-1), 1) := by decide +kernel
theorem dX7_leave_35 : decode cX7_leave 35 = .ok (.sipush 9999, 3) := by decide +kernel
theorem dX7_leave_38 : decode cX7_leave 38 = .ok (.invokestatic 66, 3) := by decide +kernel
theorem dX7_leave_41 : decode cX7_leave 41 = .ok (.ifCond .ne 6, 3) := by decide +kernel
theorem dX7_leave_44 : decode cX7_leave 44 = .ok (.bipush (-2), 2) := by decide +kernel
theorem dX7_leave_46 : decode cX7_leave 46 = .ok (.ireturn, 1) := by decide +kernel
theorem dX7_leave_47 : decode cX7_leave 47 = .ok (.aload_n 0, 1) := by decide +kernel
theorem dX7_leave_48 : decode cX7_leave 48 = .ok (.getfield 27, 3) := by decide +kernel
theorem dX7_leave_51 : decode cX7_leave 51 = .ok (.iload_n 1, 1) := by decide +kernel
theorem dX7_leave_52 : decode cX7_leave 52 = .ok (.aaload, 1) := by decide +kernel
theorem dX7_leave_53 : decode cX7_leave 53 = .ok (.getfield 250, 3) := by decide +kernel
theorem dX7_leave_56 : decode cX7_leave 56 = .ok (.astore 5, 2) := by decide +kernel
theorem dX7_leave_58 : decode cX7_leave 58 = .ok (.iload_n 3, 1) := by decide +kernel
theorem dX7_leave_59 : decode cX7_leave 59 = .ok (.iconst 4, 1) := by decide +kernel
theorem dX7_leave_60 : decode cX7_leave 60 = .ok (.imul, 1) := by decide +kernel
theorem dX7_leave_61 : decode cX7_leave 61 = .ok (.iload_n 2, 1) := by decide +kernel
theorem dX7_leave_62 : decode cX7_leave 62 = .ok (.iadd, 1) := by decide +kernel
theorem dX7_leave_63 : decode cX7_leave 63 = .ok (.istore 6, 2) := by decide +kernel
theorem dX7_leave_65 : decode cX7_leave 65 = .ok (.aload 5, 2) := by decide +kernel
theorem dX7_leave_67 : decode cX7_leave 67 = .ok (.iload 6, 2) := by decide +kernel
theorem dX7_leave_69 : decode cX7_leave 69 = .ok (.iaload, 1) := by decide +kernel
theorem dX7_leave_70 : decode cX7_leave 70 = .ok (.istore 7, 2) := by decide +kernel
theorem dX7_leave_72 : decode cX7_leave 72 = .ok (.aload 5, 2) := by decide +kernel
theorem dX7_leave_74 : decode cX7_leave 74 = .ok (.iload 6, 2) := by decide +kernel
theorem dX7_leave_76 : decode cX7_leave 76 = .ok (.iload 4, 2) := by decide +kernel
theorem dX7_leave_78 : decode cX7_leave 78 = .ok (.iastore, 1) := by decide +kernel
theorem dX7_leave_79 : decode cX7_leave 79 = .ok (.iload 7, 2) := by decide +kernel
theorem dX7_leave_81 : decode cX7_leave 81 = .ok (.iconst (-1), 1) := by decide +kernel
theorem dX7_leave_82 : decode cX7_leave 82 = .ok (.if_icmp .ne 8, 3) := by decide +kernel
theorem dX7_leave_85 : decode cX7_leave 85 = .ok (.bipush (-9), 2) := by decide +kernel
theorem dX7_leave_87 : decode cX7_leave 87 = .ok (.goto 5, 3) := by decide +kernel
theorem dX7_leave_90 : decode cX7_leave 90 = .ok (.iload 7, 2) := by decide +kernel
theorem dX7_leave_92 : decode cX7_leave 92 = .ok (.ireturn, 1) := by decide +kernel
theorem dX7_see_0 : decode cX7_see 0 = .ok (.aload_n 0, 1) := by decide +kernel
theorem dX7_see_1 : decode cX7_see 1 = .ok (.iload_n 1, 1) := by decide +kernel
theorem dX7_see_2 : decode cX7_see 2 = .ok (.invokevirtual 112, 3) := by decide +kernel
theorem dX7_see_5 : decode cX7_see 5 = .ok (.ifCond .eq 18, 3) := by decide +kernel
theorem dX7_see_8 : decode cX7_see 8 = .ok (.aload_n 0, 1) := by decide +kernel
theorem dX7_see_9 : decode cX7_see 9 = .ok (.iload_n 2, 1) := by decide +kernel
theorem dX7_see_10 : decode cX7_see 10 = .ok (.invokevirtual 112, 3) := by decide +kernel
theorem dX7_see_13 : decode cX7_see 13 = .ok (.ifCond .eq 10, 3) := by decide +kernel
theorem dX7_see_16 : decode cX7_see 16 = .ok (.iload_n 3, 1) := by decide +kernel
theorem dX7_see_17 : decode cX7_see 17 = .ok (.invokestatic 168, 3) := by decide +kernel
theorem dX7_see_20 : decode cX7_see 20 = .ok (.ifCond .ne 5, 3) := by decide +kernel
theorem dX7_see_23 : decode cX7_see 23 = .ok (.iconst (-1), 1) := by decide +kernel
theorem dX7_see_24 : decode cX7_see 24 = .ok (.ireturn, 1) := by decide +kernel
theorem dX7_see_25 : decode cX7_see 25 = .ok (.iload 4, 2) := by decide +kernel
theorem dX7_see_27 : decode cX7_see 27 = .ok (.invokestatic 199, 3) := by decide +kernel
theorem dX7_see_30 : decode cX7_see 30 = .ok (.ifCond .ne 6, 3) := by decide +kernel
theorem dX7_see_33 : decode cX7_see 33 = .ok (.bipush (-2), 2) := by decide +kernel
theorem dX7_see_35 : decode cX7_see 35 = .ok (.ireturn, 1) := by decide +kernel
theorem dX7_see_36 : decode cX7_see 36 = .ok (.aload_n 0, 1) := by decide +kernel
theorem dX7_see_37 : decode cX7_see 37 = .ok (.iload_n 1, 1) := by decide +kernel
theorem dX7_see_38 : decode cX7_see 38 = .ok (.iload_n 2, 1) := by decide +kernel
theorem dX7_see_39 : decode cX7_see 39 = .ok (.iconst 0, 1) := by decide +kernel
theorem dX7_see_40 : decode cX7_see 40 = .ok (.iload 4, 2) := by decide +kernel
theorem dX7_see_42 : decode cX7_see 42 = .ok (.invokevirtual 253, 3) := by decide +kernel
theorem dX7_see_45 : decode cX7_see 45 = .ok (.ifCond .ne 6, 3) := by decide +kernel
theorem dX7_see_48 : decode cX7_see 48 = .ok (.bipush (-3), 2) := by decide +kernel
theorem dX7_see_50 : decode cX7_see 50 = .ok (.ireturn, 1) := by decide +kernel
theorem dX7_see_51 : decode cX7_see 51 = .ok (.aload_n 0, 1) := by decide +kernel
theorem dX7_see_52 : decode cX7_see 52 = .ok (.getfield 27, 3) := by decide +kernel
theorem dX7_see_55 : decode cX7_see 55 = .ok (.iload_n 2, 1) := by decide +kernel
theorem dX7_see_56 : decode cX7_see 56 = .ok (.aaload, 1) := by decide +kernel
theorem dX7_see_57 : decode cX7_see 57 = .ok (.getfield 147, 3) := by decide +kernel
theorem dX7_see_60 : decode cX7_see 60 = .ok (.iload_n 3, 1) := by decide +kernel
theorem dX7_see_61 : decode cX7_see 61 = .ok (.invokevirtual 171, 3) := by decide +kernel
theorem dX7_see_64 : decode cX7_see 64 = .ok (.ireturn, 1) := by decide +kernel
theorem dX7_told_0 : decode cX7_told 0 = .ok (.aload_n 0, 1) := by decide +kernel
theorem dX7_told_1 : decode cX7_told 1 = .ok (.iload_n 1, 1) := by decide +kernel
theorem dX7_told_2 : decode cX7_told 2 = .ok (.invokevirtual 112, 3) := by decide +kernel
theorem dX7_told_5 : decode cX7_told 5 = .ok (.ifCond .eq 11, 3) := by decide +kernel
theorem dX7_told_8 : decode cX7_told 8 = .ok (.aload_n 0, 1) := by decide +kernel
theorem dX7_told_9 : decode cX7_told 9 = .ok (.iload_n 2, 1) := by decide +kernel
theorem dX7_told_10 : decode cX7_told 10 = .ok (.invokevirtual 112, 3) := by decide +kernel
theorem dX7_told_13 : decode cX7_told 13 = .ok (.ifCond .ne 5, 3) := by decide +kernel
theorem dX7_told_16 : decode cX7_told 16 = .ok (.iconst (-1), 1) := by decide +kernel
theorem dX7_told_17 : decode cX7_told 17 = .ok (.ireturn, 1) := by decide +kernel
theorem dX7_told_18 : decode cX7_told 18 = .ok (.iload_n 3, 1) := by decide +kernel
theorem dX7_told_19 : decode cX7_told 19 = .ok (.iconst 1, 1) := by decide +kernel
theorem dX7_told_20 : decode cX7_told 20 = .ok (.bipush 10, 2) := by decide +kernel
theorem dX7_told_22 : decode cX7_told 22 = .ok (.invokestatic 66, 3) := by decide +kernel
theorem dX7_told_25 : decode cX7_told 25 = .ok (.ifCond .eq 11, 3) := by decide +kernel
theorem dX7_told_28 : decode cX7_told 28 = .ok (.iload 4, 2) := by decide +kernel
theorem dX7_told_30 : decode cX7_told 30 = .ok (.invokestatic 199, 3) := by decide +kernel
theorem dX7_told_33 : decode cX7_told 33 = .ok (.ifCond .ne 6, 3) := by decide +kernel
theorem dX7_told_36 : decode cX7_told 36 = .ok (.bipush (-2), 2) := by decide +kernel
theorem dX7_told_38 : decode cX7_told 38 = .ok (.ireturn, 1) := by decide +kernel
theorem dX7_told_39 : decode cX7_told 39 = .ok (.aload_n 0, 1) := by decide +kernel
theorem dX7_told_40 : decode cX7_told 40 = .ok (.iload_n 1, 1) := by decide +kernel
theorem dX7_told_41 : decode cX7_told 41 = .ok (.iload_n 2, 1) := by decide +kernel
theorem dX7_told_42 : decode cX7_told 42 = .ok (.iconst 1, 1) := by decide +kernel
theorem dX7_told_43 : decode cX7_told 43 = .ok (.iload 4, 2) := by decide +kernel
theorem dX7_told_45 : decode cX7_told 45 = .ok (.invokevirtual 253, 3) := by decide +kernel
theorem dX7_told_48 : decode cX7_told 48 = .ok (.ifCond .ne 6, 3) := by decide +kernel
theorem dX7_told_51 : decode cX7_told 51 = .ok (.bipush (-3), 2) := by decide +kernel
theorem dX7_told_53 : decode cX7_told 53 = .ok (.ireturn, 1) := by decide +kernel
theorem dX7_told_54 : decode cX7_told 54 = .ok (.aload_n 0, 1) := by decide +kernel
theorem dX7_told_55 : decode cX7_told 55 = .ok (.getfield 27, 3) := by decide +kernel
theorem dX7_told_58 : decode cX7_told 58 = .ok (.iload_n 2, 1) := by decide +kernel
theorem dX7_told_59 : decode cX7_told 59 = .ok (.aaload, 1) := by decide +kernel
theorem dX7_told_60 : decode cX7_told 60 = .ok (.iload_n 3, 1) := by decide +kernel
theorem dX7_told_61 : decode cX7_told 61 = .ok (.invokevirtual 228, 3) := by decide +kernel
theorem dX7_told_64 : decode cX7_told 64 = .ok (.ireturn, 1) := by decide +kernel
theorem dX7_sheet_0 : decode cX7_sheet 0 = .ok (.aload_n 0, 1) := by decide +kernel
theorem dX7_sheet_1 : decode cX7_sheet 1 = .ok (.iconst 0, 1) := by decide +kernel
theorem dX7_sheet_2 : decode cX7_sheet 2 = .ok (.putfield 62, 3) := by decide +kernel
theorem dX7_sheet_5 : decode cX7_sheet 5 = .ok (.iload_n 1, 1) := by decide +kernel
theorem dX7_sheet_6 : decode cX7_sheet 6 = .ok (.iconst 0, 1) := by decide +kernel
theorem dX7_sheet_7 : decode cX7_sheet 7 = .ok (.iconst 3, 1) := by decide +kernel
theorem dX7_sheet_8 : decode cX7_sheet 8 = .ok (.invokestatic 66, 3) := by decide +kernel
theorem dX7_sheet_11 : decode cX7_sheet 11 = .ok (.ifCond .ne 5, 3) := by decide +kernel
theorem dX7_sheet_14 : decode cX7_sheet 14 = .ok (.iconst (-1), 1) := by decide +kernel
theorem dX7_sheet_15 : decode cX7_sheet 15 = .ok (.ireturn, 1) := by decide +kernel
theorem dX7_sheet_16 : decode cX7_sheet 16 = .ok (.iload_n 2, 1) := by decide +kernel
theorem dX7_sheet_17 : decode cX7_sheet 17 = .ok (.iconst 0, 1) := by decide +kernel
theorem dX7_sheet_18 : decode cX7_sheet 18 = .ok (.iconst 2, 1) := by decide +kernel
theorem dX7_sheet_19 : decode cX7_sheet 19 = .ok (.invokestatic 66, 3) := by decide +kernel
theorem dX7_sheet_22 : decode cX7_sheet 22 = .ok (.ifCond .eq 9, 3) := by decide +kernel
theorem dX7_sheet_25 : decode cX7_sheet 25 = .ok (.iload_n 3, 1) := by decide +kernel
theorem dX7_sheet_26 : decode cX7_sheet 26 = .ok (.bipush 60, 2) := by decide +kernel
theorem dX7_sheet_28 : decode cX7_sheet 28 = .ok (.if_icmp .le 6, 3) := by decide +kernel
theorem dX7_sheet_31 : decode cX7_sheet 31 = .ok (.bipush (-2), 2) := by decide +kernel
theorem dX7_sheet_33 : decode cX7_sheet 33 = .ok (.ireturn, 1) := by decide +kernel
theorem dX7_sheet_34 : decode cX7_sheet 34 = .ok (.iload_n 3, 1) := by decide +kernel
theorem dX7_sheet_35 : decode cX7_sheet 35 = .ok (.ifCond .ge 9, 3) := by decide +kernel
theorem dX7_sheet_38 : decode cX7_sheet 38 = .ok (.aload_n 0, 1) := by decide +kernel
theorem dX7_sheet_39 : decode cX7_sheet 39 = .ok (.iconst 4, 1) := by decide +kernel
theorem dX7_sheet_40 : decode cX7_sheet 40 = .ok (.invokevirtual 70, 3) := by decide +kernel
theorem dX7_sheet_43 : decode cX7_sheet 43 = .ok (.ireturn, 1) := by decide +kernel
theorem dX7_sheet_44 : decode cX7_sheet 44 = .ok (.aload_n 0, 1) := by decide +kernel
theorem dX7_sheet_45 : decode cX7_sheet 45 = .ok (.getfield 55, 3) := by decide +kernel
theorem dX7_sheet_48 : decode cX7_sheet 48 = .ok (.iload_n 1, 1) := by decide +kernel
theorem dX7_sheet_49 : decode cX7_sheet 49 = .ok (.new 53, 3) := by decide +kernel
theorem dX7_sheet_52 : decode cX7_sheet 52 = .ok (.dup, 1) := by decide +kernel
theorem dX7_sheet_53 : decode cX7_sheet 53 = .ok (.iload_n 2, 1) := by decide +kernel
theorem dX7_sheet_54 : decode cX7_sheet 54 = .ok (.iload_n 3, 1) := by decide +kernel
theorem dX7_sheet_55 : decode cX7_sheet 55 = .ok (.invokespecial 257, 3) := by decide +kernel
theorem dX7_sheet_58 : decode cX7_sheet 58 = .ok (.aastore, 1) := by decide +kernel
theorem dX7_sheet_59 : decode cX7_sheet 59 = .ok (.iconst 1, 1) := by decide +kernel
theorem dX7_sheet_60 : decode cX7_sheet 60 = .ok (.ireturn, 1) := by decide +kernel
theorem dX7_lose_0 : decode cX7_lose 0 = .ok (.iload_n 1, 1) := by decide +kernel
theorem dX7_lose_1 : decode cX7_lose 1 = .ok (.iconst 0, 1) := by decide +kernel
theorem dX7_lose_2 : decode cX7_lose 2 = .ok (.iconst 3, 1) := by decide +kernel
theorem dX7_lose_3 : decode cX7_lose 3 = .ok (.invokestatic 66, 3) := by decide +kernel
theorem dX7_lose_6 : decode cX7_lose 6 = .ok (.ifCond .ne 5, 3) := by decide +kernel
theorem dX7_lose_9 : decode cX7_lose 9 = .ok (.iconst (-1), 1) := by decide +kernel
theorem dX7_lose_10 : decode cX7_lose 10 = .ok (.ireturn, 1) := by decide +kernel
theorem dX7_lose_11 : decode cX7_lose 11 = .ok (.aload_n 0, 1) := by decide +kernel
theorem dX7_lose_12 : decode cX7_lose 12 = .ok (.getfield 55, 3) := by decide +kernel
theorem dX7_lose_15 : decode cX7_lose 15 = .ok (.iload_n 1, 1) := by decide +kernel
theorem dX7_lose_16 : decode cX7_lose 16 = .ok (.aaload, 1) := by decide +kernel
theorem dX7_lose_17 : decode cX7_lose 17 = .ok (.ifnonnull 7, 3) := by decide +kernel
theorem dX7_lose_20 : decode cX7_lose 20 = .ok (.iconst 0, 1) := by decide +kernel
theorem dX7_lose_21 : decode cX7_lose 21 = .ok (.goto 4, 3) := by decide +kernel
theorem dX7_lose_24 : decode cX7_lose 24 = .ok (.iconst 1, 1) := by decide +kernel
theorem dX7_lose_25 : decode cX7_lose 25 = .ok (.istore_n 2, 1) := by decide +kernel
theorem dX7_lose_26 : decode cX7_lose 26 = .ok (.aload_n 0, 1) := by decide +kernel
theorem dX7_lose_27 : decode cX7_lose 27 = .ok (.getfield 55, 3) := by decide +kernel
theorem dX7_lose_30 : decode cX7_lose 30 = .ok (.iload_n 1, 1) := by decide +kernel
theorem dX7_lose_31 : decode cX7_lose 31 = .ok (.aconst_null, 1) := by decide +kernel
theorem dX7_lose_32 : decode cX7_lose 32 = .ok (.aastore, 1) := by decide +kernel
theorem dX7_lose_33 : decode cX7_lose 33 = .ok (.iload_n 2, 1) := by decide +kernel
theorem dX7_lose_34 : decode cX7_lose 34 = .ok (.ireturn, 1) := by decide +kernel
theorem dX7_put_0 : decode cX7_put 0 = .ok (.aload_n 0, 1) := by decide +kernel
theorem dX7_put_1 : decode cX7_put 1 = .ok (.iconst 0, 1) := by decide +kernel
theorem dX7_put_2 : decode cX7_put 2 = .ok (.putfield 62, 3) := by decide +kernel
theorem dX7_put_5 : decode cX7_put 5 = .ok (.iload_n 1, 1) := by decide +kernel
theorem dX7_put_6 : decode cX7_put 6 = .ok (.iconst 0, 1) := by decide +kernel
theorem dX7_put_7 : decode cX7_put 7 = .ok (.iconst 3, 1) := by decide +kernel
theorem dX7_put_8 : decode cX7_put 8 = .ok (.invokestatic 66, 3) := by decide +kernel
theorem dX7_put_11 : decode cX7_put 11 = .ok (.ifCond .ne 5, 3) := by decide +kernel
theorem dX7_put_14 : decode cX7_put 14 = .ok (.iconst (-1), 1) := by decide +kernel
theorem dX7_put_15 : decode cX7_put 15 = .ok (.ireturn, 1) := by decide +kernel
theorem dX7_put_16 : decode cX7_put 16 = .ok (.aload_n 0, 1) := by decide +kernel
theorem dX7_put_17 : decode cX7_put 17 = .ok (.getfield 55, 3) := by decide +kernel
theorem dX7_put_20 : decode cX7_put 20 = .ok (.iload_n 1, 1) := by decide +kernel
theorem dX7_put_21 : decode cX7_put 21 = .ok (.aaload, 1) := by decide +kernel
theorem dX7_put_22 : decode cX7_put 22 = .ok (.astore 4, 2) := by decide +kernel
theorem dX7_put_24 : decode cX7_put 24 = .ok (.aload 4, 2) := by decide +kernel
theorem dX7_put_26 : decode cX7_put 26 = .ok (.ifnonnull 9, 3) := by decide +kernel
theorem dX7_put_29 : decode cX7_put 29 = .ok (.aload_n 0, 1) := by decide +kernel
theorem dX7_put_30 : decode cX7_put 30 = .ok (.iconst 1, 1) := by decide +kernel
theorem dX7_put_31 : decode cX7_put 31 = .ok (.invokevirtual 70, 3) := by decide +kernel
theorem dX7_put_34 : decode cX7_put 34 = .ok (.ireturn, 1) := by decide +kernel
theorem dX7_put_35 : decode cX7_put 35 = .ok (.iload_n 2, 1) := by decide +kernel
theorem dX7_put_36 : decode cX7_put 36 = .ok (.iconst 0, 1) := by decide +kernel
theorem dX7_put_37 : decode cX7_put 37 = .ok (.aload 4, 2) := by decide +kernel
theorem dX7_put_39 : decode cX7_put 39 = .ok (.getfield 81, 3) := by decide +kernel
theorem dX7_put_42 : decode cX7_put 42 = .ok (.arraylength, 1) := by decide +kernel
theorem dX7_put_43 : decode cX7_put 43 = .ok (.iconst 1, 1) := by decide +kernel
theorem dX7_put_44 : decode cX7_put 44 = .ok (.isub, 1) := by decide +kernel
theorem dX7_put_45 : decode cX7_put 45 = .ok (.invokestatic 66, 3) := by decide +kernel
theorem dX7_put_48 : decode cX7_put 48 = .ok (.ifCond .ne 9, 3) := by decide +kernel
theorem dX7_put_51 : decode cX7_put 51 = .ok (.aload_n 0, 1) := by decide +kernel
theorem dX7_put_52 : decode cX7_put 52 = .ok (.iconst 3, 1) := by decide +kernel
theorem dX7_put_53 : decode cX7_put 53 = .ok (.invokevirtual 70, 3) := by decide +kernel
theorem dX7_put_56 : decode cX7_put 56 = .ok (.ireturn, 1) := by decide +kernel
theorem dX7_put_57 : decode cX7_put 57 = .ok (.aload 4, 2) := by decide +kernel
theorem dX7_put_59 : decode cX7_put 59 = .ok (.getfield 81, 3) := by decide +kernel
theorem dX7_put_62 : decode cX7_put 62 = .ok (.iload_n 2, 1) := by decide +kernel
theorem dX7_put_63 : decode cX7_put 63 = .ok (.iload_n 3, 1) := by decide +kernel
theorem dX7_put_64 : decode cX7_put 64 = .ok (.aload 4, 2) := by decide +kernel
theorem dX7_put_66 : decode cX7_put 66 = .ok (.getfield 74, 3) := by decide +kernel
theorem dX7_put_69 : decode cX7_put 69 = .ok (.invokestatic 260, 3) := by decide +kernel
theorem dX7_put_72 : decode cX7_put 72 = .ok (.iastore, 1) := by decide +kernel
theorem dX7_put_73 : decode cX7_put 73 = .ok (.iconst 1, 1) := by decide +kernel
theorem dX7_put_74 : decode cX7_put 74 = .ok (.ireturn, 1) := by decide +kernel
theorem dX7_cell_0 : decode cX7_cell 0 = .ok (.aload_n 0, 1) := by decide +kernel
theorem dX7_cell_1 : decode cX7_cell 1 = .ok (.iconst 0, 1) := by decide +kernel
theorem dX7_cell_2 : decode cX7_cell 2 = .ok (.putfield 62, 3) := by decide +kernel
theorem dX7_cell_5 : decode cX7_cell 5 = .ok (.iload_n 1, 1) := by decide +kernel
theorem dX7_cell_6 : decode cX7_cell 6 = .ok (.iconst 0, 1) := by decide +kernel
theorem dX7_cell_7 : decode cX7_cell 7 = .ok (.iconst 3, 1) := by decide +kernel
theorem dX7_cell_8 : decode cX7_cell 8 = .ok (.invokestatic 66, 3) := by decide +kernel
theorem dX7_cell_11 : decode cX7_cell 11 = .ok (.ifCond .eq 12, 3) := by decide +kernel
theorem dX7_cell_14 : decode cX7_cell 14 = .ok (.iload_n 3, 1) := by decide +kernel
theorem dX7_cell_15 : decode cX7_cell 15 = .ok (.iconst 0, 1) := by decide +kernel
theorem dX7_cell_16 : decode cX7_cell 16 = .ok (.iconst 2, 1) := by decide +kernel
theorem dX7_cell_17 : decode cX7_cell 17 = .ok (.invokestatic 66, 3) := by decide +kernel
theorem dX7_cell_20 : decode cX7_cell 20 = .ok (.ifCond .ne 7, 3) := by decide +kernel
theorem dX7_cell_23 : decode cX7_cell 23 = .ok (.ldc2_w 231, 3) := by decide +kernel
theorem dX7_cell_26 : decode cX7_cell 26 = .ok (.lreturn, 1) := by decide +kernel
theorem dX7_cell_27 : decode cX7_cell 27 = .ok (.aload_n 0, 1) := by decide +kernel
theorem dX7_cell_28 : decode cX7_cell 28 = .ok (.getfield 55, 3) := by decide +kernel
theorem dX7_cell_31 : decode cX7_cell 31 = .ok (.iload_n 1, 1) := by decide +kernel
theorem dX7_cell_32 : decode cX7_cell 32 = .ok (.aaload, 1) := by decide +kernel
theorem dX7_cell_33 : decode cX7_cell 33 = .ok (.astore 4, 2) := by decide +kernel
theorem dX7_cell_35 : decode cX7_cell 35 = .ok (.aload 4, 2) := by decide +kernel
theorem dX7_cell_37 : decode cX7_cell 37 = .ok (.ifnonnull 12, 3) := by decide +kernel
theorem dX7_cell_40 : decode cX7_cell 40 = .ok (.aload_n 0, 1) := by decide +kernel
end
section
theorem dX7_cell_41 : decode cX7_cell 41 = .ok (.iconst 1, 1) := by decide +kernel
theorem dX7_cell_42 : decode cX7_cell 42 = .ok (.putfield 62, 3) := by decide +kernel
theorem dX7_cell_45 : decode cX7_cell 45 = .ok (.ldc2_w 231, 3) := by decide +kernel
theorem dX7_cell_48 : decode cX7_cell 48 = .ok (.lreturn, 1) := by decide +kernel
theorem dX7_cell_49 : decode cX7_cell 49 = .ok (.aload 4, 2) := by decide +kernel
theorem dX7_cell_51 : decode cX7_cell 51 = .ok (.getfield 74, 3) := by decide +kernel
theorem dX7_cell_54 : decode cX7_cell 54 = .ok (.iload_n 3, 1) := by decide +kernel
theorem dX7_cell_55 : decode cX7_cell 55 = .ok (.if_icmp .eq 12, 3) := by decide +kernel
theorem dX7_cell_58 : decode cX7_cell 58 = .ok (.aload_n 0, 1) := by decide +kernel
theorem dX7_cell_59 : decode cX7_cell 59 = .ok (.iconst 2, 1) := by decide +kernel
theorem dX7_cell_60 : decode cX7_cell 60 = .ok (.putfield 62, 3) := by decide +kernel
theorem dX7_cell_63 : decode cX7_cell 63 = .ok (.ldc2_w 231, 3) := by decide +kernel
theorem dX7_cell_66 : decode cX7_cell 66 = .ok (.lreturn, 1) := by decide +kernel
theorem dX7_cell_67 : decode cX7_cell 67 = .ok (.iload_n 2, 1) := by decide +kernel
theorem dX7_cell_68 : decode cX7_cell 68 = .ok (.iconst 0, 1) := by decide +kernel
theorem dX7_cell_69 : decode cX7_cell 69 = .ok (.aload 4, 2) := by decide +kernel
theorem dX7_cell_71 : decode cX7_cell 71 = .ok (.getfield 81, 3) := by decide +kernel
theorem dX7_cell_74 : decode cX7_cell 74 = .ok (.arraylength, 1) := by decide +kernel
theorem dX7_cell_75 : decode cX7_cell 75 = .ok (.iconst 1, 1) := by decide +kernel
theorem dX7_cell_76 : decode cX7_cell 76 = .ok (.isub, 1) := by decide +kernel
theorem dX7_cell_77 : decode cX7_cell 77 = .ok (.invokestatic 66, 3) := by decide +kernel
theorem dX7_cell_80 : decode cX7_cell 80 = .ok (.ifCond .ne 12, 3) := by decide +kernel
theorem dX7_cell_83 : decode cX7_cell 83 = .ok (.aload_n 0, 1) := by decide +kernel
theorem dX7_cell_84 : decode cX7_cell 84 = .ok (.iconst 3, 1) := by decide +kernel
theorem dX7_cell_85 : decode cX7_cell 85 = .ok (.putfield 62, 3) := by decide +kernel
theorem dX7_cell_88 : decode cX7_cell 88 = .ok (.ldc2_w 231, 3) := by decide +kernel
theorem dX7_cell_91 : decode cX7_cell 91 = .ok (.lreturn, 1) := by decide +kernel
theorem dX7_cell_92 : decode cX7_cell 92 = .ok (.aload 4, 2) := by decide +kernel
theorem dX7_cell_94 : decode cX7_cell 94 = .ok (.getfield 81, 3) := by decide +kernel
theorem dX7_cell_97 : decode cX7_cell 97 = .ok (.iload_n 2, 1) := by decide +kernel
theorem dX7_cell_98 : decode cX7_cell 98 = .ok (.iaload, 1) := by decide +kernel
theorem dX7_cell_99 : decode cX7_cell 99 = .ok (.i2l, 1) := by decide +kernel
theorem dX7_cell_100 : decode cX7_cell 100 = .ok (.lreturn, 1) := by decide +kernel
theorem dX7_copy_0 : decode cX7_copy 0 = .ok (.aload_n 0, 1) := by decide +kernel
theorem dX7_copy_1 : decode cX7_copy 1 = .ok (.iconst 0, 1) := by decide +kernel
theorem dX7_copy_2 : decode cX7_copy 2 = .ok (.putfield 62, 3) := by decide +kernel
theorem dX7_copy_5 : decode cX7_copy 5 = .ok (.iload_n 1, 1) := by decide +kernel
theorem dX7_copy_6 : decode cX7_copy 6 = .ok (.iconst 0, 1) := by decide +kernel
theorem dX7_copy_7 : decode cX7_copy 7 = .ok (.iconst 3, 1) := by decide +kernel
theorem dX7_copy_8 : decode cX7_copy 8 = .ok (.invokestatic 66, 3) := by decide +kernel
theorem dX7_copy_11 : decode cX7_copy 11 = .ok (.ifCond .eq 12, 3) := by decide +kernel
theorem dX7_copy_14 : decode cX7_copy 14 = .ok (.iload_n 3, 1) := by decide +kernel
theorem dX7_copy_15 : decode cX7_copy 15 = .ok (.iconst 0, 1) := by decide +kernel
theorem dX7_copy_16 : decode cX7_copy 16 = .ok (.iconst 3, 1) := by decide +kernel
theorem dX7_copy_17 : decode cX7_copy 17 = .ok (.invokestatic 66, 3) := by decide +kernel
theorem dX7_copy_20 : decode cX7_copy 20 = .ok (.ifCond .ne 5, 3) := by decide +kernel
theorem dX7_copy_23 : decode cX7_copy 23 = .ok (.iconst (-1), 1) := by decide +kernel
theorem dX7_copy_24 : decode cX7_copy 24 = .ok (.ireturn, 1) := by decide +kernel
theorem dX7_copy_25 : decode cX7_copy 25 = .ok (.aload_n 0, 1) := by decide +kernel
theorem dX7_copy_26 : decode cX7_copy 26 = .ok (.getfield 55, 3) := by decide +kernel
theorem dX7_copy_29 : decode cX7_copy 29 = .ok (.iload_n 1, 1) := by decide +kernel
theorem dX7_copy_30 : decode cX7_copy 30 = .ok (.aaload, 1) := by decide +kernel
theorem dX7_copy_31 : decode cX7_copy 31 = .ok (.astore 6, 2) := by decide +kernel
theorem dX7_copy_33 : decode cX7_copy 33 = .ok (.aload_n 0, 1) := by decide +kernel
theorem dX7_copy_34 : decode cX7_copy 34 = .ok (.getfield 55, 3) := by decide +kernel
theorem dX7_copy_37 : decode cX7_copy 37 = .ok (.iload_n 3, 1) := by decide +kernel
theorem dX7_copy_38 : decode cX7_copy 38 = .ok (.aaload, 1) := by decide +kernel
theorem dX7_copy_39 : decode cX7_copy 39 = .ok (.astore 7, 2) := by decide +kernel
theorem dX7_copy_41 : decode cX7_copy 41 = .ok (.aload 6, 2) := by decide +kernel
theorem dX7_copy_43 : decode cX7_copy 43 = .ok (.ifnull 8, 3) := by decide +kernel
theorem dX7_copy_46 : decode cX7_copy 46 = .ok (.aload 7, 2) := by decide +kernel
theorem dX7_copy_48 : decode cX7_copy 48 = .ok (.ifnonnull 9, 3) := by decide +kernel
theorem dX7_copy_51 : decode cX7_copy 51 = .ok (.aload_n 0, 1) := by decide +kernel
theorem dX7_copy_52 : decode cX7_copy 52 = .ok (.iconst 1, 1) := by decide +kernel
theorem dX7_copy_53 : decode cX7_copy 53 = .ok (.invokevirtual 70, 3) := by decide +kernel
theorem dX7_copy_56 : decode cX7_copy 56 = .ok (.ireturn, 1) := by decide +kernel
theorem dX7_copy_57 : decode cX7_copy 57 = .ok (.aload 6, 2) := by decide +kernel
theorem dX7_copy_59 : decode cX7_copy 59 = .ok (.getfield 74, 3) := by decide +kernel
theorem dX7_copy_62 : decode cX7_copy 62 = .ok (.aload 7, 2) := by decide +kernel
theorem dX7_copy_64 : decode cX7_copy 64 = .ok (.getfield 74, 3) := by decide +kernel
theorem dX7_copy_67 : decode cX7_copy 67 = .ok (.if_icmp .eq 9, 3) := by decide +kernel
theorem dX7_copy_70 : decode cX7_copy 70 = .ok (.aload_n 0, 1) := by decide +kernel
theorem dX7_copy_71 : decode cX7_copy 71 = .ok (.iconst 2, 1) := by decide +kernel
theorem dX7_copy_72 : decode cX7_copy 72 = .ok (.invokevirtual 70, 3) := by decide +kernel
theorem dX7_copy_75 : decode cX7_copy 75 = .ok (.ireturn, 1) := by decide +kernel
theorem dX7_copy_76 : decode cX7_copy 76 = .ok (.aload 6, 2) := by decide +kernel
theorem dX7_copy_78 : decode cX7_copy 78 = .ok (.iload_n 2, 1) := by decide +kernel
theorem dX7_copy_79 : decode cX7_copy 79 = .ok (.iload 5, 2) := by decide +kernel
theorem dX7_copy_81 : decode cX7_copy 81 = .ok (.invokevirtual 77, 3) := by decide +kernel
theorem dX7_copy_84 : decode cX7_copy 84 = .ok (.ifCond .eq 15, 3) := by decide +kernel
theorem dX7_copy_87 : decode cX7_copy 87 = .ok (.aload 7, 2) := by decide +kernel
theorem dX7_copy_89 : decode cX7_copy 89 = .ok (.iload 4, 2) := by decide +kernel
theorem dX7_copy_91 : decode cX7_copy 91 = .ok (.iload 5, 2) := by decide +kernel
theorem dX7_copy_93 : decode cX7_copy 93 = .ok (.invokevirtual 77, 3) := by decide +kernel
theorem dX7_copy_96 : decode cX7_copy 96 = .ok (.ifCond .ne 9, 3) := by decide +kernel
theorem dX7_copy_99 : decode cX7_copy 99 = .ok (.aload_n 0, 1) := by decide +kernel
theorem dX7_copy_100 : decode cX7_copy 100 = .ok (.iconst 3, 1) := by decide +kernel
theorem dX7_copy_101 : decode cX7_copy 101 = .ok (.invokevirtual 70, 3) := by decide +kernel
theorem dX7_copy_104 : decode cX7_copy 104 = .ok (.ireturn, 1) := by decide +kernel
theorem dX7_copy_105 : decode cX7_copy 105 = .ok (.aload 6, 2) := by decide +kernel
theorem dX7_copy_107 : decode cX7_copy 107 = .ok (.getfield 81, 3) := by decide +kernel
theorem dX7_copy_110 : decode cX7_copy 110 = .ok (.iload_n 2, 1) := by decide +kernel
theorem dX7_copy_111 : decode cX7_copy 111 = .ok (.aload 7, 2) := by decide +kernel
theorem dX7_copy_113 : decode cX7_copy 113 = .ok (.getfield 81, 3) := by decide +kernel
theorem dX7_copy_116 : decode cX7_copy 116 = .ok (.iload 4, 2) := by decide +kernel
theorem dX7_copy_118 : decode cX7_copy 118 = .ok (.iload 5, 2) := by decide +kernel
theorem dX7_copy_120 : decode cX7_copy 120 = .ok (.invokestatic 263, 3) := by decide +kernel
theorem dX7_copy_123 : decode cX7_copy 123 = .ok (.iload 5, 2) := by decide +kernel
theorem dX7_copy_125 : decode cX7_copy 125 = .ok (.ireturn, 1) := by decide +kernel
theorem dX7_tell_0 : decode cX7_tell 0 = .ok (.aload_n 0, 1) := by decide +kernel
theorem dX7_tell_1 : decode cX7_tell 1 = .ok (.getfield 12, 3) := by decide +kernel
theorem dX7_tell_4 : decode cX7_tell 4 = .ok (.iload_n 1, 1) := by decide +kernel
theorem dX7_tell_5 : decode cX7_tell 5 = .ok (.invokevirtual 98, 3) := by decide +kernel
theorem dX7_tell_8 : decode cX7_tell 8 = .ok (.ifCond .ne 5, 3) := by decide +kernel
theorem dX7_tell_11 : decode cX7_tell 11 = .ok (.iconst (-1), 1) := by decide +kernel
theorem dX7_tell_12 : decode cX7_tell 12 = .ok (.ireturn, 1) := by decide +kernel
theorem dX7_tell_13 : decode cX7_tell 13 = .ok (.aload_n 0, 1) := by decide +kernel
theorem dX7_tell_14 : decode cX7_tell 14 = .ok (.getfield 12, 3) := by decide +kernel
theorem dX7_tell_17 : decode cX7_tell 17 = .ok (.getfield 102, 3) := by decide +kernel
theorem dX7_tell_20 : decode cX7_tell 20 = .ok (.iload_n 1, 1) := by decide +kernel
theorem dX7_tell_21 : decode cX7_tell 21 = .ok (.iaload, 1) := by decide +kernel
theorem dX7_tell_22 : decode cX7_tell 22 = .ok (.lookupswitch 38 #[(1, 32), (2, 26)], 26) := by decide +kernel
theorem dX7_tell_48 : decode cX7_tell 48 = .ok (.aload_n 0, 1) := by decide +kernel
theorem dX7_tell_49 : decode cX7_tell 49 = .ok (.iload_n 1, 1) := by decide +kernel
theorem dX7_tell_50 : decode cX7_tell 50 = .ok (.invokevirtual 269, 3) := by decide +kernel
theorem dX7_tell_53 : decode cX7_tell 53 = .ok (.ireturn, 1) := by decide +kernel
theorem dX7_tell_54 : decode cX7_tell 54 = .ok (.aload_n 0, 1) := by decide +kernel
theorem dX7_tell_55 : decode cX7_tell 55 = .ok (.iload_n 1, 1) := by decide +kernel
theorem dX7_tell_56 : decode cX7_tell 56 = .ok (.invokevirtual 272, 3) := by decide +kernel
theorem dX7_tell_59 : decode cX7_tell 59 = .ok (.ireturn, 1) := by decide +kernel
theorem dX7_tell_60 : decode cX7_tell 60 = .ok (.aload_n 0, 1) := by decide +kernel
theorem dX7_tell_61 : decode cX7_tell 61 = .ok (.iload_n 1, 1) := by decide +kernel
theorem dX7_tell_62 : decode cX7_tell 62 = .ok (.invokevirtual 275, 3) := by decide +kernel
theorem dX7_tell_65 : decode cX7_tell 65 = .ok (.ireturn, 1) := by decide +kernel
theorem dX7_speak_0 : decode cX7_speak 0 = .ok (.aload_n 0, 1) := by decide +kernel
theorem dX7_speak_1 : decode cX7_speak 1 = .ok (.getfield 12, 3) := by decide +kernel
theorem dX7_speak_4 : decode cX7_speak 4 = .ok (.iload_n 1, 1) := by decide +kernel
theorem dX7_speak_5 : decode cX7_speak 5 = .ok (.invokevirtual 98, 3) := by decide +kernel
theorem dX7_speak_8 : decode cX7_speak 8 = .ok (.ifCond .ne 5, 3) := by decide +kernel
theorem dX7_speak_11 : decode cX7_speak 11 = .ok (.iconst (-1), 1) := by decide +kernel
theorem dX7_speak_12 : decode cX7_speak 12 = .ok (.ireturn, 1) := by decide +kernel
theorem dX7_speak_13 : decode cX7_speak 13 = .ok (.aload_n 0, 1) := by decide +kernel
theorem dX7_speak_14 : decode cX7_speak 14 = .ok (.getfield 12, 3) := by decide +kernel
theorem dX7_speak_17 : decode cX7_speak 17 = .ok (.getfield 102, 3) := by decide +kernel
theorem dX7_speak_20 : decode cX7_speak 20 = .ok (.iload_n 1, 1) := by decide +kernel
theorem dX7_speak_21 : decode cX7_speak 21 = .ok (.iaload, 1) := by decide +kernel
theorem dX7_speak_22 : decode cX7_speak 22 = .ok (.iconst 2, 1) := by decide +kernel
theorem dX7_speak_23 : decode cX7_speak 23 = .ok (.if_icmp .ne 10, 3) := by decide +kernel
theorem dX7_speak_26 : decode cX7_speak 26 = .ok (.aload_n 0, 1) := by decide +kernel
theorem dX7_speak_27 : decode cX7_speak 27 = .ok (.invokevirtual 278, 3) := by decide +kernel
theorem dX7_speak_30 : decode cX7_speak 30 = .ok (.goto 8, 3) := by decide +kernel
theorem dX7_speak_33 : decode cX7_speak 33 = .ok (.aload_n 0, 1) := by decide +kernel
theorem dX7_speak_34 : decode cX7_speak 34 = .ok (.iload_n 1, 1) := by decide +kernel
theorem dX7_speak_35 : decode cX7_speak 35 = .ok (.invokevirtual 281, 3) := by decide +kernel
theorem dX7_speak_38 : decode cX7_speak 38 = .ok (.ireturn, 1) := by decide +kernel
theorem dX7_as_0 : decode cX7_as 0 = .ok (.aload_n 0, 1) := by decide +kernel
theorem dX7_as_1 : decode cX7_as 1 = .ok (.iconst 0, 1) := by decide +kernel
theorem dX7_as_2 : decode cX7_as 2 = .ok (.putfield 62, 3) := by decide +kernel
theorem dX7_as_5 : decode cX7_as 5 = .ok (.aload_n 0, 1) := by decide +kernel
theorem dX7_as_6 : decode cX7_as 6 = .ok (.getfield 12, 3) := by decide +kernel
theorem dX7_as_9 : decode cX7_as 9 = .ok (.iload_n 1, 1) := by decide +kernel
theorem dX7_as_10 : decode cX7_as 10 = .ok (.invokevirtual 98, 3) := by decide +kernel
theorem dX7_as_13 : decode cX7_as 13 = .ok (.ifCond .ne 5, 3) := by decide +kernel
theorem dX7_as_16 : decode cX7_as 16 = .ok (.iconst (-1), 1) := by decide +kernel
theorem dX7_as_17 : decode cX7_as 17 = .ok (.ireturn, 1) := by decide +kernel
theorem dX7_as_18 : decode cX7_as 18 = .ok (.iload_n 2, 1) := by decide +kernel
theorem dX7_as_19 : decode cX7_as 19 = .ok (.iconst 0, 1) := by decide +kernel
theorem dX7_as_20 : decode cX7_as 20 = .ok (.iconst 2, 1) := by decide +kernel
theorem dX7_as_21 : decode cX7_as 21 = .ok (.invokestatic 66, 3) := by decide +kernel
theorem dX7_as_24 : decode cX7_as 24 = .ok (.ifCond .ne 6, 3) := by decide +kernel
theorem dX7_as_27 : decode cX7_as 27 = .ok (.bipush (-2), 2) := by decide +kernel
theorem dX7_as_29 : decode cX7_as 29 = .ok (.ireturn, 1) := by decide +kernel
theorem dX7_as_30 : decode cX7_as 30 = .ok (.aload_n 0, 1) := by decide +kernel
theorem dX7_as_31 : decode cX7_as 31 = .ok (.getfield 12, 3) := by decide +kernel
theorem dX7_as_34 : decode cX7_as 34 = .ok (.getfield 102, 3) := by decide +kernel
theorem dX7_as_37 : decode cX7_as 37 = .ok (.iload_n 1, 1) := by decide +kernel
theorem dX7_as_38 : decode cX7_as 38 = .ok (.iaload, 1) := by decide +kernel
theorem dX7_as_39 : decode cX7_as 39 = .ok (.iload_n 2, 1) := by decide +kernel
theorem dX7_as_40 : decode cX7_as 40 = .ok (.if_icmp .lt 7, 3) := by decide +kernel
theorem dX7_as_43 : decode cX7_as 43 = .ok (.iconst 1, 1) := by decide +kernel
theorem dX7_as_44 : decode cX7_as 44 = .ok (.goto 8, 3) := by decide +kernel
theorem dX7_as_47 : decode cX7_as 47 = .ok (.aload_n 0, 1) := by decide +kernel
theorem dX7_as_48 : decode cX7_as 48 = .ok (.iconst 2, 1) := by decide +kernel
theorem dX7_as_49 : decode cX7_as 49 = .ok (.invokevirtual 70, 3) := by decide +kernel
theorem dX7_as_52 : decode cX7_as 52 = .ok (.ireturn, 1) := by decide +kernel
theorem dX7_trace_0 : decode cX7_trace 0 = .ok (.aload_n 0, 1) := by decide +kernel
theorem dX7_trace_1 : decode cX7_trace 1 = .ok (.getfield 59, 3) := by decide +kernel
theorem dX7_trace_4 : decode cX7_trace 4 = .ok (.ireturn, 1) := by decide +kernel
theorem dX7_fault_0 : decode cX7_fault 0 = .ok (.aload_n 0, 1) := by decide +kernel
theorem dX7_fault_1 : decode cX7_fault 1 = .ok (.getfield 62, 3) := by decide +kernel
theorem dX7_fault_4 : decode cX7_fault 4 = .ok (.ireturn, 1) := by decide +kernel
theorem dX7_many_0 : decode cX7_many 0 = .ok (.iload_n 1, 1) := by decide +kernel
theorem dX7_many_1 : decode cX7_many 1 = .ok (.iconst 0, 1) := by decide +kernel
theorem dX7_many_2 : decode cX7_many 2 = .ok (.iconst 1, 1) := by decide +kernel
theorem dX7_many_3 : decode cX7_many 3 = .ok (.invokestatic 66, 3) := by decide +kernel
theorem dX7_many_6 : decode cX7_many 6 = .ok (.ifCond .ne 6, 3) := by decide +kernel
theorem dX7_many_9 : decode cX7_many 9 = .ok (.bipush (-2), 2) := by decide +kernel
theorem dX7_many_11 : decode cX7_many 11 = .ok (.ireturn, 1) := by decide +kernel
theorem dX7_many_12 : decode cX7_many 12 = .ok (.iload_n 1, 1) := by decide +kernel
theorem dX7_many_13 : decode cX7_many 13 = .ok (.ifCond .ne 13, 3) := by decide +kernel
theorem dX7_many_16 : decode cX7_many 16 = .ok (.aload_n 0, 1) := by decide +kernel
theorem dX7_many_17 : decode cX7_many 17 = .ok (.getfield 12, 3) := by decide +kernel
theorem dX7_many_20 : decode cX7_many 20 = .ok (.getfield 95, 3) := by decide +kernel
theorem dX7_many_23 : decode cX7_many 23 = .ok (.goto 7, 3) := by decide +kernel
theorem dX7_many_26 : decode cX7_many 26 = .ok (.aload_n 0, 1) := by decide +kernel
theorem dX7_many_27 : decode cX7_many 27 = .ok (.getfield 31, 3) := by decide +kernel
theorem dX7_many_30 : decode cX7_many 30 = .ok (.ireturn, 1) := by decide +kernel
theorem dX7_isWithin_0 : decode cX7_isWithin 0 = .ok (.iload_n 0, 1) := by decide +kernel
theorem dX7_isWithin_1 : decode cX7_isWithin 1 = .ok (.iload_n 1, 1) := by decide +kernel
theorem dX7_isWithin_2 : decode cX7_isWithin 2 = .ok (.if_icmp .lt 12, 3) := by decide +kernel
theorem dX7_isWithin_5 : decode cX7_isWithin 5 = .ok (.iload_n 0, 1) := by decide +kernel
theorem dX7_isWithin_6 : decode cX7_isWithin 6 = .ok (.iload_n 2, 1) := by decide +kernel
theorem dX7_isWithin_7 : decode cX7_isWithin 7 = .ok (.if_icmp .gt 7, 3) := by decide +kernel
theorem dX7_isWithin_10 : decode cX7_isWithin 10 = .ok (.iconst 1, 1) := by decide +kernel
theorem dX7_isWithin_11 : decode cX7_isWithin 11 = .ok (.goto 4, 3) := by decide +kernel
theorem dX7_isWithin_14 : decode cX7_isWithin 14 = .ok (.iconst 0, 1) := by decide +kernel
theorem dX7_isWithin_15 : decode cX7_isWithin 15 = .ok (.ireturn, 1) := by decide +kernel
theorem dX7_isPlace_0 : decode cX7_isPlace 0 = .ok (.iload_n 0, 1) := by decide +kernel
theorem dX7_isPlace_1 : decode cX7_isPlace 1 = .ok (.iconst 0, 1) := by decide +kernel
theorem dX7_isPlace_2 : decode cX7_isPlace 2 = .ok (.bipush 11, 2) := by decide +kernel
theorem dX7_isPlace_4 : decode cX7_isPlace 4 = .ok (.invokestatic 66, 3) := by decide +kernel
theorem dX7_isPlace_7 : decode cX7_isPlace 7 = .ok (.ireturn, 1) := by decide +kernel
theorem dX7_isTick_0 : decode cX7_isTick 0 = .ok (.iload_n 0, 1) := by decide +kernel
theorem dX7_isTick_1 : decode cX7_isTick 1 = .ok (.iconst 0, 1) := by decide +kernel
theorem dX7_isTick_2 : decode cX7_isTick 2 = .ok (.sipush 9999, 3) := by decide +kernel
theorem dX7_isTick_5 : decode cX7_isTick 5 = .ok (.invokestatic 66, 3) := by decide +kernel
theorem dX7_isTick_8 : decode cX7_isTick 8 = .ok (.ireturn, 1) := by decide +kernel
theorem dX7_isPerson_0 : decode cX7_isPerson 0 = .ok (.iload_n 1, 1) := by decide +kernel
theorem dX7_isPerson_1 : decode cX7_isPerson 1 = .ok (.iconst 0, 1) := by decide +kernel
theorem dX7_isPerson_2 : decode cX7_isPerson 2 = .ok (.aload_n 0, 1) := by decide +kernel
theorem dX7_isPerson_3 : decode cX7_isPerson 3 = .ok (.getfield 31, 3) := by decide +kernel
theorem dX7_isPerson_6 : decode cX7_isPerson 6 = .ok (.iconst 1, 1) := by decide +kernel
theorem dX7_isPerson_7 : decode cX7_isPerson 7 = .ok (.isub, 1) := by decide +kernel
theorem dX7_isPerson_8 : decode cX7_isPerson 8 = .ok (.invokestatic 66, 3) := by decide +kernel
theorem dX7_isPerson_11 : decode cX7_isPerson 11 = .ok (.ireturn, 1) := by decide +kernel
theorem dX7_isPartOrAll_0 : decode cX7_isPartOrAll 0 = .ok (.iload_n 1, 1) := by decide +kernel
theorem dX7_isPartOrAll_1 : decode cX7_isPartOrAll 1 = .ok (.iconst (-1), 1) := by decide +kernel
theorem dX7_isPartOrAll_2 : decode cX7_isPartOrAll 2 = .ok (.if_icmp .eq 14, 3) := by decide +kernel
theorem dX7_isPartOrAll_5 : decode cX7_isPartOrAll 5 = .ok (.aload_n 0, 1) := by decide +kernel
theorem dX7_isPartOrAll_6 : decode cX7_isPartOrAll 6 = .ok (.getfield 12, 3) := by decide +kernel
theorem dX7_isPartOrAll_9 : decode cX7_isPartOrAll 9 = .ok (.iload_n 1, 1) := by decide +kernel
theorem dX7_isPartOrAll_10 : decode cX7_isPartOrAll 10 = .ok (.invokevirtual 98, 3) := by decide +kernel
theorem dX7_isPartOrAll_13 : decode cX7_isPartOrAll 13 = .ok (.ifCond .eq 7, 3) := by decide +kernel
theorem dX7_isPartOrAll_16 : decode cX7_isPartOrAll 16 = .ok (.iconst 1, 1) := by decide +kernel
theorem dX7_isPartOrAll_17 : decode cX7_isPartOrAll 17 = .ok (.goto 4, 3) := by decide +kernel
theorem dX7_isPartOrAll_20 : decode cX7_isPartOrAll 20 = .ok (.iconst 0, 1) := by decide +kernel
theorem dX7_isPartOrAll_21 : decode cX7_isPartOrAll 21 = .ok (.ireturn, 1) := by decide +kernel
theorem dX7_hasLeave_0 : decode cX7_hasLeave 0 = .ok (.iload_n 1, 1) := by decide +kernel
theorem dX7_hasLeave_1 : decode cX7_hasLeave 1 = .ok (.iload_n 2, 1) := by decide +kernel
theorem dX7_hasLeave_2 : decode cX7_hasLeave 2 = .ok (.if_icmp .eq 23, 3) := by decide +kernel
theorem dX7_hasLeave_5 : decode cX7_hasLeave 5 = .ok (.iload 4, 2) := by decide +kernel
theorem dX7_hasLeave_7 : decode cX7_hasLeave 7 = .ok (.aload_n 0, 1) := by decide +kernel
theorem dX7_hasLeave_8 : decode cX7_hasLeave 8 = .ok (.getfield 27, 3) := by decide +kernel
theorem dX7_hasLeave_11 : decode cX7_hasLeave 11 = .ok (.iload_n 2, 1) := by decide +kernel
theorem dX7_hasLeave_12 : decode cX7_hasLeave 12 = .ok (.aaload, 1) := by decide +kernel
theorem dX7_hasLeave_13 : decode cX7_hasLeave 13 = .ok (.getfield 250, 3) := by decide +kernel
theorem dX7_hasLeave_16 : decode cX7_hasLeave 16 = .ok (.iload_n 3, 1) := by decide +kernel
theorem dX7_hasLeave_17 : decode cX7_hasLeave 17 = .ok (.iconst 4, 1) := by decide +kernel
theorem dX7_hasLeave_18 : decode cX7_hasLeave 18 = .ok (.imul, 1) := by decide +kernel
theorem dX7_hasLeave_19 : decode cX7_hasLeave 19 = .ok (.iload_n 1, 1) := by decide +kernel
theorem dX7_hasLeave_20 : decode cX7_hasLeave 20 = .ok (.iadd, 1) := by decide +kernel
theorem dX7_hasLeave_21 : decode cX7_hasLeave 21 = .ok (.iaload, 1) := by decide +kernel
theorem dX7_hasLeave_22 : decode cX7_hasLeave 22 = .ok (.if_icmp .gt 7, 3) := by decide +kernel
theorem dX7_hasLeave_25 : decode cX7_hasLeave 25 = .ok (.iconst 1, 1) := by decide +kernel
theorem dX7_hasLeave_26 : decode cX7_hasLeave 26 = .ok (.goto 4, 3) := by decide +kernel
theorem dX7_hasLeave_29 : decode cX7_hasLeave 29 = .ok (.iconst 0, 1) := by decide +kernel
theorem dX7_hasLeave_30 : decode cX7_hasLeave 30 = .ok (.ireturn, 1) := by decide +kernel
theorem dX7_faulted_0 : decode cX7_faulted 0 = .ok (.aload_n 0, 1) := by decide +kernel
theorem dX7_faulted_1 : decode cX7_faulted 1 = .ok (.iload_n 1, 1) := by decide +kernel
theorem dX7_faulted_2 : decode cX7_faulted 2 = .ok (.putfield 62, 3) := by decide +kernel
theorem dX7_faulted_5 : decode cX7_faulted 5 = .ok (.bipush (-10), 2) := by decide +kernel
theorem dX7_faulted_7 : decode cX7_faulted 7 = .ok (.iload_n 1, 1) := by decide +kernel
theorem dX7_faulted_8 : decode cX7_faulted 8 = .ok (.isub, 1) := by decide +kernel
theorem dX7_faulted_9 : decode cX7_faulted 9 = .ok (.ireturn, 1) := by decide +kernel
theorem dX7_takeParts_0 : decode cX7_takeParts 0 = .ok (.aload_n 0, 1) := by decide +kernel
theorem dX7_takeParts_1 : decode cX7_takeParts 1 = .ok (.getfield 12, 3) := by decide +kernel
theorem dX7_takeParts_4 : decode cX7_takeParts 4 = .ok (.aload_n 1, 1) := by decide +kernel
theorem dX7_takeParts_5 : decode cX7_takeParts 5 = .ok (.invokevirtual 284, 3) := by decide +kernel
theorem dX7_takeParts_8 : decode cX7_takeParts 8 = .ok (.iconst 0, 1) := by decide +kernel
theorem dX7_takeParts_9 : decode cX7_takeParts 9 = .ok (.istore_n 2, 1) := by decide +kernel
theorem dX7_takeParts_10 : decode cX7_takeParts 10 = .ok (.iload_n 2, 1) := by decide +kernel
theorem dX7_takeParts_11 : decode cX7_takeParts 11 = .ok (.iconst 4, 1) := by decide +kernel
theorem dX7_takeParts_12 : decode cX7_takeParts 12 = .ok (.if_icmp .ge 18, 3) := by decide +kernel
theorem dX7_takeParts_15 : decode cX7_takeParts 15 = .ok (.aload_n 0, 1) := by decide +kernel
theorem dX7_takeParts_16 : decode cX7_takeParts 16 = .ok (.getfield 27, 3) := by decide +kernel
theorem dX7_takeParts_19 : decode cX7_takeParts 19 = .ok (.iload_n 2, 1) := by decide +kernel
theorem dX7_takeParts_20 : decode cX7_takeParts 20 = .ok (.aaload, 1) := by decide +kernel
theorem dX7_takeParts_21 : decode cX7_takeParts 21 = .ok (.invokevirtual 287, 3) := by decide +kernel
theorem dX7_takeParts_24 : decode cX7_takeParts 24 = .ok (.iinc 2 1, 3) := by decide +kernel
theorem dX7_takeParts_27 : decode cX7_takeParts 27 = .ok (.goto (-17), 3) := by decide +kernel
theorem dX7_takeParts_30 : decode cX7_takeParts 30 = .ok (.return_, 1) := by decide +kernel
theorem dX7_pressFor_0 : decode cX7_pressFor 0 = .ok (.bipush (-9), 2) := by decide +kernel
theorem dX7_pressFor_2 : decode cX7_pressFor 2 = .ok (.istore 5, 2) := by decide +kernel
theorem dX7_pressFor_4 : decode cX7_pressFor 4 = .ok (.iconst 0, 1) := by decide +kernel
theorem dX7_pressFor_5 : decode cX7_pressFor 5 = .ok (.istore 6, 2) := by decide +kernel
theorem dX7_pressFor_7 : decode cX7_pressFor 7 = .ok (.iconst 0, 1) := by decide +kernel
theorem dX7_pressFor_8 : decode cX7_pressFor 8 = .ok (.istore 7, 2) := by decide +kernel
theorem dX7_pressFor_10 : decode cX7_pressFor 10 = .ok (.iconst 0, 1) := by decide +kernel
theorem dX7_pressFor_11 : decode cX7_pressFor 11 = .ok (.istore 8, 2) := by decide +kernel
theorem dX7_pressFor_13 : decode cX7_pressFor 13 = .ok (.iload 8, 2) := by decide +kernel
theorem dX7_pressFor_15 : decode cX7_pressFor 15 = .ok (.aload_n 0, 1) := by decide +kernel
theorem dX7_pressFor_16 : decode cX7_pressFor 16 = .ok (.getfield 12, 3) := by decide +kernel
theorem dX7_pressFor_19 : decode cX7_pressFor 19 = .ok (.getfield 95, 3) := by decide +kernel
theorem dX7_pressFor_22 : decode cX7_pressFor 22 = .ok (.if_icmp .ge 42, 3) := by decide +kernel
theorem dX7_pressFor_25 : decode cX7_pressFor 25 = .ok (.aload_n 0, 1) := by decide +kernel
theorem dX7_pressFor_26 : decode cX7_pressFor 26 = .ok (.aload_n 1, 1) := by decide +kernel
theorem dX7_pressFor_27 : decode cX7_pressFor 27 = .ok (.iload 8, 2) := by decide +kernel
theorem dX7_pressFor_29 : decode cX7_pressFor 29 = .ok (.iload_n 2, 1) := by decide +kernel
theorem dX7_pressFor_30 : decode cX7_pressFor 30 = .ok (.iload_n 3, 1) := by decide +kernel
theorem dX7_pressFor_31 : decode cX7_pressFor 31 = .ok (.invokevirtual 290, 3) := by decide +kernel
theorem dX7_pressFor_34 : decode cX7_pressFor 34 = .ok (.istore 9, 2) := by decide +kernel
theorem dX7_pressFor_36 : decode cX7_pressFor 36 = .ok (.iload 7, 2) := by decide +kernel
theorem dX7_pressFor_38 : decode cX7_pressFor 38 = .ok (.iload 9, 2) := by decide +kernel
theorem dX7_pressFor_40 : decode cX7_pressFor 40 = .ok (.iadd, 1) := by decide +kernel
theorem dX7_pressFor_41 : decode cX7_pressFor 41 = .ok (.istore 7, 2) := by decide +kernel
theorem dX7_pressFor_43 : decode cX7_pressFor 43 = .ok (.iload 9, 2) := by decide +kernel
theorem dX7_pressFor_45 : decode cX7_pressFor 45 = .ok (.iload 6, 2) := by decide +kernel
theorem dX7_pressFor_47 : decode cX7_pressFor 47 = .ok (.if_icmp .le 11, 3) := by decide +kernel
theorem dX7_pressFor_50 : decode cX7_pressFor 50 = .ok (.iload 9, 2) := by decide +kernel
theorem dX7_pressFor_52 : decode cX7_pressFor 52 = .ok (.istore 6, 2) := by decide +kernel
theorem dX7_pressFor_54 : decode cX7_pressFor 54 = .ok (.iload 8, 2) := by decide +kernel
theorem dX7_pressFor_56 : decode cX7_pressFor 56 = .ok (.istore 5, 2) := by decide +kernel
theorem dX7_pressFor_58 : decode cX7_pressFor 58 = .ok (.iinc 8 1, 3) := by decide +kernel
theorem dX7_pressFor_61 : decode cX7_pressFor 61 = .ok (.goto (-48), 3) := by decide +kernel
theorem dX7_pressFor_64 : decode cX7_pressFor 64 = .ok (.iload 5, 2) := by decide +kernel
theorem dX7_pressFor_66 : decode cX7_pressFor 66 = .ok (.bipush (-9), 2) := by decide +kernel
theorem dX7_pressFor_68 : decode cX7_pressFor 68 = .ok (.if_icmp .ne 6, 3) := by decide +kernel
theorem dX7_pressFor_71 : decode cX7_pressFor 71 = .ok (.bipush (-9), 2) := by decide +kernel
theorem dX7_pressFor_73 : decode cX7_pressFor 73 = .ok (.ireturn, 1) := by decide +kernel
theorem dX7_pressFor_74 : decode cX7_pressFor 74 = .ok (.aload_n 1, 1) := by decide +kernel
theorem dX7_pressFor_75 : decode cX7_pressFor 75 = .ok (.getfield 147, 3) := by decide +kernel
theorem dX7_pressFor_78 : decode cX7_pressFor 78 = .ok (.iload 5, 2) := by decide +kernel
theorem dX7_pressFor_80 : decode cX7_pressFor 80 = .ok (.iload_n 2, 1) := by decide +kernel
theorem dX7_pressFor_81 : decode cX7_pressFor 81 = .ok (.iload_n 3, 1) := by decide +kernel
theorem dX7_pressFor_82 : decode cX7_pressFor 82 = .ok (.invokevirtual 293, 3) := by decide +kernel
theorem dX7_pressFor_85 : decode cX7_pressFor 85 = .ok (.istore 8, 2) := by decide +kernel
theorem dX7_pressFor_87 : decode cX7_pressFor 87 = .ok (.bipush 10, 2) := by decide +kernel
theorem dX7_pressFor_89 : decode cX7_pressFor 89 = .ok (.iload 6, 2) := by decide +kernel
theorem dX7_pressFor_91 : decode cX7_pressFor 91 = .ok (.imul, 1) := by decide +kernel
theorem dX7_pressFor_92 : decode cX7_pressFor 92 = .ok (.aload_n 0, 1) := by decide +kernel
theorem dX7_pressFor_93 : decode cX7_pressFor 93 = .ok (.getfield 49, 3) := by decide +kernel
theorem dX7_pressFor_96 : decode cX7_pressFor 96 = .ok (.iconst 0, 1) := by decide +kernel
theorem dX7_pressFor_97 : decode cX7_pressFor 97 = .ok (.iaload, 1) := by decide +kernel
theorem dX7_pressFor_98 : decode cX7_pressFor 98 = .ok (.iload 7, 2) := by decide +kernel
theorem dX7_pressFor_100 : decode cX7_pressFor 100 = .ok (.imul, 1) := by decide +kernel
theorem dX7_pressFor_101 : decode cX7_pressFor 101 = .ok (.if_icmp .lt 7, 3) := by decide +kernel
theorem dX7_pressFor_104 : decode cX7_pressFor 104 = .ok (.iconst 1, 1) := by decide +kernel
theorem dX7_pressFor_105 : decode cX7_pressFor 105 = .ok (.goto 4, 3) := by decide +kernel
theorem dX7_pressFor_108 : decode cX7_pressFor 108 = .ok (.iconst 0, 1) := by decide +kernel
theorem dX7_pressFor_109 : decode cX7_pressFor 109 = .ok (.istore 9, 2) := by decide +kernel
theorem dX7_pressFor_111 : decode cX7_pressFor 111 = .ok (.aload_n 0, 1) := by decide +kernel
theorem dX7_pressFor_112 : decode cX7_pressFor 112 = .ok (.getfield 12, 3) := by decide +kernel
theorem dX7_pressFor_115 : decode cX7_pressFor 115 = .ok (.getfield 102, 3) := by decide +kernel
theorem dX7_pressFor_118 : decode cX7_pressFor 118 = .ok (.iload 5, 2) := by decide +kernel
theorem dX7_pressFor_120 : decode cX7_pressFor 120 = .ok (.iaload, 1) := by decide +kernel
theorem dX7_pressFor_121 : decode cX7_pressFor 121 = .ok (.iconst 2, 1) := by decide +kernel
theorem dX7_pressFor_122 : decode cX7_pressFor 122 = .ok (.if_icmp .ne 20, 3) := by decide +kernel
theorem dX7_pressFor_125 : decode cX7_pressFor 125 = .ok (.aload_n 1, 1) := by decide +kernel
theorem dX7_pressFor_126 : decode cX7_pressFor 126 = .ok (.iload 5, 2) := by decide +kernel
theorem dX7_pressFor_128 : decode cX7_pressFor 128 = .ok (.iload 4, 2) := by decide +kernel
theorem dX7_pressFor_130 : decode cX7_pressFor 130 = .ok (.aload_n 0, 1) := by decide +kernel
theorem dX7_pressFor_131 : decode cX7_pressFor 131 = .ok (.getfield 49, 3) := by decide +kernel
theorem dX7_pressFor_134 : decode cX7_pressFor 134 = .ok (.iconst 1, 1) := by decide +kernel
theorem dX7_pressFor_135 : decode cX7_pressFor 135 = .ok (.iaload, 1) := by decide +kernel
theorem dX7_pressFor_136 : decode cX7_pressFor 136 = .ok (.invokevirtual 296, 3) := by decide +kernel
theorem dX7_pressFor_139 : decode cX7_pressFor 139 = .ok (.ifCond .eq 7, 3) := by decide +kernel
theorem dX7_pressFor_142 : decode cX7_pressFor 142 = .ok (.iconst 1, 1) := by decide +kernel
theorem dX7_pressFor_143 : decode cX7_pressFor 143 = .ok (.goto 4, 3) := by decide +kernel
theorem dX7_pressFor_146 : decode cX7_pressFor 146 = .ok (.iconst 0, 1) := by decide +kernel
theorem dX7_pressFor_147 : decode cX7_pressFor 147 = .ok (.istore 10, 2) := by decide +kernel
theorem dX7_pressFor_149 : decode cX7_pressFor 149 = .ok (.iload 9, 2) := by decide +kernel
theorem dX7_pressFor_151 : decode cX7_pressFor 151 = .ok (.ifCond .eq 17, 3) := by decide +kernel
theorem dX7_pressFor_154 : decode cX7_pressFor 154 = .ok (.iload 10, 2) := by decide +kernel
theorem dX7_pressFor_156 : decode cX7_pressFor 156 = .ok (.ifCond .eq 12, 3) := by decide +kernel
theorem dX7_pressFor_159 : decode cX7_pressFor 159 = .ok (.aload_n 1, 1) := by decide +kernel
theorem dX7_pressFor_160 : decode cX7_pressFor 160 = .ok (.iload 8, 2) := by decide +kernel
theorem dX7_pressFor_162 : decode cX7_pressFor 162 = .ok (.invokevirtual 215, 3) := by decide +kernel
theorem dX7_pressFor_165 : decode cX7_pressFor 165 = .ok (.iload 5, 2) := by decide +kernel
theorem dX7_pressFor_167 : decode cX7_pressFor 167 = .ok (.ireturn, 1) := by decide +kernel
theorem dX7_pressFor_168 : decode cX7_pressFor 168 = .ok (.aload_n 1, 1) := by decide +kernel
theorem dX7_pressFor_169 : decode cX7_pressFor 169 = .ok (.iload 5, 2) := by decide +kernel
theorem dX7_pressFor_171 : decode cX7_pressFor 171 = .ok (.iload 8, 2) := by decide +kernel
theorem dX7_pressFor_173 : decode cX7_pressFor 173 = .ok (.iload 4, 2) := by decide +kernel
theorem dX7_pressFor_175 : decode cX7_pressFor 175 = .ok (.invokevirtual 299, 3) := by decide +kernel
theorem dX7_pressFor_178 : decode cX7_pressFor 178 = .ok (.bipush 100, 2) := by decide +kernel
theorem dX7_pressFor_180 : decode cX7_pressFor 180 = .ok (.iload 5, 2) := by decide +kernel
theorem dX7_pressFor_182 : decode cX7_pressFor 182 = .ok (.iadd, 1) := by decide +kernel
theorem dX7_pressFor_183 : decode cX7_pressFor 183 = .ok (.ireturn, 1) := by decide +kernel
theorem dX7_weightOf_0 : decode cX7_weightOf 0 = .ok (.aload_n 1, 1) := by decide +kernel
theorem dX7_weightOf_1 : decode cX7_weightOf 1 = .ok (.getfield 147, 3) := by decide +kernel
theorem dX7_weightOf_4 : decode cX7_weightOf 4 = .ok (.iload_n 2, 1) := by decide +kernel
theorem dX7_weightOf_5 : decode cX7_weightOf 5 = .ok (.iload_n 3, 1) := by decide +kernel
theorem dX7_weightOf_6 : decode cX7_weightOf 6 = .ok (.iload 4, 2) := by decide +kernel
theorem dX7_weightOf_8 : decode cX7_weightOf 8 = .ok (.invokevirtual 293, 3) := by decide +kernel
theorem dX7_weightOf_11 : decode cX7_weightOf 11 = .ok (.istore 5, 2) := by decide +kernel
theorem dX7_weightOf_13 : decode cX7_weightOf 13 = .ok (.iload 5, 2) := by decide +kernel
theorem dX7_weightOf_15 : decode cX7_weightOf 15 = .ok (.iconst 0, 1) := by decide +kernel
theorem dX7_weightOf_16 : decode cX7_weightOf 16 = .ok (.iconst 2, 1) := by decide +kernel
theorem dX7_weightOf_17 : decode cX7_weightOf 17 = .ok (.invokestatic 66, 3) := by decide +kernel
theorem dX7_weightOf_20 : decode cX7_weightOf 20 = .ok (.ifCond .ne 5, 3) := by decide +kernel
theorem dX7_weightOf_23 : decode cX7_weightOf 23 = .ok (.iconst 0, 1) := by decide +kernel
theorem dX7_weightOf_24 : decode cX7_weightOf 24 = .ok (.ireturn, 1) := by decide +kernel
theorem dX7_weightOf_25 : decode cX7_weightOf 25 = .ok (.aload_n 0, 1) := by decide +kernel
theorem dX7_weightOf_26 : decode cX7_weightOf 26 = .ok (.getfield 12, 3) := by decide +kernel
theorem dX7_weightOf_29 : decode cX7_weightOf 29 = .ok (.getfield 105, 3) := by decide +kernel
theorem dX7_weightOf_32 : decode cX7_weightOf 32 = .ok (.iload_n 2, 1) := by decide +kernel
theorem dX7_weightOf_33 : decode cX7_weightOf 33 = .ok (.iaload, 1) := by decide +kernel
theorem dX7_weightOf_34 : decode cX7_weightOf 34 = .ok (.iconst 1, 1) := by decide +kernel
theorem dX7_weightOf_35 : decode cX7_weightOf 35 = .ok (.iadd, 1) := by decide +kernel
theorem dX7_weightOf_36 : decode cX7_weightOf 36 = .ok (.aload_n 1, 1) := by decide +kernel
theorem dX7_weightOf_37 : decode cX7_weightOf 37 = .ok (.getfield 225, 3) := by decide +kernel
theorem dX7_weightOf_40 : decode cX7_weightOf 40 = .ok (.iload 5, 2) := by decide +kernel
theorem dX7_weightOf_42 : decode cX7_weightOf 42 = .ok (.iaload, 1) := by decide +kernel
theorem dX7_weightOf_43 : decode cX7_weightOf 43 = .ok (.iconst 1, 1) := by decide +kernel
theorem dX7_weightOf_44 : decode cX7_weightOf 44 = .ok (.iadd, 1) := by decide +kernel
theorem dX7_weightOf_45 : decode cX7_weightOf 45 = .ok (.imul, 1) := by decide +kernel
theorem dX7_weightOf_46 : decode cX7_weightOf 46 = .ok (.ireturn, 1) := by decide +kernel
theorem dX7_leaveTrace_0 : decode cX7_leaveTrace 0 = .ok (.aload_n 0, 1) := by decide +kernel
theorem dX7_leaveTrace_1 : decode cX7_leaveTrace 1 = .ok (.bipush 31, 2) := by decide +kernel
theorem dX7_leaveTrace_3 : decode cX7_leaveTrace 3 = .ok (.aload_n 0, 1) := by decide +kernel
theorem dX7_leaveTrace_4 : decode cX7_leaveTrace 4 = .ok (.getfield 59, 3) := by decide +kernel
theorem dX7_leaveTrace_7 : decode cX7_leaveTrace 7 = .ok (.imul, 1) := by decide +kernel
theorem dX7_leaveTrace_8 : decode cX7_leaveTrace 8 = .ok (.iload_n 1, 1) := by decide +kernel
theorem dX7_leaveTrace_9 : decode cX7_leaveTrace 9 = .ok (.iadd, 1) := by decide +kernel
theorem dX7_leaveTrace_10 : decode cX7_leaveTrace 10 = .ok (.putfield 59, 3) := by decide +kernel
theorem dX7_leaveTrace_13 : decode cX7_leaveTrace 13 = .ok (.return_, 1) := by decide +kernel
theorem dX7_partBody_0 : decode cX7_partBody 0 = .ok (.aload_n 0, 1) := by decide +kernel
theorem dX7_partBody_1 : decode cX7_partBody 1 = .ok (.iconst 1, 1) := by decide +kernel
theorem dX7_partBody_2 : decode cX7_partBody 2 = .ok (.invokevirtual 303, 3) := by decide +kernel
theorem dX7_partBody_5 : decode cX7_partBody 5 = .ok (.aload_n 0, 1) := by decide +kernel
theorem dX7_partBody_6 : decode cX7_partBody 6 = .ok (.getfield 12, 3) := by decide +kernel
theorem dX7_partBody_9 : decode cX7_partBody 9 = .ok (.getfield 105, 3) := by decide +kernel
theorem dX7_partBody_12 : decode cX7_partBody 12 = .ok (.iload_n 1, 1) := by decide +kernel
theorem dX7_partBody_13 : decode cX7_partBody 13 = .ok (.iaload, 1) := by decide +kernel
theorem dX7_partBody_14 : decode cX7_partBody 14 = .ok (.ireturn, 1) := by decide +kernel
theorem dX7_deedBody_0 : decode cX7_deedBody 0 = .ok (.aload_n 0, 1) := by decide +kernel
theorem dX7_deedBody_1 : decode cX7_deedBody 1 = .ok (.iconst 2, 1) := by decide +kernel
theorem dX7_deedBody_2 : decode cX7_deedBody 2 = .ok (.invokevirtual 303, 3) := by decide +kernel
theorem dX7_deedBody_5 : decode cX7_deedBody 5 = .ok (.aload_n 0, 1) := by decide +kernel
theorem dX7_deedBody_6 : decode cX7_deedBody 6 = .ok (.iload_n 1, 1) := by decide +kernel
theorem dX7_deedBody_7 : decode cX7_deedBody 7 = .ok (.invokevirtual 275, 3) := by decide +kernel
theorem dX7_deedBody_10 : decode cX7_deedBody 10 = .ok (.sipush 1000, 3) := by decide +kernel
theorem dX7_deedBody_13 : decode cX7_deedBody 13 = .ok (.iadd, 1) := by decide +kernel
theorem dX7_deedBody_14 : decode cX7_deedBody 14 = .ok (.ireturn, 1) := by decide +kernel
theorem dX7_dangerBody_0 : decode cX7_dangerBody 0 = .ok (.aload_n 0, 1) := by decide +kernel
theorem dX7_dangerBody_1 : decode cX7_dangerBody 1 = .ok (.iconst 3, 1) := by decide +kernel
theorem dX7_dangerBody_2 : decode cX7_dangerBody 2 = .ok (.invokevirtual 303, 3) := by decide +kernel
theorem dX7_dangerBody_5 : decode cX7_dangerBody 5 = .ok (.aload_n 0, 1) := by decide +kernel
theorem dX7_dangerBody_6 : decode cX7_dangerBody 6 = .ok (.iload_n 1, 1) := by decide +kernel
theorem dX7_dangerBody_7 : decode cX7_dangerBody 7 = .ok (.invokevirtual 272, 3) := by decide +kernel
theorem dX7_dangerBody_10 : decode cX7_dangerBody 10 = .ok (.istore_n 2, 1) := by decide +kernel
theorem dX7_dangerBody_11 : decode cX7_dangerBody 11 = .ok (.iload_n 2, 1) := by decide +kernel
theorem dX7_dangerBody_12 : decode cX7_dangerBody 12 = .ok (.aload_n 0, 1) := by decide +kernel
theorem dX7_dangerBody_13 : decode cX7_dangerBody 13 = .ok (.iload_n 1, 1) := by decide +kernel
theorem dX7_dangerBody_14 : decode cX7_dangerBody 14 = .ok (.invokevirtual 275, 3) := by decide +kernel
theorem dX7_dangerBody_17 : decode cX7_dangerBody 17 = .ok (.iadd, 1) := by decide +kernel
theorem dX7_dangerBody_18 : decode cX7_dangerBody 18 = .ok (.ireturn, 1) := by decide +kernel
theorem dX7_lentBody_0 : decode cX7_lentBody 0 = .ok (.aload_n 0, 1) := by decide +kernel
theorem dX7_lentBody_1 : decode cX7_lentBody 1 = .ok (.iconst 4, 1) := by decide +kernel
theorem dX7_lentBody_2 : decode cX7_lentBody 2 = .ok (.invokevirtual 303, 3) := by decide +kernel
theorem dX7_lentBody_5 : decode cX7_lentBody 5 = .ok (.iload_n 1, 1) := by decide +kernel
theorem dX7_lentBody_6 : decode cX7_lentBody 6 = .ok (.ireturn, 1) := by decide +kernel
theorem dX7_dangerSpokenBody_0 : decode cX7_dangerSpokenBody 0 = .ok (.aload_n 0, 1) := by decide +kernel
theorem dX7_dangerSpokenBody_1 : decode cX7_dangerSpokenBody 1 = .ok (.iconst 5, 1) := by decide +kernel
theorem dX7_dangerSpokenBody_2 : decode cX7_dangerSpokenBody 2 = .ok (.invokevirtual 303, 3) := by decide +kernel
theorem dX7_dangerSpokenBody_5 : decode cX7_dangerSpokenBody 5 = .ok (.bipush 99, 2) := by decide +kernel
theorem dX7_dangerSpokenBody_7 : decode cX7_dangerSpokenBody 7 = .ok (.ireturn, 1) := by decide +kernel
theorem dX7_cutToLane_0 : decode cX7_cutToLane 0 = .ok (.iload_n 1, 1) := by decide +kernel
theorem dX7_cutToLane_1 : decode cX7_cutToLane 1 = .ok (.lookupswitch 33 #[(0, 27), (1, 30)], 27) := by decide +kernel
theorem dX7_cutToLane_28 : decode cX7_cutToLane 28 = .ok (.iload_n 0, 1) := by decide +kernel
theorem dX7_cutToLane_29 : decode cX7_cutToLane 29 = .ok (.i2b, 1) := by decide +kernel
theorem dX7_cutToLane_30 : decode cX7_cutToLane 30 = .ok (.ireturn, 1) := by decide +kernel
theorem dX7_cutToLane_31 : decode cX7_cutToLane 31 = .ok (.iload_n 0, 1) := by decide +kernel
theorem dX7_cutToLane_32 : decode cX7_cutToLane 32 = .ok (.i2s, 1) := by decide +kernel
theorem dX7_cutToLane_33 : decode cX7_cutToLane 33 = .ok (.ireturn, 1) := by decide +kernel
theorem dX7_cutToLane_34 : decode cX7_cutToLane 34 = .ok (.iload_n 0, 1) := by decide +kernel
theorem dX7_cutToLane_35 : decode cX7_cutToLane 35 = .ok (.ireturn, 1) := by decide +kernel
theorem dX7_columnOf_0 : decode cX7_columnOf 0 = .ok (.iload_n 0, 1) := by decide +kernel
theorem dX7_columnOf_1 : decode cX7_columnOf 1 = .ok (.iconst 4, 1) := by decide +kernel
theorem dX7_columnOf_2 : decode cX7_columnOf 2 = .ok (.irem, 1) := by decide +kernel
theorem dX7_columnOf_3 : decode cX7_columnOf 3 = .ok (.ireturn, 1) := by decide +kernel
theorem dX7_rowOf_0 : decode cX7_rowOf 0 = .ok (.iload_n 0, 1) := by decide +kernel
theorem dX7_rowOf_1 : decode cX7_rowOf 1 = .ok (.iconst 4, 1) := by decide +kernel
theorem dX7_rowOf_2 : decode cX7_rowOf 2 = .ok (.idiv, 1) := by decide +kernel
theorem dX7_rowOf_3 : decode cX7_rowOf 3 = .ok (.ireturn, 1) := by decide +kernel
theorem dX7_waysAsGreat_0 : decode cX7_waysAsGreat 0 = .ok (.iload_n 2, 1) := by decide +kernel
theorem dX7_waysAsGreat_1 : decode cX7_waysAsGreat 1 = .ok (.iload_n 1, 1) := by decide +kernel
theorem dX7_waysAsGreat_2 : decode cX7_waysAsGreat 2 = .ok (.if_icmp .ge 9, 3) := by decide +kernel
theorem dX7_waysAsGreat_5 : decode cX7_waysAsGreat 5 = .ok (.iload_n 2, 1) := by decide +kernel
theorem dX7_waysAsGreat_6 : decode cX7_waysAsGreat 6 = .ok (.aload_n 0, 1) := by decide +kernel
theorem dX7_waysAsGreat_7 : decode cX7_waysAsGreat 7 = .ok (.arraylength, 1) := by decide +kernel
theorem dX7_waysAsGreat_8 : decode cX7_waysAsGreat 8 = .ok (.if_icmp .lt 13, 3) := by decide +kernel
theorem dX7_waysAsGreat_11 : decode cX7_waysAsGreat 11 = .ok (.iload_n 3, 1) := by decide +kernel
theorem dX7_waysAsGreat_12 : decode cX7_waysAsGreat 12 = .ok (.ifCond .gt 7, 3) := by decide +kernel
theorem dX7_waysAsGreat_15 : decode cX7_waysAsGreat 15 = .ok (.iconst 1, 1) := by decide +kernel
theorem dX7_waysAsGreat_16 : decode cX7_waysAsGreat 16 = .ok (.goto 4, 3) := by decide +kernel
theorem dX7_waysAsGreat_19 : decode cX7_waysAsGreat 19 = .ok (.iconst 0, 1) := by decide +kernel
theorem dX7_waysAsGreat_20 : decode cX7_waysAsGreat 20 = .ok (.ireturn, 1) := by decide +kernel
theorem dX7_waysAsGreat_21 : decode cX7_waysAsGreat 21 = .ok (.aload_n 0, 1) := by decide +kernel
theorem dX7_waysAsGreat_22 : decode cX7_waysAsGreat 22 = .ok (.iload_n 1, 1) := by decide +kernel
theorem dX7_waysAsGreat_23 : decode cX7_waysAsGreat 23 = .ok (.iload_n 2, 1) := by decide +kernel
theorem dX7_waysAsGreat_24 : decode cX7_waysAsGreat 24 = .ok (.iconst 1, 1) := by decide +kernel
theorem dX7_waysAsGreat_25 : decode cX7_waysAsGreat 25 = .ok (.iadd, 1) := by decide +kernel
theorem dX7_waysAsGreat_26 : decode cX7_waysAsGreat 26 = .ok (.iload_n 3, 1) := by decide +kernel
theorem dX7_waysAsGreat_27 : decode cX7_waysAsGreat 27 = .ok (.invokestatic 246, 3) := by decide +kernel
theorem dX7_waysAsGreat_30 : decode cX7_waysAsGreat 30 = .ok (.aload_n 0, 1) := by decide +kernel
theorem dX7_waysAsGreat_31 : decode cX7_waysAsGreat 31 = .ok (.iload_n 1, 1) := by decide +kernel
theorem dX7_waysAsGreat_32 : decode cX7_waysAsGreat 32 = .ok (.iload_n 2, 1) := by decide +kernel
theorem dX7_waysAsGreat_33 : decode cX7_waysAsGreat 33 = .ok (.iconst 1, 1) := by decide +kernel
theorem dX7_waysAsGreat_34 : decode cX7_waysAsGreat 34 = .ok (.iadd, 1) := by decide +kernel
theorem dX7_waysAsGreat_35 : decode cX7_waysAsGreat 35 = .ok (.iload_n 3, 1) := by decide +kernel
theorem dX7_waysAsGreat_36 : decode cX7_waysAsGreat 36 = .ok (.aload_n 0, 1) := by decide +kernel
theorem dX7_waysAsGreat_37 : decode cX7_waysAsGreat 37 = .ok (.iload_n 2, 1) := by decide +kernel
theorem dX7_waysAsGreat_38 : decode cX7_waysAsGreat 38 = .ok (.iaload, 1) := by decide +kernel
theorem dX7_waysAsGreat_39 : decode cX7_waysAsGreat 39 = .ok (.iadd, 1) := by decide +kernel
theorem dX7_waysAsGreat_40 : decode cX7_waysAsGreat 40 = .ok (.invokestatic 246, 3) := by decide +kernel
theorem dX7_waysAsGreat_43 : decode cX7_waysAsGreat 43 = .ok (.iadd, 1) := by decide +kernel
theorem dX7_waysAsGreat_44 : decode cX7_waysAsGreat 44 = .ok (.ireturn, 1) := by decide +kernel
theorem dX7_shareNumber_0 : decode cX7_shareNumber 0 = .ok (.iconst 1, 1) := by decide +kernel
theorem dX7_shareNumber_1 : decode cX7_shareNumber 1 = .ok (.iload_n 0, 1) := by decide +kernel
theorem dX7_shareNumber_2 : decode cX7_shareNumber 2 = .ok (.iload_n 1, 1) := by decide +kernel
theorem dX7_shareNumber_3 : decode cX7_shareNumber 3 = .ok (.invokestatic 306, 3) := by decide +kernel
theorem dX7_shareNumber_6 : decode cX7_shareNumber 6 = .ok (.invokestatic 187, 3) := by decide +kernel
theorem dX7_shareNumber_9 : decode cX7_shareNumber 9 = .ok (.istore_n 3, 1) := by decide +kernel
theorem dX7_shareNumber_10 : decode cX7_shareNumber 10 = .ok (.iload_n 2, 1) := by decide +kernel
theorem dX7_shareNumber_11 : decode cX7_shareNumber 11 = .ok (.ifCond .ne 7, 3) := by decide +kernel
theorem dX7_shareNumber_14 : decode cX7_shareNumber 14 = .ok (.iload_n 0, 1) := by decide +kernel
theorem dX7_shareNumber_15 : decode cX7_shareNumber 15 = .ok (.goto 4, 3) := by decide +kernel
theorem dX7_shareNumber_18 : decode cX7_shareNumber 18 = .ok (.iload_n 1, 1) := by decide +kernel
theorem dX7_shareNumber_19 : decode cX7_shareNumber 19 = .ok (.iload_n 3, 1) := by decide +kernel
theorem dX7_shareNumber_20 : decode cX7_shareNumber 20 = .ok (.idiv, 1) := by decide +kernel
theorem dX7_shareNumber_21 : decode cX7_shareNumber 21 = .ok (.ireturn, 1) := by decide +kernel
theorem dX7_greatestDivisor_0 : decode cX7_greatestDivisor 0 = .ok (.iload_n 0, 1) := by decide +kernel
theorem dX7_greatestDivisor_1 : decode cX7_greatestDivisor 1 = .ok (.istore_n 2, 1) := by decide +kernel
theorem dX7_greatestDivisor_2 : decode cX7_greatestDivisor 2 = .ok (.iload_n 1, 1) := by decide +kernel
theorem dX7_greatestDivisor_3 : decode cX7_greatestDivisor 3 = .ok (.istore_n 3, 1) := by decide +kernel
theorem dX7_greatestDivisor_4 : decode cX7_greatestDivisor 4 = .ok (.iconst 0, 1) := by decide +kernel
theorem dX7_greatestDivisor_5 : decode cX7_greatestDivisor 5 = .ok (.istore 4, 2) := by decide +kernel
theorem dX7_greatestDivisor_7 : decode cX7_greatestDivisor 7 = .ok (.iload 4, 2) := by decide +kernel
theorem dX7_greatestDivisor_9 : decode cX7_greatestDivisor 9 = .ok (.bipush 100, 2) := by decide +kernel
theorem dX7_greatestDivisor_11 : decode cX7_greatestDivisor 11 = .ok (.if_icmp .ge 23, 3) := by decide +kernel
theorem dX7_greatestDivisor_14 : decode cX7_greatestDivisor 14 = .ok (.iload_n 3, 1) := by decide +kernel
theorem dX7_greatestDivisor_15 : decode cX7_greatestDivisor 15 = .ok (.ifCond .eq 19, 3) := by decide +kernel
theorem dX7_greatestDivisor_18 : decode cX7_greatestDivisor 18 = .ok (.iload_n 2, 1) := by decide +kernel
theorem dX7_greatestDivisor_19 : decode cX7_greatestDivisor 19 = .ok (.iload_n 3, 1) := by decide +kernel
theorem dX7_greatestDivisor_20 : decode cX7_greatestDivisor 20 = .ok (.irem, 1) := by decide +kernel
theorem dX7_greatestDivisor_21 : decode cX7_greatestDivisor 21 = .ok (.istore 5, 2) := by decide +kernel
theorem dX7_greatestDivisor_23 : decode cX7_greatestDivisor 23 = .ok (.iload_n 3, 1) := by decide +kernel
theorem dX7_greatestDivisor_24 : decode cX7_greatestDivisor 24 = .ok (.istore_n 2, 1) := by decide +kernel
theorem dX7_greatestDivisor_25 : decode cX7_greatestDivisor 25 = .ok (.iload 5, 2) := by decide +kernel
theorem dX7_greatestDivisor_27 : decode cX7_greatestDivisor 27 = .ok (.istore_n 3, 1) := by decide +kernel
theorem dX7_greatestDivisor_28 : decode cX7_greatestDivisor 28 = .ok (.iinc 4 1, 3) := by decide +kernel
theorem dX7_greatestDivisor_31 : decode cX7_greatestDivisor 31 = .ok (.goto (-24), 3) := by decide +kernel
theorem dX7_greatestDivisor_34 : decode cX7_greatestDivisor 34 = .ok (.iload_n 2, 1) := by decide +kernel
theorem dX7_greatestDivisor_35 : decode cX7_greatestDivisor 35 = .ok (.ireturn, 1) := by decide +kernel
theorem dX8_init_0 : decode cX8_init 0 = .ok (.aload_n 0, 1) := by decide +kernel
theorem dX8_init_1 : decode cX8_init 1 = .ok (.invokespecial 1, 3) := by decide +kernel
theorem dX8_init_4 : decode cX8_init 4 = .ok (.aload_n 0, 1) := by decide +kernel
theorem dX8_init_5 : decode cX8_init 5 = .ok (.bipush 10, 2) := by decide +kernel
theorem dX8_init_7 : decode cX8_init 7 = .ok (.newarray .int, 2) := by decide +kernel
theorem dX8_init_9 : decode cX8_init 9 = .ok (.putfield 7, 3) := by decide +kernel
theorem dX8_init_12 : decode cX8_init 12 = .ok (.aload_n 0, 1) := by decide +kernel
theorem dX8_init_13 : decode cX8_init 13 = .ok (.bipush 10, 2) := by decide +kernel
theorem dX8_init_15 : decode cX8_init 15 = .ok (.newarray .int, 2) := by decide +kernel
theorem dX8_init_17 : decode cX8_init 17 = .ok (.putfield 13, 3) := by decide +kernel
theorem dX8_init_20 : decode cX8_init 20 = .ok (.aload_n 0, 1) := by decide +kernel
theorem dX8_init_21 : decode cX8_init 21 = .ok (.bipush 100, 2) := by decide +kernel
theorem dX8_init_23 : decode cX8_init 23 = .ok (.newarray .int, 2) := by decide +kernel
theorem dX8_init_25 : decode cX8_init 25 = .ok (.putfield 16, 3) := by decide +kernel
theorem dX8_init_28 : decode cX8_init 28 = .ok (.aload_n 0, 1) := by decide +kernel
theorem dX8_init_29 : decode cX8_init 29 = .ok (.bipush 10, 2) := by decide +kernel
theorem dX8_init_31 : decode cX8_init 31 = .ok (.newarray .int, 2) := by decide +kernel
theorem dX8_init_33 : decode cX8_init 33 = .ok (.putfield 19, 3) := by decide +kernel
theorem dX8_init_36 : decode cX8_init 36 = .ok (.aload_n 0, 1) := by decide +kernel
theorem dX8_init_37 : decode cX8_init 37 = .ok (.bipush 10, 2) := by decide +kernel
theorem dX8_init_39 : decode cX8_init 39 = .ok (.newarray .int, 2) := by decide +kernel
theorem dX8_init_41 : decode cX8_init 41 = .ok (.putfield 22, 3) := by decide +kernel
theorem dX8_init_44 : decode cX8_init 44 = .ok (.aload_n 0, 1) := by decide +kernel
theorem dX8_init_45 : decode cX8_init 45 = .ok (.bipush 100, 2) := by decide +kernel
theorem dX8_init_47 : decode cX8_init 47 = .ok (.newarray .int, 2) := by decide +kernel
theorem dX8_init_49 : decode cX8_init 49 = .ok (.putfield 25, 3) := by decide +kernel
theorem dX8_init_52 : decode cX8_init 52 = .ok (.aload_n 0, 1) := by decide +kernel
theorem dX8_init_53 : decode cX8_init 53 = .ok (.iconst 4, 1) := by decide +kernel
theorem dX8_init_54 : decode cX8_init 54 = .ok (.newarray .int, 2) := by decide +kernel
theorem dX8_init_56 : decode cX8_init 56 = .ok (.putfield 28, 3) := by decide +kernel
theorem dX8_init_59 : decode cX8_init 59 = .ok (.aload_n 0, 1) := by decide +kernel
theorem dX8_init_60 : decode cX8_init 60 = .ok (.iconst 4, 1) := by decide +kernel
theorem dX8_init_61 : decode cX8_init 61 = .ok (.newarray .int, 2) := by decide +kernel
theorem dX8_init_63 : decode cX8_init 63 = .ok (.putfield 31, 3) := by decide +kernel
theorem dX8_init_66 : decode cX8_init 66 = .ok (.aload_n 0, 1) := by decide +kernel
theorem dX8_init_67 : decode cX8_init 67 = .ok (.iconst 4, 1) := by decide +kernel
theorem dX8_init_68 : decode cX8_init 68 = .ok (.newarray .int, 2) := by decide +kernel
theorem dX8_init_70 : decode cX8_init 70 = .ok (.putfield 34, 3) := by decide +kernel
theorem dX8_init_73 : decode cX8_init 73 = .ok (.aload_n 0, 1) := by decide +kernel
theorem dX8_init_74 : decode cX8_init 74 = .ok (.iconst 4, 1) := by decide +kernel
theorem dX8_init_75 : decode cX8_init 75 = .ok (.newarray .boolean, 2) := by decide +kernel
theorem dX8_init_77 : decode cX8_init 77 = .ok (.putfield 37, 3) := by decide +kernel
theorem dX8_init_80 : decode cX8_init 80 = .ok (.aload_n 0, 1) := by decide +kernel
theorem dX8_init_81 : decode cX8_init 81 = .ok (.iconst 4, 1) := by decide +kernel
theorem dX8_init_82 : decode cX8_init 82 = .ok (.newarray .boolean, 2) := by decide +kernel
theorem dX8_init_84 : decode cX8_init 84 = .ok (.putfield 41, 3) := by decide +kernel
theorem dX8_init_87 : decode cX8_init 87 = .ok (.aload_n 0, 1) := by decide +kernel
theorem dX8_init_88 : decode cX8_init 88 = .ok (.bipush 40, 2) := by decide +kernel
theorem dX8_init_90 : decode cX8_init 90 = .ok (.newarray .int, 2) := by decide +kernel
theorem dX8_init_92 : decode cX8_init 92 = .ok (.putfield 44, 3) := by decide +kernel
theorem dX8_init_95 : decode cX8_init 95 = .ok (.aload_n 0, 1) := by decide +kernel
theorem dX8_init_96 : decode cX8_init 96 = .ok (.bipush 40, 2) := by decide +kernel
theorem dX8_init_98 : decode cX8_init 98 = .ok (.newarray .int, 2) := by decide +kernel
theorem dX8_init_100 : decode cX8_init 100 = .ok (.putfield 47, 3) := by decide +kernel
theorem dX8_init_103 : decode cX8_init 103 = .ok (.aload_n 0, 1) := by decide +kernel
theorem dX8_init_104 : decode cX8_init 104 = .ok (.iconst 5, 1) := by decide +kernel
theorem dX8_init_105 : decode cX8_init 105 = .ok (.newarray .int, 2) := by decide +kernel
theorem dX8_init_107 : decode cX8_init 107 = .ok (.putfield 50, 3) := by decide +kernel
theorem dX8_init_110 : decode cX8_init 110 = .ok (.aload_n 0, 1) := by decide +kernel
theorem dX8_init_111 : decode cX8_init 111 = .ok (.iconst 5, 1) := by decide +kernel
theorem dX8_init_112 : decode cX8_init 112 = .ok (.newarray .int, 2) := by decide +kernel
theorem dX8_init_114 : decode cX8_init 114 = .ok (.putfield 53, 3) := by decide +kernel
theorem dX8_init_117 : decode cX8_init 117 = .ok (.aload_n 0, 1) := by decide +kernel
theorem dX8_init_118 : decode cX8_init 118 = .ok (.iconst 5, 1) := by decide +kernel
theorem dX8_init_119 : decode cX8_init 119 = .ok (.newarray .int, 2) := by decide +kernel
theorem dX8_init_121 : decode cX8_init 121 = .ok (.putfield 56, 3) := by decide +kernel
theorem dX8_init_124 : decode cX8_init 124 = .ok (.aload_n 0, 1) := by decide +kernel
theorem dX8_init_125 : decode cX8_init 125 = .ok (.bipush 20, 2) := by decide +kernel
theorem dX8_init_127 : decode cX8_init 127 = .ok (.newarray .int, 2) := by decide +kernel
theorem dX8_init_129 : decode cX8_init 129 = .ok (.putfield 59, 3) := by decide +kernel
theorem dX8_init_132 : decode cX8_init 132 = .ok (.aload_n 0, 1) := by decide +kernel
theorem dX8_init_133 : decode cX8_init 133 = .ok (.bipush 20, 2) := by decide +kernel
theorem dX8_init_135 : decode cX8_init 135 = .ok (.newarray .int, 2) := by decide +kernel
theorem dX8_init_137 : decode cX8_init 137 = .ok (.putfield 62, 3) := by decide +kernel
theorem dX8_init_140 : decode cX8_init 140 = .ok (.aload_n 0, 1) := by decide +kernel
theorem dX8_init_141 : decode cX8_init 141 = .ok (.bipush 10, 2) := by decide +kernel
theorem dX8_init_143 : decode cX8_init 143 = .ok (.newarray .int, 2) := by decide +kernel
theorem dX8_init_145 : decode cX8_init 145 = .ok (.putfield 65, 3) := by decide +kernel
theorem dX8_init_148 : decode cX8_init 148 = .ok (.aload_n 0, 1) := by decide +kernel
theorem dX8_init_149 : decode cX8_init 149 = .ok (.iconst 4, 1) := by decide +kernel
theorem dX8_init_150 : decode cX8_init 150 = .ok (.newarray .int, 2) := by decide +kernel
theorem dX8_init_152 : decode cX8_init 152 = .ok (.putfield 68, 3) := by decide +kernel
theorem dX8_init_155 : decode cX8_init 155 = .ok (.aload_n 0, 1) := by decide +kernel
theorem dX8_init_156 : decode cX8_init 156 = .ok (.iconst 4, 1) := by decide +kernel
theorem dX8_init_157 : decode cX8_init 157 = .ok (.newarray .int, 2) := by decide +kernel
theorem dX8_init_159 : decode cX8_init 159 = .ok (.putfield 71, 3) := by decide +kernel
theorem dX8_init_162 : decode cX8_init 162 = .ok (.aload_n 0, 1) := by decide +kernel
theorem dX8_init_163 : decode cX8_init 163 = .ok (.iconst 4, 1) := by decide +kernel
theorem dX8_init_164 : decode cX8_init 164 = .ok (.newarray .int, 2) := by decide +kernel
theorem dX8_init_166 : decode cX8_init 166 = .ok (.putfield 74, 3) := by decide +kernel
theorem dX8_init_169 : decode cX8_init 169 = .ok (.aload_n 0, 1) := by decide +kernel
theorem dX8_init_170 : decode cX8_init 170 = .ok (.iconst 4, 1) := by decide +kernel
theorem dX8_init_171 : decode cX8_init 171 = .ok (.newarray .int, 2) := by decide +kernel
theorem dX8_init_173 : decode cX8_init 173 = .ok (.putfield 77, 3) := by decide +kernel
theorem dX8_init_176 : decode cX8_init 176 = .ok (.aload_n 0, 1) := by decide +kernel
theorem dX8_init_177 : decode cX8_init 177 = .ok (.bipush 12, 2) := by decide +kernel
theorem dX8_init_179 : decode cX8_init 179 = .ok (.newarray .int, 2) := by decide +kernel
theorem dX8_init_181 : decode cX8_init 181 = .ok (.putfield 80, 3) := by decide +kernel
theorem dX8_init_184 : decode cX8_init 184 = .ok (.aload_n 0, 1) := by decide +kernel
theorem dX8_init_185 : decode cX8_init 185 = .ok (.iconst 4, 1) := by decide +kernel
theorem dX8_init_186 : decode cX8_init 186 = .ok (.newarray .int, 2) := by decide +kernel
theorem dX8_init_188 : decode cX8_init 188 = .ok (.putfield 83, 3) := by decide +kernel
theorem dX8_init_191 : decode cX8_init 191 = .ok (.aload_n 0, 1) := by decide +kernel
theorem dX8_init_192 : decode cX8_init 192 = .ok (.bipush 48, 2) := by decide +kernel
theorem dX8_init_194 : decode cX8_init 194 = .ok (.newarray .int, 2) := by decide +kernel
theorem dX8_init_196 : decode cX8_init 196 = .ok (.putfield 86, 3) := by decide +kernel
theorem dX8_init_199 : decode cX8_init 199 = .ok (.aload_n 0, 1) := by decide +kernel
theorem dX8_init_200 : decode cX8_init 200 = .ok (.iconst 4, 1) := by decide +kernel
theorem dX8_init_201 : decode cX8_init 201 = .ok (.newarray .int, 2) := by decide +kernel
theorem dX8_init_203 : decode cX8_init 203 = .ok (.putfield 89, 3) := by decide +kernel
theorem dX8_init_206 : decode cX8_init 206 = .ok (.aload_n 0, 1) := by decide +kernel
theorem dX8_init_207 : decode cX8_init 207 = .ok (.bipush 40, 2) := by decide +kernel
theorem dX8_init_209 : decode cX8_init 209 = .ok (.newarray .int, 2) := by decide +kernel
theorem dX8_init_211 : decode cX8_init 211 = .ok (.putfield 92, 3) := by decide +kernel
theorem dX8_init_214 : decode cX8_init 214 = .ok (.aload_n 0, 1) := by decide +kernel
theorem dX8_init_215 : decode cX8_init 215 = .ok (.bipush 32, 2) := by decide +kernel
theorem dX8_init_217 : decode cX8_init 217 = .ok (.newarray .int, 2) := by decide +kernel
theorem dX8_init_219 : decode cX8_init 219 = .ok (.putfield 95, 3) := by decide +kernel
theorem dX8_init_222 : decode cX8_init 222 = .ok (.aload_n 0, 1) := by decide +kernel
theorem dX8_init_223 : decode cX8_init 223 = .ok (.iconst 4, 1) := by decide +kernel
theorem dX8_init_224 : decode cX8_init 224 = .ok (.newarray .int, 2) := by decide +kernel
theorem dX8_init_226 : decode cX8_init 226 = .ok (.putfield 98, 3) := by decide +kernel
theorem dX8_init_229 : decode cX8_init 229 = .ok (.aload_n 0, 1) := by decide +kernel
theorem dX8_init_230 : decode cX8_init 230 = .ok (.iconst 4, 1) := by decide +kernel
theorem dX8_init_231 : decode cX8_init 231 = .ok (.newarray .int, 2) := by decide +kernel
theorem dX8_init_233 : decode cX8_init 233 = .ok (.putfield 101, 3) := by decide +kernel
theorem dX8_init_236 : decode cX8_init 236 = .ok (.aload_n 0, 1) := by decide +kernel
theorem dX8_init_237 : decode cX8_init 237 = .ok (.sipush 240, 3) := by decide +kernel
theorem dX8_init_240 : decode cX8_init 240 = .ok (.newarray .int, 2) := by decide +kernel
theorem dX8_init_242 : decode cX8_init 242 = .ok (.putfield 104, 3) := by decide +kernel
theorem dX8_init_245 : decode cX8_init 245 = .ok (.aload_n 0, 1) := by decide +kernel
theorem dX8_init_246 : decode cX8_init 246 = .ok (.bipush 60, 2) := by decide +kernel
theorem dX8_init_248 : decode cX8_init 248 = .ok (.newarray .int, 2) := by decide +kernel
theorem dX8_init_250 : decode cX8_init 250 = .ok (.putfield 107, 3) := by decide +kernel
theorem dX8_init_253 : decode cX8_init 253 = .ok (.aload_n 0, 1) := by decide +kernel
theorem dX8_init_254 : decode cX8_init 254 = .ok (.iconst 5, 1) := by decide +kernel
theorem dX8_init_255 : decode cX8_init 255 = .ok (.putfield 110, 3) := by decide +kernel
theorem dX8_init_258 : decode cX8_init 258 = .ok (.aload_n 0, 1) := by decide +kernel
theorem dX8_init_259 : decode cX8_init 259 = .ok (.bipush 10, 2) := by decide +kernel
theorem dX8_init_261 : decode cX8_init 261 = .ok (.putfield 114, 3) := by decide +kernel
theorem dX8_init_264 : decode cX8_init 264 = .ok (.iconst 0, 1) := by decide +kernel
theorem dX8_init_265 : decode cX8_init 265 = .ok (.istore_n 1, 1) := by decide +kernel
theorem dX8_init_266 : decode cX8_init 266 = .ok (.iload_n 1, 1) := by decide +kernel
theorem dX8_init_267 : decode cX8_init 267 = .ok (.iconst 4, 1) := by decide +kernel
theorem dX8_init_268 : decode cX8_init 268 = .ok (.if_icmp .ge 34, 3) := by decide +kernel
theorem dX8_init_271 : decode cX8_init 271 = .ok (.aload_n 0, 1) := by decide +kernel
theorem dX8_init_272 : decode cX8_init 272 = .ok (.getfield 31, 3) := by decide +kernel
theorem dX8_init_275 : decode cX8_init 275 = .ok (.iload_n 1, 1) := by decide +kernel
theorem dX8_init_276 : decode cX8_init 276 = .ok (.sipush 4095, 3) := by decide +kernel
theorem dX8_init_279 : decode cX8_init 279 = .ok (.iastore, 1) := by decide +kernel
theorem dX8_init_280 : decode cX8_init 280 = .ok (.aload_n 0, 1) := by decide +kernel
theorem dX8_init_281 : decode cX8_init 281 = .ok (.getfield 34, 3) := by decide +kernel
theorem dX8_init_284 : decode cX8_init 284 = .ok (.iload_n 1, 1) := by decide +kernel
theorem dX8_init_285 : decode cX8_init 285 = .ok (.bipush 10, 2) := by decide +kernel
theorem dX8_init_287 : decode cX8_init 287 = .ok (.iastore, 1) := by decide +kernel
theorem dX8_init_288 : decode cX8_init 288 = .ok (.aload_n 0, 1) := by decide +kernel
theorem dX8_init_289 : decode cX8_init 289 = .ok (.getfield 68, 3) := by decide +kernel
theorem dX8_init_292 : decode cX8_init 292 = .ok (.iload_n 1, 1) := by decide +kernel
theorem dX8_init_293 : decode cX8_init 293 = .ok (.bipush (-9), 2) := by decide +kernel
theorem dX8_init_295 : decode cX8_init 295 = .ok (.iastore, 1) := by decide +kernel
theorem dX8_init_296 : decode cX8_init 296 = .ok (.iinc 1 1, 3) := by decide +kernel
theorem dX8_init_299 : decode cX8_init 299 = .ok (.goto (-33), 3) := by decide +kernel
theorem dX8_init_302 : decode cX8_init 302 = .ok (.iconst 0, 1) := by decide +kernel
theorem dX8_init_303 : decode cX8_init 303 = .ok (.istore_n 1, 1) := by decide +kernel
theorem dX8_init_304 : decode cX8_init 304 = .ok (.iload_n 1, 1) := by decide +kernel
theorem dX8_init_305 : decode cX8_init 305 = .ok (.bipush 40, 2) := by decide +kernel
theorem dX8_init_307 : decode cX8_init 307 = .ok (.if_icmp .ge 25, 3) := by decide +kernel
theorem dX8_init_310 : decode cX8_init 310 = .ok (.aload_n 0, 1) := by decide +kernel
theorem dX8_init_311 : decode cX8_init 311 = .ok (.getfield 44, 3) := by decide +kernel
theorem dX8_init_314 : decode cX8_init 314 = .ok (.iload_n 1, 1) := by decide +kernel
theorem dX8_init_315 : decode cX8_init 315 = .ok (.bipush (-9), 2) := by decide +kernel
theorem dX8_init_317 : decode cX8_init 317 = .ok (.iastore, 1) := by decide +kernel
theorem dX8_init_318 : decode cX8_init 318 = .ok (.aload_n 0, 1) := by decide +kernel
theorem dX8_init_319 : decode cX8_init 319 = .ok (.getfield 47, 3) := by decide +kernel
theorem dX8_init_322 : decode cX8_init 322 = .ok (.iload_n 1, 1) := by decide +kernel
theorem dX8_init_323 : decode cX8_init 323 = .ok (.bipush (-9), 2) := by decide +kernel
theorem dX8_init_325 : decode cX8_init 325 = .ok (.iastore, 1) := by decide +kernel
theorem dX8_init_326 : decode cX8_init 326 = .ok (.iinc 1 1, 3) := by decide +kernel
theorem dX8_init_329 : decode cX8_init 329 = .ok (.goto (-25), 3) := by decide +kernel
theorem dX8_init_332 : decode cX8_init 332 = .ok (.iconst 0, 1) := by decide +kernel
theorem dX8_init_333 : decode cX8_init 333 = .ok (.istore_n 1, 1) := by decide +kernel
theorem dX8_init_334 : decode cX8_init 334 = .ok (.iload_n 1, 1) := by decide +kernel
theorem dX8_init_335 : decode cX8_init 335 = .ok (.bipush 32, 2) := by decide +kernel
theorem dX8_init_337 : decode cX8_init 337 = .ok (.if_icmp .ge 17, 3) := by decide +kernel
theorem dX8_init_340 : decode cX8_init 340 = .ok (.aload_n 0, 1) := by decide +kernel
theorem dX8_init_341 : decode cX8_init 341 = .ok (.getfield 95, 3) := by decide +kernel
theorem dX8_init_344 : decode cX8_init 344 = .ok (.iload_n 1, 1) := by decide +kernel
theorem dX8_init_345 : decode cX8_init 345 = .ok (.bipush (-9), 2) := by decide +kernel
theorem dX8_init_347 : decode cX8_init 347 = .ok (.iastore, 1) := by decide +kernel
theorem dX8_init_348 : decode cX8_init 348 = .ok (.iinc 1 1, 3) := by decide +kernel
theorem dX8_init_351 : decode cX8_init 351 = .ok (.goto (-17), 3) := by decide +kernel
theorem dX8_init_354 : decode cX8_init 354 = .ok (.iconst 0, 1) := by decide +kernel
theorem dX8_init_355 : decode cX8_init 355 = .ok (.istore_n 1, 1) := by decide +kernel
theorem dX8_init_356 : decode cX8_init 356 = .ok (.iload_n 1, 1) := by decide +kernel
theorem dX8_init_357 : decode cX8_init 357 = .ok (.iconst 4, 1) := by decide +kernel
theorem dX8_init_358 : decode cX8_init 358 = .ok (.if_icmp .ge 16, 3) := by decide +kernel
theorem dX8_init_361 : decode cX8_init 361 = .ok (.aload_n 0, 1) := by decide +kernel
theorem dX8_init_362 : decode cX8_init 362 = .ok (.getfield 98, 3) := by decide +kernel
theorem dX8_init_365 : decode cX8_init 365 = .ok (.iload_n 1, 1) := by decide +kernel
theorem dX8_init_366 : decode cX8_init 366 = .ok (.iconst (-1), 1) := by decide +kernel
theorem dX8_init_367 : decode cX8_init 367 = .ok (.iastore, 1) := by decide +kernel
theorem dX8_init_368 : decode cX8_init 368 = .ok (.iinc 1 1, 3) := by decide +kernel
theorem dX8_init_371 : decode cX8_init 371 = .ok (.goto (-15), 3) := by decide +kernel
theorem dX8_init_374 : decode cX8_init 374 = .ok (.return_, 1) := by decide +kernel
theorem dX8_in_0 : decode cX8_in 0 = .ok (.lload_n 0, 1) := by decide +kernel
theorem dX8_in_1 : decode cX8_in 1 = .ok (.lload_n 2, 1) := by decide +kernel
theorem dX8_in_2 : decode cX8_in 2 = .ok (.lcmp, 1) := by decide +kernel
theorem dX8_in_3 : decode cX8_in 3 = .ok (.ifCond .lt 14, 3) := by decide +kernel
theorem dX8_in_6 : decode cX8_in 6 = .ok (.lload_n 0, 1) := by decide +kernel
theorem dX8_in_7 : decode cX8_in 7 = .ok (.lload 4, 2) := by decide +kernel
theorem dX8_in_9 : decode cX8_in 9 = .ok (.lcmp, 1) := by decide +kernel
theorem dX8_in_10 : decode cX8_in 10 = .ok (.ifCond .gt 7, 3) := by decide +kernel
theorem dX8_in_13 : decode cX8_in 13 = .ok (.iconst 1, 1) := by decide +kernel
theorem dX8_in_14 : decode cX8_in 14 = .ok (.goto 4, 3) := by decide +kernel
theorem dX8_in_17 : decode cX8_in 17 = .ok (.iconst 0, 1) := by decide +kernel
theorem dX8_in_18 : decode cX8_in 18 = .ok (.ireturn, 1) := by decide +kernel
theorem dX8_lost_0 : decode cX8_lost 0 = .ok (.ldc2_w 117, 3) := by decide +kernel
theorem dX8_lost_3 : decode cX8_lost 3 = .ok (.lreturn, 1) := by decide +kernel
theorem dX8_hasBit_0 : decode cX8_hasBit 0 = .ok (.iload_n 0, 1) := by decide +kernel
theorem dX8_hasBit_1 : decode cX8_hasBit 1 = .ok (.iload_n 1, 1) := by decide +kernel
theorem dX8_hasBit_2 : decode cX8_hasBit 2 = .ok (.ishr, 1) := by decide +kernel
theorem dX8_hasBit_3 : decode cX8_hasBit 3 = .ok (.iconst 1, 1) := by decide +kernel
theorem dX8_hasBit_4 : decode cX8_hasBit 4 = .ok (.iand, 1) := by decide +kernel
theorem dX8_hasBit_5 : decode cX8_hasBit 5 = .ok (.iconst 1, 1) := by decide +kernel
theorem dX8_hasBit_6 : decode cX8_hasBit 6 = .ok (.if_icmp .ne 7, 3) := by decide +kernel
theorem dX8_hasBit_9 : decode cX8_hasBit 9 = .ok (.iconst 1, 1) := by decide +kernel
theorem dX8_hasBit_10 : decode cX8_hasBit 10 = .ok (.goto 4, 3) := by decide +kernel
theorem dX8_hasBit_13 : decode cX8_hasBit 13 = .ok (.iconst 0, 1) := by decide +kernel
theorem dX8_hasBit_14 : decode cX8_hasBit 14 = .ok (.ireturn, 1) := by decide +kernel
theorem dX8_bits_0 : decode cX8_bits 0 = .ok (.iconst 0, 1) := by decide +kernel
theorem dX8_bits_1 : decode cX8_bits 1 = .ok (.istore_n 1, 1) := by decide +kernel
theorem dX8_bits_2 : decode cX8_bits 2 = .ok (.iconst 0, 1) := by decide +kernel
theorem dX8_bits_3 : decode cX8_bits 3 = .ok (.istore_n 2, 1) := by decide +kernel
theorem dX8_bits_4 : decode cX8_bits 4 = .ok (.iload_n 2, 1) := by decide +kernel
theorem dX8_bits_5 : decode cX8_bits 5 = .ok (.bipush 16, 2) := by decide +kernel
theorem dX8_bits_7 : decode cX8_bits 7 = .ok (.if_icmp .ge 17, 3) := by decide +kernel
theorem dX8_bits_10 : decode cX8_bits 10 = .ok (.iload_n 1, 1) := by decide +kernel
theorem dX8_bits_11 : decode cX8_bits 11 = .ok (.iload_n 0, 1) := by decide +kernel
theorem dX8_bits_12 : decode cX8_bits 12 = .ok (.iload_n 2, 1) := by decide +kernel
theorem dX8_bits_13 : decode cX8_bits 13 = .ok (.ishr, 1) := by decide +kernel
theorem dX8_bits_14 : decode cX8_bits 14 = .ok (.iconst 1, 1) := by decide +kernel
theorem dX8_bits_15 : decode cX8_bits 15 = .ok (.iand, 1) := by decide +kernel
theorem dX8_bits_16 : decode cX8_bits 16 = .ok (.iadd, 1) := by decide +kernel
theorem dX8_bits_17 : decode cX8_bits 17 = .ok (.istore_n 1, 1) := by decide +kernel
theorem dX8_bits_18 : decode cX8_bits 18 = .ok (.iinc 2 1, 3) := by decide +kernel
theorem dX8_bits_21 : decode cX8_bits 21 = .ok (.goto (-17), 3) := by decide +kernel
theorem dX8_bits_24 : decode cX8_bits 24 = .ok (.iload_n 1, 1) := by decide +kernel
theorem dX8_bits_25 : decode cX8_bits 25 = .ok (.ireturn, 1) := by decide +kernel
theorem dX8_sizeOf_0 : decode cX8_sizeOf 0 = .ok (.iload_n 0, 1) := by decide +kernel
theorem dX8_sizeOf_1 : decode cX8_sizeOf 1 = .ok (.ifCond .ge 8, 3) := by decide +kernel
theorem dX8_sizeOf_4 : decode cX8_sizeOf 4 = .ok (.iload_n 0, 1) := by decide +kernel
theorem dX8_sizeOf_5 : decode cX8_sizeOf 5 = .ok (.ineg, 1) := by decide +kernel
theorem dX8_sizeOf_6 : decode cX8_sizeOf 6 = .ok (.goto 4, 3) := by decide +kernel
theorem dX8_sizeOf_9 : decode cX8_sizeOf 9 = .ok (.iload_n 0, 1) := by decide +kernel
theorem dX8_sizeOf_10 : decode cX8_sizeOf 10 = .ok (.ireturn, 1) := by decide +kernel
theorem dX8_greater_0 : decode cX8_greater 0 = .ok (.iload_n 0, 1) := by decide +kernel
theorem dX8_greater_1 : decode cX8_greater 1 = .ok (.iload_n 1, 1) := by decide +kernel
theorem dX8_greater_2 : decode cX8_greater 2 = .ok (.if_icmp .le 7, 3) := by decide +kernel
theorem dX8_greater_5 : decode cX8_greater 5 = .ok (.iload_n 0, 1) := by decide +kernel
theorem dX8_greater_6 : decode cX8_greater 6 = .ok (.goto 4, 3) := by decide +kernel
theorem dX8_greater_9 : decode cX8_greater 9 = .ok (.iload_n 1, 1) := by decide +kernel
theorem dX8_greater_10 : decode cX8_greater 10 = .ok (.ireturn, 1) := by decide +kernel
theorem dX8_share_0 : decode cX8_share 0 = .ok (.lload_n 0, 1) := by decide +kernel
theorem dX8_share_1 : decode cX8_share 1 = .ok (.lstore 5, 2) := by decide +kernel
theorem dX8_share_3 : decode cX8_share 3 = .ok (.lload_n 2, 1) := by decide +kernel
theorem dX8_share_4 : decode cX8_share 4 = .ok (.lstore 7, 2) := by decide +kernel
theorem dX8_share_6 : decode cX8_share 6 = .ok (.lload 7, 2) := by decide +kernel
theorem dX8_share_8 : decode cX8_share 8 = .ok (.lconst 0, 1) := by decide +kernel
theorem dX8_share_9 : decode cX8_share 9 = .ok (.lcmp, 1) := by decide +kernel
theorem dX8_share_10 : decode cX8_share 10 = .ok (.ifCond .eq 21, 3) := by decide +kernel
theorem dX8_share_13 : decode cX8_share 13 = .ok (.lload 5, 2) := by decide +kernel
theorem dX8_share_15 : decode cX8_share 15 = .ok (.lload 7, 2) := by decide +kernel
theorem dX8_share_17 : decode cX8_share 17 = .ok (.lrem, 1) := by decide +kernel
theorem dX8_share_18 : decode cX8_share 18 = .ok (.lstore 9, 2) := by decide +kernel
theorem dX8_share_20 : decode cX8_share 20 = .ok (.lload 7, 2) := by decide +kernel
theorem dX8_share_22 : decode cX8_share 22 = .ok (.lstore 5, 2) := by decide +kernel
theorem dX8_share_24 : decode cX8_share 24 = .ok (.lload 9, 2) := by decide +kernel
theorem dX8_share_26 : decode cX8_share 26 = .ok (.lstore 7, 2) := by decide +kernel
theorem dX8_share_28 : decode cX8_share 28 = .ok (.goto (-22), 3) := by decide +kernel
theorem dX8_share_31 : decode cX8_share 31 = .ok (.iload 4, 2) := by decide +kernel
theorem dX8_share_33 : decode cX8_share 33 = .ok (.ifCond .ne 7, 3) := by decide +kernel
theorem dX8_share_36 : decode cX8_share 36 = .ok (.lload_n 0, 1) := by decide +kernel
theorem dX8_share_37 : decode cX8_share 37 = .ok (.goto 4, 3) := by decide +kernel
theorem dX8_share_40 : decode cX8_share 40 = .ok (.lload_n 2, 1) := by decide +kernel
theorem dX8_share_41 : decode cX8_share 41 = .ok (.lload 5, 2) := by decide +kernel
theorem dX8_share_43 : decode cX8_share 43 = .ok (.ldiv, 1) := by decide +kernel
theorem dX8_share_44 : decode cX8_share 44 = .ok (.lreturn, 1) := by decide +kernel
theorem dX8_refused_0 : decode cX8_refused 0 = .ok (.aload_n 0, 1) := by decide +kernel
theorem dX8_refused_1 : decode cX8_refused 1 = .ok (.iconst 0, 1) := by decide +kernel
theorem dX8_refused_2 : decode cX8_refused 2 = .ok (.putfield 119, 3) := by decide +kernel
theorem dX8_refused_5 : decode cX8_refused 5 = .ok (.iload_n 1, 1) := by decide +kernel
theorem dX8_refused_6 : decode cX8_refused 6 = .ok (.ireturn, 1) := by decide +kernel
theorem dX8_failed_0 : decode cX8_failed 0 = .ok (.aload_n 0, 1) := by decide +kernel
theorem dX8_failed_1 : decode cX8_failed 1 = .ok (.iload_n 1, 1) := by decide +kernel
theorem dX8_failed_2 : decode cX8_failed 2 = .ok (.putfield 119, 3) := by decide +kernel
theorem dX8_failed_5 : decode cX8_failed 5 = .ok (.bipush (-10), 2) := by decide +kernel
theorem dX8_failed_7 : decode cX8_failed 7 = .ok (.iload_n 1, 1) := by decide +kernel
theorem dX8_failed_8 : decode cX8_failed 8 = .ok (.isub, 1) := by decide +kernel
theorem dX8_failed_9 : decode cX8_failed 9 = .ok (.ireturn, 1) := by decide +kernel
theorem dX8_failedLong_0 : decode cX8_failedLong 0 = .ok (.aload_n 0, 1) := by decide +kernel
theorem dX8_failedLong_1 : decode cX8_failedLong 1 = .ok (.iload_n 1, 1) := by decide +kernel
theorem dX8_failedLong_2 : decode cX8_failedLong 2 = .ok (.putfield 119, 3) := by decide +kernel
theorem dX8_failedLong_5 : decode cX8_failedLong 5 = .ok (.invokestatic 122, 3) := by decide +kernel
theorem dX8_failedLong_8 : decode cX8_failedLong 8 = .ok (.lreturn, 1) := by decide +kernel
theorem dX8_barred_0 : decode cX8_barred 0 = .ok (.iload_n 2, 1) := by decide +kernel
theorem dX8_barred_1 : decode cX8_barred 1 = .ok (.i2l, 1) := by decide +kernel
theorem dX8_barred_2 : decode cX8_barred 2 = .ok (.lconst 0, 1) := by decide +kernel
theorem dX8_barred_3 : decode cX8_barred 3 = .ok (.ldc2_w 126, 3) := by decide +kernel
theorem dX8_barred_6 : decode cX8_barred 6 = .ok (.invokestatic 128, 3) := by decide +kernel
theorem dX8_barred_9 : decode cX8_barred 9 = .ok (.ifCond .ne 10, 3) := by decide +kernel
theorem dX8_barred_12 : decode cX8_barred 12 = .ok (.aload_n 0, 1) := by decide +kernel
theorem dX8_barred_13 : decode cX8_barred 13 = .ok (.bipush (-2), 2) := by decide +kernel
theorem dX8_barred_15 : decode cX8_barred 15 = .ok (.invokevirtual 132, 3) := by decide +kernel
theorem dX8_barred_18 : decode cX8_barred 18 = .ok (.ireturn, 1) := by decide +kernel
theorem dX8_barred_19 : decode cX8_barred 19 = .ok (.aload_n 0, 1) := by decide +kernel
theorem dX8_barred_20 : decode cX8_barred 20 = .ok (.getfield 98, 3) := by decide +kernel
theorem dX8_barred_23 : decode cX8_barred 23 = .ok (.iload_n 1, 1) := by decide +kernel
theorem dX8_barred_24 : decode cX8_barred 24 = .ok (.iaload, 1) := by decide +kernel
theorem dX8_barred_25 : decode cX8_barred 25 = .ok (.ifCond .lt 19, 3) := by decide +kernel
theorem dX8_barred_28 : decode cX8_barred 28 = .ok (.aload_n 0, 1) := by decide +kernel
theorem dX8_barred_29 : decode cX8_barred 29 = .ok (.getfield 101, 3) := by decide +kernel
theorem dX8_barred_32 : decode cX8_barred 32 = .ok (.iload_n 1, 1) := by decide +kernel
theorem dX8_barred_33 : decode cX8_barred 33 = .ok (.iaload, 1) := by decide +kernel
theorem dX8_barred_34 : decode cX8_barred 34 = .ok (.iload_n 2, 1) := by decide +kernel
theorem dX8_barred_35 : decode cX8_barred 35 = .ok (.if_icmp .eq 9, 3) := by decide +kernel
theorem dX8_barred_38 : decode cX8_barred 38 = .ok (.aload_n 0, 1) := by decide +kernel
theorem dX8_barred_39 : decode cX8_barred 39 = .ok (.iconst 2, 1) := by decide +kernel
theorem dX8_barred_40 : decode cX8_barred 40 = .ok (.invokevirtual 136, 3) := by decide +kernel
theorem dX8_barred_43 : decode cX8_barred 43 = .ok (.ireturn, 1) := by decide +kernel
theorem dX8_barred_44 : decode cX8_barred 44 = .ok (.aload_n 0, 1) := by decide +kernel
theorem dX8_barred_45 : decode cX8_barred 45 = .ok (.getfield 98, 3) := by decide +kernel
theorem dX8_barred_48 : decode cX8_barred 48 = .ok (.iload_n 1, 1) := by decide +kernel
theorem dX8_barred_49 : decode cX8_barred 49 = .ok (.iaload, 1) := by decide +kernel
theorem dX8_barred_50 : decode cX8_barred 50 = .ok (.ifCond .ge 9, 3) := by decide +kernel
theorem dX8_barred_53 : decode cX8_barred 53 = .ok (.aload_n 0, 1) := by decide +kernel
theorem dX8_barred_54 : decode cX8_barred 54 = .ok (.iconst 1, 1) := by decide +kernel
theorem dX8_barred_55 : decode cX8_barred 55 = .ok (.invokevirtual 136, 3) := by decide +kernel
theorem dX8_barred_58 : decode cX8_barred 58 = .ok (.ireturn, 1) := by decide +kernel
theorem dX8_barred_59 : decode cX8_barred 59 = .ok (.lload 4, 2) := by decide +kernel
theorem dX8_barred_61 : decode cX8_barred 61 = .ok (.lconst 0, 1) := by decide +kernel
theorem dX8_barred_62 : decode cX8_barred 62 = .ok (.lcmp, 1) := by decide +kernel
theorem dX8_barred_63 : decode cX8_barred 63 = .ok (.ifCond .ge 9, 3) := by decide +kernel
theorem dX8_barred_66 : decode cX8_barred 66 = .ok (.aload_n 0, 1) := by decide +kernel
theorem dX8_barred_67 : decode cX8_barred 67 = .ok (.iconst 4, 1) := by decide +kernel
theorem dX8_barred_68 : decode cX8_barred 68 = .ok (.invokevirtual 136, 3) := by decide +kernel
theorem dX8_barred_71 : decode cX8_barred 71 = .ok (.ireturn, 1) := by decide +kernel
theorem dX8_barred_72 : decode cX8_barred 72 = .ok (.iload_n 3, 1) := by decide +kernel
theorem dX8_barred_73 : decode cX8_barred 73 = .ok (.lload 4, 2) := by decide +kernel
theorem dX8_barred_75 : decode cX8_barred 75 = .ok (.aload_n 0, 1) := by decide +kernel
theorem dX8_barred_76 : decode cX8_barred 76 = .ok (.getfield 98, 3) := by decide +kernel
theorem dX8_barred_79 : decode cX8_barred 79 = .ok (.iload_n 1, 1) := by decide +kernel
theorem dX8_barred_80 : decode cX8_barred 80 = .ok (.iaload, 1) := by decide +kernel
theorem dX8_barred_81 : decode cX8_barred 81 = .ok (.invokestatic 139, 3) := by decide +kernel
theorem dX8_barred_84 : decode cX8_barred 84 = .ok (.ifCond .eq 11, 3) := by decide +kernel
theorem dX8_barred_87 : decode cX8_barred 87 = .ok (.aload_n 0, 1) := by decide +kernel
theorem dX8_barred_88 : decode cX8_barred 88 = .ok (.iconst 3, 1) := by decide +kernel
theorem dX8_barred_89 : decode cX8_barred 89 = .ok (.invokevirtual 136, 3) := by decide +kernel
theorem dX8_barred_92 : decode cX8_barred 92 = .ok (.goto 4, 3) := by decide +kernel
theorem dX8_barred_95 : decode cX8_barred 95 = .ok (.iconst 0, 1) := by decide +kernel
theorem dX8_barred_96 : decode cX8_barred 96 = .ok (.ireturn, 1) := by decide +kernel
theorem dX8_noPart_0 : decode cX8_noPart 0 = .ok (.iload_n 1, 1) := by decide +kernel
theorem dX8_noPart_1 : decode cX8_noPart 1 = .ok (.i2l, 1) := by decide +kernel
theorem dX8_noPart_2 : decode cX8_noPart 2 = .ok (.lconst 0, 1) := by decide +kernel
theorem dX8_noPart_3 : decode cX8_noPart 3 = .ok (.aload_n 0, 1) := by decide +kernel
theorem dX8_noPart_4 : decode cX8_noPart 4 = .ok (.getfield 143, 3) := by decide +kernel
theorem dX8_noPart_7 : decode cX8_noPart 7 = .ok (.i2l, 1) := by decide +kernel
theorem dX8_noPart_8 : decode cX8_noPart 8 = .ok (.lconst 1, 1) := by decide +kernel
theorem dX8_noPart_9 : decode cX8_noPart 9 = .ok (.lsub, 1) := by decide +kernel
theorem dX8_noPart_10 : decode cX8_noPart 10 = .ok (.invokestatic 128, 3) := by decide +kernel
theorem dX8_noPart_13 : decode cX8_noPart 13 = .ok (.ifCond .ne 7, 3) := by decide +kernel
theorem dX8_noPart_16 : decode cX8_noPart 16 = .ok (.iconst 1, 1) := by decide +kernel
theorem dX8_noPart_17 : decode cX8_noPart 17 = .ok (.goto 4, 3) := by decide +kernel
theorem dX8_noPart_20 : decode cX8_noPart 20 = .ok (.iconst 0, 1) := by decide +kernel
theorem dX8_noPart_21 : decode cX8_noPart 21 = .ok (.ireturn, 1) := by decide +kernel
theorem dX8_read_0 : decode cX8_read 0 = .ok (.iconst 0, 1) := by decide +kernel
theorem dX8_read_1 : decode cX8_read 1 = .ok (.istore_n 3, 1) := by decide +kernel
theorem dX8_read_2 : decode cX8_read 2 = .ok (.iload_n 3, 1) := by decide +kernel
theorem dX8_read_3 : decode cX8_read 3 = .ok (.bipush 100, 2) := by decide +kernel
theorem dX8_read_5 : decode cX8_read 5 = .ok (.if_icmp .ge 16, 3) := by decide +kernel
theorem dX8_read_8 : decode cX8_read 8 = .ok (.aload_n 0, 1) := by decide +kernel
theorem dX8_read_9 : decode cX8_read 9 = .ok (.getfield 25, 3) := by decide +kernel
theorem dX8_read_12 : decode cX8_read 12 = .ok (.iload_n 3, 1) := by decide +kernel
theorem dX8_read_13 : decode cX8_read 13 = .ok (.iconst 0, 1) := by decide +kernel
theorem dX8_read_14 : decode cX8_read 14 = .ok (.iastore, 1) := by decide +kernel
theorem dX8_read_15 : decode cX8_read 15 = .ok (.iinc 3 1, 3) := by decide +kernel
theorem dX8_read_18 : decode cX8_read 18 = .ok (.goto (-16), 3) := by decide +kernel
theorem dX8_read_21 : decode cX8_read 21 = .ok (.aload_n 0, 1) := by decide +kernel
theorem dX8_read_22 : decode cX8_read 22 = .ok (.iconst 0, 1) := by decide +kernel
theorem dX8_read_23 : decode cX8_read 23 = .ok (.putfield 146, 3) := by decide +kernel
theorem dX8_read_26 : decode cX8_read 26 = .ok (.iconst 0, 1) := by decide +kernel
theorem dX8_read_27 : decode cX8_read 27 = .ok (.istore_n 3, 1) := by decide +kernel
theorem dX8_read_28 : decode cX8_read 28 = .ok (.iconst 0, 1) := by decide +kernel
theorem dX8_read_29 : decode cX8_read 29 = .ok (.istore 4, 2) := by decide +kernel
theorem dX8_read_31 : decode cX8_read 31 = .ok (.iload 4, 2) := by decide +kernel
theorem dX8_read_33 : decode cX8_read 33 = .ok (.iload_n 2, 1) := by decide +kernel
theorem dX8_read_34 : decode cX8_read 34 = .ok (.if_icmp .ge 267, 3) := by decide +kernel
theorem dX8_read_37 : decode cX8_read 37 = .ok (.aload_n 0, 1) := by decide +kernel
theorem dX8_read_38 : decode cX8_read 38 = .ok (.getfield 104, 3) := by decide +kernel
theorem dX8_read_41 : decode cX8_read 41 = .ok (.iload_n 1, 1) := by decide +kernel
theorem dX8_read_42 : decode cX8_read 42 = .ok (.iload 4, 2) := by decide +kernel
theorem dX8_read_44 : decode cX8_read 44 = .ok (.iadd, 1) := by decide +kernel
theorem dX8_read_45 : decode cX8_read 45 = .ok (.iaload, 1) := by decide +kernel
theorem dX8_read_46 : decode cX8_read 46 = .ok (.istore 5, 2) := by decide +kernel
theorem dX8_read_48 : decode cX8_read 48 = .ok (.iload 5, 2) := by decide +kernel
theorem dX8_read_50 : decode cX8_read 50 = .ok (.i2l, 1) := by decide +kernel
theorem dX8_read_51 : decode cX8_read 51 = .ok (.ldc2_w 149, 3) := by decide +kernel
theorem dX8_read_54 : decode cX8_read 54 = .ok (.ldc2_w 151, 3) := by decide +kernel
theorem dX8_read_57 : decode cX8_read 57 = .ok (.invokestatic 128, 3) := by decide +kernel
theorem dX8_read_60 : decode cX8_read 60 = .ok (.istore 6, 2) := by decide +kernel
theorem dX8_read_62 : decode cX8_read 62 = .ok (.iload 5, 2) := by decide +kernel
theorem dX8_read_64 : decode cX8_read 64 = .ok (.bipush 112, 2) := by decide +kernel
theorem dX8_read_66 : decode cX8_read 66 = .ok (.if_icmp .ne 7, 3) := by decide +kernel
theorem dX8_read_69 : decode cX8_read 69 = .ok (.iconst 0, 1) := by decide +kernel
theorem dX8_read_70 : decode cX8_read 70 = .ok (.goto 26, 3) := by decide +kernel
theorem dX8_read_73 : decode cX8_read 73 = .ok (.iload 5, 2) := by decide +kernel
theorem dX8_read_75 : decode cX8_read 75 = .ok (.bipush 100, 2) := by decide +kernel
theorem dX8_read_77 : decode cX8_read 77 = .ok (.if_icmp .ne 7, 3) := by decide +kernel
theorem dX8_read_80 : decode cX8_read 80 = .ok (.iconst 1, 1) := by decide +kernel
theorem dX8_read_81 : decode cX8_read 81 = .ok (.goto 15, 3) := by decide +kernel
theorem dX8_read_84 : decode cX8_read 84 = .ok (.iload 5, 2) := by decide +kernel
theorem dX8_read_86 : decode cX8_read 86 = .ok (.bipush 120, 2) := by decide +kernel
theorem dX8_read_88 : decode cX8_read 88 = .ok (.if_icmp .ne 7, 3) := by decide +kernel
theorem dX8_read_91 : decode cX8_read 91 = .ok (.iconst 2, 1) := by decide +kernel
theorem dX8_read_92 : decode cX8_read 92 = .ok (.goto 4, 3) := by decide +kernel
theorem dX8_read_95 : decode cX8_read 95 = .ok (.iconst (-1), 1) := by decide +kernel
theorem dX8_read_96 : decode cX8_read 96 = .ok (.istore 7, 2) := by decide +kernel
theorem dX8_read_98 : decode cX8_read 98 = .ok (.iload_n 3, 1) := by decide +kernel
theorem dX8_read_99 : decode cX8_read 99 = .ok (.ifCond .ne 34, 3) := by decide +kernel
theorem dX8_read_102 : decode cX8_read 102 = .ok (.iload 7, 2) := by decide +kernel
theorem dX8_read_104 : decode cX8_read 104 = .ok (.ifCond .lt 29, 3) := by decide +kernel
theorem dX8_read_107 : decode cX8_read 107 = .ok (.aload_n 0, 1) := by decide +kernel
theorem dX8_read_108 : decode cX8_read 108 = .ok (.getfield 19, 3) := by decide +kernel
theorem dX8_read_111 : decode cX8_read 111 = .ok (.aload_n 0, 1) := by decide +kernel
theorem dX8_read_112 : decode cX8_read 112 = .ok (.getfield 146, 3) := by decide +kernel
theorem dX8_read_115 : decode cX8_read 115 = .ok (.iload 7, 2) := by decide +kernel
theorem dX8_read_117 : decode cX8_read 117 = .ok (.iastore, 1) := by decide +kernel
theorem dX8_read_118 : decode cX8_read 118 = .ok (.aload_n 0, 1) := by decide +kernel
theorem dX8_read_119 : decode cX8_read 119 = .ok (.getfield 22, 3) := by decide +kernel
theorem dX8_read_122 : decode cX8_read 122 = .ok (.aload_n 0, 1) := by decide +kernel
theorem dX8_read_123 : decode cX8_read 123 = .ok (.getfield 146, 3) := by decide +kernel
theorem dX8_read_126 : decode cX8_read 126 = .ok (.iconst 0, 1) := by decide +kernel
theorem dX8_read_127 : decode cX8_read 127 = .ok (.iastore, 1) := by decide +kernel
theorem dX8_read_128 : decode cX8_read 128 = .ok (.iconst 1, 1) := by decide +kernel
theorem dX8_read_129 : decode cX8_read 129 = .ok (.istore_n 3, 1) := by decide +kernel
theorem dX8_read_130 : decode cX8_read 130 = .ok (.goto 165, 3) := by decide +kernel
theorem dX8_read_133 : decode cX8_read 133 = .ok (.iload_n 3, 1) := by decide +kernel
theorem dX8_read_134 : decode cX8_read 134 = .ok (.ifCond .le 46, 3) := by decide +kernel
theorem dX8_read_137 : decode cX8_read 137 = .ok (.iload_n 3, 1) := by decide +kernel
theorem dX8_read_138 : decode cX8_read 138 = .ok (.iconst 4, 1) := by decide +kernel
theorem dX8_read_139 : decode cX8_read 139 = .ok (.if_icmp .ge 41, 3) := by decide +kernel
theorem dX8_read_142 : decode cX8_read 142 = .ok (.iload 6, 2) := by decide +kernel
theorem dX8_read_144 : decode cX8_read 144 = .ok (.ifCond .eq 36, 3) := by decide +kernel
theorem dX8_read_147 : decode cX8_read 147 = .ok (.aload_n 0, 1) := by decide +kernel
theorem dX8_read_148 : decode cX8_read 148 = .ok (.getfield 22, 3) := by decide +kernel
theorem dX8_read_151 : decode cX8_read 151 = .ok (.aload_n 0, 1) := by decide +kernel
theorem dX8_read_152 : decode cX8_read 152 = .ok (.getfield 146, 3) := by decide +kernel
theorem dX8_read_155 : decode cX8_read 155 = .ok (.bipush 10, 2) := by decide +kernel
theorem dX8_read_157 : decode cX8_read 157 = .ok (.aload_n 0, 1) := by decide +kernel
theorem dX8_read_158 : decode cX8_read 158 = .ok (.getfield 22, 3) := by decide +kernel
theorem dX8_read_161 : decode cX8_read 161 = .ok (.aload_n 0, 1) := by decide +kernel
theorem dX8_read_162 : decode cX8_read 162 = .ok (.getfield 146, 3) := by decide +kernel
theorem dX8_read_165 : decode cX8_read 165 = .ok (.iaload, 1) := by decide +kernel
theorem dX8_read_166 : decode cX8_read 166 = .ok (.imul, 1) := by decide +kernel
theorem dX8_read_167 : decode cX8_read 167 = .ok (.iload 5, 2) := by decide +kernel
theorem dX8_read_169 : decode cX8_read 169 = .ok (.iadd, 1) := by decide +kernel
theorem dX8_read_170 : decode cX8_read 170 = .ok (.bipush 48, 2) := by decide +kernel
theorem dX8_read_172 : decode cX8_read 172 = .ok (.isub, 1) := by decide +kernel
theorem dX8_read_173 : decode cX8_read 173 = .ok (.iastore, 1) := by decide +kernel
theorem dX8_read_174 : decode cX8_read 174 = .ok (.iinc 3 1, 3) := by decide +kernel
theorem dX8_read_177 : decode cX8_read 177 = .ok (.goto 118, 3) := by decide +kernel
theorem dX8_read_180 : decode cX8_read 180 = .ok (.iload_n 3, 1) := by decide +kernel
theorem dX8_read_181 : decode cX8_read 181 = .ok (.iconst 1, 1) := by decide +kernel
theorem dX8_read_182 : decode cX8_read 182 = .ok (.if_icmp .le 20, 3) := by decide +kernel
theorem dX8_read_185 : decode cX8_read 185 = .ok (.iload_n 3, 1) := by decide +kernel
theorem dX8_read_186 : decode cX8_read 186 = .ok (.iconst 5, 1) := by decide +kernel
theorem dX8_read_187 : decode cX8_read 187 = .ok (.if_icmp .ge 15, 3) := by decide +kernel
theorem dX8_read_190 : decode cX8_read 190 = .ok (.iload 5, 2) := by decide +kernel
theorem dX8_read_192 : decode cX8_read 192 = .ok (.bipush 62, 2) := by decide +kernel
theorem dX8_read_194 : decode cX8_read 194 = .ok (.if_icmp .ne 8, 3) := by decide +kernel
theorem dX8_read_197 : decode cX8_read 197 = .ok (.iconst 5, 1) := by decide +kernel
theorem dX8_read_198 : decode cX8_read 198 = .ok (.istore_n 3, 1) := by decide +kernel
theorem dX8_read_199 : decode cX8_read 199 = .ok (.goto 96, 3) := by decide +kernel
theorem dX8_read_202 : decode cX8_read 202 = .ok (.iload_n 3, 1) := by decide +kernel
theorem dX8_read_203 : decode cX8_read 203 = .ok (.iconst 5, 1) := by decide +kernel
theorem dX8_read_204 : decode cX8_read 204 = .ok (.if_icmp .ne 47, 3) := by decide +kernel
theorem dX8_read_207 : decode cX8_read 207 = .ok (.iload 6, 2) := by decide +kernel
theorem dX8_read_209 : decode cX8_read 209 = .ok (.ifCond .eq 42, 3) := by decide +kernel
theorem dX8_read_212 : decode cX8_read 212 = .ok (.iload 5, 2) := by decide +kernel
theorem dX8_read_214 : decode cX8_read 214 = .ok (.bipush 48, 2) := by decide +kernel
theorem dX8_read_216 : decode cX8_read 216 = .ok (.isub, 1) := by decide +kernel
theorem dX8_read_217 : decode cX8_read 217 = .ok (.aload_n 0, 1) := by decide +kernel
theorem dX8_read_218 : decode cX8_read 218 = .ok (.getfield 146, 3) := by decide +kernel
theorem dX8_read_221 : decode cX8_read 221 = .ok (.if_icmp .ge 30, 3) := by decide +kernel
theorem dX8_read_224 : decode cX8_read 224 = .ok (.aload_n 0, 1) := by decide +kernel
theorem dX8_read_225 : decode cX8_read 225 = .ok (.getfield 25, 3) := by decide +kernel
theorem dX8_read_228 : decode cX8_read 228 = .ok (.bipush 10, 2) := by decide +kernel
theorem dX8_read_230 : decode cX8_read 230 = .ok (.aload_n 0, 1) := by decide +kernel
theorem dX8_read_231 : decode cX8_read 231 = .ok (.getfield 146, 3) := by decide +kernel
theorem dX8_read_234 : decode cX8_read 234 = .ok (.imul, 1) := by decide +kernel
theorem dX8_read_235 : decode cX8_read 235 = .ok (.iload 5, 2) := by decide +kernel
theorem dX8_read_237 : decode cX8_read 237 = .ok (.iadd, 1) := by decide +kernel
theorem dX8_read_238 : decode cX8_read 238 = .ok (.bipush 48, 2) := by decide +kernel
theorem dX8_read_240 : decode cX8_read 240 = .ok (.isub, 1) := by decide +kernel
theorem dX8_read_241 : decode cX8_read 241 = .ok (.dup2, 1) := by decide +kernel
theorem dX8_read_242 : decode cX8_read 242 = .ok (.iaload, 1) := by decide +kernel
theorem dX8_read_243 : decode cX8_read 243 = .ok (.iconst 1, 1) := by decide +kernel
theorem dX8_read_244 : decode cX8_read 244 = .ok (.iadd, 1) := by decide +kernel
theorem dX8_read_245 : decode cX8_read 245 = .ok (.iastore, 1) := by decide +kernel
theorem dX8_read_246 : decode cX8_read 246 = .ok (.iconst 4, 1) := by decide +kernel
theorem dX8_read_247 : decode cX8_read 247 = .ok (.istore_n 3, 1) := by decide +kernel
theorem dX8_read_248 : decode cX8_read 248 = .ok (.goto 47, 3) := by decide +kernel
theorem dX8_read_251 : decode cX8_read 251 = .ok (.iload_n 3, 1) := by decide +kernel
theorem dX8_read_252 : decode cX8_read 252 = .ok (.iconst 1, 1) := by decide +kernel
theorem dX8_read_253 : decode cX8_read 253 = .ok (.if_icmp .le 39, 3) := by decide +kernel
theorem dX8_read_256 : decode cX8_read 256 = .ok (.iload_n 3, 1) := by decide +kernel
theorem dX8_read_257 : decode cX8_read 257 = .ok (.iconst 5, 1) := by decide +kernel
theorem dX8_read_258 : decode cX8_read 258 = .ok (.if_icmp .ge 34, 3) := by decide +kernel
theorem dX8_read_261 : decode cX8_read 261 = .ok (.iload 5, 2) := by decide +kernel
theorem dX8_read_263 : decode cX8_read 263 = .ok (.bipush 59, 2) := by decide +kernel
theorem dX8_read_265 : decode cX8_read 265 = .ok (.if_icmp .ne 27, 3) := by decide +kernel
theorem dX8_read_268 : decode cX8_read 268 = .ok (.aload_n 0, 1) := by decide +kernel
theorem dX8_read_269 : decode cX8_read 269 = .ok (.getfield 146, 3) := by decide +kernel
theorem dX8_read_272 : decode cX8_read 272 = .ok (.bipush 9, 2) := by decide +kernel
theorem dX8_read_274 : decode cX8_read 274 = .ok (.if_icmp .ge 18, 3) := by decide +kernel
theorem dX8_read_277 : decode cX8_read 277 = .ok (.aload_n 0, 1) := by decide +kernel
theorem dX8_read_278 : decode cX8_read 278 = .ok (.dup, 1) := by decide +kernel
theorem dX8_read_279 : decode cX8_read 279 = .ok (.getfield 146, 3) := by decide +kernel
theorem dX8_read_282 : decode cX8_read 282 = .ok (.iconst 1, 1) := by decide +kernel
theorem dX8_read_283 : decode cX8_read 283 = .ok (.iadd, 1) := by decide +kernel
theorem dX8_read_284 : decode cX8_read 284 = .ok (.putfield 146, 3) := by decide +kernel
theorem dX8_read_287 : decode cX8_read 287 = .ok (.iconst 0, 1) := by decide +kernel
theorem dX8_read_288 : decode cX8_read 288 = .ok (.istore_n 3, 1) := by decide +kernel
theorem dX8_read_289 : decode cX8_read 289 = .ok (.goto 6, 3) := by decide +kernel
theorem dX8_read_292 : decode cX8_read 292 = .ok (.iload 4, 2) := by decide +kernel
theorem dX8_read_294 : decode cX8_read 294 = .ok (.ireturn, 1) := by decide +kernel
theorem dX8_read_295 : decode cX8_read 295 = .ok (.iinc 4 1, 3) := by decide +kernel
theorem dX8_read_298 : decode cX8_read 298 = .ok (.goto (-267), 3) := by decide +kernel
theorem dX8_read_301 : decode cX8_read 301 = .ok (.aload_n 0, 1) := by decide +kernel
theorem dX8_read_302 : decode cX8_read 302 = .ok (.dup, 1) := by decide +kernel
theorem dX8_read_303 : decode cX8_read 303 = .ok (.getfield 146, 3) := by decide +kernel
theorem dX8_read_306 : decode cX8_read 306 = .ok (.iconst 1, 1) := by decide +kernel
theorem dX8_read_307 : decode cX8_read 307 = .ok (.iadd, 1) := by decide +kernel
theorem dX8_read_308 : decode cX8_read 308 = .ok (.putfield 146, 3) := by decide +kernel
theorem dX8_read_311 : decode cX8_read 311 = .ok (.iload_n 3, 1) := by decide +kernel
theorem dX8_read_312 : decode cX8_read 312 = .ok (.iconst 1, 1) := by decide +kernel
theorem dX8_read_313 : decode cX8_read 313 = .ok (.if_icmp .le 12, 3) := by decide +kernel
theorem dX8_read_316 : decode cX8_read 316 = .ok (.iload_n 3, 1) := by decide +kernel
theorem dX8_read_317 : decode cX8_read 317 = .ok (.iconst 5, 1) := by decide +kernel
theorem dX8_read_318 : decode cX8_read 318 = .ok (.if_icmp .ge 7, 3) := by decide +kernel
theorem dX8_read_321 : decode cX8_read 321 = .ok (.iconst (-1), 1) := by decide +kernel
theorem dX8_read_322 : decode cX8_read 322 = .ok (.goto 4, 3) := by decide +kernel
theorem dX8_read_325 : decode cX8_read 325 = .ok (.iload_n 2, 1) := by decide +kernel
theorem dX8_read_326 : decode cX8_read 326 = .ok (.ireturn, 1) := by decide +kernel
theorem dX8_text_0 : decode cX8_text 0 = .ok (.iload_n 1, 1) := by decide +kernel
theorem dX8_text_1 : decode cX8_text 1 = .ok (.invokestatic 153, 3) := by decide +kernel
theorem dX8_text_4 : decode cX8_text 4 = .ok (.ifCond .eq 9, 3) := by decide +kernel
theorem dX8_text_7 : decode cX8_text 7 = .ok (.aload_n 0, 1) := by decide +kernel
theorem dX8_text_8 : decode cX8_text 8 = .ok (.iconst (-1), 1) := by decide +kernel
theorem dX8_text_9 : decode cX8_text 9 = .ok (.invokevirtual 132, 3) := by decide +kernel
theorem dX8_text_12 : decode cX8_text 12 = .ok (.ireturn, 1) := by decide +kernel
theorem dX8_text_13 : decode cX8_text 13 = .ok (.aload_n 0, 1) := by decide +kernel
theorem dX8_text_14 : decode cX8_text 14 = .ok (.iload_n 1, 1) := by decide +kernel
theorem dX8_text_15 : decode cX8_text 15 = .ok (.iload_n 2, 1) := by decide +kernel
theorem dX8_text_16 : decode cX8_text 16 = .ok (.iload_n 3, 1) := by decide +kernel
theorem dX8_text_17 : decode cX8_text 17 = .ok (.iload 4, 2) := by decide +kernel
theorem dX8_text_19 : decode cX8_text 19 = .ok (.i2l, 1) := by decide +kernel
theorem dX8_text_20 : decode cX8_text 20 = .ok (.invokevirtual 157, 3) := by decide +kernel
theorem dX8_text_23 : decode cX8_text 23 = .ok (.istore 5, 2) := by decide +kernel
theorem dX8_text_25 : decode cX8_text 25 = .ok (.iload 5, 2) := by decide +kernel
theorem dX8_text_27 : decode cX8_text 27 = .ok (.ifCond .ge 6, 3) := by decide +kernel
theorem dX8_text_30 : decode cX8_text 30 = .ok (.iload 5, 2) := by decide +kernel
theorem dX8_text_32 : decode cX8_text 32 = .ok (.ireturn, 1) := by decide +kernel
theorem dX8_text_33 : decode cX8_text 33 = .ok (.aload_n 0, 1) := by decide +kernel
theorem dX8_text_34 : decode cX8_text 34 = .ok (.bipush 60, 2) := by decide +kernel
theorem dX8_text_36 : decode cX8_text 36 = .ok (.iload_n 1, 1) := by decide +kernel
theorem dX8_text_37 : decode cX8_text 37 = .ok (.imul, 1) := by decide +kernel
theorem dX8_text_38 : decode cX8_text 38 = .ok (.iload_n 3, 1) := by decide +kernel
theorem dX8_text_39 : decode cX8_text 39 = .ok (.iadd, 1) := by decide +kernel
theorem dX8_text_40 : decode cX8_text 40 = .ok (.iload 4, 2) := by decide +kernel
theorem dX8_text_42 : decode cX8_text 42 = .ok (.invokevirtual 161, 3) := by decide +kernel
theorem dX8_text_45 : decode cX8_text 45 = .ok (.istore 6, 2) := by decide +kernel
theorem dX8_text_47 : decode cX8_text 47 = .ok (.iload 6, 2) := by decide +kernel
theorem dX8_text_49 : decode cX8_text 49 = .ok (.ifCond .lt 13, 3) := by decide +kernel
theorem dX8_text_52 : decode cX8_text 52 = .ok (.aload_n 0, 1) := by decide +kernel
theorem dX8_text_53 : decode cX8_text 53 = .ok (.bipush (-100), 2) := by decide +kernel
theorem dX8_text_55 : decode cX8_text 55 = .ok (.iload 6, 2) := by decide +kernel
theorem dX8_text_57 : decode cX8_text 57 = .ok (.isub, 1) := by decide +kernel
theorem dX8_text_58 : decode cX8_text 58 = .ok (.invokevirtual 132, 3) := by decide +kernel
theorem dX8_text_61 : decode cX8_text 61 = .ok (.ireturn, 1) := by decide +kernel
theorem dX8_text_62 : decode cX8_text 62 = .ok (.aload_n 0, 1) := by decide +kernel
theorem dX8_text_63 : decode cX8_text 63 = .ok (.aload_n 0, 1) := by decide +kernel
theorem dX8_text_64 : decode cX8_text 64 = .ok (.getfield 146, 3) := by decide +kernel
theorem dX8_text_67 : decode cX8_text 67 = .ok (.putfield 143, 3) := by decide +kernel
theorem dX8_text_70 : decode cX8_text 70 = .ok (.iconst 0, 1) := by decide +kernel
theorem dX8_text_71 : decode cX8_text 71 = .ok (.istore 7, 2) := by decide +kernel
theorem dX8_text_73 : decode cX8_text 73 = .ok (.iload 7, 2) := by decide +kernel
theorem dX8_text_75 : decode cX8_text 75 = .ok (.aload_n 0, 1) := by decide +kernel
theorem dX8_text_76 : decode cX8_text 76 = .ok (.getfield 143, 3) := by decide +kernel
theorem dX8_text_79 : decode cX8_text 79 = .ok (.if_icmp .ge 37, 3) := by decide +kernel
theorem dX8_text_82 : decode cX8_text 82 = .ok (.aload_n 0, 1) := by decide +kernel
theorem dX8_text_83 : decode cX8_text 83 = .ok (.getfield 7, 3) := by decide +kernel
theorem dX8_text_86 : decode cX8_text 86 = .ok (.iload 7, 2) := by decide +kernel
theorem dX8_text_88 : decode cX8_text 88 = .ok (.aload_n 0, 1) := by decide +kernel
theorem dX8_text_89 : decode cX8_text 89 = .ok (.getfield 19, 3) := by decide +kernel
theorem dX8_text_92 : decode cX8_text 92 = .ok (.iload 7, 2) := by decide +kernel
theorem dX8_text_94 : decode cX8_text 94 = .ok (.iaload, 1) := by decide +kernel
theorem dX8_text_95 : decode cX8_text 95 = .ok (.iastore, 1) := by decide +kernel
theorem dX8_text_96 : decode cX8_text 96 = .ok (.aload_n 0, 1) := by decide +kernel
theorem dX8_text_97 : decode cX8_text 97 = .ok (.getfield 13, 3) := by decide +kernel
theorem dX8_text_100 : decode cX8_text 100 = .ok (.iload 7, 2) := by decide +kernel
theorem dX8_text_102 : decode cX8_text 102 = .ok (.aload_n 0, 1) := by decide +kernel
theorem dX8_text_103 : decode cX8_text 103 = .ok (.getfield 22, 3) := by decide +kernel
theorem dX8_text_106 : decode cX8_text 106 = .ok (.iload 7, 2) := by decide +kernel
theorem dX8_text_108 : decode cX8_text 108 = .ok (.iaload, 1) := by decide +kernel
theorem dX8_text_109 : decode cX8_text 109 = .ok (.iastore, 1) := by decide +kernel
theorem dX8_text_110 : decode cX8_text 110 = .ok (.iinc 7 1, 3) := by decide +kernel
theorem dX8_text_113 : decode cX8_text 113 = .ok (.goto (-40), 3) := by decide +kernel
theorem dX8_text_116 : decode cX8_text 116 = .ok (.iconst 0, 1) := by decide +kernel
theorem dX8_text_117 : decode cX8_text 117 = .ok (.istore 7, 2) := by decide +kernel
theorem dX8_text_119 : decode cX8_text 119 = .ok (.iload 7, 2) := by decide +kernel
theorem dX8_text_121 : decode cX8_text 121 = .ok (.bipush 100, 2) := by decide +kernel
theorem dX8_text_123 : decode cX8_text 123 = .ok (.if_icmp .ge 23, 3) := by decide +kernel
theorem dX8_text_126 : decode cX8_text 126 = .ok (.aload_n 0, 1) := by decide +kernel
theorem dX8_text_127 : decode cX8_text 127 = .ok (.getfield 16, 3) := by decide +kernel
theorem dX8_text_130 : decode cX8_text 130 = .ok (.iload 7, 2) := by decide +kernel
theorem dX8_text_132 : decode cX8_text 132 = .ok (.aload_n 0, 1) := by decide +kernel
theorem dX8_text_133 : decode cX8_text 133 = .ok (.getfield 25, 3) := by decide +kernel
theorem dX8_text_136 : decode cX8_text 136 = .ok (.iload 7, 2) := by decide +kernel
theorem dX8_text_138 : decode cX8_text 138 = .ok (.iaload, 1) := by decide +kernel
theorem dX8_text_139 : decode cX8_text 139 = .ok (.iastore, 1) := by decide +kernel
theorem dX8_text_140 : decode cX8_text 140 = .ok (.iinc 7 1, 3) := by decide +kernel
theorem dX8_text_143 : decode cX8_text 143 = .ok (.goto (-24), 3) := by decide +kernel
theorem dX8_text_146 : decode cX8_text 146 = .ok (.iconst 0, 1) := by decide +kernel
theorem dX8_text_147 : decode cX8_text 147 = .ok (.istore 7, 2) := by decide +kernel
theorem dX8_text_149 : decode cX8_text 149 = .ok (.iload 7, 2) := by decide +kernel
theorem dX8_text_151 : decode cX8_text 151 = .ok (.bipush 40, 2) := by decide +kernel
theorem dX8_text_153 : decode cX8_text 153 = .ok (.if_icmp .ge 27, 3) := by decide +kernel
theorem dX8_text_156 : decode cX8_text 156 = .ok (.aload_n 0, 1) := by decide +kernel
theorem dX8_text_157 : decode cX8_text 157 = .ok (.getfield 44, 3) := by decide +kernel
theorem dX8_text_160 : decode cX8_text 160 = .ok (.iload 7, 2) := by decide +kernel
theorem dX8_text_162 : decode cX8_text 162 = .ok (.bipush (-9), 2) := by decide +kernel
theorem dX8_text_164 : decode cX8_text 164 = .ok (.iastore, 1) := by decide +kernel
theorem dX8_text_165 : decode cX8_text 165 = .ok (.aload_n 0, 1) := by decide +kernel
theorem dX8_text_166 : decode cX8_text 166 = .ok (.getfield 47, 3) := by decide +kernel
theorem dX8_text_169 : decode cX8_text 169 = .ok (.iload 7, 2) := by decide +kernel
theorem dX8_text_171 : decode cX8_text 171 = .ok (.bipush (-9), 2) := by decide +kernel
theorem dX8_text_173 : decode cX8_text 173 = .ok (.iastore, 1) := by decide +kernel
theorem dX8_text_174 : decode cX8_text 174 = .ok (.iinc 7 1, 3) := by decide +kernel
theorem dX8_text_177 : decode cX8_text 177 = .ok (.goto (-28), 3) := by decide +kernel
theorem dX8_text_180 : decode cX8_text 180 = .ok (.iconst 0, 1) := by decide +kernel
theorem dX8_text_181 : decode cX8_text 181 = .ok (.istore 7, 2) := by decide +kernel
theorem dX8_text_183 : decode cX8_text 183 = .ok (.iload 7, 2) := by decide +kernel
theorem dX8_text_185 : decode cX8_text 185 = .ok (.iconst 4, 1) := by decide +kernel
theorem dX8_text_186 : decode cX8_text 186 = .ok (.if_icmp .ge 34, 3) := by decide +kernel
theorem dX8_text_189 : decode cX8_text 189 = .ok (.aload_n 0, 1) := by decide +kernel
theorem dX8_text_190 : decode cX8_text 190 = .ok (.getfield 37, 3) := by decide +kernel
theorem dX8_text_193 : decode cX8_text 193 = .ok (.iload 7, 2) := by decide +kernel
theorem dX8_text_195 : decode cX8_text 195 = .ok (.iconst 0, 1) := by decide +kernel
theorem dX8_text_196 : decode cX8_text 196 = .ok (.bastore, 1) := by decide +kernel
theorem dX8_text_197 : decode cX8_text 197 = .ok (.aload_n 0, 1) := by decide +kernel
theorem dX8_text_198 : decode cX8_text 198 = .ok (.getfield 41, 3) := by decide +kernel
theorem dX8_text_201 : decode cX8_text 201 = .ok (.iload 7, 2) := by decide +kernel
theorem dX8_text_203 : decode cX8_text 203 = .ok (.iconst 0, 1) := by decide +kernel
theorem dX8_text_204 : decode cX8_text 204 = .ok (.bastore, 1) := by decide +kernel
theorem dX8_text_205 : decode cX8_text 205 = .ok (.aload_n 0, 1) := by decide +kernel
theorem dX8_text_206 : decode cX8_text 206 = .ok (.getfield 68, 3) := by decide +kernel
theorem dX8_text_209 : decode cX8_text 209 = .ok (.iload 7, 2) := by decide +kernel
theorem dX8_text_211 : decode cX8_text 211 = .ok (.bipush (-9), 2) := by decide +kernel
theorem dX8_text_213 : decode cX8_text 213 = .ok (.iastore, 1) := by decide +kernel
theorem dX8_text_214 : decode cX8_text 214 = .ok (.iinc 7 1, 3) := by decide +kernel
theorem dX8_text_217 : decode cX8_text 217 = .ok (.goto (-34), 3) := by decide +kernel
theorem dX8_text_220 : decode cX8_text 220 = .ok (.aload_n 0, 1) := by decide +kernel
theorem dX8_text_221 : decode cX8_text 221 = .ok (.aload_n 0, 1) := by decide +kernel
theorem dX8_text_222 : decode cX8_text 222 = .ok (.getfield 143, 3) := by decide +kernel
theorem dX8_text_225 : decode cX8_text 225 = .ok (.invokevirtual 132, 3) := by decide +kernel
theorem dX8_text_228 : decode cX8_text 228 = .ok (.ireturn, 1) := by decide +kernel
theorem dX8_part_0 : decode cX8_part 0 = .ok (.aload_n 0, 1) := by decide +kernel
theorem dX8_part_1 : decode cX8_part 1 = .ok (.iload_n 1, 1) := by decide +kernel
theorem dX8_part_2 : decode cX8_part 2 = .ok (.invokevirtual 165, 3) := by decide +kernel
theorem dX8_part_5 : decode cX8_part 5 = .ok (.ifCond .eq 5, 3) := by decide +kernel
theorem dX8_part_8 : decode cX8_part 8 = .ok (.iconst (-1), 1) := by decide +kernel
theorem dX8_part_9 : decode cX8_part 9 = .ok (.ireturn, 1) := by decide +kernel
theorem dX8_part_10 : decode cX8_part 10 = .ok (.iload_n 2, 1) := by decide +kernel
theorem dX8_part_11 : decode cX8_part 11 = .ok (.ifCond .ne 12, 3) := by decide +kernel
theorem dX8_part_14 : decode cX8_part 14 = .ok (.aload_n 0, 1) := by decide +kernel
theorem dX8_part_15 : decode cX8_part 15 = .ok (.getfield 7, 3) := by decide +kernel
theorem dX8_part_18 : decode cX8_part 18 = .ok (.iload_n 1, 1) := by decide +kernel
theorem dX8_part_19 : decode cX8_part 19 = .ok (.iaload, 1) := by decide +kernel
theorem dX8_part_20 : decode cX8_part 20 = .ok (.goto 19, 3) := by decide +kernel
theorem dX8_part_23 : decode cX8_part 23 = .ok (.iload_n 2, 1) := by decide +kernel
theorem dX8_part_24 : decode cX8_part 24 = .ok (.iconst 1, 1) := by decide +kernel
theorem dX8_part_25 : decode cX8_part 25 = .ok (.if_icmp .ne 12, 3) := by decide +kernel
theorem dX8_part_28 : decode cX8_part 28 = .ok (.aload_n 0, 1) := by decide +kernel
theorem dX8_part_29 : decode cX8_part 29 = .ok (.getfield 13, 3) := by decide +kernel
theorem dX8_part_32 : decode cX8_part 32 = .ok (.iload_n 1, 1) := by decide +kernel
theorem dX8_part_33 : decode cX8_part 33 = .ok (.iaload, 1) := by decide +kernel
theorem dX8_part_34 : decode cX8_part 34 = .ok (.goto 5, 3) := by decide +kernel
theorem dX8_part_37 : decode cX8_part 37 = .ok (.bipush (-2), 2) := by decide +kernel
theorem dX8_part_39 : decode cX8_part 39 = .ok (.ireturn, 1) := by decide +kernel
theorem dX8_wish_0 : decode cX8_wish 0 = .ok (.aload_n 0, 1) := by decide +kernel
theorem dX8_wish_1 : decode cX8_wish 1 = .ok (.iload_n 1, 1) := by decide +kernel
theorem dX8_wish_2 : decode cX8_wish 2 = .ok (.invokevirtual 165, 3) := by decide +kernel
theorem dX8_wish_5 : decode cX8_wish 5 = .ok (.ifCond .eq 5, 3) := by decide +kernel
theorem dX8_wish_8 : decode cX8_wish 8 = .ok (.iconst (-1), 1) := by decide +kernel
theorem dX8_wish_9 : decode cX8_wish 9 = .ok (.ireturn, 1) := by decide +kernel
theorem dX8_wish_10 : decode cX8_wish 10 = .ok (.iload_n 2, 1) := by decide +kernel
theorem dX8_wish_11 : decode cX8_wish 11 = .ok (.i2l, 1) := by decide +kernel
theorem dX8_wish_12 : decode cX8_wish 12 = .ok (.lconst 0, 1) := by decide +kernel
theorem dX8_wish_13 : decode cX8_wish 13 = .ok (.ldc2_w 168, 3) := by decide +kernel
theorem dX8_wish_16 : decode cX8_wish 16 = .ok (.invokestatic 128, 3) := by decide +kernel
theorem dX8_wish_19 : decode cX8_wish 19 = .ok (.ifCond .ne 6, 3) := by decide +kernel
theorem dX8_wish_22 : decode cX8_wish 22 = .ok (.bipush (-2), 2) := by decide +kernel
theorem dX8_wish_24 : decode cX8_wish 24 = .ok (.ireturn, 1) := by decide +kernel
theorem dX8_wish_25 : decode cX8_wish 25 = .ok (.aload_n 0, 1) := by decide +kernel
theorem dX8_wish_26 : decode cX8_wish 26 = .ok (.getfield 13, 3) := by decide +kernel
theorem dX8_wish_29 : decode cX8_wish 29 = .ok (.iload_n 1, 1) := by decide +kernel
theorem dX8_wish_30 : decode cX8_wish 30 = .ok (.iaload, 1) := by decide +kernel
theorem dX8_wish_31 : decode cX8_wish 31 = .ok (.istore_n 3, 1) := by decide +kernel
theorem dX8_wish_32 : decode cX8_wish 32 = .ok (.aload_n 0, 1) := by decide +kernel
theorem dX8_wish_33 : decode cX8_wish 33 = .ok (.getfield 13, 3) := by decide +kernel
theorem dX8_wish_36 : decode cX8_wish 36 = .ok (.iload_n 1, 1) := by decide +kernel
theorem dX8_wish_37 : decode cX8_wish 37 = .ok (.iload_n 2, 1) := by decide +kernel
theorem dX8_wish_38 : decode cX8_wish 38 = .ok (.iastore, 1) := by decide +kernel
theorem dX8_wish_39 : decode cX8_wish 39 = .ok (.iload_n 3, 1) := by decide +kernel
theorem dX8_wish_40 : decode cX8_wish 40 = .ok (.ireturn, 1) := by decide +kernel
theorem dX8_follows_0 : decode cX8_follows 0 = .ok (.aload_n 0, 1) := by decide +kernel
theorem dX8_follows_1 : decode cX8_follows 1 = .ok (.iload_n 1, 1) := by decide +kernel
theorem dX8_follows_2 : decode cX8_follows 2 = .ok (.invokevirtual 165, 3) := by decide +kernel
theorem dX8_follows_5 : decode cX8_follows 5 = .ok (.ifCond .ne 11, 3) := by decide +kernel
theorem dX8_follows_8 : decode cX8_follows 8 = .ok (.aload_n 0, 1) := by decide +kernel
theorem dX8_follows_9 : decode cX8_follows 9 = .ok (.iload_n 2, 1) := by decide +kernel
theorem dX8_follows_10 : decode cX8_follows 10 = .ok (.invokevirtual 165, 3) := by decide +kernel
theorem dX8_follows_13 : decode cX8_follows 13 = .ok (.ifCond .eq 5, 3) := by decide +kernel
theorem dX8_follows_16 : decode cX8_follows 16 = .ok (.iconst (-1), 1) := by decide +kernel
theorem dX8_follows_17 : decode cX8_follows 17 = .ok (.ireturn, 1) := by decide +kernel
theorem dX8_follows_18 : decode cX8_follows 18 = .ok (.iload_n 1, 1) := by decide +kernel
theorem dX8_follows_19 : decode cX8_follows 19 = .ok (.iload_n 2, 1) := by decide +kernel
theorem dX8_follows_20 : decode cX8_follows 20 = .ok (.if_icmp .ne 8, 3) := by decide +kernel
theorem dX8_follows_23 : decode cX8_follows 23 = .ok (.bipush (-2), 2) := by decide +kernel
theorem dX8_follows_25 : decode cX8_follows 25 = .ok (.goto 14, 3) := by decide +kernel
theorem dX8_follows_28 : decode cX8_follows 28 = .ok (.aload_n 0, 1) := by decide +kernel
theorem dX8_follows_29 : decode cX8_follows 29 = .ok (.getfield 16, 3) := by decide +kernel
theorem dX8_follows_32 : decode cX8_follows 32 = .ok (.bipush 10, 2) := by decide +kernel
theorem dX8_follows_34 : decode cX8_follows 34 = .ok (.iload_n 1, 1) := by decide +kernel
theorem dX8_follows_35 : decode cX8_follows 35 = .ok (.imul, 1) := by decide +kernel
theorem dX8_follows_36 : decode cX8_follows 36 = .ok (.iload_n 2, 1) := by decide +kernel
theorem dX8_follows_37 : decode cX8_follows 37 = .ok (.iadd, 1) := by decide +kernel
theorem dX8_follows_38 : decode cX8_follows 38 = .ok (.iaload, 1) := by decide +kernel
theorem dX8_follows_39 : decode cX8_follows 39 = .ok (.ireturn, 1) := by decide +kernel
theorem dX8_follow_0 : decode cX8_follow 0 = .ok (.aload_n 0, 1) := by decide +kernel
theorem dX8_follow_1 : decode cX8_follow 1 = .ok (.iload_n 1, 1) := by decide +kernel
theorem dX8_follow_2 : decode cX8_follow 2 = .ok (.invokevirtual 165, 3) := by decide +kernel
theorem dX8_follow_5 : decode cX8_follow 5 = .ok (.ifCond .ne 11, 3) := by decide +kernel
theorem dX8_follow_8 : decode cX8_follow 8 = .ok (.aload_n 0, 1) := by decide +kernel
theorem dX8_follow_9 : decode cX8_follow 9 = .ok (.iload_n 2, 1) := by decide +kernel
end
section
theorem dX8_follow_10 : decode cX8_follow 10 = .ok (.invokevirtual 165, 3) := by decide +kernel
theorem dX8_follow_13 : decode cX8_follow 13 = .ok (.ifCond .eq 5, 3) := by decide +kernel
theorem dX8_follow_16 : decode cX8_follow 16 = .ok (.iconst (-1), 1) := by decide +kernel
theorem dX8_follow_17 : decode cX8_follow 17 = .ok (.ireturn, 1) := by decide +kernel
theorem dX8_follow_18 : decode cX8_follow 18 = .ok (.iload_n 3, 1) := by decide +kernel
theorem dX8_follow_19 : decode cX8_follow 19 = .ok (.i2l, 1) := by decide +kernel
theorem dX8_follow_20 : decode cX8_follow 20 = .ok (.lconst 0, 1) := by decide +kernel
theorem dX8_follow_21 : decode cX8_follow 21 = .ok (.ldc2_w 170, 3) := by decide +kernel
theorem dX8_follow_24 : decode cX8_follow 24 = .ok (.invokestatic 128, 3) := by decide +kernel
theorem dX8_follow_27 : decode cX8_follow 27 = .ok (.ifCond .eq 8, 3) := by decide +kernel
theorem dX8_follow_30 : decode cX8_follow 30 = .ok (.iload_n 1, 1) := by decide +kernel
theorem dX8_follow_31 : decode cX8_follow 31 = .ok (.iload_n 2, 1) := by decide +kernel
theorem dX8_follow_32 : decode cX8_follow 32 = .ok (.if_icmp .ne 6, 3) := by decide +kernel
theorem dX8_follow_35 : decode cX8_follow 35 = .ok (.bipush (-2), 2) := by decide +kernel
theorem dX8_follow_37 : decode cX8_follow 37 = .ok (.ireturn, 1) := by decide +kernel
theorem dX8_follow_38 : decode cX8_follow 38 = .ok (.aload_n 0, 1) := by decide +kernel
theorem dX8_follow_39 : decode cX8_follow 39 = .ok (.getfield 16, 3) := by decide +kernel
theorem dX8_follow_42 : decode cX8_follow 42 = .ok (.bipush 10, 2) := by decide +kernel
theorem dX8_follow_44 : decode cX8_follow 44 = .ok (.iload_n 1, 1) := by decide +kernel
theorem dX8_follow_45 : decode cX8_follow 45 = .ok (.imul, 1) := by decide +kernel
theorem dX8_follow_46 : decode cX8_follow 46 = .ok (.iload_n 2, 1) := by decide +kernel
theorem dX8_follow_47 : decode cX8_follow 47 = .ok (.iadd, 1) := by decide +kernel
theorem dX8_follow_48 : decode cX8_follow 48 = .ok (.iaload, 1) := by decide +kernel
theorem dX8_follow_49 : decode cX8_follow 49 = .ok (.istore 4, 2) := by decide +kernel
theorem dX8_follow_51 : decode cX8_follow 51 = .ok (.aload_n 0, 1) := by decide +kernel
theorem dX8_follow_52 : decode cX8_follow 52 = .ok (.getfield 16, 3) := by decide +kernel
theorem dX8_follow_55 : decode cX8_follow 55 = .ok (.bipush 10, 2) := by decide +kernel
theorem dX8_follow_57 : decode cX8_follow 57 = .ok (.iload_n 1, 1) := by decide +kernel
theorem dX8_follow_58 : decode cX8_follow 58 = .ok (.imul, 1) := by decide +kernel
theorem dX8_follow_59 : decode cX8_follow 59 = .ok (.iload_n 2, 1) := by decide +kernel
theorem dX8_follow_60 : decode cX8_follow 60 = .ok (.iadd, 1) := by decide +kernel
theorem dX8_follow_61 : decode cX8_follow 61 = .ok (.iload_n 3, 1) := by decide +kernel
theorem dX8_follow_62 : decode cX8_follow 62 = .ok (.iastore, 1) := by decide +kernel
theorem dX8_follow_63 : decode cX8_follow 63 = .ok (.iload 4, 2) := by decide +kernel
theorem dX8_follow_65 : decode cX8_follow 65 = .ok (.ireturn, 1) := by decide +kernel
theorem dX8_noPerson_0 : decode cX8_noPerson 0 = .ok (.iload_n 1, 1) := by decide +kernel
theorem dX8_noPerson_1 : decode cX8_noPerson 1 = .ok (.i2l, 1) := by decide +kernel
theorem dX8_noPerson_2 : decode cX8_noPerson 2 = .ok (.lconst 0, 1) := by decide +kernel
theorem dX8_noPerson_3 : decode cX8_noPerson 3 = .ok (.aload_n 0, 1) := by decide +kernel
theorem dX8_noPerson_4 : decode cX8_noPerson 4 = .ok (.getfield 172, 3) := by decide +kernel
theorem dX8_noPerson_7 : decode cX8_noPerson 7 = .ok (.i2l, 1) := by decide +kernel
theorem dX8_noPerson_8 : decode cX8_noPerson 8 = .ok (.lconst 1, 1) := by decide +kernel
theorem dX8_noPerson_9 : decode cX8_noPerson 9 = .ok (.lsub, 1) := by decide +kernel
theorem dX8_noPerson_10 : decode cX8_noPerson 10 = .ok (.invokestatic 128, 3) := by decide +kernel
theorem dX8_noPerson_13 : decode cX8_noPerson 13 = .ok (.ifCond .ne 7, 3) := by decide +kernel
theorem dX8_noPerson_16 : decode cX8_noPerson 16 = .ok (.iconst 1, 1) := by decide +kernel
theorem dX8_noPerson_17 : decode cX8_noPerson 17 = .ok (.goto 4, 3) := by decide +kernel
theorem dX8_noPerson_20 : decode cX8_noPerson 20 = .ok (.iconst 0, 1) := by decide +kernel
theorem dX8_noPerson_21 : decode cX8_noPerson 21 = .ok (.ireturn, 1) := by decide +kernel
theorem dX8_person_0 : decode cX8_person 0 = .ok (.aload_n 0, 1) := by decide +kernel
theorem dX8_person_1 : decode cX8_person 1 = .ok (.getfield 172, 3) := by decide +kernel
theorem dX8_person_4 : decode cX8_person 4 = .ok (.iconst 4, 1) := by decide +kernel
theorem dX8_person_5 : decode cX8_person 5 = .ok (.if_icmp .ne 6, 3) := by decide +kernel
theorem dX8_person_8 : decode cX8_person 8 = .ok (.bipush (-4), 2) := by decide +kernel
theorem dX8_person_10 : decode cX8_person 10 = .ok (.ireturn, 1) := by decide +kernel
theorem dX8_person_11 : decode cX8_person 11 = .ok (.aload_n 0, 1) := by decide +kernel
theorem dX8_person_12 : decode cX8_person 12 = .ok (.dup, 1) := by decide +kernel
theorem dX8_person_13 : decode cX8_person 13 = .ok (.getfield 172, 3) := by decide +kernel
theorem dX8_person_16 : decode cX8_person 16 = .ok (.iconst 1, 1) := by decide +kernel
theorem dX8_person_17 : decode cX8_person 17 = .ok (.iadd, 1) := by decide +kernel
theorem dX8_person_18 : decode cX8_person 18 = .ok (.putfield 172, 3) := by decide +kernel
theorem dX8_person_21 : decode cX8_person 21 = .ok (.aload_n 0, 1) := by decide +kernel
theorem dX8_person_22 : decode cX8_person 22 = .ok (.getfield 172, 3) := by decide +kernel
theorem dX8_person_25 : decode cX8_person 25 = .ok (.iconst 1, 1) := by decide +kernel
theorem dX8_person_26 : decode cX8_person 26 = .ok (.isub, 1) := by decide +kernel
theorem dX8_person_27 : decode cX8_person 27 = .ok (.ireturn, 1) := by decide +kernel
theorem dX8_can_0 : decode cX8_can 0 = .ok (.aload_n 0, 1) := by decide +kernel
theorem dX8_can_1 : decode cX8_can 1 = .ok (.iload_n 1, 1) := by decide +kernel
theorem dX8_can_2 : decode cX8_can 2 = .ok (.invokevirtual 175, 3) := by decide +kernel
theorem dX8_can_5 : decode cX8_can 5 = .ok (.ifCond .eq 5, 3) := by decide +kernel
theorem dX8_can_8 : decode cX8_can 8 = .ok (.iconst (-1), 1) := by decide +kernel
theorem dX8_can_9 : decode cX8_can 9 = .ok (.ireturn, 1) := by decide +kernel
theorem dX8_can_10 : decode cX8_can 10 = .ok (.iload_n 2, 1) := by decide +kernel
theorem dX8_can_11 : decode cX8_can 11 = .ok (.i2l, 1) := by decide +kernel
theorem dX8_can_12 : decode cX8_can 12 = .ok (.lconst 0, 1) := by decide +kernel
theorem dX8_can_13 : decode cX8_can 13 = .ok (.ldc2_w 126, 3) := by decide +kernel
theorem dX8_can_16 : decode cX8_can 16 = .ok (.invokestatic 128, 3) := by decide +kernel
theorem dX8_can_19 : decode cX8_can 19 = .ok (.ifCond .eq 45, 3) := by decide +kernel
theorem dX8_can_22 : decode cX8_can 22 = .ok (.iload_n 3, 1) := by decide +kernel
theorem dX8_can_23 : decode cX8_can 23 = .ok (.i2l, 1) := by decide +kernel
theorem dX8_can_24 : decode cX8_can 24 = .ok (.iload_n 2, 1) := by decide +kernel
theorem dX8_can_25 : decode cX8_can 25 = .ok (.iconst 2, 1) := by decide +kernel
theorem dX8_can_26 : decode cX8_can 26 = .ok (.if_icmp .ne 7, 3) := by decide +kernel
theorem dX8_can_29 : decode cX8_can 29 = .ok (.lconst 1, 1) := by decide +kernel
theorem dX8_can_30 : decode cX8_can 30 = .ok (.goto 4, 3) := by decide +kernel
theorem dX8_can_33 : decode cX8_can 33 = .ok (.lconst 0, 1) := by decide +kernel
theorem dX8_can_34 : decode cX8_can 34 = .ok (.iload_n 2, 1) := by decide +kernel
theorem dX8_can_35 : decode cX8_can 35 = .ok (.ifCond .ne 9, 3) := by decide +kernel
theorem dX8_can_38 : decode cX8_can 38 = .ok (.ldc2_w 126, 3) := by decide +kernel
theorem dX8_can_41 : decode cX8_can 41 = .ok (.goto 17, 3) := by decide +kernel
theorem dX8_can_44 : decode cX8_can 44 = .ok (.iload_n 2, 1) := by decide +kernel
theorem dX8_can_45 : decode cX8_can 45 = .ok (.iconst 1, 1) := by decide +kernel
theorem dX8_can_46 : decode cX8_can 46 = .ok (.if_icmp .ne 9, 3) := by decide +kernel
theorem dX8_can_49 : decode cX8_can 49 = .ok (.ldc2_w 178, 3) := by decide +kernel
theorem dX8_can_52 : decode cX8_can 52 = .ok (.goto 6, 3) := by decide +kernel
theorem dX8_can_55 : decode cX8_can 55 = .ok (.ldc2_w 180, 3) := by decide +kernel
theorem dX8_can_58 : decode cX8_can 58 = .ok (.invokestatic 128, 3) := by decide +kernel
theorem dX8_can_61 : decode cX8_can 61 = .ok (.ifCond .ne 6, 3) := by decide +kernel
theorem dX8_can_64 : decode cX8_can 64 = .ok (.bipush (-2), 2) := by decide +kernel
theorem dX8_can_66 : decode cX8_can 66 = .ok (.ireturn, 1) := by decide +kernel
theorem dX8_can_67 : decode cX8_can 67 = .ok (.iload_n 2, 1) := by decide +kernel
theorem dX8_can_68 : decode cX8_can 68 = .ok (.ifCond .ne 12, 3) := by decide +kernel
theorem dX8_can_71 : decode cX8_can 71 = .ok (.aload_n 0, 1) := by decide +kernel
theorem dX8_can_72 : decode cX8_can 72 = .ok (.getfield 28, 3) := by decide +kernel
theorem dX8_can_75 : decode cX8_can 75 = .ok (.iload_n 1, 1) := by decide +kernel
theorem dX8_can_76 : decode cX8_can 76 = .ok (.iaload, 1) := by decide +kernel
theorem dX8_can_77 : decode cX8_can 77 = .ok (.goto 23, 3) := by decide +kernel
theorem dX8_can_80 : decode cX8_can 80 = .ok (.iload_n 2, 1) := by decide +kernel
theorem dX8_can_81 : decode cX8_can 81 = .ok (.iconst 1, 1) := by decide +kernel
theorem dX8_can_82 : decode cX8_can 82 = .ok (.if_icmp .ne 12, 3) := by decide +kernel
theorem dX8_can_85 : decode cX8_can 85 = .ok (.aload_n 0, 1) := by decide +kernel
theorem dX8_can_86 : decode cX8_can 86 = .ok (.getfield 31, 3) := by decide +kernel
theorem dX8_can_89 : decode cX8_can 89 = .ok (.iload_n 1, 1) := by decide +kernel
theorem dX8_can_90 : decode cX8_can 90 = .ok (.iaload, 1) := by decide +kernel
theorem dX8_can_91 : decode cX8_can 91 = .ok (.goto 9, 3) := by decide +kernel
theorem dX8_can_94 : decode cX8_can 94 = .ok (.aload_n 0, 1) := by decide +kernel
theorem dX8_can_95 : decode cX8_can 95 = .ok (.getfield 34, 3) := by decide +kernel
theorem dX8_can_98 : decode cX8_can 98 = .ok (.iload_n 1, 1) := by decide +kernel
theorem dX8_can_99 : decode cX8_can 99 = .ok (.iaload, 1) := by decide +kernel
theorem dX8_can_100 : decode cX8_can 100 = .ok (.istore 4, 2) := by decide +kernel
theorem dX8_can_102 : decode cX8_can 102 = .ok (.iload_n 2, 1) := by decide +kernel
theorem dX8_can_103 : decode cX8_can 103 = .ok (.ifCond .ne 13, 3) := by decide +kernel
theorem dX8_can_106 : decode cX8_can 106 = .ok (.aload_n 0, 1) := by decide +kernel
theorem dX8_can_107 : decode cX8_can 107 = .ok (.getfield 28, 3) := by decide +kernel
theorem dX8_can_110 : decode cX8_can 110 = .ok (.iload_n 1, 1) := by decide +kernel
theorem dX8_can_111 : decode cX8_can 111 = .ok (.iload_n 3, 1) := by decide +kernel
theorem dX8_can_112 : decode cX8_can 112 = .ok (.iastore, 1) := by decide +kernel
theorem dX8_can_113 : decode cX8_can 113 = .ok (.goto 25, 3) := by decide +kernel
theorem dX8_can_116 : decode cX8_can 116 = .ok (.iload_n 2, 1) := by decide +kernel
theorem dX8_can_117 : decode cX8_can 117 = .ok (.iconst 1, 1) := by decide +kernel
theorem dX8_can_118 : decode cX8_can 118 = .ok (.if_icmp .ne 13, 3) := by decide +kernel
theorem dX8_can_121 : decode cX8_can 121 = .ok (.aload_n 0, 1) := by decide +kernel
theorem dX8_can_122 : decode cX8_can 122 = .ok (.getfield 31, 3) := by decide +kernel
theorem dX8_can_125 : decode cX8_can 125 = .ok (.iload_n 1, 1) := by decide +kernel
theorem dX8_can_126 : decode cX8_can 126 = .ok (.iload_n 3, 1) := by decide +kernel
theorem dX8_can_127 : decode cX8_can 127 = .ok (.iastore, 1) := by decide +kernel
theorem dX8_can_128 : decode cX8_can 128 = .ok (.goto 10, 3) := by decide +kernel
theorem dX8_can_131 : decode cX8_can 131 = .ok (.aload_n 0, 1) := by decide +kernel
theorem dX8_can_132 : decode cX8_can 132 = .ok (.getfield 34, 3) := by decide +kernel
theorem dX8_can_135 : decode cX8_can 135 = .ok (.iload_n 1, 1) := by decide +kernel
theorem dX8_can_136 : decode cX8_can 136 = .ok (.iload_n 3, 1) := by decide +kernel
theorem dX8_can_137 : decode cX8_can 137 = .ok (.iastore, 1) := by decide +kernel
theorem dX8_can_138 : decode cX8_can 138 = .ok (.iload 4, 2) := by decide +kernel
theorem dX8_can_140 : decode cX8_can 140 = .ok (.ireturn, 1) := by decide +kernel
theorem dX8_across_0 : decode cX8_across 0 = .ok (.iload_n 0, 1) := by decide +kernel
theorem dX8_across_1 : decode cX8_across 1 = .ok (.iconst 4, 1) := by decide +kernel
theorem dX8_across_2 : decode cX8_across 2 = .ok (.irem, 1) := by decide +kernel
theorem dX8_across_3 : decode cX8_across 3 = .ok (.iload_n 1, 1) := by decide +kernel
theorem dX8_across_4 : decode cX8_across 4 = .ok (.iconst 4, 1) := by decide +kernel
theorem dX8_across_5 : decode cX8_across 5 = .ok (.irem, 1) := by decide +kernel
theorem dX8_across_6 : decode cX8_across 6 = .ok (.isub, 1) := by decide +kernel
theorem dX8_across_7 : decode cX8_across 7 = .ok (.invokestatic 182, 3) := by decide +kernel
theorem dX8_across_10 : decode cX8_across 10 = .ok (.ireturn, 1) := by decide +kernel
theorem dX8_down_0 : decode cX8_down 0 = .ok (.iload_n 0, 1) := by decide +kernel
theorem dX8_down_1 : decode cX8_down 1 = .ok (.iconst 4, 1) := by decide +kernel
theorem dX8_down_2 : decode cX8_down 2 = .ok (.idiv, 1) := by decide +kernel
theorem dX8_down_3 : decode cX8_down 3 = .ok (.iload_n 1, 1) := by decide +kernel
theorem dX8_down_4 : decode cX8_down 4 = .ok (.iconst 4, 1) := by decide +kernel
theorem dX8_down_5 : decode cX8_down 5 = .ok (.idiv, 1) := by decide +kernel
theorem dX8_down_6 : decode cX8_down 6 = .ok (.isub, 1) := by decide +kernel
theorem dX8_down_7 : decode cX8_down 7 = .ok (.invokestatic 182, 3) := by decide +kernel
theorem dX8_down_10 : decode cX8_down 10 = .ok (.ireturn, 1) := by decide +kernel
theorem dX8_both_0 : decode cX8_both 0 = .ok (.aload_n 0, 1) := by decide +kernel
theorem dX8_both_1 : decode cX8_both 1 = .ok (.getfield 16, 3) := by decide +kernel
theorem dX8_both_4 : decode cX8_both 4 = .ok (.bipush 10, 2) := by decide +kernel
theorem dX8_both_6 : decode cX8_both 6 = .ok (.iload_n 1, 1) := by decide +kernel
theorem dX8_both_7 : decode cX8_both 7 = .ok (.imul, 1) := by decide +kernel
theorem dX8_both_8 : decode cX8_both 8 = .ok (.iload_n 2, 1) := by decide +kernel
theorem dX8_both_9 : decode cX8_both 9 = .ok (.iadd, 1) := by decide +kernel
theorem dX8_both_10 : decode cX8_both 10 = .ok (.iaload, 1) := by decide +kernel
theorem dX8_both_11 : decode cX8_both 11 = .ok (.aload_n 0, 1) := by decide +kernel
theorem dX8_both_12 : decode cX8_both 12 = .ok (.getfield 16, 3) := by decide +kernel
theorem dX8_both_15 : decode cX8_both 15 = .ok (.bipush 10, 2) := by decide +kernel
theorem dX8_both_17 : decode cX8_both 17 = .ok (.iload_n 2, 1) := by decide +kernel
theorem dX8_both_18 : decode cX8_both 18 = .ok (.imul, 1) := by decide +kernel
theorem dX8_both_19 : decode cX8_both 19 = .ok (.iload_n 1, 1) := by decide +kernel
theorem dX8_both_20 : decode cX8_both 20 = .ok (.iadd, 1) := by decide +kernel
theorem dX8_both_21 : decode cX8_both 21 = .ok (.iaload, 1) := by decide +kernel
theorem dX8_both_22 : decode cX8_both 22 = .ok (.iadd, 1) := by decide +kernel
theorem dX8_both_23 : decode cX8_both 23 = .ok (.ireturn, 1) := by decide +kernel
theorem dX8_mayBe_0 : decode cX8_mayBe 0 = .ok (.aload_n 0, 1) := by decide +kernel
theorem dX8_mayBe_1 : decode cX8_mayBe 1 = .ok (.getfield 31, 3) := by decide +kernel
theorem dX8_mayBe_4 : decode cX8_mayBe 4 = .ok (.iload_n 1, 1) := by decide +kernel
theorem dX8_mayBe_5 : decode cX8_mayBe 5 = .ok (.iaload, 1) := by decide +kernel
theorem dX8_mayBe_6 : decode cX8_mayBe 6 = .ok (.iload_n 3, 1) := by decide +kernel
theorem dX8_mayBe_7 : decode cX8_mayBe 7 = .ok (.invokestatic 185, 3) := by decide +kernel
theorem dX8_mayBe_10 : decode cX8_mayBe 10 = .ok (.istore 4, 2) := by decide +kernel
theorem dX8_mayBe_12 : decode cX8_mayBe 12 = .ok (.iconst 0, 1) := by decide +kernel
theorem dX8_mayBe_13 : decode cX8_mayBe 13 = .ok (.istore 5, 2) := by decide +kernel
theorem dX8_mayBe_15 : decode cX8_mayBe 15 = .ok (.iload 5, 2) := by decide +kernel
theorem dX8_mayBe_17 : decode cX8_mayBe 17 = .ok (.iload_n 2, 1) := by decide +kernel
theorem dX8_mayBe_18 : decode cX8_mayBe 18 = .ok (.if_icmp .ge 55, 3) := by decide +kernel
theorem dX8_mayBe_21 : decode cX8_mayBe 21 = .ok (.iload 4, 2) := by decide +kernel
theorem dX8_mayBe_23 : decode cX8_mayBe 23 = .ok (.ifCond .eq 41, 3) := by decide +kernel
theorem dX8_mayBe_26 : decode cX8_mayBe 26 = .ok (.aload_n 0, 1) := by decide +kernel
theorem dX8_mayBe_27 : decode cX8_mayBe 27 = .ok (.getfield 53, 3) := by decide +kernel
theorem dX8_mayBe_30 : decode cX8_mayBe 30 = .ok (.iload 5, 2) := by decide +kernel
theorem dX8_mayBe_32 : decode cX8_mayBe 32 = .ok (.iaload, 1) := by decide +kernel
theorem dX8_mayBe_33 : decode cX8_mayBe 33 = .ok (.iload_n 3, 1) := by decide +kernel
theorem dX8_mayBe_34 : decode cX8_mayBe 34 = .ok (.invokestatic 189, 3) := by decide +kernel
theorem dX8_mayBe_37 : decode cX8_mayBe 37 = .ok (.aload_n 0, 1) := by decide +kernel
theorem dX8_mayBe_38 : decode cX8_mayBe 38 = .ok (.getfield 53, 3) := by decide +kernel
theorem dX8_mayBe_41 : decode cX8_mayBe 41 = .ok (.iload 5, 2) := by decide +kernel
theorem dX8_mayBe_43 : decode cX8_mayBe 43 = .ok (.iaload, 1) := by decide +kernel
theorem dX8_mayBe_44 : decode cX8_mayBe 44 = .ok (.iload_n 3, 1) := by decide +kernel
theorem dX8_mayBe_45 : decode cX8_mayBe 45 = .ok (.invokestatic 192, 3) := by decide +kernel
theorem dX8_mayBe_48 : decode cX8_mayBe 48 = .ok (.invokestatic 195, 3) := by decide +kernel
theorem dX8_mayBe_51 : decode cX8_mayBe 51 = .ok (.aload_n 0, 1) := by decide +kernel
theorem dX8_mayBe_52 : decode cX8_mayBe 52 = .ok (.getfield 28, 3) := by decide +kernel
theorem dX8_mayBe_55 : decode cX8_mayBe 55 = .ok (.iload_n 1, 1) := by decide +kernel
theorem dX8_mayBe_56 : decode cX8_mayBe 56 = .ok (.iaload, 1) := by decide +kernel
theorem dX8_mayBe_57 : decode cX8_mayBe 57 = .ok (.if_icmp .le 7, 3) := by decide +kernel
theorem dX8_mayBe_60 : decode cX8_mayBe 60 = .ok (.iconst 1, 1) := by decide +kernel
theorem dX8_mayBe_61 : decode cX8_mayBe 61 = .ok (.goto 4, 3) := by decide +kernel
theorem dX8_mayBe_64 : decode cX8_mayBe 64 = .ok (.iconst 0, 1) := by decide +kernel
theorem dX8_mayBe_65 : decode cX8_mayBe 65 = .ok (.istore 4, 2) := by decide +kernel
theorem dX8_mayBe_67 : decode cX8_mayBe 67 = .ok (.iinc 5 1, 3) := by decide +kernel
theorem dX8_mayBe_70 : decode cX8_mayBe 70 = .ok (.goto (-55), 3) := by decide +kernel
theorem dX8_mayBe_73 : decode cX8_mayBe 73 = .ok (.iload 4, 2) := by decide +kernel
theorem dX8_mayBe_75 : decode cX8_mayBe 75 = .ok (.ireturn, 1) := by decide +kernel
theorem dX8_priceOfTried_0 : decode cX8_priceOfTried 0 = .ok (.iconst 0, 1) := by decide +kernel
theorem dX8_priceOfTried_1 : decode cX8_priceOfTried 1 = .ok (.istore_n 1, 1) := by decide +kernel
theorem dX8_priceOfTried_2 : decode cX8_priceOfTried 2 = .ok (.iconst 0, 1) := by decide +kernel
theorem dX8_priceOfTried_3 : decode cX8_priceOfTried 3 = .ok (.istore_n 2, 1) := by decide +kernel
theorem dX8_priceOfTried_4 : decode cX8_priceOfTried 4 = .ok (.iload_n 2, 1) := by decide +kernel
theorem dX8_priceOfTried_5 : decode cX8_priceOfTried 5 = .ok (.aload_n 0, 1) := by decide +kernel
theorem dX8_priceOfTried_6 : decode cX8_priceOfTried 6 = .ok (.getfield 198, 3) := by decide +kernel
theorem dX8_priceOfTried_9 : decode cX8_priceOfTried 9 = .ok (.if_icmp .ge 73, 3) := by decide +kernel
theorem dX8_priceOfTried_12 : decode cX8_priceOfTried 12 = .ok (.iconst 0, 1) := by decide +kernel
theorem dX8_priceOfTried_13 : decode cX8_priceOfTried 13 = .ok (.istore_n 3, 1) := by decide +kernel
theorem dX8_priceOfTried_14 : decode cX8_priceOfTried 14 = .ok (.iload_n 3, 1) := by decide +kernel
theorem dX8_priceOfTried_15 : decode cX8_priceOfTried 15 = .ok (.iload_n 2, 1) := by decide +kernel
theorem dX8_priceOfTried_16 : decode cX8_priceOfTried 16 = .ok (.if_icmp .ge 60, 3) := by decide +kernel
theorem dX8_priceOfTried_19 : decode cX8_priceOfTried 19 = .ok (.iload_n 1, 1) := by decide +kernel
theorem dX8_priceOfTried_20 : decode cX8_priceOfTried 20 = .ok (.aload_n 0, 1) := by decide +kernel
theorem dX8_priceOfTried_21 : decode cX8_priceOfTried 21 = .ok (.aload_n 0, 1) := by decide +kernel
theorem dX8_priceOfTried_22 : decode cX8_priceOfTried 22 = .ok (.getfield 50, 3) := by decide +kernel
theorem dX8_priceOfTried_25 : decode cX8_priceOfTried 25 = .ok (.iload_n 2, 1) := by decide +kernel
theorem dX8_priceOfTried_26 : decode cX8_priceOfTried 26 = .ok (.iaload, 1) := by decide +kernel
theorem dX8_priceOfTried_27 : decode cX8_priceOfTried 27 = .ok (.aload_n 0, 1) := by decide +kernel
theorem dX8_priceOfTried_28 : decode cX8_priceOfTried 28 = .ok (.getfield 50, 3) := by decide +kernel
theorem dX8_priceOfTried_31 : decode cX8_priceOfTried 31 = .ok (.iload_n 3, 1) := by decide +kernel
theorem dX8_priceOfTried_32 : decode cX8_priceOfTried 32 = .ok (.iaload, 1) := by decide +kernel
theorem dX8_priceOfTried_33 : decode cX8_priceOfTried 33 = .ok (.invokevirtual 201, 3) := by decide +kernel
theorem dX8_priceOfTried_36 : decode cX8_priceOfTried 36 = .ok (.aload_n 0, 1) := by decide +kernel
theorem dX8_priceOfTried_37 : decode cX8_priceOfTried 37 = .ok (.getfield 53, 3) := by decide +kernel
theorem dX8_priceOfTried_40 : decode cX8_priceOfTried 40 = .ok (.iload_n 2, 1) := by decide +kernel
theorem dX8_priceOfTried_41 : decode cX8_priceOfTried 41 = .ok (.iaload, 1) := by decide +kernel
theorem dX8_priceOfTried_42 : decode cX8_priceOfTried 42 = .ok (.aload_n 0, 1) := by decide +kernel
theorem dX8_priceOfTried_43 : decode cX8_priceOfTried 43 = .ok (.getfield 53, 3) := by decide +kernel
theorem dX8_priceOfTried_46 : decode cX8_priceOfTried 46 = .ok (.iload_n 3, 1) := by decide +kernel
theorem dX8_priceOfTried_47 : decode cX8_priceOfTried 47 = .ok (.iaload, 1) := by decide +kernel
theorem dX8_priceOfTried_48 : decode cX8_priceOfTried 48 = .ok (.invokestatic 189, 3) := by decide +kernel
theorem dX8_priceOfTried_51 : decode cX8_priceOfTried 51 = .ok (.aload_n 0, 1) := by decide +kernel
theorem dX8_priceOfTried_52 : decode cX8_priceOfTried 52 = .ok (.getfield 53, 3) := by decide +kernel
theorem dX8_priceOfTried_55 : decode cX8_priceOfTried 55 = .ok (.iload_n 2, 1) := by decide +kernel
theorem dX8_priceOfTried_56 : decode cX8_priceOfTried 56 = .ok (.iaload, 1) := by decide +kernel
theorem dX8_priceOfTried_57 : decode cX8_priceOfTried 57 = .ok (.aload_n 0, 1) := by decide +kernel
theorem dX8_priceOfTried_58 : decode cX8_priceOfTried 58 = .ok (.getfield 53, 3) := by decide +kernel
theorem dX8_priceOfTried_61 : decode cX8_priceOfTried 61 = .ok (.iload_n 3, 1) := by decide +kernel
theorem dX8_priceOfTried_62 : decode cX8_priceOfTried 62 = .ok (.iaload, 1) := by decide +kernel
theorem dX8_priceOfTried_63 : decode cX8_priceOfTried 63 = .ok (.invokestatic 192, 3) := by decide +kernel
theorem dX8_priceOfTried_66 : decode cX8_priceOfTried 66 = .ok (.iadd, 1) := by decide +kernel
theorem dX8_priceOfTried_67 : decode cX8_priceOfTried 67 = .ok (.imul, 1) := by decide +kernel
theorem dX8_priceOfTried_68 : decode cX8_priceOfTried 68 = .ok (.iadd, 1) := by decide +kernel
theorem dX8_priceOfTried_69 : decode cX8_priceOfTried 69 = .ok (.istore_n 1, 1) := by decide +kernel
theorem dX8_priceOfTried_70 : decode cX8_priceOfTried 70 = .ok (.iinc 3 1, 3) := by decide +kernel
theorem dX8_priceOfTried_73 : decode cX8_priceOfTried 73 = .ok (.goto (-59), 3) := by decide +kernel
theorem dX8_priceOfTried_76 : decode cX8_priceOfTried 76 = .ok (.iinc 2 1, 3) := by decide +kernel
theorem dX8_priceOfTried_79 : decode cX8_priceOfTried 79 = .ok (.goto (-75), 3) := by decide +kernel
theorem dX8_priceOfTried_82 : decode cX8_priceOfTried 82 = .ok (.iload_n 1, 1) := by decide +kernel
theorem dX8_priceOfTried_83 : decode cX8_priceOfTried 83 = .ok (.ireturn, 1) := by decide +kernel
theorem dX8_findBest_0 : decode cX8_findBest 0 = .ok (.aload_n 0, 1) := by decide +kernel
theorem dX8_findBest_1 : decode cX8_findBest 1 = .ok (.iconst 0, 1) := by decide +kernel
theorem dX8_findBest_2 : decode cX8_findBest 2 = .ok (.putfield 198, 3) := by decide +kernel
theorem dX8_findBest_5 : decode cX8_findBest 5 = .ok (.iconst 0, 1) := by decide +kernel
theorem dX8_findBest_6 : decode cX8_findBest 6 = .ok (.istore_n 3, 1) := by decide +kernel
theorem dX8_findBest_7 : decode cX8_findBest 7 = .ok (.iload_n 3, 1) := by decide +kernel
theorem dX8_findBest_8 : decode cX8_findBest 8 = .ok (.aload_n 0, 1) := by decide +kernel
theorem dX8_findBest_9 : decode cX8_findBest 9 = .ok (.getfield 143, 3) := by decide +kernel
theorem dX8_findBest_12 : decode cX8_findBest 12 = .ok (.if_icmp .ge 37, 3) := by decide +kernel
theorem dX8_findBest_15 : decode cX8_findBest 15 = .ok (.iload_n 2, 1) := by decide +kernel
theorem dX8_findBest_16 : decode cX8_findBest 16 = .ok (.iload_n 3, 1) := by decide +kernel
theorem dX8_findBest_17 : decode cX8_findBest 17 = .ok (.invokestatic 185, 3) := by decide +kernel
theorem dX8_findBest_20 : decode cX8_findBest 20 = .ok (.ifCond .eq 23, 3) := by decide +kernel
theorem dX8_findBest_23 : decode cX8_findBest 23 = .ok (.aload_n 0, 1) := by decide +kernel
theorem dX8_findBest_24 : decode cX8_findBest 24 = .ok (.getfield 50, 3) := by decide +kernel
theorem dX8_findBest_27 : decode cX8_findBest 27 = .ok (.aload_n 0, 1) := by decide +kernel
theorem dX8_findBest_28 : decode cX8_findBest 28 = .ok (.getfield 198, 3) := by decide +kernel
theorem dX8_findBest_31 : decode cX8_findBest 31 = .ok (.iload_n 3, 1) := by decide +kernel
theorem dX8_findBest_32 : decode cX8_findBest 32 = .ok (.iastore, 1) := by decide +kernel
theorem dX8_findBest_33 : decode cX8_findBest 33 = .ok (.aload_n 0, 1) := by decide +kernel
theorem dX8_findBest_34 : decode cX8_findBest 34 = .ok (.dup, 1) := by decide +kernel
theorem dX8_findBest_35 : decode cX8_findBest 35 = .ok (.getfield 198, 3) := by decide +kernel
theorem dX8_findBest_38 : decode cX8_findBest 38 = .ok (.iconst 1, 1) := by decide +kernel
theorem dX8_findBest_39 : decode cX8_findBest 39 = .ok (.iadd, 1) := by decide +kernel
theorem dX8_findBest_40 : decode cX8_findBest 40 = .ok (.putfield 198, 3) := by decide +kernel
theorem dX8_findBest_43 : decode cX8_findBest 43 = .ok (.iinc 3 1, 3) := by decide +kernel
theorem dX8_findBest_46 : decode cX8_findBest 46 = .ok (.goto (-39), 3) := by decide +kernel
theorem dX8_findBest_49 : decode cX8_findBest 49 = .ok (.aload_n 0, 1) := by decide +kernel
theorem dX8_findBest_50 : decode cX8_findBest 50 = .ok (.bipush (-9), 2) := by decide +kernel
theorem dX8_findBest_52 : decode cX8_findBest 52 = .ok (.putfield 204, 3) := by decide +kernel
theorem dX8_findBest_55 : decode cX8_findBest 55 = .ok (.aload_n 0, 1) := by decide +kernel
theorem dX8_findBest_56 : decode cX8_findBest 56 = .ok (.getfield 198, 3) := by decide +kernel
theorem dX8_findBest_59 : decode cX8_findBest 59 = .ok (.aload_n 0, 1) := by decide +kernel
theorem dX8_findBest_60 : decode cX8_findBest 60 = .ok (.getfield 34, 3) := by decide +kernel
theorem dX8_findBest_63 : decode cX8_findBest 63 = .ok (.iload_n 1, 1) := by decide +kernel
theorem dX8_findBest_64 : decode cX8_findBest 64 = .ok (.iaload, 1) := by decide +kernel
theorem dX8_findBest_65 : decode cX8_findBest 65 = .ok (.if_icmp .le 5, 3) := by decide +kernel
theorem dX8_findBest_68 : decode cX8_findBest 68 = .ok (.iconst 0, 1) := by decide +kernel
theorem dX8_findBest_69 : decode cX8_findBest 69 = .ok (.ireturn, 1) := by decide +kernel
theorem dX8_findBest_70 : decode cX8_findBest 70 = .ok (.iconst 0, 1) := by decide +kernel
theorem dX8_findBest_71 : decode cX8_findBest 71 = .ok (.istore_n 3, 1) := by decide +kernel
theorem dX8_findBest_72 : decode cX8_findBest 72 = .ok (.aload_n 0, 1) := by decide +kernel
theorem dX8_findBest_73 : decode cX8_findBest 73 = .ok (.getfield 53, 3) := by decide +kernel
theorem dX8_findBest_76 : decode cX8_findBest 76 = .ok (.iconst 0, 1) := by decide +kernel
theorem dX8_findBest_77 : decode cX8_findBest 77 = .ok (.iconst (-1), 1) := by decide +kernel
theorem dX8_findBest_78 : decode cX8_findBest 78 = .ok (.iastore, 1) := by decide +kernel
theorem dX8_findBest_79 : decode cX8_findBest 79 = .ok (.iload_n 3, 1) := by decide +kernel
theorem dX8_findBest_80 : decode cX8_findBest 80 = .ok (.ifCond .lt 99, 3) := by decide +kernel
theorem dX8_findBest_83 : decode cX8_findBest 83 = .ok (.aload_n 0, 1) := by decide +kernel
theorem dX8_findBest_84 : decode cX8_findBest 84 = .ok (.getfield 53, 3) := by decide +kernel
theorem dX8_findBest_87 : decode cX8_findBest 87 = .ok (.iload_n 3, 1) := by decide +kernel
theorem dX8_findBest_88 : decode cX8_findBest 88 = .ok (.dup2, 1) := by decide +kernel
theorem dX8_findBest_89 : decode cX8_findBest 89 = .ok (.iaload, 1) := by decide +kernel
theorem dX8_findBest_90 : decode cX8_findBest 90 = .ok (.iconst 1, 1) := by decide +kernel
theorem dX8_findBest_91 : decode cX8_findBest 91 = .ok (.iadd, 1) := by decide +kernel
theorem dX8_findBest_92 : decode cX8_findBest 92 = .ok (.iastore, 1) := by decide +kernel
theorem dX8_findBest_93 : decode cX8_findBest 93 = .ok (.aload_n 0, 1) := by decide +kernel
theorem dX8_findBest_94 : decode cX8_findBest 94 = .ok (.getfield 53, 3) := by decide +kernel
theorem dX8_findBest_97 : decode cX8_findBest 97 = .ok (.iload_n 3, 1) := by decide +kernel
theorem dX8_findBest_98 : decode cX8_findBest 98 = .ok (.iaload, 1) := by decide +kernel
theorem dX8_findBest_99 : decode cX8_findBest 99 = .ok (.bipush 12, 2) := by decide +kernel
theorem dX8_findBest_101 : decode cX8_findBest 101 = .ok (.if_icmp .ge 31, 3) := by decide +kernel
theorem dX8_findBest_104 : decode cX8_findBest 104 = .ok (.aload_n 0, 1) := by decide +kernel
theorem dX8_findBest_105 : decode cX8_findBest 105 = .ok (.iload_n 1, 1) := by decide +kernel
theorem dX8_findBest_106 : decode cX8_findBest 106 = .ok (.iload_n 3, 1) := by decide +kernel
theorem dX8_findBest_107 : decode cX8_findBest 107 = .ok (.aload_n 0, 1) := by decide +kernel
theorem dX8_findBest_108 : decode cX8_findBest 108 = .ok (.getfield 53, 3) := by decide +kernel
theorem dX8_findBest_111 : decode cX8_findBest 111 = .ok (.iload_n 3, 1) := by decide +kernel
theorem dX8_findBest_112 : decode cX8_findBest 112 = .ok (.iaload, 1) := by decide +kernel
theorem dX8_findBest_113 : decode cX8_findBest 113 = .ok (.invokevirtual 207, 3) := by decide +kernel
theorem dX8_findBest_116 : decode cX8_findBest 116 = .ok (.ifCond .ne 16, 3) := by decide +kernel
theorem dX8_findBest_119 : decode cX8_findBest 119 = .ok (.aload_n 0, 1) := by decide +kernel
theorem dX8_findBest_120 : decode cX8_findBest 120 = .ok (.getfield 53, 3) := by decide +kernel
theorem dX8_findBest_123 : decode cX8_findBest 123 = .ok (.iload_n 3, 1) := by decide +kernel
theorem dX8_findBest_124 : decode cX8_findBest 124 = .ok (.dup2, 1) := by decide +kernel
theorem dX8_findBest_125 : decode cX8_findBest 125 = .ok (.iaload, 1) := by decide +kernel
theorem dX8_findBest_126 : decode cX8_findBest 126 = .ok (.iconst 1, 1) := by decide +kernel
theorem dX8_findBest_127 : decode cX8_findBest 127 = .ok (.iadd, 1) := by decide +kernel
theorem dX8_findBest_128 : decode cX8_findBest 128 = .ok (.iastore, 1) := by decide +kernel
theorem dX8_findBest_129 : decode cX8_findBest 129 = .ok (.goto (-36), 3) := by decide +kernel
theorem dX8_findBest_132 : decode cX8_findBest 132 = .ok (.aload_n 0, 1) := by decide +kernel
theorem dX8_findBest_133 : decode cX8_findBest 133 = .ok (.getfield 53, 3) := by decide +kernel
theorem dX8_findBest_136 : decode cX8_findBest 136 = .ok (.iload_n 3, 1) := by decide +kernel
theorem dX8_findBest_137 : decode cX8_findBest 137 = .ok (.iaload, 1) := by decide +kernel
theorem dX8_findBest_138 : decode cX8_findBest 138 = .ok (.bipush 12, 2) := by decide +kernel
theorem dX8_findBest_140 : decode cX8_findBest 140 = .ok (.if_icmp .lt 9, 3) := by decide +kernel
theorem dX8_findBest_143 : decode cX8_findBest 143 = .ok (.iinc 3 (-1), 3) := by decide +kernel
theorem dX8_findBest_146 : decode cX8_findBest 146 = .ok (.goto (-67), 3) := by decide +kernel
theorem dX8_findBest_149 : decode cX8_findBest 149 = .ok (.iload_n 3, 1) := by decide +kernel
theorem dX8_findBest_150 : decode cX8_findBest 150 = .ok (.aload_n 0, 1) := by decide +kernel
theorem dX8_findBest_151 : decode cX8_findBest 151 = .ok (.getfield 198, 3) := by decide +kernel
theorem dX8_findBest_154 : decode cX8_findBest 154 = .ok (.iconst 1, 1) := by decide +kernel
theorem dX8_findBest_155 : decode cX8_findBest 155 = .ok (.isub, 1) := by decide +kernel
theorem dX8_findBest_156 : decode cX8_findBest 156 = .ok (.if_icmp .ge 16, 3) := by decide +kernel
theorem dX8_findBest_159 : decode cX8_findBest 159 = .ok (.iinc 3 1, 3) := by decide +kernel
theorem dX8_findBest_162 : decode cX8_findBest 162 = .ok (.aload_n 0, 1) := by decide +kernel
theorem dX8_findBest_163 : decode cX8_findBest 163 = .ok (.getfield 53, 3) := by decide +kernel
theorem dX8_findBest_166 : decode cX8_findBest 166 = .ok (.iload_n 3, 1) := by decide +kernel
theorem dX8_findBest_167 : decode cX8_findBest 167 = .ok (.iconst (-1), 1) := by decide +kernel
theorem dX8_findBest_168 : decode cX8_findBest 168 = .ok (.iastore, 1) := by decide +kernel
theorem dX8_findBest_169 : decode cX8_findBest 169 = .ok (.goto (-90), 3) := by decide +kernel
theorem dX8_findBest_172 : decode cX8_findBest 172 = .ok (.aload_n 0, 1) := by decide +kernel
theorem dX8_findBest_173 : decode cX8_findBest 173 = .ok (.invokevirtual 211, 3) := by decide +kernel
theorem dX8_findBest_176 : decode cX8_findBest 176 = .ok (.goto (-97), 3) := by decide +kernel
theorem dX8_findBest_179 : decode cX8_findBest 179 = .ok (.aload_n 0, 1) := by decide +kernel
theorem dX8_findBest_180 : decode cX8_findBest 180 = .ok (.getfield 204, 3) := by decide +kernel
theorem dX8_findBest_183 : decode cX8_findBest 183 = .ok (.ifCond .lt 7, 3) := by decide +kernel
theorem dX8_findBest_186 : decode cX8_findBest 186 = .ok (.iconst 1, 1) := by decide +kernel
theorem dX8_findBest_187 : decode cX8_findBest 187 = .ok (.goto 4, 3) := by decide +kernel
theorem dX8_findBest_190 : decode cX8_findBest 190 = .ok (.iconst 0, 1) := by decide +kernel
theorem dX8_findBest_191 : decode cX8_findBest 191 = .ok (.ireturn, 1) := by decide +kernel
theorem dX8_keepTried_0 : decode cX8_keepTried 0 = .ok (.aload_n 0, 1) := by decide +kernel
theorem dX8_keepTried_1 : decode cX8_keepTried 1 = .ok (.invokevirtual 214, 3) := by decide +kernel
theorem dX8_keepTried_4 : decode cX8_keepTried 4 = .ok (.istore_n 1, 1) := by decide +kernel
theorem dX8_keepTried_5 : decode cX8_keepTried 5 = .ok (.aload_n 0, 1) := by decide +kernel
theorem dX8_keepTried_6 : decode cX8_keepTried 6 = .ok (.getfield 204, 3) := by decide +kernel
theorem dX8_keepTried_9 : decode cX8_keepTried 9 = .ok (.ifCond .lt 11, 3) := by decide +kernel
theorem dX8_keepTried_12 : decode cX8_keepTried 12 = .ok (.iload_n 1, 1) := by decide +kernel
theorem dX8_keepTried_13 : decode cX8_keepTried 13 = .ok (.aload_n 0, 1) := by decide +kernel
theorem dX8_keepTried_14 : decode cX8_keepTried 14 = .ok (.getfield 204, 3) := by decide +kernel
theorem dX8_keepTried_17 : decode cX8_keepTried 17 = .ok (.if_icmp .ge 36, 3) := by decide +kernel
theorem dX8_keepTried_20 : decode cX8_keepTried 20 = .ok (.aload_n 0, 1) := by decide +kernel
theorem dX8_keepTried_21 : decode cX8_keepTried 21 = .ok (.iload_n 1, 1) := by decide +kernel
theorem dX8_keepTried_22 : decode cX8_keepTried 22 = .ok (.putfield 204, 3) := by decide +kernel
theorem dX8_keepTried_25 : decode cX8_keepTried 25 = .ok (.iconst 0, 1) := by decide +kernel
theorem dX8_keepTried_26 : decode cX8_keepTried 26 = .ok (.istore_n 2, 1) := by decide +kernel
theorem dX8_keepTried_27 : decode cX8_keepTried 27 = .ok (.iload_n 2, 1) := by decide +kernel
theorem dX8_keepTried_28 : decode cX8_keepTried 28 = .ok (.aload_n 0, 1) := by decide +kernel
theorem dX8_keepTried_29 : decode cX8_keepTried 29 = .ok (.getfield 198, 3) := by decide +kernel
theorem dX8_keepTried_32 : decode cX8_keepTried 32 = .ok (.if_icmp .ge 21, 3) := by decide +kernel
theorem dX8_keepTried_35 : decode cX8_keepTried 35 = .ok (.aload_n 0, 1) := by decide +kernel
theorem dX8_keepTried_36 : decode cX8_keepTried 36 = .ok (.getfield 56, 3) := by decide +kernel
theorem dX8_keepTried_39 : decode cX8_keepTried 39 = .ok (.iload_n 2, 1) := by decide +kernel
theorem dX8_keepTried_40 : decode cX8_keepTried 40 = .ok (.aload_n 0, 1) := by decide +kernel
theorem dX8_keepTried_41 : decode cX8_keepTried 41 = .ok (.getfield 53, 3) := by decide +kernel
theorem dX8_keepTried_44 : decode cX8_keepTried 44 = .ok (.iload_n 2, 1) := by decide +kernel
theorem dX8_keepTried_45 : decode cX8_keepTried 45 = .ok (.iaload, 1) := by decide +kernel
theorem dX8_keepTried_46 : decode cX8_keepTried 46 = .ok (.iastore, 1) := by decide +kernel
theorem dX8_keepTried_47 : decode cX8_keepTried 47 = .ok (.iinc 2 1, 3) := by decide +kernel
theorem dX8_keepTried_50 : decode cX8_keepTried 50 = .ok (.goto (-23), 3) := by decide +kernel
theorem dX8_keepTried_53 : decode cX8_keepTried 53 = .ok (.return_, 1) := by decide +kernel
theorem dX8_isFew_0 : decode cX8_isFew 0 = .ok (.iload_n 1, 1) := by decide +kernel
theorem dX8_isFew_1 : decode cX8_isFew 1 = .ok (.i2l, 1) := by decide +kernel
theorem dX8_isFew_2 : decode cX8_isFew 2 = .ok (.lconst 1, 1) := by decide +kernel
theorem dX8_isFew_3 : decode cX8_isFew 3 = .ok (.lconst 1, 1) := by decide +kernel
theorem dX8_isFew_4 : decode cX8_isFew 4 = .ok (.aload_n 0, 1) := by decide +kernel
theorem dX8_isFew_5 : decode cX8_isFew 5 = .ok (.getfield 143, 3) := by decide +kernel
theorem dX8_isFew_8 : decode cX8_isFew 8 = .ok (.lshl, 1) := by decide +kernel
theorem dX8_isFew_9 : decode cX8_isFew 9 = .ok (.lconst 1, 1) := by decide +kernel
theorem dX8_isFew_10 : decode cX8_isFew 10 = .ok (.lsub, 1) := by decide +kernel
theorem dX8_isFew_11 : decode cX8_isFew 11 = .ok (.invokestatic 128, 3) := by decide +kernel
theorem dX8_isFew_14 : decode cX8_isFew 14 = .ok (.ifCond .eq 15, 3) := by decide +kernel
theorem dX8_isFew_17 : decode cX8_isFew 17 = .ok (.iload_n 1, 1) := by decide +kernel
theorem dX8_isFew_18 : decode cX8_isFew 18 = .ok (.invokestatic 218, 3) := by decide +kernel
theorem dX8_isFew_21 : decode cX8_isFew 21 = .ok (.iconst 5, 1) := by decide +kernel
theorem dX8_isFew_22 : decode cX8_isFew 22 = .ok (.if_icmp .gt 7, 3) := by decide +kernel
theorem dX8_isFew_25 : decode cX8_isFew 25 = .ok (.iconst 1, 1) := by decide +kernel
theorem dX8_isFew_26 : decode cX8_isFew 26 = .ok (.goto 4, 3) := by decide +kernel
theorem dX8_isFew_29 : decode cX8_isFew 29 = .ok (.iconst 0, 1) := by decide +kernel
theorem dX8_isFew_30 : decode cX8_isFew 30 = .ok (.ireturn, 1) := by decide +kernel
theorem dX8_best_0 : decode cX8_best 0 = .ok (.aload_n 0, 1) := by decide +kernel
theorem dX8_best_1 : decode cX8_best 1 = .ok (.iload_n 1, 1) := by decide +kernel
theorem dX8_best_2 : decode cX8_best 2 = .ok (.invokevirtual 175, 3) := by decide +kernel
theorem dX8_best_5 : decode cX8_best 5 = .ok (.ifCond .ne 21, 3) := by decide +kernel
theorem dX8_best_8 : decode cX8_best 8 = .ok (.iload_n 3, 1) := by decide +kernel
theorem dX8_best_9 : decode cX8_best 9 = .ok (.i2l, 1) := by decide +kernel
theorem dX8_best_10 : decode cX8_best 10 = .ok (.ldc2_w 221, 3) := by decide +kernel
theorem dX8_best_13 : decode cX8_best 13 = .ok (.aload_n 0, 1) := by decide +kernel
theorem dX8_best_14 : decode cX8_best 14 = .ok (.getfield 143, 3) := by decide +kernel
theorem dX8_best_17 : decode cX8_best 17 = .ok (.i2l, 1) := by decide +kernel
theorem dX8_best_18 : decode cX8_best 18 = .ok (.lconst 1, 1) := by decide +kernel
theorem dX8_best_19 : decode cX8_best 19 = .ok (.lsub, 1) := by decide +kernel
theorem dX8_best_20 : decode cX8_best 20 = .ok (.invokestatic 128, 3) := by decide +kernel
theorem dX8_best_23 : decode cX8_best 23 = .ok (.ifCond .ne 5, 3) := by decide +kernel
theorem dX8_best_26 : decode cX8_best 26 = .ok (.iconst (-1), 1) := by decide +kernel
theorem dX8_best_27 : decode cX8_best 27 = .ok (.ireturn, 1) := by decide +kernel
theorem dX8_best_28 : decode cX8_best 28 = .ok (.aload_n 0, 1) := by decide +kernel
theorem dX8_best_29 : decode cX8_best 29 = .ok (.iload_n 2, 1) := by decide +kernel
theorem dX8_best_30 : decode cX8_best 30 = .ok (.invokevirtual 223, 3) := by decide +kernel
theorem dX8_best_33 : decode cX8_best 33 = .ok (.ifCond .ne 6, 3) := by decide +kernel
theorem dX8_best_36 : decode cX8_best 36 = .ok (.bipush (-2), 2) := by decide +kernel
theorem dX8_best_38 : decode cX8_best 38 = .ok (.ireturn, 1) := by decide +kernel
theorem dX8_best_39 : decode cX8_best 39 = .ok (.aload_n 0, 1) := by decide +kernel
theorem dX8_best_40 : decode cX8_best 40 = .ok (.iload_n 1, 1) := by decide +kernel
theorem dX8_best_41 : decode cX8_best 41 = .ok (.iload_n 2, 1) := by decide +kernel
theorem dX8_best_42 : decode cX8_best 42 = .ok (.invokevirtual 226, 3) := by decide +kernel
theorem dX8_best_45 : decode cX8_best 45 = .ok (.ifCond .ne 6, 3) := by decide +kernel
theorem dX8_best_48 : decode cX8_best 48 = .ok (.bipush (-9), 2) := by decide +kernel
theorem dX8_best_50 : decode cX8_best 50 = .ok (.ireturn, 1) := by decide +kernel
theorem dX8_best_51 : decode cX8_best 51 = .ok (.bipush (-9), 2) := by decide +kernel
theorem dX8_best_53 : decode cX8_best 53 = .ok (.istore 4, 2) := by decide +kernel
theorem dX8_best_55 : decode cX8_best 55 = .ok (.iconst 0, 1) := by decide +kernel
theorem dX8_best_56 : decode cX8_best 56 = .ok (.istore 5, 2) := by decide +kernel
theorem dX8_best_58 : decode cX8_best 58 = .ok (.iload 5, 2) := by decide +kernel
theorem dX8_best_60 : decode cX8_best 60 = .ok (.aload_n 0, 1) := by decide +kernel
theorem dX8_best_61 : decode cX8_best 61 = .ok (.getfield 198, 3) := by decide +kernel
theorem dX8_best_64 : decode cX8_best 64 = .ok (.if_icmp .ge 34, 3) := by decide +kernel
theorem dX8_best_67 : decode cX8_best 67 = .ok (.aload_n 0, 1) := by decide +kernel
theorem dX8_best_68 : decode cX8_best 68 = .ok (.getfield 50, 3) := by decide +kernel
theorem dX8_best_71 : decode cX8_best 71 = .ok (.iload 5, 2) := by decide +kernel
theorem dX8_best_73 : decode cX8_best 73 = .ok (.iaload, 1) := by decide +kernel
theorem dX8_best_74 : decode cX8_best 74 = .ok (.iload_n 3, 1) := by decide +kernel
theorem dX8_best_75 : decode cX8_best 75 = .ok (.if_icmp .ne 13, 3) := by decide +kernel
theorem dX8_best_78 : decode cX8_best 78 = .ok (.aload_n 0, 1) := by decide +kernel
theorem dX8_best_79 : decode cX8_best 79 = .ok (.getfield 56, 3) := by decide +kernel
theorem dX8_best_82 : decode cX8_best 82 = .ok (.iload 5, 2) := by decide +kernel
theorem dX8_best_84 : decode cX8_best 84 = .ok (.iaload, 1) := by decide +kernel
theorem dX8_best_85 : decode cX8_best 85 = .ok (.goto 5, 3) := by decide +kernel
theorem dX8_best_88 : decode cX8_best 88 = .ok (.iload 4, 2) := by decide +kernel
theorem dX8_best_90 : decode cX8_best 90 = .ok (.istore 4, 2) := by decide +kernel
theorem dX8_best_92 : decode cX8_best 92 = .ok (.iinc 5 1, 3) := by decide +kernel
theorem dX8_best_95 : decode cX8_best 95 = .ok (.goto (-37), 3) := by decide +kernel
theorem dX8_best_98 : decode cX8_best 98 = .ok (.iload_n 3, 1) := by decide +kernel
theorem dX8_best_99 : decode cX8_best 99 = .ok (.ifCond .ge 10, 3) := by decide +kernel
theorem dX8_best_102 : decode cX8_best 102 = .ok (.aload_n 0, 1) := by decide +kernel
theorem dX8_best_103 : decode cX8_best 103 = .ok (.getfield 204, 3) := by decide +kernel
theorem dX8_best_106 : decode cX8_best 106 = .ok (.goto 5, 3) := by decide +kernel
theorem dX8_best_109 : decode cX8_best 109 = .ok (.iload 4, 2) := by decide +kernel
theorem dX8_best_111 : decode cX8_best 111 = .ok (.ireturn, 1) := by decide +kernel
theorem dX8_take_0 : decode cX8_take 0 = .ok (.aload_n 0, 1) := by decide +kernel
theorem dX8_take_1 : decode cX8_take 1 = .ok (.getfield 41, 3) := by decide +kernel
theorem dX8_take_4 : decode cX8_take 4 = .ok (.iload_n 1, 1) := by decide +kernel
theorem dX8_take_5 : decode cX8_take 5 = .ok (.aload_n 0, 1) := by decide +kernel
theorem dX8_take_6 : decode cX8_take 6 = .ok (.getfield 37, 3) := by decide +kernel
theorem dX8_take_9 : decode cX8_take 9 = .ok (.iload_n 1, 1) := by decide +kernel
theorem dX8_take_10 : decode cX8_take 10 = .ok (.baload, 1) := by decide +kernel
theorem dX8_take_11 : decode cX8_take 11 = .ok (.bastore, 1) := by decide +kernel
theorem dX8_take_12 : decode cX8_take 12 = .ok (.iconst 0, 1) := by decide +kernel
theorem dX8_take_13 : decode cX8_take 13 = .ok (.istore_n 2, 1) := by decide +kernel
theorem dX8_take_14 : decode cX8_take 14 = .ok (.iload_n 2, 1) := by decide +kernel
theorem dX8_take_15 : decode cX8_take 15 = .ok (.bipush 10, 2) := by decide +kernel
theorem dX8_take_17 : decode cX8_take 17 = .ok (.if_icmp .ge 44, 3) := by decide +kernel
theorem dX8_take_20 : decode cX8_take 20 = .ok (.aload_n 0, 1) := by decide +kernel
theorem dX8_take_21 : decode cX8_take 21 = .ok (.getfield 47, 3) := by decide +kernel
theorem dX8_take_24 : decode cX8_take 24 = .ok (.bipush 10, 2) := by decide +kernel
theorem dX8_take_26 : decode cX8_take 26 = .ok (.iload_n 1, 1) := by decide +kernel
theorem dX8_take_27 : decode cX8_take 27 = .ok (.imul, 1) := by decide +kernel
theorem dX8_take_28 : decode cX8_take 28 = .ok (.iload_n 2, 1) := by decide +kernel
theorem dX8_take_29 : decode cX8_take 29 = .ok (.iadd, 1) := by decide +kernel
theorem dX8_take_30 : decode cX8_take 30 = .ok (.aload_n 0, 1) := by decide +kernel
theorem dX8_take_31 : decode cX8_take 31 = .ok (.getfield 44, 3) := by decide +kernel
theorem dX8_take_34 : decode cX8_take 34 = .ok (.bipush 10, 2) := by decide +kernel
theorem dX8_take_36 : decode cX8_take 36 = .ok (.iload_n 1, 1) := by decide +kernel
theorem dX8_take_37 : decode cX8_take 37 = .ok (.imul, 1) := by decide +kernel
theorem dX8_take_38 : decode cX8_take 38 = .ok (.iload_n 2, 1) := by decide +kernel
theorem dX8_take_39 : decode cX8_take 39 = .ok (.iadd, 1) := by decide +kernel
theorem dX8_take_40 : decode cX8_take 40 = .ok (.iaload, 1) := by decide +kernel
theorem dX8_take_41 : decode cX8_take 41 = .ok (.iastore, 1) := by decide +kernel
theorem dX8_take_42 : decode cX8_take 42 = .ok (.aload_n 0, 1) := by decide +kernel
theorem dX8_take_43 : decode cX8_take 43 = .ok (.getfield 44, 3) := by decide +kernel
theorem dX8_take_46 : decode cX8_take 46 = .ok (.bipush 10, 2) := by decide +kernel
theorem dX8_take_48 : decode cX8_take 48 = .ok (.iload_n 1, 1) := by decide +kernel
theorem dX8_take_49 : decode cX8_take 49 = .ok (.imul, 1) := by decide +kernel
theorem dX8_take_50 : decode cX8_take 50 = .ok (.iload_n 2, 1) := by decide +kernel
theorem dX8_take_51 : decode cX8_take 51 = .ok (.iadd, 1) := by decide +kernel
theorem dX8_take_52 : decode cX8_take 52 = .ok (.bipush (-9), 2) := by decide +kernel
theorem dX8_take_54 : decode cX8_take 54 = .ok (.iastore, 1) := by decide +kernel
theorem dX8_take_55 : decode cX8_take 55 = .ok (.iinc 2 1, 3) := by decide +kernel
theorem dX8_take_58 : decode cX8_take 58 = .ok (.goto (-44), 3) := by decide +kernel
theorem dX8_take_61 : decode cX8_take 61 = .ok (.iconst 0, 1) := by decide +kernel
theorem dX8_take_62 : decode cX8_take 62 = .ok (.istore_n 2, 1) := by decide +kernel
theorem dX8_take_63 : decode cX8_take 63 = .ok (.iload_n 2, 1) := by decide +kernel
theorem dX8_take_64 : decode cX8_take 64 = .ok (.aload_n 0, 1) := by decide +kernel
theorem dX8_take_65 : decode cX8_take 65 = .ok (.getfield 198, 3) := by decide +kernel
theorem dX8_take_68 : decode cX8_take 68 = .ok (.if_icmp .ge 31, 3) := by decide +kernel
theorem dX8_take_71 : decode cX8_take 71 = .ok (.aload_n 0, 1) := by decide +kernel
theorem dX8_take_72 : decode cX8_take 72 = .ok (.getfield 44, 3) := by decide +kernel
theorem dX8_take_75 : decode cX8_take 75 = .ok (.bipush 10, 2) := by decide +kernel
theorem dX8_take_77 : decode cX8_take 77 = .ok (.iload_n 1, 1) := by decide +kernel
theorem dX8_take_78 : decode cX8_take 78 = .ok (.imul, 1) := by decide +kernel
theorem dX8_take_79 : decode cX8_take 79 = .ok (.aload_n 0, 1) := by decide +kernel
theorem dX8_take_80 : decode cX8_take 80 = .ok (.getfield 50, 3) := by decide +kernel
theorem dX8_take_83 : decode cX8_take 83 = .ok (.iload_n 2, 1) := by decide +kernel
theorem dX8_take_84 : decode cX8_take 84 = .ok (.iaload, 1) := by decide +kernel
theorem dX8_take_85 : decode cX8_take 85 = .ok (.iadd, 1) := by decide +kernel
theorem dX8_take_86 : decode cX8_take 86 = .ok (.aload_n 0, 1) := by decide +kernel
theorem dX8_take_87 : decode cX8_take 87 = .ok (.getfield 56, 3) := by decide +kernel
theorem dX8_take_90 : decode cX8_take 90 = .ok (.iload_n 2, 1) := by decide +kernel
theorem dX8_take_91 : decode cX8_take 91 = .ok (.iaload, 1) := by decide +kernel
theorem dX8_take_92 : decode cX8_take 92 = .ok (.iastore, 1) := by decide +kernel
theorem dX8_take_93 : decode cX8_take 93 = .ok (.iinc 2 1, 3) := by decide +kernel
theorem dX8_take_96 : decode cX8_take 96 = .ok (.goto (-33), 3) := by decide +kernel
theorem dX8_take_99 : decode cX8_take 99 = .ok (.aload_n 0, 1) := by decide +kernel
theorem dX8_take_100 : decode cX8_take 100 = .ok (.getfield 37, 3) := by decide +kernel
theorem dX8_take_103 : decode cX8_take 103 = .ok (.iload_n 1, 1) := by decide +kernel
theorem dX8_take_104 : decode cX8_take 104 = .ok (.iconst 1, 1) := by decide +kernel
theorem dX8_take_105 : decode cX8_take 105 = .ok (.bastore, 1) := by decide +kernel
theorem dX8_take_106 : decode cX8_take 106 = .ok (.aload_n 0, 1) := by decide +kernel
theorem dX8_take_107 : decode cX8_take 107 = .ok (.getfield 68, 3) := by decide +kernel
theorem dX8_take_110 : decode cX8_take 110 = .ok (.iload_n 1, 1) := by decide +kernel
theorem dX8_take_111 : decode cX8_take 111 = .ok (.bipush (-9), 2) := by decide +kernel
theorem dX8_take_113 : decode cX8_take 113 = .ok (.iastore, 1) := by decide +kernel
theorem dX8_take_114 : decode cX8_take 114 = .ok (.return_, 1) := by decide +kernel
theorem dX8_lay_0 : decode cX8_lay 0 = .ok (.aload_n 0, 1) := by decide +kernel
theorem dX8_lay_1 : decode cX8_lay 1 = .ok (.iload_n 1, 1) := by decide +kernel
theorem dX8_lay_2 : decode cX8_lay 2 = .ok (.invokevirtual 175, 3) := by decide +kernel
theorem dX8_lay_5 : decode cX8_lay 5 = .ok (.ifCond .eq 5, 3) := by decide +kernel
theorem dX8_lay_8 : decode cX8_lay 8 = .ok (.iconst (-1), 1) := by decide +kernel
theorem dX8_lay_9 : decode cX8_lay 9 = .ok (.ireturn, 1) := by decide +kernel
theorem dX8_lay_10 : decode cX8_lay 10 = .ok (.aload_n 0, 1) := by decide +kernel
theorem dX8_lay_11 : decode cX8_lay 11 = .ok (.iload_n 2, 1) := by decide +kernel
theorem dX8_lay_12 : decode cX8_lay 12 = .ok (.invokevirtual 223, 3) := by decide +kernel
theorem dX8_lay_15 : decode cX8_lay 15 = .ok (.ifCond .ne 6, 3) := by decide +kernel
theorem dX8_lay_18 : decode cX8_lay 18 = .ok (.bipush (-2), 2) := by decide +kernel
theorem dX8_lay_20 : decode cX8_lay 20 = .ok (.ireturn, 1) := by decide +kernel
theorem dX8_lay_21 : decode cX8_lay 21 = .ok (.aload_n 0, 1) := by decide +kernel
theorem dX8_lay_22 : decode cX8_lay 22 = .ok (.iload_n 1, 1) := by decide +kernel
theorem dX8_lay_23 : decode cX8_lay 23 = .ok (.iload_n 2, 1) := by decide +kernel
theorem dX8_lay_24 : decode cX8_lay 24 = .ok (.invokevirtual 226, 3) := by decide +kernel
theorem dX8_lay_27 : decode cX8_lay 27 = .ok (.ifCond .ne 6, 3) := by decide +kernel
theorem dX8_lay_30 : decode cX8_lay 30 = .ok (.bipush (-9), 2) := by decide +kernel
theorem dX8_lay_32 : decode cX8_lay 32 = .ok (.ireturn, 1) := by decide +kernel
theorem dX8_lay_33 : decode cX8_lay 33 = .ok (.aload_n 0, 1) := by decide +kernel
theorem dX8_lay_34 : decode cX8_lay 34 = .ok (.iload_n 1, 1) := by decide +kernel
theorem dX8_lay_35 : decode cX8_lay 35 = .ok (.invokevirtual 229, 3) := by decide +kernel
theorem dX8_lay_38 : decode cX8_lay 38 = .ok (.aload_n 0, 1) := by decide +kernel
theorem dX8_lay_39 : decode cX8_lay 39 = .ok (.getfield 204, 3) := by decide +kernel
theorem dX8_lay_42 : decode cX8_lay 42 = .ok (.ireturn, 1) := by decide +kernel
theorem dX8_setOf_0 : decode cX8_setOf 0 = .ok (.iconst 0, 1) := by decide +kernel
theorem dX8_setOf_1 : decode cX8_setOf 1 = .ok (.istore_n 2, 1) := by decide +kernel
theorem dX8_setOf_2 : decode cX8_setOf 2 = .ok (.iconst 0, 1) := by decide +kernel
theorem dX8_setOf_3 : decode cX8_setOf 3 = .ok (.istore_n 3, 1) := by decide +kernel
theorem dX8_setOf_4 : decode cX8_setOf 4 = .ok (.iload_n 3, 1) := by decide +kernel
theorem dX8_setOf_5 : decode cX8_setOf 5 = .ok (.bipush 10, 2) := by decide +kernel
theorem dX8_setOf_7 : decode cX8_setOf 7 = .ok (.if_icmp .ge 33, 3) := by decide +kernel
theorem dX8_setOf_10 : decode cX8_setOf 10 = .ok (.iload_n 2, 1) := by decide +kernel
theorem dX8_setOf_11 : decode cX8_setOf 11 = .ok (.aload_n 0, 1) := by decide +kernel
theorem dX8_setOf_12 : decode cX8_setOf 12 = .ok (.getfield 44, 3) := by decide +kernel
theorem dX8_setOf_15 : decode cX8_setOf 15 = .ok (.bipush 10, 2) := by decide +kernel
theorem dX8_setOf_17 : decode cX8_setOf 17 = .ok (.iload_n 1, 1) := by decide +kernel
theorem dX8_setOf_18 : decode cX8_setOf 18 = .ok (.imul, 1) := by decide +kernel
theorem dX8_setOf_19 : decode cX8_setOf 19 = .ok (.iload_n 3, 1) := by decide +kernel
theorem dX8_setOf_20 : decode cX8_setOf 20 = .ok (.iadd, 1) := by decide +kernel
theorem dX8_setOf_21 : decode cX8_setOf 21 = .ok (.iaload, 1) := by decide +kernel
theorem dX8_setOf_22 : decode cX8_setOf 22 = .ok (.ifCond .ge 7, 3) := by decide +kernel
theorem dX8_setOf_25 : decode cX8_setOf 25 = .ok (.iconst 0, 1) := by decide +kernel
theorem dX8_setOf_26 : decode cX8_setOf 26 = .ok (.goto 6, 3) := by decide +kernel
theorem dX8_setOf_29 : decode cX8_setOf 29 = .ok (.iconst 1, 1) := by decide +kernel
theorem dX8_setOf_30 : decode cX8_setOf 30 = .ok (.iload_n 3, 1) := by decide +kernel
theorem dX8_setOf_31 : decode cX8_setOf 31 = .ok (.ishl, 1) := by decide +kernel
theorem dX8_setOf_32 : decode cX8_setOf 32 = .ok (.ior, 1) := by decide +kernel
theorem dX8_setOf_33 : decode cX8_setOf 33 = .ok (.istore_n 2, 1) := by decide +kernel
theorem dX8_setOf_34 : decode cX8_setOf 34 = .ok (.iinc 3 1, 3) := by decide +kernel
theorem dX8_setOf_37 : decode cX8_setOf 37 = .ok (.goto (-33), 3) := by decide +kernel
theorem dX8_setOf_40 : decode cX8_setOf 40 = .ok (.iload_n 2, 1) := by decide +kernel
theorem dX8_setOf_41 : decode cX8_setOf 41 = .ok (.ireturn, 1) := by decide +kernel
theorem dX8_priceOf_0 : decode cX8_priceOf 0 = .ok (.iconst 0, 1) := by decide +kernel
theorem dX8_priceOf_1 : decode cX8_priceOf 1 = .ok (.istore_n 2, 1) := by decide +kernel
theorem dX8_priceOf_2 : decode cX8_priceOf 2 = .ok (.iconst 0, 1) := by decide +kernel
theorem dX8_priceOf_3 : decode cX8_priceOf 3 = .ok (.istore_n 3, 1) := by decide +kernel
theorem dX8_priceOf_4 : decode cX8_priceOf 4 = .ok (.iload_n 3, 1) := by decide +kernel
theorem dX8_priceOf_5 : decode cX8_priceOf 5 = .ok (.aload_n 0, 1) := by decide +kernel
theorem dX8_priceOf_6 : decode cX8_priceOf 6 = .ok (.getfield 143, 3) := by decide +kernel
theorem dX8_priceOf_9 : decode cX8_priceOf 9 = .ok (.if_icmp .ge 91, 3) := by decide +kernel
theorem dX8_priceOf_12 : decode cX8_priceOf 12 = .ok (.iconst 0, 1) := by decide +kernel
theorem dX8_priceOf_13 : decode cX8_priceOf 13 = .ok (.istore 4, 2) := by decide +kernel
theorem dX8_priceOf_15 : decode cX8_priceOf 15 = .ok (.iload 4, 2) := by decide +kernel
theorem dX8_priceOf_17 : decode cX8_priceOf 17 = .ok (.iload_n 3, 1) := by decide +kernel
theorem dX8_priceOf_18 : decode cX8_priceOf 18 = .ok (.if_icmp .ge 76, 3) := by decide +kernel
theorem dX8_priceOf_21 : decode cX8_priceOf 21 = .ok (.aload_n 0, 1) := by decide +kernel
theorem dX8_priceOf_22 : decode cX8_priceOf 22 = .ok (.getfield 44, 3) := by decide +kernel
theorem dX8_priceOf_25 : decode cX8_priceOf 25 = .ok (.bipush 10, 2) := by decide +kernel
theorem dX8_priceOf_27 : decode cX8_priceOf 27 = .ok (.iload_n 1, 1) := by decide +kernel
theorem dX8_priceOf_28 : decode cX8_priceOf 28 = .ok (.imul, 1) := by decide +kernel
theorem dX8_priceOf_29 : decode cX8_priceOf 29 = .ok (.iload_n 3, 1) := by decide +kernel
theorem dX8_priceOf_30 : decode cX8_priceOf 30 = .ok (.iadd, 1) := by decide +kernel
theorem dX8_priceOf_31 : decode cX8_priceOf 31 = .ok (.iaload, 1) := by decide +kernel
theorem dX8_priceOf_32 : decode cX8_priceOf 32 = .ok (.istore 5, 2) := by decide +kernel
theorem dX8_priceOf_34 : decode cX8_priceOf 34 = .ok (.aload_n 0, 1) := by decide +kernel
theorem dX8_priceOf_35 : decode cX8_priceOf 35 = .ok (.getfield 44, 3) := by decide +kernel
theorem dX8_priceOf_38 : decode cX8_priceOf 38 = .ok (.bipush 10, 2) := by decide +kernel
theorem dX8_priceOf_40 : decode cX8_priceOf 40 = .ok (.iload_n 1, 1) := by decide +kernel
theorem dX8_priceOf_41 : decode cX8_priceOf 41 = .ok (.imul, 1) := by decide +kernel
theorem dX8_priceOf_42 : decode cX8_priceOf 42 = .ok (.iload 4, 2) := by decide +kernel
theorem dX8_priceOf_44 : decode cX8_priceOf 44 = .ok (.iadd, 1) := by decide +kernel
theorem dX8_priceOf_45 : decode cX8_priceOf 45 = .ok (.iaload, 1) := by decide +kernel
theorem dX8_priceOf_46 : decode cX8_priceOf 46 = .ok (.istore 6, 2) := by decide +kernel
theorem dX8_priceOf_48 : decode cX8_priceOf 48 = .ok (.iload_n 2, 1) := by decide +kernel
theorem dX8_priceOf_49 : decode cX8_priceOf 49 = .ok (.iload 5, 2) := by decide +kernel
theorem dX8_priceOf_51 : decode cX8_priceOf 51 = .ok (.ifCond .lt 8, 3) := by decide +kernel
theorem dX8_priceOf_54 : decode cX8_priceOf 54 = .ok (.iload 6, 2) := by decide +kernel
theorem dX8_priceOf_56 : decode cX8_priceOf 56 = .ok (.ifCond .ge 7, 3) := by decide +kernel
theorem dX8_priceOf_59 : decode cX8_priceOf 59 = .ok (.iconst 0, 1) := by decide +kernel
theorem dX8_priceOf_60 : decode cX8_priceOf 60 = .ok (.goto 26, 3) := by decide +kernel
theorem dX8_priceOf_63 : decode cX8_priceOf 63 = .ok (.aload_n 0, 1) := by decide +kernel
theorem dX8_priceOf_64 : decode cX8_priceOf 64 = .ok (.iload_n 3, 1) := by decide +kernel
theorem dX8_priceOf_65 : decode cX8_priceOf 65 = .ok (.iload 4, 2) := by decide +kernel
theorem dX8_priceOf_67 : decode cX8_priceOf 67 = .ok (.invokevirtual 201, 3) := by decide +kernel
theorem dX8_priceOf_70 : decode cX8_priceOf 70 = .ok (.iload 5, 2) := by decide +kernel
theorem dX8_priceOf_72 : decode cX8_priceOf 72 = .ok (.iload 6, 2) := by decide +kernel
theorem dX8_priceOf_74 : decode cX8_priceOf 74 = .ok (.invokestatic 189, 3) := by decide +kernel
theorem dX8_priceOf_77 : decode cX8_priceOf 77 = .ok (.iload 5, 2) := by decide +kernel
theorem dX8_priceOf_79 : decode cX8_priceOf 79 = .ok (.iload 6, 2) := by decide +kernel
theorem dX8_priceOf_81 : decode cX8_priceOf 81 = .ok (.invokestatic 192, 3) := by decide +kernel
theorem dX8_priceOf_84 : decode cX8_priceOf 84 = .ok (.iadd, 1) := by decide +kernel
theorem dX8_priceOf_85 : decode cX8_priceOf 85 = .ok (.imul, 1) := by decide +kernel
theorem dX8_priceOf_86 : decode cX8_priceOf 86 = .ok (.iadd, 1) := by decide +kernel
theorem dX8_priceOf_87 : decode cX8_priceOf 87 = .ok (.istore_n 2, 1) := by decide +kernel
theorem dX8_priceOf_88 : decode cX8_priceOf 88 = .ok (.iinc 4 1, 3) := by decide +kernel
theorem dX8_priceOf_91 : decode cX8_priceOf 91 = .ok (.goto (-76), 3) := by decide +kernel
theorem dX8_priceOf_94 : decode cX8_priceOf 94 = .ok (.iinc 3 1, 3) := by decide +kernel
theorem dX8_priceOf_97 : decode cX8_priceOf 97 = .ok (.goto (-93), 3) := by decide +kernel
theorem dX8_priceOf_100 : decode cX8_priceOf 100 = .ok (.iload_n 2, 1) := by decide +kernel
theorem dX8_priceOf_101 : decode cX8_priceOf 101 = .ok (.ireturn, 1) := by decide +kernel
theorem dX8_offer_0 : decode cX8_offer 0 = .ok (.aload_n 0, 1) := by decide +kernel
theorem dX8_offer_1 : decode cX8_offer 1 = .ok (.iload_n 1, 1) := by decide +kernel
theorem dX8_offer_2 : decode cX8_offer 2 = .ok (.invokevirtual 175, 3) := by decide +kernel
theorem dX8_offer_5 : decode cX8_offer 5 = .ok (.ifCond .eq 5, 3) := by decide +kernel
theorem dX8_offer_8 : decode cX8_offer 8 = .ok (.iconst (-1), 1) := by decide +kernel
theorem dX8_offer_9 : decode cX8_offer 9 = .ok (.ireturn, 1) := by decide +kernel
theorem dX8_offer_10 : decode cX8_offer 10 = .ok (.iload_n 2, 1) := by decide +kernel
theorem dX8_offer_11 : decode cX8_offer 11 = .ok (.i2l, 1) := by decide +kernel
theorem dX8_offer_12 : decode cX8_offer 12 = .ok (.lconst 0, 1) := by decide +kernel
theorem dX8_offer_13 : decode cX8_offer 13 = .ok (.ldc2_w 233, 3) := by decide +kernel
theorem dX8_offer_16 : decode cX8_offer 16 = .ok (.invokestatic 128, 3) := by decide +kernel
theorem dX8_offer_19 : decode cX8_offer 19 = .ok (.ifCond .ne 6, 3) := by decide +kernel
theorem dX8_offer_22 : decode cX8_offer 22 = .ok (.bipush (-2), 2) := by decide +kernel
theorem dX8_offer_24 : decode cX8_offer 24 = .ok (.ireturn, 1) := by decide +kernel
theorem dX8_offer_25 : decode cX8_offer 25 = .ok (.aload_n 0, 1) := by decide +kernel
theorem dX8_offer_26 : decode cX8_offer 26 = .ok (.getfield 37, 3) := by decide +kernel
theorem dX8_offer_29 : decode cX8_offer 29 = .ok (.iload_n 1, 1) := by decide +kernel
theorem dX8_offer_30 : decode cX8_offer 30 = .ok (.baload, 1) := by decide +kernel
theorem dX8_offer_31 : decode cX8_offer 31 = .ok (.ifCond .ne 6, 3) := by decide +kernel
theorem dX8_offer_34 : decode cX8_offer 34 = .ok (.bipush (-3), 2) := by decide +kernel
theorem dX8_offer_36 : decode cX8_offer 36 = .ok (.ireturn, 1) := by decide +kernel
theorem dX8_offer_37 : decode cX8_offer 37 = .ok (.aload_n 0, 1) := by decide +kernel
theorem dX8_offer_38 : decode cX8_offer 38 = .ok (.iload_n 1, 1) := by decide +kernel
theorem dX8_offer_39 : decode cX8_offer 39 = .ok (.aload_n 0, 1) := by decide +kernel
theorem dX8_offer_40 : decode cX8_offer 40 = .ok (.iload_n 1, 1) := by decide +kernel
theorem dX8_offer_41 : decode cX8_offer 41 = .ok (.invokevirtual 235, 3) := by decide +kernel
theorem dX8_offer_44 : decode cX8_offer 44 = .ok (.invokevirtual 226, 3) := by decide +kernel
theorem dX8_offer_47 : decode cX8_offer 47 = .ok (.ifCond .ne 6, 3) := by decide +kernel
theorem dX8_offer_50 : decode cX8_offer 50 = .ok (.bipush (-9), 2) := by decide +kernel
theorem dX8_offer_52 : decode cX8_offer 52 = .ok (.ireturn, 1) := by decide +kernel
theorem dX8_offer_53 : decode cX8_offer 53 = .ok (.aload_n 0, 1) := by decide +kernel
theorem dX8_offer_54 : decode cX8_offer 54 = .ok (.iload_n 1, 1) := by decide +kernel
theorem dX8_offer_55 : decode cX8_offer 55 = .ok (.invokevirtual 238, 3) := by decide +kernel
theorem dX8_offer_58 : decode cX8_offer 58 = .ok (.aload_n 0, 1) := by decide +kernel
theorem dX8_offer_59 : decode cX8_offer 59 = .ok (.getfield 204, 3) := by decide +kernel
theorem dX8_offer_62 : decode cX8_offer 62 = .ok (.isub, 1) := by decide +kernel
theorem dX8_offer_63 : decode cX8_offer 63 = .ok (.iload_n 2, 1) := by decide +kernel
theorem dX8_offer_64 : decode cX8_offer 64 = .ok (.if_icmp .ge 5, 3) := by decide +kernel
theorem dX8_offer_67 : decode cX8_offer 67 = .ok (.iconst 0, 1) := by decide +kernel
theorem dX8_offer_68 : decode cX8_offer 68 = .ok (.ireturn, 1) := by decide +kernel
theorem dX8_offer_69 : decode cX8_offer 69 = .ok (.aload_n 0, 1) := by decide +kernel
theorem dX8_offer_70 : decode cX8_offer 70 = .ok (.iload_n 1, 1) := by decide +kernel
theorem dX8_offer_71 : decode cX8_offer 71 = .ok (.invokevirtual 229, 3) := by decide +kernel
theorem dX8_offer_74 : decode cX8_offer 74 = .ok (.iconst 1, 1) := by decide +kernel
theorem dX8_offer_75 : decode cX8_offer 75 = .ok (.ireturn, 1) := by decide +kernel
theorem dX8_back_0 : decode cX8_back 0 = .ok (.aload_n 0, 1) := by decide +kernel
theorem dX8_back_1 : decode cX8_back 1 = .ok (.iload_n 1, 1) := by decide +kernel
theorem dX8_back_2 : decode cX8_back 2 = .ok (.invokevirtual 175, 3) := by decide +kernel
theorem dX8_back_5 : decode cX8_back 5 = .ok (.ifCond .eq 5, 3) := by decide +kernel
theorem dX8_back_8 : decode cX8_back 8 = .ok (.iconst (-1), 1) := by decide +kernel
theorem dX8_back_9 : decode cX8_back 9 = .ok (.ireturn, 1) := by decide +kernel
theorem dX8_back_10 : decode cX8_back 10 = .ok (.aload_n 0, 1) := by decide +kernel
theorem dX8_back_11 : decode cX8_back 11 = .ok (.getfield 41, 3) := by decide +kernel
theorem dX8_back_14 : decode cX8_back 14 = .ok (.iload_n 1, 1) := by decide +kernel
theorem dX8_back_15 : decode cX8_back 15 = .ok (.baload, 1) := by decide +kernel
theorem dX8_back_16 : decode cX8_back 16 = .ok (.ifCond .ne 6, 3) := by decide +kernel
theorem dX8_back_19 : decode cX8_back 19 = .ok (.bipush (-3), 2) := by decide +kernel
theorem dX8_back_21 : decode cX8_back 21 = .ok (.ireturn, 1) := by decide +kernel
theorem dX8_back_22 : decode cX8_back 22 = .ok (.iconst 0, 1) := by decide +kernel
theorem dX8_back_23 : decode cX8_back 23 = .ok (.istore_n 2, 1) := by decide +kernel
theorem dX8_back_24 : decode cX8_back 24 = .ok (.iload_n 2, 1) := by decide +kernel
theorem dX8_back_25 : decode cX8_back 25 = .ok (.bipush 10, 2) := by decide +kernel
theorem dX8_back_27 : decode cX8_back 27 = .ok (.if_icmp .ge 55, 3) := by decide +kernel
theorem dX8_back_30 : decode cX8_back 30 = .ok (.aload_n 0, 1) := by decide +kernel
theorem dX8_back_31 : decode cX8_back 31 = .ok (.getfield 44, 3) := by decide +kernel
theorem dX8_back_34 : decode cX8_back 34 = .ok (.bipush 10, 2) := by decide +kernel
theorem dX8_back_36 : decode cX8_back 36 = .ok (.iload_n 1, 1) := by decide +kernel
theorem dX8_back_37 : decode cX8_back 37 = .ok (.imul, 1) := by decide +kernel
theorem dX8_back_38 : decode cX8_back 38 = .ok (.iload_n 2, 1) := by decide +kernel
theorem dX8_back_39 : decode cX8_back 39 = .ok (.iadd, 1) := by decide +kernel
theorem dX8_back_40 : decode cX8_back 40 = .ok (.iaload, 1) := by decide +kernel
theorem dX8_back_41 : decode cX8_back 41 = .ok (.istore_n 3, 1) := by decide +kernel
theorem dX8_back_42 : decode cX8_back 42 = .ok (.aload_n 0, 1) := by decide +kernel
theorem dX8_back_43 : decode cX8_back 43 = .ok (.getfield 44, 3) := by decide +kernel
theorem dX8_back_46 : decode cX8_back 46 = .ok (.bipush 10, 2) := by decide +kernel
theorem dX8_back_48 : decode cX8_back 48 = .ok (.iload_n 1, 1) := by decide +kernel
theorem dX8_back_49 : decode cX8_back 49 = .ok (.imul, 1) := by decide +kernel
theorem dX8_back_50 : decode cX8_back 50 = .ok (.iload_n 2, 1) := by decide +kernel
theorem dX8_back_51 : decode cX8_back 51 = .ok (.iadd, 1) := by decide +kernel
theorem dX8_back_52 : decode cX8_back 52 = .ok (.aload_n 0, 1) := by decide +kernel
theorem dX8_back_53 : decode cX8_back 53 = .ok (.getfield 47, 3) := by decide +kernel
theorem dX8_back_56 : decode cX8_back 56 = .ok (.bipush 10, 2) := by decide +kernel
theorem dX8_back_58 : decode cX8_back 58 = .ok (.iload_n 1, 1) := by decide +kernel
theorem dX8_back_59 : decode cX8_back 59 = .ok (.imul, 1) := by decide +kernel
theorem dX8_back_60 : decode cX8_back 60 = .ok (.iload_n 2, 1) := by decide +kernel
theorem dX8_back_61 : decode cX8_back 61 = .ok (.iadd, 1) := by decide +kernel
theorem dX8_back_62 : decode cX8_back 62 = .ok (.iaload, 1) := by decide +kernel
theorem dX8_back_63 : decode cX8_back 63 = .ok (.iastore, 1) := by decide +kernel
theorem dX8_back_64 : decode cX8_back 64 = .ok (.aload_n 0, 1) := by decide +kernel
theorem dX8_back_65 : decode cX8_back 65 = .ok (.getfield 47, 3) := by decide +kernel
theorem dX8_back_68 : decode cX8_back 68 = .ok (.bipush 10, 2) := by decide +kernel
theorem dX8_back_70 : decode cX8_back 70 = .ok (.iload_n 1, 1) := by decide +kernel
theorem dX8_back_71 : decode cX8_back 71 = .ok (.imul, 1) := by decide +kernel
theorem dX8_back_72 : decode cX8_back 72 = .ok (.iload_n 2, 1) := by decide +kernel
theorem dX8_back_73 : decode cX8_back 73 = .ok (.iadd, 1) := by decide +kernel
theorem dX8_back_74 : decode cX8_back 74 = .ok (.iload_n 3, 1) := by decide +kernel
theorem dX8_back_75 : decode cX8_back 75 = .ok (.iastore, 1) := by decide +kernel
theorem dX8_back_76 : decode cX8_back 76 = .ok (.iinc 2 1, 3) := by decide +kernel
theorem dX8_back_79 : decode cX8_back 79 = .ok (.goto (-55), 3) := by decide +kernel
theorem dX8_back_82 : decode cX8_back 82 = .ok (.aload_n 0, 1) := by decide +kernel
theorem dX8_back_83 : decode cX8_back 83 = .ok (.getfield 68, 3) := by decide +kernel
theorem dX8_back_86 : decode cX8_back 86 = .ok (.iload_n 1, 1) := by decide +kernel
theorem dX8_back_87 : decode cX8_back 87 = .ok (.bipush (-9), 2) := by decide +kernel
theorem dX8_back_89 : decode cX8_back 89 = .ok (.iastore, 1) := by decide +kernel
theorem dX8_back_90 : decode cX8_back 90 = .ok (.iconst 1, 1) := by decide +kernel
theorem dX8_back_91 : decode cX8_back 91 = .ok (.ireturn, 1) := by decide +kernel
theorem dX8_partIn_0 : decode cX8_partIn 0 = .ok (.iconst 0, 1) := by decide +kernel
theorem dX8_partIn_1 : decode cX8_partIn 1 = .ok (.istore_n 3, 1) := by decide +kernel
theorem dX8_partIn_2 : decode cX8_partIn 2 = .ok (.iload_n 3, 1) := by decide +kernel
theorem dX8_partIn_3 : decode cX8_partIn 3 = .ok (.aload_n 0, 1) := by decide +kernel
theorem dX8_partIn_4 : decode cX8_partIn 4 = .ok (.getfield 143, 3) := by decide +kernel
theorem dX8_partIn_7 : decode cX8_partIn 7 = .ok (.if_icmp .ge 26, 3) := by decide +kernel
theorem dX8_partIn_10 : decode cX8_partIn 10 = .ok (.aload_n 0, 1) := by decide +kernel
theorem dX8_partIn_11 : decode cX8_partIn 11 = .ok (.getfield 44, 3) := by decide +kernel
theorem dX8_partIn_14 : decode cX8_partIn 14 = .ok (.bipush 10, 2) := by decide +kernel
theorem dX8_partIn_16 : decode cX8_partIn 16 = .ok (.iload_n 1, 1) := by decide +kernel
theorem dX8_partIn_17 : decode cX8_partIn 17 = .ok (.imul, 1) := by decide +kernel
theorem dX8_partIn_18 : decode cX8_partIn 18 = .ok (.iload_n 3, 1) := by decide +kernel
theorem dX8_partIn_19 : decode cX8_partIn 19 = .ok (.iadd, 1) := by decide +kernel
theorem dX8_partIn_20 : decode cX8_partIn 20 = .ok (.iaload, 1) := by decide +kernel
theorem dX8_partIn_21 : decode cX8_partIn 21 = .ok (.iload_n 2, 1) := by decide +kernel
theorem dX8_partIn_22 : decode cX8_partIn 22 = .ok (.if_icmp .ne 5, 3) := by decide +kernel
theorem dX8_partIn_25 : decode cX8_partIn 25 = .ok (.iload_n 3, 1) := by decide +kernel
theorem dX8_partIn_26 : decode cX8_partIn 26 = .ok (.ireturn, 1) := by decide +kernel
theorem dX8_partIn_27 : decode cX8_partIn 27 = .ok (.iinc 3 1, 3) := by decide +kernel
theorem dX8_partIn_30 : decode cX8_partIn 30 = .ok (.goto (-28), 3) := by decide +kernel
theorem dX8_partIn_33 : decode cX8_partIn 33 = .ok (.bipush (-9), 2) := by decide +kernel
theorem dX8_partIn_35 : decode cX8_partIn 35 = .ok (.ireturn, 1) := by decide +kernel
theorem dX8_isPlace_0 : decode cX8_isPlace 0 = .ok (.iload_n 0, 1) := by decide +kernel
theorem dX8_isPlace_1 : decode cX8_isPlace 1 = .ok (.i2l, 1) := by decide +kernel
theorem dX8_isPlace_2 : decode cX8_isPlace 2 = .ok (.lconst 0, 1) := by decide +kernel
theorem dX8_isPlace_3 : decode cX8_isPlace 3 = .ok (.ldc2_w 241, 3) := by decide +kernel
theorem dX8_isPlace_6 : decode cX8_isPlace 6 = .ok (.invokestatic 128, 3) := by decide +kernel
theorem dX8_isPlace_9 : decode cX8_isPlace 9 = .ok (.ireturn, 1) := by decide +kernel
theorem dX8_at_0 : decode cX8_at 0 = .ok (.aload_n 0, 1) := by decide +kernel
theorem dX8_at_1 : decode cX8_at 1 = .ok (.iload_n 1, 1) := by decide +kernel
theorem dX8_at_2 : decode cX8_at 2 = .ok (.invokevirtual 175, 3) := by decide +kernel
theorem dX8_at_5 : decode cX8_at 5 = .ok (.ifCond .ne 10, 3) := by decide +kernel
theorem dX8_at_8 : decode cX8_at 8 = .ok (.iload_n 2, 1) := by decide +kernel
theorem dX8_at_9 : decode cX8_at 9 = .ok (.invokestatic 243, 3) := by decide +kernel
theorem dX8_at_12 : decode cX8_at 12 = .ok (.ifCond .ne 7, 3) := by decide +kernel
theorem dX8_at_15 : decode cX8_at 15 = .ok (.iconst (-1), 1) := by decide +kernel
theorem dX8_at_16 : decode cX8_at 16 = .ok (.goto 9, 3) := by decide +kernel
theorem dX8_at_19 : decode cX8_at 19 = .ok (.aload_n 0, 1) := by decide +kernel
theorem dX8_at_20 : decode cX8_at 20 = .ok (.iload_n 1, 1) := by decide +kernel
theorem dX8_at_21 : decode cX8_at 21 = .ok (.iload_n 2, 1) := by decide +kernel
theorem dX8_at_22 : decode cX8_at 22 = .ok (.invokevirtual 246, 3) := by decide +kernel
theorem dX8_at_25 : decode cX8_at 25 = .ok (.ireturn, 1) := by decide +kernel
theorem dX8_price_0 : decode cX8_price 0 = .ok (.aload_n 0, 1) := by decide +kernel
theorem dX8_price_1 : decode cX8_price 1 = .ok (.iload_n 1, 1) := by decide +kernel
theorem dX8_price_2 : decode cX8_price 2 = .ok (.invokevirtual 175, 3) := by decide +kernel
theorem dX8_price_5 : decode cX8_price 5 = .ok (.ifCond .eq 5, 3) := by decide +kernel
theorem dX8_price_8 : decode cX8_price 8 = .ok (.iconst (-1), 1) := by decide +kernel
theorem dX8_price_9 : decode cX8_price 9 = .ok (.ireturn, 1) := by decide +kernel
theorem dX8_price_10 : decode cX8_price 10 = .ok (.aload_n 0, 1) := by decide +kernel
theorem dX8_price_11 : decode cX8_price 11 = .ok (.getfield 37, 3) := by decide +kernel
theorem dX8_price_14 : decode cX8_price 14 = .ok (.iload_n 1, 1) := by decide +kernel
theorem dX8_price_15 : decode cX8_price 15 = .ok (.baload, 1) := by decide +kernel
theorem dX8_price_16 : decode cX8_price 16 = .ok (.ifCond .eq 11, 3) := by decide +kernel
theorem dX8_price_19 : decode cX8_price 19 = .ok (.aload_n 0, 1) := by decide +kernel
theorem dX8_price_20 : decode cX8_price 20 = .ok (.iload_n 1, 1) := by decide +kernel
theorem dX8_price_21 : decode cX8_price 21 = .ok (.invokevirtual 238, 3) := by decide +kernel
theorem dX8_price_24 : decode cX8_price 24 = .ok (.goto 5, 3) := by decide +kernel
theorem dX8_price_27 : decode cX8_price 27 = .ok (.bipush (-3), 2) := by decide +kernel
theorem dX8_price_29 : decode cX8_price 29 = .ok (.ireturn, 1) := by decide +kernel
theorem dX8_leastNode_0 : decode cX8_leastNode 0 = .ok (.bipush (-9), 2) := by decide +kernel
theorem dX8_leastNode_2 : decode cX8_leastNode 2 = .ok (.istore_n 1, 1) := by decide +kernel
theorem dX8_leastNode_3 : decode cX8_leastNode 3 = .ok (.iconst 0, 1) := by decide +kernel
theorem dX8_leastNode_4 : decode cX8_leastNode 4 = .ok (.istore_n 2, 1) := by decide +kernel
theorem dX8_leastNode_5 : decode cX8_leastNode 5 = .ok (.iload_n 2, 1) := by decide +kernel
theorem dX8_leastNode_6 : decode cX8_leastNode 6 = .ok (.aload_n 0, 1) := by decide +kernel
theorem dX8_leastNode_7 : decode cX8_leastNode 7 = .ok (.getfield 249, 3) := by decide +kernel
theorem dX8_leastNode_10 : decode cX8_leastNode 10 = .ok (.if_icmp .ge 43, 3) := by decide +kernel
theorem dX8_leastNode_13 : decode cX8_leastNode 13 = .ok (.aload_n 0, 1) := by decide +kernel
theorem dX8_leastNode_14 : decode cX8_leastNode 14 = .ok (.getfield 62, 3) := by decide +kernel
theorem dX8_leastNode_17 : decode cX8_leastNode 17 = .ok (.iload_n 2, 1) := by decide +kernel
theorem dX8_leastNode_18 : decode cX8_leastNode 18 = .ok (.iaload, 1) := by decide +kernel
theorem dX8_leastNode_19 : decode cX8_leastNode 19 = .ok (.ifCond .ge 26, 3) := by decide +kernel
theorem dX8_leastNode_22 : decode cX8_leastNode 22 = .ok (.iload_n 1, 1) := by decide +kernel
theorem dX8_leastNode_23 : decode cX8_leastNode 23 = .ok (.ifCond .lt 18, 3) := by decide +kernel
theorem dX8_leastNode_26 : decode cX8_leastNode 26 = .ok (.aload_n 0, 1) := by decide +kernel
theorem dX8_leastNode_27 : decode cX8_leastNode 27 = .ok (.getfield 59, 3) := by decide +kernel
theorem dX8_leastNode_30 : decode cX8_leastNode 30 = .ok (.iload_n 2, 1) := by decide +kernel
theorem dX8_leastNode_31 : decode cX8_leastNode 31 = .ok (.iaload, 1) := by decide +kernel
theorem dX8_leastNode_32 : decode cX8_leastNode 32 = .ok (.aload_n 0, 1) := by decide +kernel
theorem dX8_leastNode_33 : decode cX8_leastNode 33 = .ok (.getfield 59, 3) := by decide +kernel
theorem dX8_leastNode_36 : decode cX8_leastNode 36 = .ok (.iload_n 1, 1) := by decide +kernel
theorem dX8_leastNode_37 : decode cX8_leastNode 37 = .ok (.iaload, 1) := by decide +kernel
theorem dX8_leastNode_38 : decode cX8_leastNode 38 = .ok (.if_icmp .ge 7, 3) := by decide +kernel
theorem dX8_leastNode_41 : decode cX8_leastNode 41 = .ok (.iload_n 2, 1) := by decide +kernel
theorem dX8_leastNode_42 : decode cX8_leastNode 42 = .ok (.goto 4, 3) := by decide +kernel
theorem dX8_leastNode_45 : decode cX8_leastNode 45 = .ok (.iload_n 1, 1) := by decide +kernel
theorem dX8_leastNode_46 : decode cX8_leastNode 46 = .ok (.istore_n 1, 1) := by decide +kernel
theorem dX8_leastNode_47 : decode cX8_leastNode 47 = .ok (.iinc 2 1, 3) := by decide +kernel
theorem dX8_leastNode_50 : decode cX8_leastNode 50 = .ok (.goto (-45), 3) := by decide +kernel
theorem dX8_leastNode_53 : decode cX8_leastNode 53 = .ok (.iload_n 1, 1) := by decide +kernel
theorem dX8_leastNode_54 : decode cX8_leastNode 54 = .ok (.ireturn, 1) := by decide +kernel
theorem dX8_join_0 : decode cX8_join 0 = .ok (.iconst 0, 1) := by decide +kernel
theorem dX8_join_1 : decode cX8_join 1 = .ok (.istore_n 2, 1) := by decide +kernel
theorem dX8_join_2 : decode cX8_join 2 = .ok (.iconst 0, 1) := by decide +kernel
theorem dX8_join_3 : decode cX8_join 3 = .ok (.istore_n 3, 1) := by decide +kernel
theorem dX8_join_4 : decode cX8_join 4 = .ok (.iload_n 3, 1) := by decide +kernel
theorem dX8_join_5 : decode cX8_join 5 = .ok (.iload_n 1, 1) := by decide +kernel
theorem dX8_join_6 : decode cX8_join 6 = .ok (.if_icmp .ge 36, 3) := by decide +kernel
theorem dX8_join_9 : decode cX8_join 9 = .ok (.aload_n 0, 1) := by decide +kernel
theorem dX8_join_10 : decode cX8_join 10 = .ok (.invokevirtual 252, 3) := by decide +kernel
theorem dX8_join_13 : decode cX8_join 13 = .ok (.istore 4, 2) := by decide +kernel
theorem dX8_join_15 : decode cX8_join 15 = .ok (.aload_n 0, 1) := by decide +kernel
theorem dX8_join_16 : decode cX8_join 16 = .ok (.getfield 62, 3) := by decide +kernel
theorem dX8_join_19 : decode cX8_join 19 = .ok (.iload 4, 2) := by decide +kernel
theorem dX8_join_21 : decode cX8_join 21 = .ok (.aload_n 0, 1) := by decide +kernel
theorem dX8_join_22 : decode cX8_join 22 = .ok (.getfield 249, 3) := by decide +kernel
theorem dX8_join_25 : decode cX8_join 25 = .ok (.iastore, 1) := by decide +kernel
theorem dX8_join_26 : decode cX8_join 26 = .ok (.iload_n 2, 1) := by decide +kernel
theorem dX8_join_27 : decode cX8_join 27 = .ok (.aload_n 0, 1) := by decide +kernel
theorem dX8_join_28 : decode cX8_join 28 = .ok (.getfield 59, 3) := by decide +kernel
theorem dX8_join_31 : decode cX8_join 31 = .ok (.iload 4, 2) := by decide +kernel
theorem dX8_join_33 : decode cX8_join 33 = .ok (.iaload, 1) := by decide +kernel
theorem dX8_join_34 : decode cX8_join 34 = .ok (.iadd, 1) := by decide +kernel
theorem dX8_join_35 : decode cX8_join 35 = .ok (.istore_n 2, 1) := by decide +kernel
theorem dX8_join_36 : decode cX8_join 36 = .ok (.iinc 3 1, 3) := by decide +kernel
theorem dX8_join_39 : decode cX8_join 39 = .ok (.goto (-35), 3) := by decide +kernel
theorem dX8_join_42 : decode cX8_join 42 = .ok (.aload_n 0, 1) := by decide +kernel
theorem dX8_join_43 : decode cX8_join 43 = .ok (.getfield 59, 3) := by decide +kernel
theorem dX8_join_46 : decode cX8_join 46 = .ok (.aload_n 0, 1) := by decide +kernel
theorem dX8_join_47 : decode cX8_join 47 = .ok (.getfield 249, 3) := by decide +kernel
theorem dX8_join_50 : decode cX8_join 50 = .ok (.iload_n 2, 1) := by decide +kernel
theorem dX8_join_51 : decode cX8_join 51 = .ok (.iastore, 1) := by decide +kernel
theorem dX8_join_52 : decode cX8_join 52 = .ok (.aload_n 0, 1) := by decide +kernel
theorem dX8_join_53 : decode cX8_join 53 = .ok (.getfield 62, 3) := by decide +kernel
theorem dX8_join_56 : decode cX8_join 56 = .ok (.aload_n 0, 1) := by decide +kernel
theorem dX8_join_57 : decode cX8_join 57 = .ok (.getfield 249, 3) := by decide +kernel
theorem dX8_join_60 : decode cX8_join 60 = .ok (.bipush (-9), 2) := by decide +kernel
theorem dX8_join_62 : decode cX8_join 62 = .ok (.iastore, 1) := by decide +kernel
theorem dX8_join_63 : decode cX8_join 63 = .ok (.aload_n 0, 1) := by decide +kernel
theorem dX8_join_64 : decode cX8_join 64 = .ok (.dup, 1) := by decide +kernel
theorem dX8_join_65 : decode cX8_join 65 = .ok (.getfield 249, 3) := by decide +kernel
theorem dX8_join_68 : decode cX8_join 68 = .ok (.iconst 1, 1) := by decide +kernel
theorem dX8_join_69 : decode cX8_join 69 = .ok (.iadd, 1) := by decide +kernel
theorem dX8_join_70 : decode cX8_join 70 = .ok (.putfield 249, 3) := by decide +kernel
theorem dX8_join_73 : decode cX8_join 73 = .ok (.return_, 1) := by decide +kernel
theorem dX8_layWays_0 : decode cX8_layWays 0 = .ok (.aload_n 0, 1) := by decide +kernel
theorem dX8_layWays_1 : decode cX8_layWays 1 = .ok (.iconst 0, 1) := by decide +kernel
theorem dX8_layWays_2 : decode cX8_layWays 2 = .ok (.putfield 249, 3) := by decide +kernel
theorem dX8_layWays_5 : decode cX8_layWays 5 = .ok (.iconst 0, 1) := by decide +kernel
theorem dX8_layWays_6 : decode cX8_layWays 6 = .ok (.istore_n 3, 1) := by decide +kernel
theorem dX8_layWays_7 : decode cX8_layWays 7 = .ok (.iload_n 3, 1) := by decide +kernel
theorem dX8_layWays_8 : decode cX8_layWays 8 = .ok (.aload_n 0, 1) := by decide +kernel
theorem dX8_layWays_9 : decode cX8_layWays 9 = .ok (.getfield 143, 3) := by decide +kernel
theorem dX8_layWays_12 : decode cX8_layWays 12 = .ok (.if_icmp .ge 61, 3) := by decide +kernel
theorem dX8_layWays_15 : decode cX8_layWays 15 = .ok (.aload_n 0, 1) := by decide +kernel
theorem dX8_layWays_16 : decode cX8_layWays 16 = .ok (.getfield 65, 3) := by decide +kernel
theorem dX8_layWays_19 : decode cX8_layWays 19 = .ok (.iload_n 3, 1) := by decide +kernel
theorem dX8_layWays_20 : decode cX8_layWays 20 = .ok (.bipush (-9), 2) := by decide +kernel
theorem dX8_layWays_22 : decode cX8_layWays 22 = .ok (.iastore, 1) := by decide +kernel
theorem dX8_layWays_23 : decode cX8_layWays 23 = .ok (.iload_n 1, 1) := by decide +kernel
theorem dX8_layWays_24 : decode cX8_layWays 24 = .ok (.iload_n 3, 1) := by decide +kernel
theorem dX8_layWays_25 : decode cX8_layWays 25 = .ok (.invokestatic 185, 3) := by decide +kernel
theorem dX8_layWays_28 : decode cX8_layWays 28 = .ok (.ifCond .eq 39, 3) := by decide +kernel
theorem dX8_layWays_31 : decode cX8_layWays 31 = .ok (.aload_n 0, 1) := by decide +kernel
theorem dX8_layWays_32 : decode cX8_layWays 32 = .ok (.getfield 59, 3) := by decide +kernel
theorem dX8_layWays_35 : decode cX8_layWays 35 = .ok (.aload_n 0, 1) := by decide +kernel
theorem dX8_layWays_36 : decode cX8_layWays 36 = .ok (.getfield 249, 3) := by decide +kernel
theorem dX8_layWays_39 : decode cX8_layWays 39 = .ok (.aload_n 0, 1) := by decide +kernel
theorem dX8_layWays_40 : decode cX8_layWays 40 = .ok (.getfield 13, 3) := by decide +kernel
theorem dX8_layWays_43 : decode cX8_layWays 43 = .ok (.iload_n 3, 1) := by decide +kernel
theorem dX8_layWays_44 : decode cX8_layWays 44 = .ok (.iaload, 1) := by decide +kernel
theorem dX8_layWays_45 : decode cX8_layWays 45 = .ok (.iastore, 1) := by decide +kernel
theorem dX8_layWays_46 : decode cX8_layWays 46 = .ok (.aload_n 0, 1) := by decide +kernel
theorem dX8_layWays_47 : decode cX8_layWays 47 = .ok (.getfield 62, 3) := by decide +kernel
theorem dX8_layWays_50 : decode cX8_layWays 50 = .ok (.aload_n 0, 1) := by decide +kernel
theorem dX8_layWays_51 : decode cX8_layWays 51 = .ok (.getfield 249, 3) := by decide +kernel
theorem dX8_layWays_54 : decode cX8_layWays 54 = .ok (.bipush (-9), 2) := by decide +kernel
theorem dX8_layWays_56 : decode cX8_layWays 56 = .ok (.iastore, 1) := by decide +kernel
theorem dX8_layWays_57 : decode cX8_layWays 57 = .ok (.aload_n 0, 1) := by decide +kernel
theorem dX8_layWays_58 : decode cX8_layWays 58 = .ok (.dup, 1) := by decide +kernel
theorem dX8_layWays_59 : decode cX8_layWays 59 = .ok (.getfield 249, 3) := by decide +kernel
theorem dX8_layWays_62 : decode cX8_layWays 62 = .ok (.iconst 1, 1) := by decide +kernel
theorem dX8_layWays_63 : decode cX8_layWays 63 = .ok (.iadd, 1) := by decide +kernel
theorem dX8_layWays_64 : decode cX8_layWays 64 = .ok (.putfield 249, 3) := by decide +kernel
theorem dX8_layWays_67 : decode cX8_layWays 67 = .ok (.iinc 3 1, 3) := by decide +kernel
theorem dX8_layWays_70 : decode cX8_layWays 70 = .ok (.goto (-63), 3) := by decide +kernel
theorem dX8_layWays_73 : decode cX8_layWays 73 = .ok (.aload_n 0, 1) := by decide +kernel
theorem dX8_layWays_74 : decode cX8_layWays 74 = .ok (.getfield 249, 3) := by decide +kernel
theorem dX8_layWays_77 : decode cX8_layWays 77 = .ok (.istore_n 3, 1) := by decide +kernel
theorem dX8_layWays_78 : decode cX8_layWays 78 = .ok (.iload_n 3, 1) := by decide +kernel
theorem dX8_layWays_79 : decode cX8_layWays 79 = .ok (.istore 4, 2) := by decide +kernel
theorem dX8_layWays_81 : decode cX8_layWays 81 = .ok (.iload_n 3, 1) := by decide +kernel
theorem dX8_layWays_82 : decode cX8_layWays 82 = .ok (.iconst 1, 1) := by decide +kernel
theorem dX8_layWays_83 : decode cX8_layWays 83 = .ok (.if_icmp .ne 8, 3) := by decide +kernel
theorem dX8_layWays_86 : decode cX8_layWays 86 = .ok (.aload_n 0, 1) := by decide +kernel
theorem dX8_layWays_87 : decode cX8_layWays 87 = .ok (.iconst 1, 1) := by decide +kernel
theorem dX8_layWays_88 : decode cX8_layWays 88 = .ok (.invokevirtual 255, 3) := by decide +kernel
theorem dX8_layWays_91 : decode cX8_layWays 91 = .ok (.iload 4, 2) := by decide +kernel
theorem dX8_layWays_93 : decode cX8_layWays 93 = .ok (.iconst 1, 1) := by decide +kernel
theorem dX8_layWays_94 : decode cX8_layWays 94 = .ok (.if_icmp .le 42, 3) := by decide +kernel
theorem dX8_layWays_97 : decode cX8_layWays 97 = .ok (.iload 4, 2) := by decide +kernel
theorem dX8_layWays_99 : decode cX8_layWays 99 = .ok (.iload_n 3, 1) := by decide +kernel
theorem dX8_layWays_100 : decode cX8_layWays 100 = .ok (.if_icmp .ne 15, 3) := by decide +kernel
theorem dX8_layWays_103 : decode cX8_layWays 103 = .ok (.iconst 2, 1) := by decide +kernel
theorem dX8_layWays_104 : decode cX8_layWays 104 = .ok (.iload_n 3, 1) := by decide +kernel
theorem dX8_layWays_105 : decode cX8_layWays 105 = .ok (.iconst 2, 1) := by decide +kernel
theorem dX8_layWays_106 : decode cX8_layWays 106 = .ok (.isub, 1) := by decide +kernel
theorem dX8_layWays_107 : decode cX8_layWays 107 = .ok (.iload_n 2, 1) := by decide +kernel
theorem dX8_layWays_108 : decode cX8_layWays 108 = .ok (.iconst 1, 1) := by decide +kernel
theorem dX8_layWays_109 : decode cX8_layWays 109 = .ok (.isub, 1) := by decide +kernel
theorem dX8_layWays_110 : decode cX8_layWays 110 = .ok (.irem, 1) := by decide +kernel
theorem dX8_layWays_111 : decode cX8_layWays 111 = .ok (.iadd, 1) := by decide +kernel
theorem dX8_layWays_112 : decode cX8_layWays 112 = .ok (.goto 4, 3) := by decide +kernel
theorem dX8_layWays_115 : decode cX8_layWays 115 = .ok (.iload_n 2, 1) := by decide +kernel
theorem dX8_layWays_116 : decode cX8_layWays 116 = .ok (.istore 5, 2) := by decide +kernel
theorem dX8_layWays_118 : decode cX8_layWays 118 = .ok (.aload_n 0, 1) := by decide +kernel
theorem dX8_layWays_119 : decode cX8_layWays 119 = .ok (.iload 5, 2) := by decide +kernel
theorem dX8_layWays_121 : decode cX8_layWays 121 = .ok (.invokevirtual 255, 3) := by decide +kernel
theorem dX8_layWays_124 : decode cX8_layWays 124 = .ok (.iload 4, 2) := by decide +kernel
theorem dX8_layWays_126 : decode cX8_layWays 126 = .ok (.iload 5, 2) := by decide +kernel
theorem dX8_layWays_128 : decode cX8_layWays 128 = .ok (.iconst 1, 1) := by decide +kernel
theorem dX8_layWays_129 : decode cX8_layWays 129 = .ok (.isub, 1) := by decide +kernel
theorem dX8_layWays_130 : decode cX8_layWays 130 = .ok (.isub, 1) := by decide +kernel
theorem dX8_layWays_131 : decode cX8_layWays 131 = .ok (.istore 4, 2) := by decide +kernel
theorem dX8_layWays_133 : decode cX8_layWays 133 = .ok (.goto (-42), 3) := by decide +kernel
theorem dX8_layWays_136 : decode cX8_layWays 136 = .ok (.iconst 0, 1) := by decide +kernel
theorem dX8_layWays_137 : decode cX8_layWays 137 = .ok (.istore 5, 2) := by decide +kernel
theorem dX8_layWays_139 : decode cX8_layWays 139 = .ok (.iconst 0, 1) := by decide +kernel
theorem dX8_layWays_140 : decode cX8_layWays 140 = .ok (.istore 6, 2) := by decide +kernel
theorem dX8_layWays_142 : decode cX8_layWays 142 = .ok (.iload 6, 2) := by decide +kernel
theorem dX8_layWays_144 : decode cX8_layWays 144 = .ok (.aload_n 0, 1) := by decide +kernel
theorem dX8_layWays_145 : decode cX8_layWays 145 = .ok (.getfield 143, 3) := by decide +kernel
theorem dX8_layWays_148 : decode cX8_layWays 148 = .ok (.if_icmp .ge 66, 3) := by decide +kernel
theorem dX8_layWays_151 : decode cX8_layWays 151 = .ok (.iload_n 1, 1) := by decide +kernel
theorem dX8_layWays_152 : decode cX8_layWays 152 = .ok (.iload 6, 2) := by decide +kernel
theorem dX8_layWays_154 : decode cX8_layWays 154 = .ok (.invokestatic 185, 3) := by decide +kernel
theorem dX8_layWays_157 : decode cX8_layWays 157 = .ok (.ifCond .eq 51, 3) := by decide +kernel
theorem dX8_layWays_160 : decode cX8_layWays 160 = .ok (.aload_n 0, 1) := by decide +kernel
theorem dX8_layWays_161 : decode cX8_layWays 161 = .ok (.getfield 65, 3) := by decide +kernel
theorem dX8_layWays_164 : decode cX8_layWays 164 = .ok (.iload 6, 2) := by decide +kernel
theorem dX8_layWays_166 : decode cX8_layWays 166 = .ok (.iconst 0, 1) := by decide +kernel
theorem dX8_layWays_167 : decode cX8_layWays 167 = .ok (.iastore, 1) := by decide +kernel
theorem dX8_layWays_168 : decode cX8_layWays 168 = .ok (.aload_n 0, 1) := by decide +kernel
theorem dX8_layWays_169 : decode cX8_layWays 169 = .ok (.getfield 62, 3) := by decide +kernel
theorem dX8_layWays_172 : decode cX8_layWays 172 = .ok (.iload 5, 2) := by decide +kernel
theorem dX8_layWays_174 : decode cX8_layWays 174 = .ok (.iaload, 1) := by decide +kernel
theorem dX8_layWays_175 : decode cX8_layWays 175 = .ok (.istore 7, 2) := by decide +kernel
theorem dX8_layWays_177 : decode cX8_layWays 177 = .ok (.iload 7, 2) := by decide +kernel
theorem dX8_layWays_179 : decode cX8_layWays 179 = .ok (.ifCond .lt 26, 3) := by decide +kernel
theorem dX8_layWays_182 : decode cX8_layWays 182 = .ok (.aload_n 0, 1) := by decide +kernel
theorem dX8_layWays_183 : decode cX8_layWays 183 = .ok (.getfield 65, 3) := by decide +kernel
theorem dX8_layWays_186 : decode cX8_layWays 186 = .ok (.iload 6, 2) := by decide +kernel
theorem dX8_layWays_188 : decode cX8_layWays 188 = .ok (.dup2, 1) := by decide +kernel
theorem dX8_layWays_189 : decode cX8_layWays 189 = .ok (.iaload, 1) := by decide +kernel
theorem dX8_layWays_190 : decode cX8_layWays 190 = .ok (.iconst 1, 1) := by decide +kernel
theorem dX8_layWays_191 : decode cX8_layWays 191 = .ok (.iadd, 1) := by decide +kernel
theorem dX8_layWays_192 : decode cX8_layWays 192 = .ok (.iastore, 1) := by decide +kernel
theorem dX8_layWays_193 : decode cX8_layWays 193 = .ok (.aload_n 0, 1) := by decide +kernel
theorem dX8_layWays_194 : decode cX8_layWays 194 = .ok (.getfield 62, 3) := by decide +kernel
theorem dX8_layWays_197 : decode cX8_layWays 197 = .ok (.iload 7, 2) := by decide +kernel
theorem dX8_layWays_199 : decode cX8_layWays 199 = .ok (.iaload, 1) := by decide +kernel
theorem dX8_layWays_200 : decode cX8_layWays 200 = .ok (.istore 7, 2) := by decide +kernel
theorem dX8_layWays_202 : decode cX8_layWays 202 = .ok (.goto (-25), 3) := by decide +kernel
theorem dX8_layWays_205 : decode cX8_layWays 205 = .ok (.iinc 5 1, 3) := by decide +kernel
theorem dX8_layWays_208 : decode cX8_layWays 208 = .ok (.iinc 6 1, 3) := by decide +kernel
theorem dX8_layWays_211 : decode cX8_layWays 211 = .ok (.goto (-69), 3) := by decide +kernel
theorem dX8_layWays_214 : decode cX8_layWays 214 = .ok (.return_, 1) := by decide +kernel
theorem dX8_areParts_0 : decode cX8_areParts 0 = .ok (.iload_n 1, 1) := by decide +kernel
theorem dX8_areParts_1 : decode cX8_areParts 1 = .ok (.i2l, 1) := by decide +kernel
theorem dX8_areParts_2 : decode cX8_areParts 2 = .ok (.lconst 1, 1) := by decide +kernel
theorem dX8_areParts_3 : decode cX8_areParts 3 = .ok (.lconst 1, 1) := by decide +kernel
theorem dX8_areParts_4 : decode cX8_areParts 4 = .ok (.aload_n 0, 1) := by decide +kernel
theorem dX8_areParts_5 : decode cX8_areParts 5 = .ok (.getfield 143, 3) := by decide +kernel
theorem dX8_areParts_8 : decode cX8_areParts 8 = .ok (.lshl, 1) := by decide +kernel
theorem dX8_areParts_9 : decode cX8_areParts 9 = .ok (.lconst 1, 1) := by decide +kernel
theorem dX8_areParts_10 : decode cX8_areParts 10 = .ok (.lsub, 1) := by decide +kernel
theorem dX8_areParts_11 : decode cX8_areParts 11 = .ok (.invokestatic 128, 3) := by decide +kernel
theorem dX8_areParts_14 : decode cX8_areParts 14 = .ok (.ireturn, 1) := by decide +kernel
theorem dX8_ways_0 : decode cX8_ways 0 = .ok (.aload_n 0, 1) := by decide +kernel
theorem dX8_ways_1 : decode cX8_ways 1 = .ok (.iload_n 1, 1) := by decide +kernel
theorem dX8_ways_2 : decode cX8_ways 2 = .ok (.invokevirtual 258, 3) := by decide +kernel
theorem dX8_ways_5 : decode cX8_ways 5 = .ok (.ifCond .eq 17, 3) := by decide +kernel
theorem dX8_ways_8 : decode cX8_ways 8 = .ok (.iload_n 2, 1) := by decide +kernel
theorem dX8_ways_9 : decode cX8_ways 9 = .ok (.i2l, 1) := by decide +kernel
theorem dX8_ways_10 : decode cX8_ways 10 = .ok (.ldc2_w 126, 3) := by decide +kernel
theorem dX8_ways_13 : decode cX8_ways 13 = .ok (.ldc2_w 261, 3) := by decide +kernel
theorem dX8_ways_16 : decode cX8_ways 16 = .ok (.invokestatic 128, 3) := by decide +kernel
theorem dX8_ways_19 : decode cX8_ways 19 = .ok (.ifCond .ne 6, 3) := by decide +kernel
theorem dX8_ways_22 : decode cX8_ways 22 = .ok (.bipush (-2), 2) := by decide +kernel
theorem dX8_ways_24 : decode cX8_ways 24 = .ok (.ireturn, 1) := by decide +kernel
theorem dX8_ways_25 : decode cX8_ways 25 = .ok (.iload_n 3, 1) := by decide +kernel
theorem dX8_ways_26 : decode cX8_ways 26 = .ok (.i2l, 1) := by decide +kernel
theorem dX8_ways_27 : decode cX8_ways 27 = .ok (.ldc2_w 221, 3) := by decide +kernel
theorem dX8_ways_30 : decode cX8_ways 30 = .ok (.aload_n 0, 1) := by decide +kernel
theorem dX8_ways_31 : decode cX8_ways 31 = .ok (.getfield 143, 3) := by decide +kernel
theorem dX8_ways_34 : decode cX8_ways 34 = .ok (.i2l, 1) := by decide +kernel
theorem dX8_ways_35 : decode cX8_ways 35 = .ok (.lconst 1, 1) := by decide +kernel
theorem dX8_ways_36 : decode cX8_ways 36 = .ok (.lsub, 1) := by decide +kernel
theorem dX8_ways_37 : decode cX8_ways 37 = .ok (.invokestatic 128, 3) := by decide +kernel
theorem dX8_ways_40 : decode cX8_ways 40 = .ok (.ifCond .ne 5, 3) := by decide +kernel
theorem dX8_ways_43 : decode cX8_ways 43 = .ok (.iconst (-1), 1) := by decide +kernel
theorem dX8_ways_44 : decode cX8_ways 44 = .ok (.ireturn, 1) := by decide +kernel
theorem dX8_ways_45 : decode cX8_ways 45 = .ok (.aload_n 0, 1) := by decide +kernel
theorem dX8_ways_46 : decode cX8_ways 46 = .ok (.iload_n 1, 1) := by decide +kernel
theorem dX8_ways_47 : decode cX8_ways 47 = .ok (.iload_n 2, 1) := by decide +kernel
theorem dX8_ways_48 : decode cX8_ways 48 = .ok (.invokevirtual 263, 3) := by decide +kernel
theorem dX8_ways_51 : decode cX8_ways 51 = .ok (.iconst 0, 1) := by decide +kernel
theorem dX8_ways_52 : decode cX8_ways 52 = .ok (.istore 4, 2) := by decide +kernel
theorem dX8_ways_54 : decode cX8_ways 54 = .ok (.iconst 0, 1) := by decide +kernel
theorem dX8_ways_55 : decode cX8_ways 55 = .ok (.istore 5, 2) := by decide +kernel
theorem dX8_ways_57 : decode cX8_ways 57 = .ok (.iload 5, 2) := by decide +kernel
theorem dX8_ways_59 : decode cX8_ways 59 = .ok (.aload_n 0, 1) := by decide +kernel
theorem dX8_ways_60 : decode cX8_ways 60 = .ok (.getfield 143, 3) := by decide +kernel
theorem dX8_ways_63 : decode cX8_ways 63 = .ok (.if_icmp .ge 43, 3) := by decide +kernel
theorem dX8_ways_66 : decode cX8_ways 66 = .ok (.iload 4, 2) := by decide +kernel
theorem dX8_ways_68 : decode cX8_ways 68 = .ok (.aload_n 0, 1) := by decide +kernel
theorem dX8_ways_69 : decode cX8_ways 69 = .ok (.getfield 65, 3) := by decide +kernel
theorem dX8_ways_72 : decode cX8_ways 72 = .ok (.iload 5, 2) := by decide +kernel
theorem dX8_ways_74 : decode cX8_ways 74 = .ok (.iaload, 1) := by decide +kernel
theorem dX8_ways_75 : decode cX8_ways 75 = .ok (.ifCond .ge 7, 3) := by decide +kernel
theorem dX8_ways_78 : decode cX8_ways 78 = .ok (.iconst 0, 1) := by decide +kernel
theorem dX8_ways_79 : decode cX8_ways 79 = .ok (.goto 18, 3) := by decide +kernel
theorem dX8_ways_82 : decode cX8_ways 82 = .ok (.aload_n 0, 1) := by decide +kernel
theorem dX8_ways_83 : decode cX8_ways 83 = .ok (.getfield 13, 3) := by decide +kernel
theorem dX8_ways_86 : decode cX8_ways 86 = .ok (.iload 5, 2) := by decide +kernel
theorem dX8_ways_88 : decode cX8_ways 88 = .ok (.iaload, 1) := by decide +kernel
theorem dX8_ways_89 : decode cX8_ways 89 = .ok (.aload_n 0, 1) := by decide +kernel
theorem dX8_ways_90 : decode cX8_ways 90 = .ok (.getfield 65, 3) := by decide +kernel
theorem dX8_ways_93 : decode cX8_ways 93 = .ok (.iload 5, 2) := by decide +kernel
theorem dX8_ways_95 : decode cX8_ways 95 = .ok (.iaload, 1) := by decide +kernel
theorem dX8_ways_96 : decode cX8_ways 96 = .ok (.imul, 1) := by decide +kernel
theorem dX8_ways_97 : decode cX8_ways 97 = .ok (.iadd, 1) := by decide +kernel
theorem dX8_ways_98 : decode cX8_ways 98 = .ok (.istore 4, 2) := by decide +kernel
theorem dX8_ways_100 : decode cX8_ways 100 = .ok (.iinc 5 1, 3) := by decide +kernel
theorem dX8_ways_103 : decode cX8_ways 103 = .ok (.goto (-46), 3) := by decide +kernel
theorem dX8_ways_106 : decode cX8_ways 106 = .ok (.iload_n 3, 1) := by decide +kernel
theorem dX8_ways_107 : decode cX8_ways 107 = .ok (.ifCond .ge 8, 3) := by decide +kernel
theorem dX8_ways_110 : decode cX8_ways 110 = .ok (.iload 4, 2) := by decide +kernel
theorem dX8_ways_112 : decode cX8_ways 112 = .ok (.goto 9, 3) := by decide +kernel
theorem dX8_ways_115 : decode cX8_ways 115 = .ok (.aload_n 0, 1) := by decide +kernel
theorem dX8_ways_116 : decode cX8_ways 116 = .ok (.getfield 65, 3) := by decide +kernel
theorem dX8_ways_119 : decode cX8_ways 119 = .ok (.iload_n 3, 1) := by decide +kernel
theorem dX8_ways_120 : decode cX8_ways 120 = .ok (.iaload, 1) := by decide +kernel
theorem dX8_ways_121 : decode cX8_ways 121 = .ok (.ireturn, 1) := by decide +kernel
theorem dX8_kept_0 : decode cX8_kept 0 = .ok (.aload_n 0, 1) := by decide +kernel
theorem dX8_kept_1 : decode cX8_kept 1 = .ok (.iload_n 1, 1) := by decide +kernel
theorem dX8_kept_2 : decode cX8_kept 2 = .ok (.invokevirtual 175, 3) := by decide +kernel
theorem dX8_kept_5 : decode cX8_kept 5 = .ok (.ifCond .eq 5, 3) := by decide +kernel
theorem dX8_kept_8 : decode cX8_kept 8 = .ok (.iconst (-1), 1) := by decide +kernel
theorem dX8_kept_9 : decode cX8_kept 9 = .ok (.ireturn, 1) := by decide +kernel
theorem dX8_kept_10 : decode cX8_kept 10 = .ok (.aload_n 0, 1) := by decide +kernel
theorem dX8_kept_11 : decode cX8_kept 11 = .ok (.iload_n 2, 1) := by decide +kernel
theorem dX8_kept_12 : decode cX8_kept 12 = .ok (.invokevirtual 258, 3) := by decide +kernel
theorem dX8_kept_15 : decode cX8_kept 15 = .ok (.ifCond .eq 15, 3) := by decide +kernel
theorem dX8_kept_18 : decode cX8_kept 18 = .ok (.iload_n 3, 1) := by decide +kernel
theorem dX8_kept_19 : decode cX8_kept 19 = .ok (.i2l, 1) := by decide +kernel
theorem dX8_kept_20 : decode cX8_kept 20 = .ok (.lconst 1, 1) := by decide +kernel
theorem dX8_kept_21 : decode cX8_kept 21 = .ok (.ldc2_w 261, 3) := by decide +kernel
theorem dX8_kept_24 : decode cX8_kept 24 = .ok (.invokestatic 128, 3) := by decide +kernel
theorem dX8_kept_27 : decode cX8_kept 27 = .ok (.ifCond .ne 6, 3) := by decide +kernel
theorem dX8_kept_30 : decode cX8_kept 30 = .ok (.bipush (-2), 2) := by decide +kernel
theorem dX8_kept_32 : decode cX8_kept 32 = .ok (.ireturn, 1) := by decide +kernel
theorem dX8_kept_33 : decode cX8_kept 33 = .ok (.aload_n 0, 1) := by decide +kernel
theorem dX8_kept_34 : decode cX8_kept 34 = .ok (.getfield 34, 3) := by decide +kernel
theorem dX8_kept_37 : decode cX8_kept 37 = .ok (.iload_n 1, 1) := by decide +kernel
theorem dX8_kept_38 : decode cX8_kept 38 = .ok (.iaload, 1) := by decide +kernel
theorem dX8_kept_39 : decode cX8_kept 39 = .ok (.istore 4, 2) := by decide +kernel
theorem dX8_kept_41 : decode cX8_kept 41 = .ok (.aload_n 0, 1) := by decide +kernel
theorem dX8_kept_42 : decode cX8_kept 42 = .ok (.iload_n 2, 1) := by decide +kernel
theorem dX8_kept_43 : decode cX8_kept 43 = .ok (.iload 4, 2) := by decide +kernel
theorem dX8_kept_45 : decode cX8_kept 45 = .ok (.iconst 2, 1) := by decide +kernel
theorem dX8_kept_46 : decode cX8_kept 46 = .ok (.if_icmp .ge 7, 3) := by decide +kernel
theorem dX8_kept_49 : decode cX8_kept 49 = .ok (.iconst 2, 1) := by decide +kernel
theorem dX8_kept_50 : decode cX8_kept 50 = .ok (.goto 17, 3) := by decide +kernel
theorem dX8_kept_53 : decode cX8_kept 53 = .ok (.iload 4, 2) := by decide +kernel
theorem dX8_kept_55 : decode cX8_kept 55 = .ok (.bipush 9, 2) := by decide +kernel
theorem dX8_kept_57 : decode cX8_kept 57 = .ok (.if_icmp .le 8, 3) := by decide +kernel
theorem dX8_kept_60 : decode cX8_kept 60 = .ok (.bipush 9, 2) := by decide +kernel
theorem dX8_kept_62 : decode cX8_kept 62 = .ok (.goto 5, 3) := by decide +kernel
theorem dX8_kept_65 : decode cX8_kept 65 = .ok (.iload 4, 2) := by decide +kernel
theorem dX8_kept_67 : decode cX8_kept 67 = .ok (.invokevirtual 263, 3) := by decide +kernel
theorem dX8_kept_70 : decode cX8_kept 70 = .ok (.iconst 0, 1) := by decide +kernel
theorem dX8_kept_71 : decode cX8_kept 71 = .ok (.istore 5, 2) := by decide +kernel
theorem dX8_kept_73 : decode cX8_kept 73 = .ok (.iconst 0, 1) := by decide +kernel
theorem dX8_kept_74 : decode cX8_kept 74 = .ok (.istore 6, 2) := by decide +kernel
theorem dX8_kept_76 : decode cX8_kept 76 = .ok (.iload 6, 2) := by decide +kernel
theorem dX8_kept_78 : decode cX8_kept 78 = .ok (.aload_n 0, 1) := by decide +kernel
theorem dX8_kept_79 : decode cX8_kept 79 = .ok (.getfield 143, 3) := by decide +kernel
theorem dX8_kept_82 : decode cX8_kept 82 = .ok (.if_icmp .ge 43, 3) := by decide +kernel
theorem dX8_kept_85 : decode cX8_kept 85 = .ok (.iload 5, 2) := by decide +kernel
theorem dX8_kept_87 : decode cX8_kept 87 = .ok (.aload_n 0, 1) := by decide +kernel
theorem dX8_kept_88 : decode cX8_kept 88 = .ok (.getfield 7, 3) := by decide +kernel
theorem dX8_kept_91 : decode cX8_kept 91 = .ok (.iload 6, 2) := by decide +kernel
theorem dX8_kept_93 : decode cX8_kept 93 = .ok (.iaload, 1) := by decide +kernel
theorem dX8_kept_94 : decode cX8_kept 94 = .ok (.ifCond .le 21, 3) := by decide +kernel
theorem dX8_kept_97 : decode cX8_kept 97 = .ok (.aload_n 0, 1) := by decide +kernel
theorem dX8_kept_98 : decode cX8_kept 98 = .ok (.getfield 65, 3) := by decide +kernel
theorem dX8_kept_101 : decode cX8_kept 101 = .ok (.iload 6, 2) := by decide +kernel
theorem dX8_kept_103 : decode cX8_kept 103 = .ok (.iaload, 1) := by decide +kernel
theorem dX8_kept_104 : decode cX8_kept 104 = .ok (.iload_n 3, 1) := by decide +kernel
theorem dX8_kept_105 : decode cX8_kept 105 = .ok (.if_icmp .le 10, 3) := by decide +kernel
theorem dX8_kept_108 : decode cX8_kept 108 = .ok (.iconst 1, 1) := by decide +kernel
theorem dX8_kept_109 : decode cX8_kept 109 = .ok (.iload 6, 2) := by decide +kernel
theorem dX8_kept_111 : decode cX8_kept 111 = .ok (.ishl, 1) := by decide +kernel
theorem dX8_kept_112 : decode cX8_kept 112 = .ok (.goto 4, 3) := by decide +kernel
theorem dX8_kept_115 : decode cX8_kept 115 = .ok (.iconst 0, 1) := by decide +kernel
theorem dX8_kept_116 : decode cX8_kept 116 = .ok (.ior, 1) := by decide +kernel
theorem dX8_kept_117 : decode cX8_kept 117 = .ok (.istore 5, 2) := by decide +kernel
theorem dX8_kept_119 : decode cX8_kept 119 = .ok (.iinc 6 1, 3) := by decide +kernel
theorem dX8_kept_122 : decode cX8_kept 122 = .ok (.goto (-46), 3) := by decide +kernel
theorem dX8_kept_125 : decode cX8_kept 125 = .ok (.iload 5, 2) := by decide +kernel
theorem dX8_kept_127 : decode cX8_kept 127 = .ok (.ireturn, 1) := by decide +kernel
theorem dX8_rule_0 : decode cX8_rule 0 = .ok (.iload_n 1, 1) := by decide +kernel
theorem dX8_rule_1 : decode cX8_rule 1 = .ok (.i2l, 1) := by decide +kernel
theorem dX8_rule_2 : decode cX8_rule 2 = .ok (.lconst 0, 1) := by decide +kernel
theorem dX8_rule_3 : decode cX8_rule 3 = .ok (.lconst 1, 1) := by decide +kernel
theorem dX8_rule_4 : decode cX8_rule 4 = .ok (.invokestatic 128, 3) := by decide +kernel
theorem dX8_rule_7 : decode cX8_rule 7 = .ok (.ifCond .eq 25, 3) := by decide +kernel
theorem dX8_rule_10 : decode cX8_rule 10 = .ok (.iload_n 2, 1) := by decide +kernel
theorem dX8_rule_11 : decode cX8_rule 11 = .ok (.i2l, 1) := by decide +kernel
theorem dX8_rule_12 : decode cX8_rule 12 = .ok (.lconst 0, 1) := by decide +kernel
theorem dX8_rule_13 : decode cX8_rule 13 = .ok (.iload_n 1, 1) := by decide +kernel
theorem dX8_rule_14 : decode cX8_rule 14 = .ok (.ifCond .ne 9, 3) := by decide +kernel
theorem dX8_rule_17 : decode cX8_rule 17 = .ok (.ldc2_w 180, 3) := by decide +kernel
theorem dX8_rule_20 : decode cX8_rule 20 = .ok (.goto 6, 3) := by decide +kernel
theorem dX8_rule_23 : decode cX8_rule 23 = .ok (.ldc2_w 170, 3) := by decide +kernel
theorem dX8_rule_26 : decode cX8_rule 26 = .ok (.invokestatic 128, 3) := by decide +kernel
theorem dX8_rule_29 : decode cX8_rule 29 = .ok (.ifCond .ne 6, 3) := by decide +kernel
theorem dX8_rule_32 : decode cX8_rule 32 = .ok (.bipush (-2), 2) := by decide +kernel
theorem dX8_rule_34 : decode cX8_rule 34 = .ok (.ireturn, 1) := by decide +kernel
theorem dX8_rule_35 : decode cX8_rule 35 = .ok (.iload_n 1, 1) := by decide +kernel
theorem dX8_rule_36 : decode cX8_rule 36 = .ok (.ifCond .ne 10, 3) := by decide +kernel
theorem dX8_rule_39 : decode cX8_rule 39 = .ok (.aload_n 0, 1) := by decide +kernel
theorem dX8_rule_40 : decode cX8_rule 40 = .ok (.getfield 110, 3) := by decide +kernel
theorem dX8_rule_43 : decode cX8_rule 43 = .ok (.goto 7, 3) := by decide +kernel
theorem dX8_rule_46 : decode cX8_rule 46 = .ok (.aload_n 0, 1) := by decide +kernel
theorem dX8_rule_47 : decode cX8_rule 47 = .ok (.getfield 114, 3) := by decide +kernel
theorem dX8_rule_50 : decode cX8_rule 50 = .ok (.istore_n 3, 1) := by decide +kernel
theorem dX8_rule_51 : decode cX8_rule 51 = .ok (.iload_n 1, 1) := by decide +kernel
theorem dX8_rule_52 : decode cX8_rule 52 = .ok (.ifCond .ne 11, 3) := by decide +kernel
theorem dX8_rule_55 : decode cX8_rule 55 = .ok (.aload_n 0, 1) := by decide +kernel
theorem dX8_rule_56 : decode cX8_rule 56 = .ok (.iload_n 2, 1) := by decide +kernel
theorem dX8_rule_57 : decode cX8_rule 57 = .ok (.putfield 110, 3) := by decide +kernel
theorem dX8_rule_60 : decode cX8_rule 60 = .ok (.goto 8, 3) := by decide +kernel
theorem dX8_rule_63 : decode cX8_rule 63 = .ok (.aload_n 0, 1) := by decide +kernel
theorem dX8_rule_64 : decode cX8_rule 64 = .ok (.iload_n 2, 1) := by decide +kernel
theorem dX8_rule_65 : decode cX8_rule 65 = .ok (.putfield 114, 3) := by decide +kernel
theorem dX8_rule_68 : decode cX8_rule 68 = .ok (.iload_n 3, 1) := by decide +kernel
theorem dX8_rule_69 : decode cX8_rule 69 = .ok (.ireturn, 1) := by decide +kernel
theorem dX8_errorOf_0 : decode cX8_errorOf 0 = .ok (.aload_n 0, 1) := by decide +kernel
theorem dX8_errorOf_1 : decode cX8_errorOf 1 = .ok (.getfield 44, 3) := by decide +kernel
theorem dX8_errorOf_4 : decode cX8_errorOf 4 = .ok (.bipush 10, 2) := by decide +kernel
theorem dX8_errorOf_6 : decode cX8_errorOf 6 = .ok (.iload_n 1, 1) := by decide +kernel
theorem dX8_errorOf_7 : decode cX8_errorOf 7 = .ok (.imul, 1) := by decide +kernel
theorem dX8_errorOf_8 : decode cX8_errorOf 8 = .ok (.iload_n 2, 1) := by decide +kernel
theorem dX8_errorOf_9 : decode cX8_errorOf 9 = .ok (.iadd, 1) := by decide +kernel
theorem dX8_errorOf_10 : decode cX8_errorOf 10 = .ok (.iaload, 1) := by decide +kernel
theorem dX8_errorOf_11 : decode cX8_errorOf 11 = .ok (.istore 5, 2) := by decide +kernel
theorem dX8_errorOf_13 : decode cX8_errorOf 13 = .ok (.iload_n 3, 1) := by decide +kernel
theorem dX8_errorOf_14 : decode cX8_errorOf 14 = .ok (.bipush 10, 2) := by decide +kernel
theorem dX8_errorOf_16 : decode cX8_errorOf 16 = .ok (.iload 5, 2) := by decide +kernel
theorem dX8_errorOf_18 : decode cX8_errorOf 18 = .ok (.iconst 4, 1) := by decide +kernel
theorem dX8_errorOf_19 : decode cX8_errorOf 19 = .ok (.irem, 1) := by decide +kernel
theorem dX8_errorOf_20 : decode cX8_errorOf 20 = .ok (.imul, 1) := by decide +kernel
theorem dX8_errorOf_21 : decode cX8_errorOf 21 = .ok (.isub, 1) := by decide +kernel
theorem dX8_errorOf_22 : decode cX8_errorOf 22 = .ok (.iconst 5, 1) := by decide +kernel
theorem dX8_errorOf_23 : decode cX8_errorOf 23 = .ok (.isub, 1) := by decide +kernel
theorem dX8_errorOf_24 : decode cX8_errorOf 24 = .ok (.invokestatic 182, 3) := by decide +kernel
theorem dX8_errorOf_27 : decode cX8_errorOf 27 = .ok (.istore 6, 2) := by decide +kernel
theorem dX8_errorOf_29 : decode cX8_errorOf 29 = .ok (.iload 4, 2) := by decide +kernel
theorem dX8_errorOf_31 : decode cX8_errorOf 31 = .ok (.bipush 10, 2) := by decide +kernel
theorem dX8_errorOf_33 : decode cX8_errorOf 33 = .ok (.iload 5, 2) := by decide +kernel
theorem dX8_errorOf_35 : decode cX8_errorOf 35 = .ok (.iconst 4, 1) := by decide +kernel
theorem dX8_errorOf_36 : decode cX8_errorOf 36 = .ok (.idiv, 1) := by decide +kernel
theorem dX8_errorOf_37 : decode cX8_errorOf 37 = .ok (.imul, 1) := by decide +kernel
theorem dX8_errorOf_38 : decode cX8_errorOf 38 = .ok (.isub, 1) := by decide +kernel
theorem dX8_errorOf_39 : decode cX8_errorOf 39 = .ok (.iconst 5, 1) := by decide +kernel
theorem dX8_errorOf_40 : decode cX8_errorOf 40 = .ok (.isub, 1) := by decide +kernel
theorem dX8_errorOf_41 : decode cX8_errorOf 41 = .ok (.invokestatic 182, 3) := by decide +kernel
theorem dX8_errorOf_44 : decode cX8_errorOf 44 = .ok (.istore 7, 2) := by decide +kernel
theorem dX8_errorOf_46 : decode cX8_errorOf 46 = .ok (.iload 5, 2) := by decide +kernel
theorem dX8_errorOf_48 : decode cX8_errorOf 48 = .ok (.ifCond .ge 8, 3) := by decide +kernel
theorem dX8_errorOf_51 : decode cX8_errorOf 51 = .ok (.bipush 99, 2) := by decide +kernel
theorem dX8_errorOf_53 : decode cX8_errorOf 53 = .ok (.goto 12, 3) := by decide +kernel
theorem dX8_errorOf_56 : decode cX8_errorOf 56 = .ok (.iload 6, 2) := by decide +kernel
theorem dX8_errorOf_58 : decode cX8_errorOf 58 = .ok (.iload 7, 2) := by decide +kernel
theorem dX8_errorOf_60 : decode cX8_errorOf 60 = .ok (.invokestatic 195, 3) := by decide +kernel
theorem dX8_errorOf_63 : decode cX8_errorOf 63 = .ok (.iconst 5, 1) := by decide +kernel
theorem dX8_errorOf_64 : decode cX8_errorOf 64 = .ok (.idiv, 1) := by decide +kernel
theorem dX8_errorOf_65 : decode cX8_errorOf 65 = .ok (.ireturn, 1) := by decide +kernel
theorem dX8_takePress_0 : decode cX8_takePress 0 = .ok (.aload_n 0, 1) := by decide +kernel
theorem dX8_takePress_1 : decode cX8_takePress 1 = .ok (.getfield 80, 3) := by decide +kernel
theorem dX8_takePress_4 : decode cX8_takePress 4 = .ok (.iconst 3, 1) := by decide +kernel
theorem dX8_takePress_5 : decode cX8_takePress 5 = .ok (.iload_n 1, 1) := by decide +kernel
theorem dX8_takePress_6 : decode cX8_takePress 6 = .ok (.imul, 1) := by decide +kernel
theorem dX8_takePress_7 : decode cX8_takePress 7 = .ok (.iload_n 2, 1) := by decide +kernel
theorem dX8_takePress_8 : decode cX8_takePress 8 = .ok (.iadd, 1) := by decide +kernel
theorem dX8_takePress_9 : decode cX8_takePress 9 = .ok (.dup2, 1) := by decide +kernel
theorem dX8_takePress_10 : decode cX8_takePress 10 = .ok (.iaload, 1) := by decide +kernel
theorem dX8_takePress_11 : decode cX8_takePress 11 = .ok (.iconst 1, 1) := by decide +kernel
theorem dX8_takePress_12 : decode cX8_takePress 12 = .ok (.iadd, 1) := by decide +kernel
theorem dX8_takePress_13 : decode cX8_takePress 13 = .ok (.iastore, 1) := by decide +kernel
theorem dX8_takePress_14 : decode cX8_takePress 14 = .ok (.aload_n 0, 1) := by decide +kernel
theorem dX8_takePress_15 : decode cX8_takePress 15 = .ok (.getfield 83, 3) := by decide +kernel
theorem dX8_takePress_18 : decode cX8_takePress 18 = .ok (.iload_n 1, 1) := by decide +kernel
theorem dX8_takePress_19 : decode cX8_takePress 19 = .ok (.iaload, 1) := by decide +kernel
theorem dX8_takePress_20 : decode cX8_takePress 20 = .ok (.bipush 12, 2) := by decide +kernel
theorem dX8_takePress_22 : decode cX8_takePress 22 = .ok (.if_icmp .ne 51, 3) := by decide +kernel
theorem dX8_takePress_25 : decode cX8_takePress 25 = .ok (.iconst 0, 1) := by decide +kernel
theorem dX8_takePress_26 : decode cX8_takePress 26 = .ok (.istore_n 3, 1) := by decide +kernel
theorem dX8_takePress_27 : decode cX8_takePress 27 = .ok (.iload_n 3, 1) := by decide +kernel
theorem dX8_takePress_28 : decode cX8_takePress 28 = .ok (.bipush 11, 2) := by decide +kernel
theorem dX8_takePress_30 : decode cX8_takePress 30 = .ok (.if_icmp .ge 33, 3) := by decide +kernel
theorem dX8_takePress_33 : decode cX8_takePress 33 = .ok (.aload_n 0, 1) := by decide +kernel
theorem dX8_takePress_34 : decode cX8_takePress 34 = .ok (.getfield 86, 3) := by decide +kernel
theorem dX8_takePress_37 : decode cX8_takePress 37 = .ok (.bipush 12, 2) := by decide +kernel
theorem dX8_takePress_39 : decode cX8_takePress 39 = .ok (.iload_n 1, 1) := by decide +kernel
theorem dX8_takePress_40 : decode cX8_takePress 40 = .ok (.imul, 1) := by decide +kernel
theorem dX8_takePress_41 : decode cX8_takePress 41 = .ok (.iload_n 3, 1) := by decide +kernel
theorem dX8_takePress_42 : decode cX8_takePress 42 = .ok (.iadd, 1) := by decide +kernel
theorem dX8_takePress_43 : decode cX8_takePress 43 = .ok (.aload_n 0, 1) := by decide +kernel
theorem dX8_takePress_44 : decode cX8_takePress 44 = .ok (.getfield 86, 3) := by decide +kernel
theorem dX8_takePress_47 : decode cX8_takePress 47 = .ok (.bipush 12, 2) := by decide +kernel
theorem dX8_takePress_49 : decode cX8_takePress 49 = .ok (.iload_n 1, 1) := by decide +kernel
theorem dX8_takePress_50 : decode cX8_takePress 50 = .ok (.imul, 1) := by decide +kernel
theorem dX8_takePress_51 : decode cX8_takePress 51 = .ok (.iload_n 3, 1) := by decide +kernel
theorem dX8_takePress_52 : decode cX8_takePress 52 = .ok (.iadd, 1) := by decide +kernel
theorem dX8_takePress_53 : decode cX8_takePress 53 = .ok (.iconst 1, 1) := by decide +kernel
end
section
theorem dX8_takePress_54 : decode cX8_takePress 54 = .ok (.iadd, 1) := by decide +kernel
theorem dX8_takePress_55 : decode cX8_takePress 55 = .ok (.iaload, 1) := by decide +kernel
theorem dX8_takePress_56 : decode cX8_takePress 56 = .ok (.iastore, 1) := by decide +kernel
theorem dX8_takePress_57 : decode cX8_takePress 57 = .ok (.iinc 3 1, 3) := by decide +kernel
theorem dX8_takePress_60 : decode cX8_takePress 60 = .ok (.goto (-33), 3) := by decide +kernel
theorem dX8_takePress_63 : decode cX8_takePress 63 = .ok (.aload_n 0, 1) := by decide +kernel
theorem dX8_takePress_64 : decode cX8_takePress 64 = .ok (.getfield 83, 3) := by decide +kernel
theorem dX8_takePress_67 : decode cX8_takePress 67 = .ok (.iload_n 1, 1) := by decide +kernel
theorem dX8_takePress_68 : decode cX8_takePress 68 = .ok (.dup2, 1) := by decide +kernel
theorem dX8_takePress_69 : decode cX8_takePress 69 = .ok (.iaload, 1) := by decide +kernel
theorem dX8_takePress_70 : decode cX8_takePress 70 = .ok (.iconst 1, 1) := by decide +kernel
theorem dX8_takePress_71 : decode cX8_takePress 71 = .ok (.isub, 1) := by decide +kernel
theorem dX8_takePress_72 : decode cX8_takePress 72 = .ok (.iastore, 1) := by decide +kernel
theorem dX8_takePress_73 : decode cX8_takePress 73 = .ok (.aload_n 0, 1) := by decide +kernel
theorem dX8_takePress_74 : decode cX8_takePress 74 = .ok (.getfield 86, 3) := by decide +kernel
theorem dX8_takePress_77 : decode cX8_takePress 77 = .ok (.bipush 12, 2) := by decide +kernel
theorem dX8_takePress_79 : decode cX8_takePress 79 = .ok (.iload_n 1, 1) := by decide +kernel
theorem dX8_takePress_80 : decode cX8_takePress 80 = .ok (.imul, 1) := by decide +kernel
theorem dX8_takePress_81 : decode cX8_takePress 81 = .ok (.aload_n 0, 1) := by decide +kernel
theorem dX8_takePress_82 : decode cX8_takePress 82 = .ok (.getfield 83, 3) := by decide +kernel
theorem dX8_takePress_85 : decode cX8_takePress 85 = .ok (.iload_n 1, 1) := by decide +kernel
theorem dX8_takePress_86 : decode cX8_takePress 86 = .ok (.iaload, 1) := by decide +kernel
theorem dX8_takePress_87 : decode cX8_takePress 87 = .ok (.iadd, 1) := by decide +kernel
theorem dX8_takePress_88 : decode cX8_takePress 88 = .ok (.iload_n 2, 1) := by decide +kernel
theorem dX8_takePress_89 : decode cX8_takePress 89 = .ok (.iastore, 1) := by decide +kernel
theorem dX8_takePress_90 : decode cX8_takePress 90 = .ok (.aload_n 0, 1) := by decide +kernel
theorem dX8_takePress_91 : decode cX8_takePress 91 = .ok (.getfield 83, 3) := by decide +kernel
theorem dX8_takePress_94 : decode cX8_takePress 94 = .ok (.iload_n 1, 1) := by decide +kernel
theorem dX8_takePress_95 : decode cX8_takePress 95 = .ok (.dup2, 1) := by decide +kernel
theorem dX8_takePress_96 : decode cX8_takePress 96 = .ok (.iaload, 1) := by decide +kernel
theorem dX8_takePress_97 : decode cX8_takePress 97 = .ok (.iconst 1, 1) := by decide +kernel
theorem dX8_takePress_98 : decode cX8_takePress 98 = .ok (.iadd, 1) := by decide +kernel
theorem dX8_takePress_99 : decode cX8_takePress 99 = .ok (.iastore, 1) := by decide +kernel
theorem dX8_takePress_100 : decode cX8_takePress 100 = .ok (.aload_n 0, 1) := by decide +kernel
theorem dX8_takePress_101 : decode cX8_takePress 101 = .ok (.getfield 68, 3) := by decide +kernel
theorem dX8_takePress_104 : decode cX8_takePress 104 = .ok (.iload_n 1, 1) := by decide +kernel
theorem dX8_takePress_105 : decode cX8_takePress 105 = .ok (.bipush (-9), 2) := by decide +kernel
theorem dX8_takePress_107 : decode cX8_takePress 107 = .ok (.iastore, 1) := by decide +kernel
theorem dX8_takePress_108 : decode cX8_takePress 108 = .ok (.return_, 1) := by decide +kernel
theorem dX8_press_0 : decode cX8_press 0 = .ok (.aload_n 0, 1) := by decide +kernel
theorem dX8_press_1 : decode cX8_press 1 = .ok (.iload_n 1, 1) := by decide +kernel
theorem dX8_press_2 : decode cX8_press 2 = .ok (.invokevirtual 175, 3) := by decide +kernel
theorem dX8_press_5 : decode cX8_press 5 = .ok (.ifCond .eq 5, 3) := by decide +kernel
theorem dX8_press_8 : decode cX8_press 8 = .ok (.iconst (-1), 1) := by decide +kernel
theorem dX8_press_9 : decode cX8_press 9 = .ok (.ireturn, 1) := by decide +kernel
theorem dX8_press_10 : decode cX8_press 10 = .ok (.iload_n 2, 1) := by decide +kernel
theorem dX8_press_11 : decode cX8_press 11 = .ok (.i2l, 1) := by decide +kernel
theorem dX8_press_12 : decode cX8_press 12 = .ok (.lconst 0, 1) := by decide +kernel
theorem dX8_press_13 : decode cX8_press 13 = .ok (.ldc2_w 267, 3) := by decide +kernel
theorem dX8_press_16 : decode cX8_press 16 = .ok (.invokestatic 128, 3) := by decide +kernel
theorem dX8_press_19 : decode cX8_press 19 = .ok (.ifCond .eq 28, 3) := by decide +kernel
theorem dX8_press_22 : decode cX8_press 22 = .ok (.iload_n 3, 1) := by decide +kernel
theorem dX8_press_23 : decode cX8_press 23 = .ok (.i2l, 1) := by decide +kernel
theorem dX8_press_24 : decode cX8_press 24 = .ok (.lconst 0, 1) := by decide +kernel
theorem dX8_press_25 : decode cX8_press 25 = .ok (.ldc2_w 269, 3) := by decide +kernel
theorem dX8_press_28 : decode cX8_press 28 = .ok (.invokestatic 128, 3) := by decide +kernel
theorem dX8_press_31 : decode cX8_press 31 = .ok (.ifCond .eq 16, 3) := by decide +kernel
theorem dX8_press_34 : decode cX8_press 34 = .ok (.iload 4, 2) := by decide +kernel
theorem dX8_press_36 : decode cX8_press 36 = .ok (.i2l, 1) := by decide +kernel
theorem dX8_press_37 : decode cX8_press 37 = .ok (.lconst 0, 1) := by decide +kernel
theorem dX8_press_38 : decode cX8_press 38 = .ok (.ldc2_w 233, 3) := by decide +kernel
theorem dX8_press_41 : decode cX8_press 41 = .ok (.invokestatic 128, 3) := by decide +kernel
theorem dX8_press_44 : decode cX8_press 44 = .ok (.ifCond .ne 6, 3) := by decide +kernel
theorem dX8_press_47 : decode cX8_press 47 = .ok (.bipush (-2), 2) := by decide +kernel
theorem dX8_press_49 : decode cX8_press 49 = .ok (.ireturn, 1) := by decide +kernel
theorem dX8_press_50 : decode cX8_press 50 = .ok (.iload 4, 2) := by decide +kernel
theorem dX8_press_52 : decode cX8_press 52 = .ok (.aload_n 0, 1) := by decide +kernel
theorem dX8_press_53 : decode cX8_press 53 = .ok (.getfield 77, 3) := by decide +kernel
theorem dX8_press_56 : decode cX8_press 56 = .ok (.iload_n 1, 1) := by decide +kernel
theorem dX8_press_57 : decode cX8_press 57 = .ok (.iaload, 1) := by decide +kernel
theorem dX8_press_58 : decode cX8_press 58 = .ok (.if_icmp .ge 6, 3) := by decide +kernel
theorem dX8_press_61 : decode cX8_press 61 = .ok (.bipush (-3), 2) := by decide +kernel
theorem dX8_press_63 : decode cX8_press 63 = .ok (.ireturn, 1) := by decide +kernel
theorem dX8_press_64 : decode cX8_press 64 = .ok (.aload_n 0, 1) := by decide +kernel
theorem dX8_press_65 : decode cX8_press 65 = .ok (.getfield 77, 3) := by decide +kernel
theorem dX8_press_68 : decode cX8_press 68 = .ok (.iload_n 1, 1) := by decide +kernel
theorem dX8_press_69 : decode cX8_press 69 = .ok (.iload 4, 2) := by decide +kernel
theorem dX8_press_71 : decode cX8_press 71 = .ok (.iastore, 1) := by decide +kernel
theorem dX8_press_72 : decode cX8_press 72 = .ok (.bipush (-9), 2) := by decide +kernel
theorem dX8_press_74 : decode cX8_press 74 = .ok (.istore 5, 2) := by decide +kernel
theorem dX8_press_76 : decode cX8_press 76 = .ok (.lconst 0, 1) := by decide +kernel
theorem dX8_press_77 : decode cX8_press 77 = .ok (.lstore 6, 2) := by decide +kernel
theorem dX8_press_79 : decode cX8_press 79 = .ok (.lconst 0, 1) := by decide +kernel
theorem dX8_press_80 : decode cX8_press 80 = .ok (.lstore 8, 2) := by decide +kernel
theorem dX8_press_82 : decode cX8_press 82 = .ok (.iconst 0, 1) := by decide +kernel
theorem dX8_press_83 : decode cX8_press 83 = .ok (.istore 10, 2) := by decide +kernel
theorem dX8_press_85 : decode cX8_press 85 = .ok (.iload 10, 2) := by decide +kernel
theorem dX8_press_87 : decode cX8_press 87 = .ok (.aload_n 0, 1) := by decide +kernel
theorem dX8_press_88 : decode cX8_press 88 = .ok (.getfield 143, 3) := by decide +kernel
theorem dX8_press_91 : decode cX8_press 91 = .ok (.if_icmp .ge 94, 3) := by decide +kernel
theorem dX8_press_94 : decode cX8_press 94 = .ok (.aload_n 0, 1) := by decide +kernel
theorem dX8_press_95 : decode cX8_press 95 = .ok (.iload_n 1, 1) := by decide +kernel
theorem dX8_press_96 : decode cX8_press 96 = .ok (.iload 10, 2) := by decide +kernel
theorem dX8_press_98 : decode cX8_press 98 = .ok (.iload_n 2, 1) := by decide +kernel
theorem dX8_press_99 : decode cX8_press 99 = .ok (.iload_n 3, 1) := by decide +kernel
theorem dX8_press_100 : decode cX8_press 100 = .ok (.invokevirtual 271, 3) := by decide +kernel
theorem dX8_press_103 : decode cX8_press 103 = .ok (.istore 11, 2) := by decide +kernel
theorem dX8_press_105 : decode cX8_press 105 = .ok (.iload 11, 2) := by decide +kernel
theorem dX8_press_107 : decode cX8_press 107 = .ok (.iconst 3, 1) := by decide +kernel
theorem dX8_press_108 : decode cX8_press 108 = .ok (.if_icmp .ge 71, 3) := by decide +kernel
theorem dX8_press_111 : decode cX8_press 111 = .ok (.aload_n 0, 1) := by decide +kernel
theorem dX8_press_112 : decode cX8_press 112 = .ok (.getfield 13, 3) := by decide +kernel
theorem dX8_press_115 : decode cX8_press 115 = .ok (.iload 10, 2) := by decide +kernel
theorem dX8_press_117 : decode cX8_press 117 = .ok (.iaload, 1) := by decide +kernel
theorem dX8_press_118 : decode cX8_press 118 = .ok (.i2l, 1) := by decide +kernel
theorem dX8_press_119 : decode cX8_press 119 = .ok (.lconst 1, 1) := by decide +kernel
theorem dX8_press_120 : decode cX8_press 120 = .ok (.ladd, 1) := by decide +kernel
theorem dX8_press_121 : decode cX8_press 121 = .ok (.aload_n 0, 1) := by decide +kernel
theorem dX8_press_122 : decode cX8_press 122 = .ok (.getfield 80, 3) := by decide +kernel
theorem dX8_press_125 : decode cX8_press 125 = .ok (.iconst 3, 1) := by decide +kernel
theorem dX8_press_126 : decode cX8_press 126 = .ok (.iload_n 1, 1) := by decide +kernel
theorem dX8_press_127 : decode cX8_press 127 = .ok (.imul, 1) := by decide +kernel
theorem dX8_press_128 : decode cX8_press 128 = .ok (.iload 11, 2) := by decide +kernel
theorem dX8_press_130 : decode cX8_press 130 = .ok (.iadd, 1) := by decide +kernel
theorem dX8_press_131 : decode cX8_press 131 = .ok (.iaload, 1) := by decide +kernel
theorem dX8_press_132 : decode cX8_press 132 = .ok (.i2l, 1) := by decide +kernel
theorem dX8_press_133 : decode cX8_press 133 = .ok (.lconst 1, 1) := by decide +kernel
theorem dX8_press_134 : decode cX8_press 134 = .ok (.ladd, 1) := by decide +kernel
theorem dX8_press_135 : decode cX8_press 135 = .ok (.lmul, 1) := by decide +kernel
theorem dX8_press_136 : decode cX8_press 136 = .ok (.lstore 12, 2) := by decide +kernel
theorem dX8_press_138 : decode cX8_press 138 = .ok (.lload 8, 2) := by decide +kernel
theorem dX8_press_140 : decode cX8_press 140 = .ok (.lload 12, 2) := by decide +kernel
theorem dX8_press_142 : decode cX8_press 142 = .ok (.ladd, 1) := by decide +kernel
theorem dX8_press_143 : decode cX8_press 143 = .ok (.lstore 8, 2) := by decide +kernel
theorem dX8_press_145 : decode cX8_press 145 = .ok (.lload 12, 2) := by decide +kernel
theorem dX8_press_147 : decode cX8_press 147 = .ok (.lload 6, 2) := by decide +kernel
theorem dX8_press_149 : decode cX8_press 149 = .ok (.lcmp, 1) := by decide +kernel
theorem dX8_press_150 : decode cX8_press 150 = .ok (.ifCond .le 8, 3) := by decide +kernel
theorem dX8_press_153 : decode cX8_press 153 = .ok (.iload 10, 2) := by decide +kernel
theorem dX8_press_155 : decode cX8_press 155 = .ok (.goto 5, 3) := by decide +kernel
theorem dX8_press_158 : decode cX8_press 158 = .ok (.iload 5, 2) := by decide +kernel
theorem dX8_press_160 : decode cX8_press 160 = .ok (.istore 5, 2) := by decide +kernel
theorem dX8_press_162 : decode cX8_press 162 = .ok (.lload 12, 2) := by decide +kernel
theorem dX8_press_164 : decode cX8_press 164 = .ok (.lload 6, 2) := by decide +kernel
theorem dX8_press_166 : decode cX8_press 166 = .ok (.lcmp, 1) := by decide +kernel
theorem dX8_press_167 : decode cX8_press 167 = .ok (.ifCond .le 8, 3) := by decide +kernel
theorem dX8_press_170 : decode cX8_press 170 = .ok (.lload 12, 2) := by decide +kernel
theorem dX8_press_172 : decode cX8_press 172 = .ok (.goto 5, 3) := by decide +kernel
theorem dX8_press_175 : decode cX8_press 175 = .ok (.lload 6, 2) := by decide +kernel
theorem dX8_press_177 : decode cX8_press 177 = .ok (.lstore 6, 2) := by decide +kernel
theorem dX8_press_179 : decode cX8_press 179 = .ok (.iinc 10 1, 3) := by decide +kernel
theorem dX8_press_182 : decode cX8_press 182 = .ok (.goto (-97), 3) := by decide +kernel
theorem dX8_press_185 : decode cX8_press 185 = .ok (.iload 5, 2) := by decide +kernel
theorem dX8_press_187 : decode cX8_press 187 = .ok (.ifCond .ge 6, 3) := by decide +kernel
theorem dX8_press_190 : decode cX8_press 190 = .ok (.bipush (-9), 2) := by decide +kernel
theorem dX8_press_192 : decode cX8_press 192 = .ok (.ireturn, 1) := by decide +kernel
theorem dX8_press_193 : decode cX8_press 193 = .ok (.aload_n 0, 1) := by decide +kernel
theorem dX8_press_194 : decode cX8_press 194 = .ok (.iload_n 1, 1) := by decide +kernel
theorem dX8_press_195 : decode cX8_press 195 = .ok (.iload 5, 2) := by decide +kernel
theorem dX8_press_197 : decode cX8_press 197 = .ok (.iload_n 2, 1) := by decide +kernel
theorem dX8_press_198 : decode cX8_press 198 = .ok (.iload_n 3, 1) := by decide +kernel
theorem dX8_press_199 : decode cX8_press 199 = .ok (.invokevirtual 271, 3) := by decide +kernel
theorem dX8_press_202 : decode cX8_press 202 = .ok (.istore 10, 2) := by decide +kernel
theorem dX8_press_204 : decode cX8_press 204 = .ok (.aload_n 0, 1) := by decide +kernel
theorem dX8_press_205 : decode cX8_press 205 = .ok (.getfield 68, 3) := by decide +kernel
theorem dX8_press_208 : decode cX8_press 208 = .ok (.iload_n 1, 1) := by decide +kernel
theorem dX8_press_209 : decode cX8_press 209 = .ok (.iaload, 1) := by decide +kernel
theorem dX8_press_210 : decode cX8_press 210 = .ok (.iload 5, 2) := by decide +kernel
theorem dX8_press_212 : decode cX8_press 212 = .ok (.if_icmp .ne 23, 3) := by decide +kernel
theorem dX8_press_215 : decode cX8_press 215 = .ok (.iload 4, 2) := by decide +kernel
theorem dX8_press_217 : decode cX8_press 217 = .ok (.aload_n 0, 1) := by decide +kernel
theorem dX8_press_218 : decode cX8_press 218 = .ok (.getfield 71, 3) := by decide +kernel
theorem dX8_press_221 : decode cX8_press 221 = .ok (.iload_n 1, 1) := by decide +kernel
theorem dX8_press_222 : decode cX8_press 222 = .ok (.iaload, 1) := by decide +kernel
theorem dX8_press_223 : decode cX8_press 223 = .ok (.isub, 1) := by decide +kernel
theorem dX8_press_224 : decode cX8_press 224 = .ok (.aload_n 0, 1) := by decide +kernel
theorem dX8_press_225 : decode cX8_press 225 = .ok (.getfield 114, 3) := by decide +kernel
theorem dX8_press_228 : decode cX8_press 228 = .ok (.if_icmp .gt 7, 3) := by decide +kernel
theorem dX8_press_231 : decode cX8_press 231 = .ok (.iconst 1, 1) := by decide +kernel
theorem dX8_press_232 : decode cX8_press 232 = .ok (.goto 4, 3) := by decide +kernel
theorem dX8_press_235 : decode cX8_press 235 = .ok (.iconst 0, 1) := by decide +kernel
theorem dX8_press_236 : decode cX8_press 236 = .ok (.istore 11, 2) := by decide +kernel
theorem dX8_press_238 : decode cX8_press 238 = .ok (.ldc2_w 180, 3) := by decide +kernel
theorem dX8_press_241 : decode cX8_press 241 = .ok (.lload 6, 2) := by decide +kernel
theorem dX8_press_243 : decode cX8_press 243 = .ok (.lmul, 1) := by decide +kernel
theorem dX8_press_244 : decode cX8_press 244 = .ok (.aload_n 0, 1) := by decide +kernel
theorem dX8_press_245 : decode cX8_press 245 = .ok (.getfield 110, 3) := by decide +kernel
theorem dX8_press_248 : decode cX8_press 248 = .ok (.i2l, 1) := by decide +kernel
theorem dX8_press_249 : decode cX8_press 249 = .ok (.lload 8, 2) := by decide +kernel
theorem dX8_press_251 : decode cX8_press 251 = .ok (.lmul, 1) := by decide +kernel
theorem dX8_press_252 : decode cX8_press 252 = .ok (.lcmp, 1) := by decide +kernel
theorem dX8_press_253 : decode cX8_press 253 = .ok (.ifCond .lt 19, 3) := by decide +kernel
theorem dX8_press_256 : decode cX8_press 256 = .ok (.aload_n 0, 1) := by decide +kernel
theorem dX8_press_257 : decode cX8_press 257 = .ok (.getfield 7, 3) := by decide +kernel
theorem dX8_press_260 : decode cX8_press 260 = .ok (.iload 5, 2) := by decide +kernel
theorem dX8_press_262 : decode cX8_press 262 = .ok (.iaload, 1) := by decide +kernel
theorem dX8_press_263 : decode cX8_press 263 = .ok (.iconst 2, 1) := by decide +kernel
theorem dX8_press_264 : decode cX8_press 264 = .ok (.if_icmp .ne 38, 3) := by decide +kernel
theorem dX8_press_267 : decode cX8_press 267 = .ok (.iload 11, 2) := by decide +kernel
theorem dX8_press_269 : decode cX8_press 269 = .ok (.ifCond .ne 33, 3) := by decide +kernel
theorem dX8_press_272 : decode cX8_press 272 = .ok (.aload_n 0, 1) := by decide +kernel
theorem dX8_press_273 : decode cX8_press 273 = .ok (.getfield 68, 3) := by decide +kernel
theorem dX8_press_276 : decode cX8_press 276 = .ok (.iload_n 1, 1) := by decide +kernel
theorem dX8_press_277 : decode cX8_press 277 = .ok (.iload 5, 2) := by decide +kernel
theorem dX8_press_279 : decode cX8_press 279 = .ok (.iastore, 1) := by decide +kernel
theorem dX8_press_280 : decode cX8_press 280 = .ok (.aload_n 0, 1) := by decide +kernel
theorem dX8_press_281 : decode cX8_press 281 = .ok (.getfield 71, 3) := by decide +kernel
theorem dX8_press_284 : decode cX8_press 284 = .ok (.iload_n 1, 1) := by decide +kernel
theorem dX8_press_285 : decode cX8_press 285 = .ok (.iload 4, 2) := by decide +kernel
theorem dX8_press_287 : decode cX8_press 287 = .ok (.iastore, 1) := by decide +kernel
theorem dX8_press_288 : decode cX8_press 288 = .ok (.aload_n 0, 1) := by decide +kernel
theorem dX8_press_289 : decode cX8_press 289 = .ok (.getfield 74, 3) := by decide +kernel
theorem dX8_press_292 : decode cX8_press 292 = .ok (.iload_n 1, 1) := by decide +kernel
theorem dX8_press_293 : decode cX8_press 293 = .ok (.iload 10, 2) := by decide +kernel
theorem dX8_press_295 : decode cX8_press 295 = .ok (.iastore, 1) := by decide +kernel
theorem dX8_press_296 : decode cX8_press 296 = .ok (.bipush 100, 2) := by decide +kernel
theorem dX8_press_298 : decode cX8_press 298 = .ok (.iload 5, 2) := by decide +kernel
theorem dX8_press_300 : decode cX8_press 300 = .ok (.iadd, 1) := by decide +kernel
theorem dX8_press_301 : decode cX8_press 301 = .ok (.ireturn, 1) := by decide +kernel
theorem dX8_press_302 : decode cX8_press 302 = .ok (.aload_n 0, 1) := by decide +kernel
theorem dX8_press_303 : decode cX8_press 303 = .ok (.iload_n 1, 1) := by decide +kernel
theorem dX8_press_304 : decode cX8_press 304 = .ok (.iload 10, 2) := by decide +kernel
theorem dX8_press_306 : decode cX8_press 306 = .ok (.invokevirtual 275, 3) := by decide +kernel
theorem dX8_press_309 : decode cX8_press 309 = .ok (.iload 5, 2) := by decide +kernel
theorem dX8_press_311 : decode cX8_press 311 = .ok (.ireturn, 1) := by decide +kernel
theorem dX8_confirm_0 : decode cX8_confirm 0 = .ok (.aload_n 0, 1) := by decide +kernel
theorem dX8_confirm_1 : decode cX8_confirm 1 = .ok (.iload_n 1, 1) := by decide +kernel
theorem dX8_confirm_2 : decode cX8_confirm 2 = .ok (.invokevirtual 175, 3) := by decide +kernel
theorem dX8_confirm_5 : decode cX8_confirm 5 = .ok (.ifCond .eq 5, 3) := by decide +kernel
theorem dX8_confirm_8 : decode cX8_confirm 8 = .ok (.iconst (-1), 1) := by decide +kernel
theorem dX8_confirm_9 : decode cX8_confirm 9 = .ok (.ireturn, 1) := by decide +kernel
theorem dX8_confirm_10 : decode cX8_confirm 10 = .ok (.iload_n 2, 1) := by decide +kernel
theorem dX8_confirm_11 : decode cX8_confirm 11 = .ok (.i2l, 1) := by decide +kernel
theorem dX8_confirm_12 : decode cX8_confirm 12 = .ok (.lconst 0, 1) := by decide +kernel
theorem dX8_confirm_13 : decode cX8_confirm 13 = .ok (.ldc2_w 233, 3) := by decide +kernel
theorem dX8_confirm_16 : decode cX8_confirm 16 = .ok (.invokestatic 128, 3) := by decide +kernel
theorem dX8_confirm_19 : decode cX8_confirm 19 = .ok (.ifCond .ne 6, 3) := by decide +kernel
theorem dX8_confirm_22 : decode cX8_confirm 22 = .ok (.bipush (-2), 2) := by decide +kernel
theorem dX8_confirm_24 : decode cX8_confirm 24 = .ok (.ireturn, 1) := by decide +kernel
theorem dX8_confirm_25 : decode cX8_confirm 25 = .ok (.aload_n 0, 1) := by decide +kernel
theorem dX8_confirm_26 : decode cX8_confirm 26 = .ok (.getfield 68, 3) := by decide +kernel
theorem dX8_confirm_29 : decode cX8_confirm 29 = .ok (.iload_n 1, 1) := by decide +kernel
theorem dX8_confirm_30 : decode cX8_confirm 30 = .ok (.iaload, 1) := by decide +kernel
theorem dX8_confirm_31 : decode cX8_confirm 31 = .ok (.ifCond .lt 13, 3) := by decide +kernel
theorem dX8_confirm_34 : decode cX8_confirm 34 = .ok (.iload_n 2, 1) := by decide +kernel
theorem dX8_confirm_35 : decode cX8_confirm 35 = .ok (.aload_n 0, 1) := by decide +kernel
theorem dX8_confirm_36 : decode cX8_confirm 36 = .ok (.getfield 77, 3) := by decide +kernel
theorem dX8_confirm_39 : decode cX8_confirm 39 = .ok (.iload_n 1, 1) := by decide +kernel
theorem dX8_confirm_40 : decode cX8_confirm 40 = .ok (.iaload, 1) := by decide +kernel
theorem dX8_confirm_41 : decode cX8_confirm 41 = .ok (.if_icmp .ge 6, 3) := by decide +kernel
theorem dX8_confirm_44 : decode cX8_confirm 44 = .ok (.bipush (-3), 2) := by decide +kernel
theorem dX8_confirm_46 : decode cX8_confirm 46 = .ok (.ireturn, 1) := by decide +kernel
theorem dX8_confirm_47 : decode cX8_confirm 47 = .ok (.aload_n 0, 1) := by decide +kernel
theorem dX8_confirm_48 : decode cX8_confirm 48 = .ok (.getfield 77, 3) := by decide +kernel
theorem dX8_confirm_51 : decode cX8_confirm 51 = .ok (.iload_n 1, 1) := by decide +kernel
theorem dX8_confirm_52 : decode cX8_confirm 52 = .ok (.iload_n 2, 1) := by decide +kernel
theorem dX8_confirm_53 : decode cX8_confirm 53 = .ok (.iastore, 1) := by decide +kernel
theorem dX8_confirm_54 : decode cX8_confirm 54 = .ok (.aload_n 0, 1) := by decide +kernel
theorem dX8_confirm_55 : decode cX8_confirm 55 = .ok (.getfield 68, 3) := by decide +kernel
theorem dX8_confirm_58 : decode cX8_confirm 58 = .ok (.iload_n 1, 1) := by decide +kernel
theorem dX8_confirm_59 : decode cX8_confirm 59 = .ok (.iaload, 1) := by decide +kernel
theorem dX8_confirm_60 : decode cX8_confirm 60 = .ok (.istore_n 3, 1) := by decide +kernel
theorem dX8_confirm_61 : decode cX8_confirm 61 = .ok (.aload_n 0, 1) := by decide +kernel
theorem dX8_confirm_62 : decode cX8_confirm 62 = .ok (.iload_n 1, 1) := by decide +kernel
theorem dX8_confirm_63 : decode cX8_confirm 63 = .ok (.aload_n 0, 1) := by decide +kernel
theorem dX8_confirm_64 : decode cX8_confirm 64 = .ok (.getfield 74, 3) := by decide +kernel
theorem dX8_confirm_67 : decode cX8_confirm 67 = .ok (.iload_n 1, 1) := by decide +kernel
theorem dX8_confirm_68 : decode cX8_confirm 68 = .ok (.iaload, 1) := by decide +kernel
theorem dX8_confirm_69 : decode cX8_confirm 69 = .ok (.invokevirtual 275, 3) := by decide +kernel
theorem dX8_confirm_72 : decode cX8_confirm 72 = .ok (.iload_n 3, 1) := by decide +kernel
theorem dX8_confirm_73 : decode cX8_confirm 73 = .ok (.ireturn, 1) := by decide +kernel
theorem dX8_asked_0 : decode cX8_asked 0 = .ok (.aload_n 0, 1) := by decide +kernel
theorem dX8_asked_1 : decode cX8_asked 1 = .ok (.iload_n 1, 1) := by decide +kernel
theorem dX8_asked_2 : decode cX8_asked 2 = .ok (.invokevirtual 175, 3) := by decide +kernel
theorem dX8_asked_5 : decode cX8_asked 5 = .ok (.ifCond .eq 7, 3) := by decide +kernel
theorem dX8_asked_8 : decode cX8_asked 8 = .ok (.iconst (-1), 1) := by decide +kernel
theorem dX8_asked_9 : decode cX8_asked 9 = .ok (.goto 9, 3) := by decide +kernel
theorem dX8_asked_12 : decode cX8_asked 12 = .ok (.aload_n 0, 1) := by decide +kernel
theorem dX8_asked_13 : decode cX8_asked 13 = .ok (.getfield 68, 3) := by decide +kernel
theorem dX8_asked_16 : decode cX8_asked 16 = .ok (.iload_n 1, 1) := by decide +kernel
theorem dX8_asked_17 : decode cX8_asked 17 = .ok (.iaload, 1) := by decide +kernel
theorem dX8_asked_18 : decode cX8_asked 18 = .ok (.ireturn, 1) := by decide +kernel
theorem dX8_undo_0 : decode cX8_undo 0 = .ok (.aload_n 0, 1) := by decide +kernel
theorem dX8_undo_1 : decode cX8_undo 1 = .ok (.iload_n 1, 1) := by decide +kernel
theorem dX8_undo_2 : decode cX8_undo 2 = .ok (.invokevirtual 175, 3) := by decide +kernel
theorem dX8_undo_5 : decode cX8_undo 5 = .ok (.ifCond .eq 5, 3) := by decide +kernel
theorem dX8_undo_8 : decode cX8_undo 8 = .ok (.iconst (-1), 1) := by decide +kernel
theorem dX8_undo_9 : decode cX8_undo 9 = .ok (.ireturn, 1) := by decide +kernel
theorem dX8_undo_10 : decode cX8_undo 10 = .ok (.aload_n 0, 1) := by decide +kernel
theorem dX8_undo_11 : decode cX8_undo 11 = .ok (.getfield 83, 3) := by decide +kernel
theorem dX8_undo_14 : decode cX8_undo 14 = .ok (.iload_n 1, 1) := by decide +kernel
theorem dX8_undo_15 : decode cX8_undo 15 = .ok (.iaload, 1) := by decide +kernel
theorem dX8_undo_16 : decode cX8_undo 16 = .ok (.ifCond .ne 6, 3) := by decide +kernel
theorem dX8_undo_19 : decode cX8_undo 19 = .ok (.bipush (-3), 2) := by decide +kernel
theorem dX8_undo_21 : decode cX8_undo 21 = .ok (.ireturn, 1) := by decide +kernel
theorem dX8_undo_22 : decode cX8_undo 22 = .ok (.aload_n 0, 1) := by decide +kernel
theorem dX8_undo_23 : decode cX8_undo 23 = .ok (.getfield 83, 3) := by decide +kernel
theorem dX8_undo_26 : decode cX8_undo 26 = .ok (.iload_n 1, 1) := by decide +kernel
theorem dX8_undo_27 : decode cX8_undo 27 = .ok (.dup2, 1) := by decide +kernel
theorem dX8_undo_28 : decode cX8_undo 28 = .ok (.iaload, 1) := by decide +kernel
theorem dX8_undo_29 : decode cX8_undo 29 = .ok (.iconst 1, 1) := by decide +kernel
theorem dX8_undo_30 : decode cX8_undo 30 = .ok (.isub, 1) := by decide +kernel
theorem dX8_undo_31 : decode cX8_undo 31 = .ok (.iastore, 1) := by decide +kernel
theorem dX8_undo_32 : decode cX8_undo 32 = .ok (.aload_n 0, 1) := by decide +kernel
theorem dX8_undo_33 : decode cX8_undo 33 = .ok (.getfield 86, 3) := by decide +kernel
theorem dX8_undo_36 : decode cX8_undo 36 = .ok (.bipush 12, 2) := by decide +kernel
theorem dX8_undo_38 : decode cX8_undo 38 = .ok (.iload_n 1, 1) := by decide +kernel
theorem dX8_undo_39 : decode cX8_undo 39 = .ok (.imul, 1) := by decide +kernel
theorem dX8_undo_40 : decode cX8_undo 40 = .ok (.aload_n 0, 1) := by decide +kernel
theorem dX8_undo_41 : decode cX8_undo 41 = .ok (.getfield 83, 3) := by decide +kernel
theorem dX8_undo_44 : decode cX8_undo 44 = .ok (.iload_n 1, 1) := by decide +kernel
theorem dX8_undo_45 : decode cX8_undo 45 = .ok (.iaload, 1) := by decide +kernel
theorem dX8_undo_46 : decode cX8_undo 46 = .ok (.iadd, 1) := by decide +kernel
theorem dX8_undo_47 : decode cX8_undo 47 = .ok (.iaload, 1) := by decide +kernel
theorem dX8_undo_48 : decode cX8_undo 48 = .ok (.istore_n 2, 1) := by decide +kernel
theorem dX8_undo_49 : decode cX8_undo 49 = .ok (.aload_n 0, 1) := by decide +kernel
theorem dX8_undo_50 : decode cX8_undo 50 = .ok (.getfield 80, 3) := by decide +kernel
theorem dX8_undo_53 : decode cX8_undo 53 = .ok (.iconst 3, 1) := by decide +kernel
theorem dX8_undo_54 : decode cX8_undo 54 = .ok (.iload_n 1, 1) := by decide +kernel
theorem dX8_undo_55 : decode cX8_undo 55 = .ok (.imul, 1) := by decide +kernel
theorem dX8_undo_56 : decode cX8_undo 56 = .ok (.iload_n 2, 1) := by decide +kernel
theorem dX8_undo_57 : decode cX8_undo 57 = .ok (.iadd, 1) := by decide +kernel
theorem dX8_undo_58 : decode cX8_undo 58 = .ok (.dup2, 1) := by decide +kernel
theorem dX8_undo_59 : decode cX8_undo 59 = .ok (.iaload, 1) := by decide +kernel
theorem dX8_undo_60 : decode cX8_undo 60 = .ok (.iconst 1, 1) := by decide +kernel
theorem dX8_undo_61 : decode cX8_undo 61 = .ok (.isub, 1) := by decide +kernel
theorem dX8_undo_62 : decode cX8_undo 62 = .ok (.iastore, 1) := by decide +kernel
theorem dX8_undo_63 : decode cX8_undo 63 = .ok (.iload_n 2, 1) := by decide +kernel
theorem dX8_undo_64 : decode cX8_undo 64 = .ok (.ireturn, 1) := by decide +kernel
theorem dX8_counted_0 : decode cX8_counted 0 = .ok (.aload_n 0, 1) := by decide +kernel
theorem dX8_counted_1 : decode cX8_counted 1 = .ok (.iload_n 1, 1) := by decide +kernel
theorem dX8_counted_2 : decode cX8_counted 2 = .ok (.invokevirtual 175, 3) := by decide +kernel
theorem dX8_counted_5 : decode cX8_counted 5 = .ok (.ifCond .eq 5, 3) := by decide +kernel
theorem dX8_counted_8 : decode cX8_counted 8 = .ok (.iconst (-1), 1) := by decide +kernel
theorem dX8_counted_9 : decode cX8_counted 9 = .ok (.ireturn, 1) := by decide +kernel
theorem dX8_counted_10 : decode cX8_counted 10 = .ok (.iload_n 2, 1) := by decide +kernel
theorem dX8_counted_11 : decode cX8_counted 11 = .ok (.i2l, 1) := by decide +kernel
theorem dX8_counted_12 : decode cX8_counted 12 = .ok (.lconst 0, 1) := by decide +kernel
theorem dX8_counted_13 : decode cX8_counted 13 = .ok (.ldc2_w 126, 3) := by decide +kernel
theorem dX8_counted_16 : decode cX8_counted 16 = .ok (.invokestatic 128, 3) := by decide +kernel
theorem dX8_counted_19 : decode cX8_counted 19 = .ok (.ifCond .eq 16, 3) := by decide +kernel
theorem dX8_counted_22 : decode cX8_counted 22 = .ok (.aload_n 0, 1) := by decide +kernel
theorem dX8_counted_23 : decode cX8_counted 23 = .ok (.getfield 80, 3) := by decide +kernel
theorem dX8_counted_26 : decode cX8_counted 26 = .ok (.iconst 3, 1) := by decide +kernel
theorem dX8_counted_27 : decode cX8_counted 27 = .ok (.iload_n 1, 1) := by decide +kernel
theorem dX8_counted_28 : decode cX8_counted 28 = .ok (.imul, 1) := by decide +kernel
theorem dX8_counted_29 : decode cX8_counted 29 = .ok (.iload_n 2, 1) := by decide +kernel
theorem dX8_counted_30 : decode cX8_counted 30 = .ok (.iadd, 1) := by decide +kernel
theorem dX8_counted_31 : decode cX8_counted 31 = .ok (.iaload, 1) := by decide +kernel
theorem dX8_counted_32 : decode cX8_counted 32 = .ok (.goto 5, 3) := by decide +kernel
theorem dX8_counted_35 : decode cX8_counted 35 = .ok (.bipush (-2), 2) := by decide +kernel
theorem dX8_counted_37 : decode cX8_counted 37 = .ok (.ireturn, 1) := by decide +kernel
theorem dX8_spanOf_0 : decode cX8_spanOf 0 = .ok (.aload_n 0, 1) := by decide +kernel
theorem dX8_spanOf_1 : decode cX8_spanOf 1 = .ok (.getfield 80, 3) := by decide +kernel
theorem dX8_spanOf_4 : decode cX8_spanOf 4 = .ok (.iconst 3, 1) := by decide +kernel
theorem dX8_spanOf_5 : decode cX8_spanOf 5 = .ok (.iload_n 1, 1) := by decide +kernel
theorem dX8_spanOf_6 : decode cX8_spanOf 6 = .ok (.imul, 1) := by decide +kernel
theorem dX8_spanOf_7 : decode cX8_spanOf 7 = .ok (.iaload, 1) := by decide +kernel
theorem dX8_spanOf_8 : decode cX8_spanOf 8 = .ok (.aload_n 0, 1) := by decide +kernel
theorem dX8_spanOf_9 : decode cX8_spanOf 9 = .ok (.getfield 80, 3) := by decide +kernel
theorem dX8_spanOf_12 : decode cX8_spanOf 12 = .ok (.iconst 3, 1) := by decide +kernel
theorem dX8_spanOf_13 : decode cX8_spanOf 13 = .ok (.iload_n 1, 1) := by decide +kernel
theorem dX8_spanOf_14 : decode cX8_spanOf 14 = .ok (.imul, 1) := by decide +kernel
theorem dX8_spanOf_15 : decode cX8_spanOf 15 = .ok (.iconst 1, 1) := by decide +kernel
theorem dX8_spanOf_16 : decode cX8_spanOf 16 = .ok (.iadd, 1) := by decide +kernel
theorem dX8_spanOf_17 : decode cX8_spanOf 17 = .ok (.iaload, 1) := by decide +kernel
theorem dX8_spanOf_18 : decode cX8_spanOf 18 = .ok (.iadd, 1) := by decide +kernel
theorem dX8_spanOf_19 : decode cX8_spanOf 19 = .ok (.aload_n 0, 1) := by decide +kernel
theorem dX8_spanOf_20 : decode cX8_spanOf 20 = .ok (.getfield 80, 3) := by decide +kernel
theorem dX8_spanOf_23 : decode cX8_spanOf 23 = .ok (.iconst 3, 1) := by decide +kernel
theorem dX8_spanOf_24 : decode cX8_spanOf 24 = .ok (.iload_n 1, 1) := by decide +kernel
theorem dX8_spanOf_25 : decode cX8_spanOf 25 = .ok (.imul, 1) := by decide +kernel
theorem dX8_spanOf_26 : decode cX8_spanOf 26 = .ok (.iconst 2, 1) := by decide +kernel
theorem dX8_spanOf_27 : decode cX8_spanOf 27 = .ok (.iadd, 1) := by decide +kernel
theorem dX8_spanOf_28 : decode cX8_spanOf 28 = .ok (.iaload, 1) := by decide +kernel
theorem dX8_spanOf_29 : decode cX8_spanOf 29 = .ok (.iadd, 1) := by decide +kernel
theorem dX8_spanOf_30 : decode cX8_spanOf 30 = .ok (.istore_n 3, 1) := by decide +kernel
theorem dX8_spanOf_31 : decode cX8_spanOf 31 = .ok (.iconst 0, 1) := by decide +kernel
theorem dX8_spanOf_32 : decode cX8_spanOf 32 = .ok (.istore 4, 2) := by decide +kernel
theorem dX8_spanOf_34 : decode cX8_spanOf 34 = .ok (.iconst 0, 1) := by decide +kernel
theorem dX8_spanOf_35 : decode cX8_spanOf 35 = .ok (.istore 5, 2) := by decide +kernel
theorem dX8_spanOf_37 : decode cX8_spanOf 37 = .ok (.iload 5, 2) := by decide +kernel
theorem dX8_spanOf_39 : decode cX8_spanOf 39 = .ok (.iconst 3, 1) := by decide +kernel
theorem dX8_spanOf_40 : decode cX8_spanOf 40 = .ok (.if_icmp .ge 43, 3) := by decide +kernel
theorem dX8_spanOf_43 : decode cX8_spanOf 43 = .ok (.iload_n 3, 1) := by decide +kernel
theorem dX8_spanOf_44 : decode cX8_spanOf 44 = .ok (.ifCond .le 39, 3) := by decide +kernel
theorem dX8_spanOf_47 : decode cX8_spanOf 47 = .ok (.iload 4, 2) := by decide +kernel
theorem dX8_spanOf_49 : decode cX8_spanOf 49 = .ok (.aload_n 0, 1) := by decide +kernel
theorem dX8_spanOf_50 : decode cX8_spanOf 50 = .ok (.getfield 80, 3) := by decide +kernel
theorem dX8_spanOf_53 : decode cX8_spanOf 53 = .ok (.iconst 3, 1) := by decide +kernel
theorem dX8_spanOf_54 : decode cX8_spanOf 54 = .ok (.iload_n 1, 1) := by decide +kernel
theorem dX8_spanOf_55 : decode cX8_spanOf 55 = .ok (.imul, 1) := by decide +kernel
theorem dX8_spanOf_56 : decode cX8_spanOf 56 = .ok (.iload 5, 2) := by decide +kernel
theorem dX8_spanOf_58 : decode cX8_spanOf 58 = .ok (.iadd, 1) := by decide +kernel
theorem dX8_spanOf_59 : decode cX8_spanOf 59 = .ok (.iaload, 1) := by decide +kernel
theorem dX8_spanOf_60 : decode cX8_spanOf 60 = .ok (.iadd, 1) := by decide +kernel
theorem dX8_spanOf_61 : decode cX8_spanOf 61 = .ok (.istore 4, 2) := by decide +kernel
theorem dX8_spanOf_63 : decode cX8_spanOf 63 = .ok (.bipush 10, 2) := by decide +kernel
theorem dX8_spanOf_65 : decode cX8_spanOf 65 = .ok (.iload 4, 2) := by decide +kernel
theorem dX8_spanOf_67 : decode cX8_spanOf 67 = .ok (.imul, 1) := by decide +kernel
theorem dX8_spanOf_68 : decode cX8_spanOf 68 = .ok (.iload_n 2, 1) := by decide +kernel
theorem dX8_spanOf_69 : decode cX8_spanOf 69 = .ok (.iload_n 3, 1) := by decide +kernel
theorem dX8_spanOf_70 : decode cX8_spanOf 70 = .ok (.imul, 1) := by decide +kernel
theorem dX8_spanOf_71 : decode cX8_spanOf 71 = .ok (.if_icmp .lt 6, 3) := by decide +kernel
theorem dX8_spanOf_74 : decode cX8_spanOf 74 = .ok (.iload 5, 2) := by decide +kernel
theorem dX8_spanOf_76 : decode cX8_spanOf 76 = .ok (.ireturn, 1) := by decide +kernel
theorem dX8_spanOf_77 : decode cX8_spanOf 77 = .ok (.iinc 5 1, 3) := by decide +kernel
theorem dX8_spanOf_80 : decode cX8_spanOf 80 = .ok (.goto (-43), 3) := by decide +kernel
theorem dX8_spanOf_83 : decode cX8_spanOf 83 = .ok (.bipush (-9), 2) := by decide +kernel
theorem dX8_spanOf_85 : decode cX8_spanOf 85 = .ok (.ireturn, 1) := by decide +kernel
theorem dX8_span_0 : decode cX8_span 0 = .ok (.aload_n 0, 1) := by decide +kernel
theorem dX8_span_1 : decode cX8_span 1 = .ok (.iload_n 1, 1) := by decide +kernel
theorem dX8_span_2 : decode cX8_span 2 = .ok (.invokevirtual 175, 3) := by decide +kernel
theorem dX8_span_5 : decode cX8_span 5 = .ok (.ifCond .eq 5, 3) := by decide +kernel
theorem dX8_span_8 : decode cX8_span 8 = .ok (.iconst (-1), 1) := by decide +kernel
theorem dX8_span_9 : decode cX8_span 9 = .ok (.ireturn, 1) := by decide +kernel
theorem dX8_span_10 : decode cX8_span 10 = .ok (.iload_n 2, 1) := by decide +kernel
theorem dX8_span_11 : decode cX8_span 11 = .ok (.i2l, 1) := by decide +kernel
theorem dX8_span_12 : decode cX8_span 12 = .ok (.lconst 1, 1) := by decide +kernel
theorem dX8_span_13 : decode cX8_span 13 = .ok (.ldc2_w 180, 3) := by decide +kernel
theorem dX8_span_16 : decode cX8_span 16 = .ok (.invokestatic 128, 3) := by decide +kernel
theorem dX8_span_19 : decode cX8_span 19 = .ok (.ifCond .eq 12, 3) := by decide +kernel
theorem dX8_span_22 : decode cX8_span 22 = .ok (.aload_n 0, 1) := by decide +kernel
theorem dX8_span_23 : decode cX8_span 23 = .ok (.iload_n 1, 1) := by decide +kernel
theorem dX8_span_24 : decode cX8_span 24 = .ok (.iload_n 2, 1) := by decide +kernel
theorem dX8_span_25 : decode cX8_span 25 = .ok (.invokevirtual 278, 3) := by decide +kernel
theorem dX8_span_28 : decode cX8_span 28 = .ok (.goto 5, 3) := by decide +kernel
theorem dX8_span_31 : decode cX8_span 31 = .ok (.bipush (-2), 2) := by decide +kernel
theorem dX8_span_33 : decode cX8_span 33 = .ok (.ireturn, 1) := by decide +kernel
theorem dX8_worse_0 : decode cX8_worse 0 = .ok (.aload_n 0, 1) := by decide +kernel
theorem dX8_worse_1 : decode cX8_worse 1 = .ok (.iload_n 1, 1) := by decide +kernel
theorem dX8_worse_2 : decode cX8_worse 2 = .ok (.invokevirtual 175, 3) := by decide +kernel
theorem dX8_worse_5 : decode cX8_worse 5 = .ok (.ifCond .ne 13, 3) := by decide +kernel
theorem dX8_worse_8 : decode cX8_worse 8 = .ok (.iload_n 2, 1) := by decide +kernel
theorem dX8_worse_9 : decode cX8_worse 9 = .ok (.i2l, 1) := by decide +kernel
theorem dX8_worse_10 : decode cX8_worse 10 = .ok (.lconst 0, 1) := by decide +kernel
theorem dX8_worse_11 : decode cX8_worse 11 = .ok (.lconst 1, 1) := by decide +kernel
theorem dX8_worse_12 : decode cX8_worse 12 = .ok (.invokestatic 128, 3) := by decide +kernel
theorem dX8_worse_15 : decode cX8_worse 15 = .ok (.ifCond .ne 7, 3) := by decide +kernel
theorem dX8_worse_18 : decode cX8_worse 18 = .ok (.invokestatic 122, 3) := by decide +kernel
theorem dX8_worse_21 : decode cX8_worse 21 = .ok (.lreturn, 1) := by decide +kernel
theorem dX8_worse_22 : decode cX8_worse 22 = .ok (.lconst 0, 1) := by decide +kernel
theorem dX8_worse_23 : decode cX8_worse 23 = .ok (.lstore_n 3, 1) := by decide +kernel
theorem dX8_worse_24 : decode cX8_worse 24 = .ok (.lconst 0, 1) := by decide +kernel
theorem dX8_worse_25 : decode cX8_worse 25 = .ok (.lstore 5, 2) := by decide +kernel
theorem dX8_worse_27 : decode cX8_worse 27 = .ok (.iconst 0, 1) := by decide +kernel
theorem dX8_worse_28 : decode cX8_worse 28 = .ok (.istore 7, 2) := by decide +kernel
theorem dX8_worse_30 : decode cX8_worse 30 = .ok (.iload 7, 2) := by decide +kernel
theorem dX8_worse_32 : decode cX8_worse 32 = .ok (.aload_n 0, 1) := by decide +kernel
theorem dX8_worse_33 : decode cX8_worse 33 = .ok (.getfield 83, 3) := by decide +kernel
theorem dX8_worse_36 : decode cX8_worse 36 = .ok (.iload_n 1, 1) := by decide +kernel
theorem dX8_worse_37 : decode cX8_worse 37 = .ok (.iaload, 1) := by decide +kernel
theorem dX8_worse_38 : decode cX8_worse 38 = .ok (.if_icmp .ge 80, 3) := by decide +kernel
theorem dX8_worse_41 : decode cX8_worse 41 = .ok (.iconst 0, 1) := by decide +kernel
theorem dX8_worse_42 : decode cX8_worse 42 = .ok (.istore 8, 2) := by decide +kernel
theorem dX8_worse_44 : decode cX8_worse 44 = .ok (.iload 8, 2) := by decide +kernel
theorem dX8_worse_46 : decode cX8_worse 46 = .ok (.iload 7, 2) := by decide +kernel
theorem dX8_worse_48 : decode cX8_worse 48 = .ok (.if_icmp .ge 64, 3) := by decide +kernel
theorem dX8_worse_51 : decode cX8_worse 51 = .ok (.aload_n 0, 1) := by decide +kernel
theorem dX8_worse_52 : decode cX8_worse 52 = .ok (.getfield 86, 3) := by decide +kernel
theorem dX8_worse_55 : decode cX8_worse 55 = .ok (.bipush 12, 2) := by decide +kernel
theorem dX8_worse_57 : decode cX8_worse 57 = .ok (.iload_n 1, 1) := by decide +kernel
theorem dX8_worse_58 : decode cX8_worse 58 = .ok (.imul, 1) := by decide +kernel
theorem dX8_worse_59 : decode cX8_worse 59 = .ok (.iload 7, 2) := by decide +kernel
theorem dX8_worse_61 : decode cX8_worse 61 = .ok (.iadd, 1) := by decide +kernel
theorem dX8_worse_62 : decode cX8_worse 62 = .ok (.iaload, 1) := by decide +kernel
theorem dX8_worse_63 : decode cX8_worse 63 = .ok (.aload_n 0, 1) := by decide +kernel
theorem dX8_worse_64 : decode cX8_worse 64 = .ok (.getfield 86, 3) := by decide +kernel
theorem dX8_worse_67 : decode cX8_worse 67 = .ok (.bipush 12, 2) := by decide +kernel
theorem dX8_worse_69 : decode cX8_worse 69 = .ok (.iload_n 1, 1) := by decide +kernel
theorem dX8_worse_70 : decode cX8_worse 70 = .ok (.imul, 1) := by decide +kernel
theorem dX8_worse_71 : decode cX8_worse 71 = .ok (.iload 8, 2) := by decide +kernel
theorem dX8_worse_73 : decode cX8_worse 73 = .ok (.iadd, 1) := by decide +kernel
theorem dX8_worse_74 : decode cX8_worse 74 = .ok (.iaload, 1) := by decide +kernel
theorem dX8_worse_75 : decode cX8_worse 75 = .ok (.isub, 1) := by decide +kernel
theorem dX8_worse_76 : decode cX8_worse 76 = .ok (.istore 9, 2) := by decide +kernel
theorem dX8_worse_78 : decode cX8_worse 78 = .ok (.lload 5, 2) := by decide +kernel
theorem dX8_worse_80 : decode cX8_worse 80 = .ok (.iload 9, 2) := by decide +kernel
theorem dX8_worse_82 : decode cX8_worse 82 = .ok (.ifCond .eq 7, 3) := by decide +kernel
theorem dX8_worse_85 : decode cX8_worse 85 = .ok (.lconst 1, 1) := by decide +kernel
theorem dX8_worse_86 : decode cX8_worse 86 = .ok (.goto 4, 3) := by decide +kernel
theorem dX8_worse_89 : decode cX8_worse 89 = .ok (.lconst 0, 1) := by decide +kernel
theorem dX8_worse_90 : decode cX8_worse 90 = .ok (.ladd, 1) := by decide +kernel
theorem dX8_worse_91 : decode cX8_worse 91 = .ok (.lstore 5, 2) := by decide +kernel
theorem dX8_worse_93 : decode cX8_worse 93 = .ok (.lload_n 3, 1) := by decide +kernel
theorem dX8_worse_94 : decode cX8_worse 94 = .ok (.iload 9, 2) := by decide +kernel
theorem dX8_worse_96 : decode cX8_worse 96 = .ok (.ifCond .le 7, 3) := by decide +kernel
theorem dX8_worse_99 : decode cX8_worse 99 = .ok (.lconst 1, 1) := by decide +kernel
theorem dX8_worse_100 : decode cX8_worse 100 = .ok (.goto 4, 3) := by decide +kernel
theorem dX8_worse_103 : decode cX8_worse 103 = .ok (.lconst 0, 1) := by decide +kernel
theorem dX8_worse_104 : decode cX8_worse 104 = .ok (.ladd, 1) := by decide +kernel
theorem dX8_worse_105 : decode cX8_worse 105 = .ok (.lstore_n 3, 1) := by decide +kernel
theorem dX8_worse_106 : decode cX8_worse 106 = .ok (.iinc 8 1, 3) := by decide +kernel
theorem dX8_worse_109 : decode cX8_worse 109 = .ok (.goto (-65), 3) := by decide +kernel
theorem dX8_worse_112 : decode cX8_worse 112 = .ok (.iinc 7 1, 3) := by decide +kernel
theorem dX8_worse_115 : decode cX8_worse 115 = .ok (.goto (-85), 3) := by decide +kernel
theorem dX8_worse_118 : decode cX8_worse 118 = .ok (.lload 5, 2) := by decide +kernel
theorem dX8_worse_120 : decode cX8_worse 120 = .ok (.lconst 0, 1) := by decide +kernel
theorem dX8_worse_121 : decode cX8_worse 121 = .ok (.lcmp, 1) := by decide +kernel
theorem dX8_worse_122 : decode cX8_worse 122 = .ok (.ifCond .ne 9, 3) := by decide +kernel
theorem dX8_worse_125 : decode cX8_worse 125 = .ok (.invokestatic 122, 3) := by decide +kernel
theorem dX8_worse_128 : decode cX8_worse 128 = .ok (.goto 10, 3) := by decide +kernel
theorem dX8_worse_131 : decode cX8_worse 131 = .ok (.lload_n 3, 1) := by decide +kernel
theorem dX8_worse_132 : decode cX8_worse 132 = .ok (.lload 5, 2) := by decide +kernel
theorem dX8_worse_134 : decode cX8_worse 134 = .ok (.iload_n 2, 1) := by decide +kernel
theorem dX8_worse_135 : decode cX8_worse 135 = .ok (.invokestatic 281, 3) := by decide +kernel
theorem dX8_worse_138 : decode cX8_worse 138 = .ok (.lreturn, 1) := by decide +kernel
theorem dX8_trial_0 : decode cX8_trial 0 = .ok (.aload_n 0, 1) := by decide +kernel
theorem dX8_trial_1 : decode cX8_trial 1 = .ok (.iload_n 1, 1) := by decide +kernel
theorem dX8_trial_2 : decode cX8_trial 2 = .ok (.invokevirtual 175, 3) := by decide +kernel
theorem dX8_trial_5 : decode cX8_trial 5 = .ok (.ifCond .eq 5, 3) := by decide +kernel
theorem dX8_trial_8 : decode cX8_trial 8 = .ok (.iconst (-1), 1) := by decide +kernel
theorem dX8_trial_9 : decode cX8_trial 9 = .ok (.ireturn, 1) := by decide +kernel
theorem dX8_trial_10 : decode cX8_trial 10 = .ok (.iload_n 2, 1) := by decide +kernel
theorem dX8_trial_11 : decode cX8_trial 11 = .ok (.i2l, 1) := by decide +kernel
theorem dX8_trial_12 : decode cX8_trial 12 = .ok (.lconst 0, 1) := by decide +kernel
theorem dX8_trial_13 : decode cX8_trial 13 = .ok (.ldc2_w 170, 3) := by decide +kernel
theorem dX8_trial_16 : decode cX8_trial 16 = .ok (.invokestatic 128, 3) := by decide +kernel
theorem dX8_trial_19 : decode cX8_trial 19 = .ok (.ifCond .eq 15, 3) := by decide +kernel
theorem dX8_trial_22 : decode cX8_trial 22 = .ok (.iload_n 3, 1) := by decide +kernel
theorem dX8_trial_23 : decode cX8_trial 23 = .ok (.i2l, 1) := by decide +kernel
theorem dX8_trial_24 : decode cX8_trial 24 = .ok (.lconst 0, 1) := by decide +kernel
theorem dX8_trial_25 : decode cX8_trial 25 = .ok (.ldc2_w 170, 3) := by decide +kernel
theorem dX8_trial_28 : decode cX8_trial 28 = .ok (.invokestatic 128, 3) := by decide +kernel
theorem dX8_trial_31 : decode cX8_trial 31 = .ok (.ifCond .ne 6, 3) := by decide +kernel
theorem dX8_trial_34 : decode cX8_trial 34 = .ok (.bipush (-2), 2) := by decide +kernel
theorem dX8_trial_36 : decode cX8_trial 36 = .ok (.ireturn, 1) := by decide +kernel
theorem dX8_trial_37 : decode cX8_trial 37 = .ok (.aload_n 0, 1) := by decide +kernel
theorem dX8_trial_38 : decode cX8_trial 38 = .ok (.getfield 89, 3) := by decide +kernel
theorem dX8_trial_41 : decode cX8_trial 41 = .ok (.iload_n 1, 1) := by decide +kernel
theorem dX8_trial_42 : decode cX8_trial 42 = .ok (.iaload, 1) := by decide +kernel
theorem dX8_trial_43 : decode cX8_trial 43 = .ok (.bipush 10, 2) := by decide +kernel
theorem dX8_trial_45 : decode cX8_trial 45 = .ok (.if_icmp .ne 6, 3) := by decide +kernel
theorem dX8_trial_48 : decode cX8_trial 48 = .ok (.bipush (-4), 2) := by decide +kernel
theorem dX8_trial_50 : decode cX8_trial 50 = .ok (.ireturn, 1) := by decide +kernel
theorem dX8_trial_51 : decode cX8_trial 51 = .ok (.aload_n 0, 1) := by decide +kernel
theorem dX8_trial_52 : decode cX8_trial 52 = .ok (.getfield 92, 3) := by decide +kernel
theorem dX8_trial_55 : decode cX8_trial 55 = .ok (.bipush 10, 2) := by decide +kernel
theorem dX8_trial_57 : decode cX8_trial 57 = .ok (.iload_n 1, 1) := by decide +kernel
theorem dX8_trial_58 : decode cX8_trial 58 = .ok (.imul, 1) := by decide +kernel
theorem dX8_trial_59 : decode cX8_trial 59 = .ok (.aload_n 0, 1) := by decide +kernel
theorem dX8_trial_60 : decode cX8_trial 60 = .ok (.getfield 89, 3) := by decide +kernel
theorem dX8_trial_63 : decode cX8_trial 63 = .ok (.iload_n 1, 1) := by decide +kernel
theorem dX8_trial_64 : decode cX8_trial 64 = .ok (.iaload, 1) := by decide +kernel
theorem dX8_trial_65 : decode cX8_trial 65 = .ok (.iadd, 1) := by decide +kernel
theorem dX8_trial_66 : decode cX8_trial 66 = .ok (.iload_n 2, 1) := by decide +kernel
theorem dX8_trial_67 : decode cX8_trial 67 = .ok (.iload_n 3, 1) := by decide +kernel
theorem dX8_trial_68 : decode cX8_trial 68 = .ok (.isub, 1) := by decide +kernel
theorem dX8_trial_69 : decode cX8_trial 69 = .ok (.iastore, 1) := by decide +kernel
theorem dX8_trial_70 : decode cX8_trial 70 = .ok (.aload_n 0, 1) := by decide +kernel
theorem dX8_trial_71 : decode cX8_trial 71 = .ok (.getfield 89, 3) := by decide +kernel
theorem dX8_trial_74 : decode cX8_trial 74 = .ok (.iload_n 1, 1) := by decide +kernel
theorem dX8_trial_75 : decode cX8_trial 75 = .ok (.dup2, 1) := by decide +kernel
theorem dX8_trial_76 : decode cX8_trial 76 = .ok (.iaload, 1) := by decide +kernel
theorem dX8_trial_77 : decode cX8_trial 77 = .ok (.iconst 1, 1) := by decide +kernel
theorem dX8_trial_78 : decode cX8_trial 78 = .ok (.iadd, 1) := by decide +kernel
theorem dX8_trial_79 : decode cX8_trial 79 = .ok (.iastore, 1) := by decide +kernel
theorem dX8_trial_80 : decode cX8_trial 80 = .ok (.aload_n 0, 1) := by decide +kernel
theorem dX8_trial_81 : decode cX8_trial 81 = .ok (.getfield 89, 3) := by decide +kernel
theorem dX8_trial_84 : decode cX8_trial 84 = .ok (.iload_n 1, 1) := by decide +kernel
theorem dX8_trial_85 : decode cX8_trial 85 = .ok (.iaload, 1) := by decide +kernel
theorem dX8_trial_86 : decode cX8_trial 86 = .ok (.ireturn, 1) := by decide +kernel
theorem dX8_sumBy_0 : decode cX8_sumBy 0 = .ok (.iconst 0, 1) := by decide +kernel
theorem dX8_sumBy_1 : decode cX8_sumBy 1 = .ok (.istore_n 3, 1) := by decide +kernel
theorem dX8_sumBy_2 : decode cX8_sumBy 2 = .ok (.iconst 0, 1) := by decide +kernel
theorem dX8_sumBy_3 : decode cX8_sumBy 3 = .ok (.istore 4, 2) := by decide +kernel
theorem dX8_sumBy_5 : decode cX8_sumBy 5 = .ok (.iload 4, 2) := by decide +kernel
theorem dX8_sumBy_7 : decode cX8_sumBy 7 = .ok (.aload_n 0, 1) := by decide +kernel
theorem dX8_sumBy_8 : decode cX8_sumBy 8 = .ok (.getfield 89, 3) := by decide +kernel
theorem dX8_sumBy_11 : decode cX8_sumBy 11 = .ok (.iload_n 1, 1) := by decide +kernel
theorem dX8_sumBy_12 : decode cX8_sumBy 12 = .ok (.iaload, 1) := by decide +kernel
theorem dX8_sumBy_13 : decode cX8_sumBy 13 = .ok (.if_icmp .ge 49, 3) := by decide +kernel
theorem dX8_sumBy_16 : decode cX8_sumBy 16 = .ok (.iload_n 3, 1) := by decide +kernel
theorem dX8_sumBy_17 : decode cX8_sumBy 17 = .ok (.iload_n 2, 1) := by decide +kernel
theorem dX8_sumBy_18 : decode cX8_sumBy 18 = .ok (.iload 4, 2) := by decide +kernel
theorem dX8_sumBy_20 : decode cX8_sumBy 20 = .ok (.invokestatic 185, 3) := by decide +kernel
theorem dX8_sumBy_23 : decode cX8_sumBy 23 = .ok (.ifCond .eq 19, 3) := by decide +kernel
theorem dX8_sumBy_26 : decode cX8_sumBy 26 = .ok (.aload_n 0, 1) := by decide +kernel
theorem dX8_sumBy_27 : decode cX8_sumBy 27 = .ok (.getfield 92, 3) := by decide +kernel
theorem dX8_sumBy_30 : decode cX8_sumBy 30 = .ok (.bipush 10, 2) := by decide +kernel
theorem dX8_sumBy_32 : decode cX8_sumBy 32 = .ok (.iload_n 1, 1) := by decide +kernel
theorem dX8_sumBy_33 : decode cX8_sumBy 33 = .ok (.imul, 1) := by decide +kernel
theorem dX8_sumBy_34 : decode cX8_sumBy 34 = .ok (.iload 4, 2) := by decide +kernel
theorem dX8_sumBy_36 : decode cX8_sumBy 36 = .ok (.iadd, 1) := by decide +kernel
theorem dX8_sumBy_37 : decode cX8_sumBy 37 = .ok (.iaload, 1) := by decide +kernel
theorem dX8_sumBy_38 : decode cX8_sumBy 38 = .ok (.ineg, 1) := by decide +kernel
theorem dX8_sumBy_39 : decode cX8_sumBy 39 = .ok (.goto 15, 3) := by decide +kernel
theorem dX8_sumBy_42 : decode cX8_sumBy 42 = .ok (.aload_n 0, 1) := by decide +kernel
theorem dX8_sumBy_43 : decode cX8_sumBy 43 = .ok (.getfield 92, 3) := by decide +kernel
theorem dX8_sumBy_46 : decode cX8_sumBy 46 = .ok (.bipush 10, 2) := by decide +kernel
theorem dX8_sumBy_48 : decode cX8_sumBy 48 = .ok (.iload_n 1, 1) := by decide +kernel
theorem dX8_sumBy_49 : decode cX8_sumBy 49 = .ok (.imul, 1) := by decide +kernel
theorem dX8_sumBy_50 : decode cX8_sumBy 50 = .ok (.iload 4, 2) := by decide +kernel
theorem dX8_sumBy_52 : decode cX8_sumBy 52 = .ok (.iadd, 1) := by decide +kernel
theorem dX8_sumBy_53 : decode cX8_sumBy 53 = .ok (.iaload, 1) := by decide +kernel
theorem dX8_sumBy_54 : decode cX8_sumBy 54 = .ok (.iadd, 1) := by decide +kernel
theorem dX8_sumBy_55 : decode cX8_sumBy 55 = .ok (.istore_n 3, 1) := by decide +kernel
theorem dX8_sumBy_56 : decode cX8_sumBy 56 = .ok (.iinc 4 1, 3) := by decide +kernel
theorem dX8_sumBy_59 : decode cX8_sumBy 59 = .ok (.goto (-54), 3) := by decide +kernel
theorem dX8_sumBy_62 : decode cX8_sumBy 62 = .ok (.iload_n 3, 1) := by decide +kernel
theorem dX8_sumBy_63 : decode cX8_sumBy 63 = .ok (.ireturn, 1) := by decide +kernel
theorem dX8_odds_0 : decode cX8_odds 0 = .ok (.aload_n 0, 1) := by decide +kernel
theorem dX8_odds_1 : decode cX8_odds 1 = .ok (.iload_n 1, 1) := by decide +kernel
theorem dX8_odds_2 : decode cX8_odds 2 = .ok (.invokevirtual 175, 3) := by decide +kernel
theorem dX8_odds_5 : decode cX8_odds 5 = .ok (.ifCond .ne 22, 3) := by decide +kernel
theorem dX8_odds_8 : decode cX8_odds 8 = .ok (.iload_n 2, 1) := by decide +kernel
theorem dX8_odds_9 : decode cX8_odds 9 = .ok (.i2l, 1) := by decide +kernel
theorem dX8_odds_10 : decode cX8_odds 10 = .ok (.lconst 0, 1) := by decide +kernel
theorem dX8_odds_11 : decode cX8_odds 11 = .ok (.lconst 1, 1) := by decide +kernel
theorem dX8_odds_12 : decode cX8_odds 12 = .ok (.invokestatic 128, 3) := by decide +kernel
theorem dX8_odds_15 : decode cX8_odds 15 = .ok (.ifCond .eq 12, 3) := by decide +kernel
theorem dX8_odds_18 : decode cX8_odds 18 = .ok (.aload_n 0, 1) := by decide +kernel
theorem dX8_odds_19 : decode cX8_odds 19 = .ok (.getfield 89, 3) := by decide +kernel
theorem dX8_odds_22 : decode cX8_odds 22 = .ok (.iload_n 1, 1) := by decide +kernel
theorem dX8_odds_23 : decode cX8_odds 23 = .ok (.iaload, 1) := by decide +kernel
theorem dX8_odds_24 : decode cX8_odds 24 = .ok (.ifCond .ne 7, 3) := by decide +kernel
theorem dX8_odds_27 : decode cX8_odds 27 = .ok (.invokestatic 122, 3) := by decide +kernel
theorem dX8_odds_30 : decode cX8_odds 30 = .ok (.lreturn, 1) := by decide +kernel
theorem dX8_odds_31 : decode cX8_odds 31 = .ok (.iconst 1, 1) := by decide +kernel
theorem dX8_odds_32 : decode cX8_odds 32 = .ok (.aload_n 0, 1) := by decide +kernel
theorem dX8_odds_33 : decode cX8_odds 33 = .ok (.getfield 89, 3) := by decide +kernel
theorem dX8_odds_36 : decode cX8_odds 36 = .ok (.iload_n 1, 1) := by decide +kernel
theorem dX8_odds_37 : decode cX8_odds 37 = .ok (.iaload, 1) := by decide +kernel
theorem dX8_odds_38 : decode cX8_odds 38 = .ok (.ishl, 1) := by decide +kernel
theorem dX8_odds_39 : decode cX8_odds 39 = .ok (.istore_n 3, 1) := by decide +kernel
theorem dX8_odds_40 : decode cX8_odds 40 = .ok (.iconst 0, 1) := by decide +kernel
theorem dX8_odds_41 : decode cX8_odds 41 = .ok (.istore 4, 2) := by decide +kernel
theorem dX8_odds_43 : decode cX8_odds 43 = .ok (.iconst 0, 1) := by decide +kernel
theorem dX8_odds_44 : decode cX8_odds 44 = .ok (.istore 5, 2) := by decide +kernel
theorem dX8_odds_46 : decode cX8_odds 46 = .ok (.iload 5, 2) := by decide +kernel
theorem dX8_odds_48 : decode cX8_odds 48 = .ok (.iload_n 3, 1) := by decide +kernel
theorem dX8_odds_49 : decode cX8_odds 49 = .ok (.if_icmp .ge 35, 3) := by decide +kernel
theorem dX8_odds_52 : decode cX8_odds 52 = .ok (.iload 4, 2) := by decide +kernel
theorem dX8_odds_54 : decode cX8_odds 54 = .ok (.aload_n 0, 1) := by decide +kernel
theorem dX8_odds_55 : decode cX8_odds 55 = .ok (.iload_n 1, 1) := by decide +kernel
theorem dX8_odds_56 : decode cX8_odds 56 = .ok (.iload 5, 2) := by decide +kernel
theorem dX8_odds_58 : decode cX8_odds 58 = .ok (.invokevirtual 285, 3) := by decide +kernel
theorem dX8_odds_61 : decode cX8_odds 61 = .ok (.aload_n 0, 1) := by decide +kernel
theorem dX8_odds_62 : decode cX8_odds 62 = .ok (.iload_n 1, 1) := by decide +kernel
theorem dX8_odds_63 : decode cX8_odds 63 = .ok (.iconst 0, 1) := by decide +kernel
theorem dX8_odds_64 : decode cX8_odds 64 = .ok (.invokevirtual 285, 3) := by decide +kernel
theorem dX8_odds_67 : decode cX8_odds 67 = .ok (.if_icmp .lt 7, 3) := by decide +kernel
theorem dX8_odds_70 : decode cX8_odds 70 = .ok (.iconst 1, 1) := by decide +kernel
theorem dX8_odds_71 : decode cX8_odds 71 = .ok (.goto 4, 3) := by decide +kernel
theorem dX8_odds_74 : decode cX8_odds 74 = .ok (.iconst 0, 1) := by decide +kernel
theorem dX8_odds_75 : decode cX8_odds 75 = .ok (.iadd, 1) := by decide +kernel
theorem dX8_odds_76 : decode cX8_odds 76 = .ok (.istore 4, 2) := by decide +kernel
theorem dX8_odds_78 : decode cX8_odds 78 = .ok (.iinc 5 1, 3) := by decide +kernel
theorem dX8_odds_81 : decode cX8_odds 81 = .ok (.goto (-35), 3) := by decide +kernel
theorem dX8_odds_84 : decode cX8_odds 84 = .ok (.iload 4, 2) := by decide +kernel
theorem dX8_odds_86 : decode cX8_odds 86 = .ok (.i2l, 1) := by decide +kernel
theorem dX8_odds_87 : decode cX8_odds 87 = .ok (.iload_n 3, 1) := by decide +kernel
theorem dX8_odds_88 : decode cX8_odds 88 = .ok (.i2l, 1) := by decide +kernel
theorem dX8_odds_89 : decode cX8_odds 89 = .ok (.iload_n 2, 1) := by decide +kernel
theorem dX8_odds_90 : decode cX8_odds 90 = .ok (.invokestatic 281, 3) := by decide +kernel
theorem dX8_odds_93 : decode cX8_odds 93 = .ok (.lreturn, 1) := by decide +kernel
theorem dX8_leave_0 : decode cX8_leave 0 = .ok (.aload_n 0, 1) := by decide +kernel
theorem dX8_leave_1 : decode cX8_leave 1 = .ok (.iload_n 1, 1) := by decide +kernel
theorem dX8_leave_2 : decode cX8_leave 2 = .ok (.invokevirtual 175, 3) := by decide +kernel
theorem dX8_leave_5 : decode cX8_leave 5 = .ok (.ifCond .ne 11, 3) := by decide +kernel
theorem dX8_leave_8 : decode cX8_leave 8 = .ok (.aload_n 0, 1) := by decide +kernel
theorem dX8_leave_9 : decode cX8_leave 9 = .ok (.iload_n 2, 1) := by decide +kernel
theorem dX8_leave_10 : decode cX8_leave 10 = .ok (.invokevirtual 175, 3) := by decide +kernel
theorem dX8_leave_13 : decode cX8_leave 13 = .ok (.ifCond .eq 5, 3) := by decide +kernel
theorem dX8_leave_16 : decode cX8_leave 16 = .ok (.iconst (-1), 1) := by decide +kernel
theorem dX8_leave_17 : decode cX8_leave 17 = .ok (.ireturn, 1) := by decide +kernel
theorem dX8_leave_18 : decode cX8_leave 18 = .ok (.iload_n 1, 1) := by decide +kernel
theorem dX8_leave_19 : decode cX8_leave 19 = .ok (.iload_n 2, 1) := by decide +kernel
theorem dX8_leave_20 : decode cX8_leave 20 = .ok (.if_icmp .eq 28, 3) := by decide +kernel
theorem dX8_leave_23 : decode cX8_leave 23 = .ok (.iload_n 3, 1) := by decide +kernel
theorem dX8_leave_24 : decode cX8_leave 24 = .ok (.i2l, 1) := by decide +kernel
theorem dX8_leave_25 : decode cX8_leave 25 = .ok (.lconst 0, 1) := by decide +kernel
theorem dX8_leave_26 : decode cX8_leave 26 = .ok (.lconst 1, 1) := by decide +kernel
theorem dX8_leave_27 : decode cX8_leave 27 = .ok (.invokestatic 128, 3) := by decide +kernel
theorem dX8_leave_30 : decode cX8_leave 30 = .ok (.ifCond .eq 18, 3) := by decide +kernel
theorem dX8_leave_33 : decode cX8_leave 33 = .ok (.iload 4, 2) := by decide +kernel
theorem dX8_leave_35 : decode cX8_leave 35 = .ok (.i2l, 1) := by decide +kernel
theorem dX8_leave_36 : decode cX8_leave 36 = .ok (.ldc2_w 221, 3) := by decide +kernel
theorem dX8_leave_39 : decode cX8_leave 39 = .ok (.ldc2_w 233, 3) := by decide +kernel
theorem dX8_leave_42 : decode cX8_leave 42 = .ok (.invokestatic 128, 3) := by decide +kernel
theorem dX8_leave_45 : decode cX8_leave 45 = .ok (.ifCond .ne 6, 3) := by decide +kernel
theorem dX8_leave_48 : decode cX8_leave 48 = .ok (.bipush (-2), 2) := by decide +kernel
theorem dX8_leave_50 : decode cX8_leave 50 = .ok (.ireturn, 1) := by decide +kernel
theorem dX8_leave_51 : decode cX8_leave 51 = .ok (.bipush 8, 2) := by decide +kernel
theorem dX8_leave_53 : decode cX8_leave 53 = .ok (.iload_n 1, 1) := by decide +kernel
theorem dX8_leave_54 : decode cX8_leave 54 = .ok (.imul, 1) := by decide +kernel
theorem dX8_leave_55 : decode cX8_leave 55 = .ok (.iconst 2, 1) := by decide +kernel
theorem dX8_leave_56 : decode cX8_leave 56 = .ok (.iload_n 2, 1) := by decide +kernel
theorem dX8_leave_57 : decode cX8_leave 57 = .ok (.imul, 1) := by decide +kernel
theorem dX8_leave_58 : decode cX8_leave 58 = .ok (.iadd, 1) := by decide +kernel
theorem dX8_leave_59 : decode cX8_leave 59 = .ok (.iload_n 3, 1) := by decide +kernel
theorem dX8_leave_60 : decode cX8_leave 60 = .ok (.iadd, 1) := by decide +kernel
theorem dX8_leave_61 : decode cX8_leave 61 = .ok (.istore 5, 2) := by decide +kernel
theorem dX8_leave_63 : decode cX8_leave 63 = .ok (.aload_n 0, 1) := by decide +kernel
theorem dX8_leave_64 : decode cX8_leave 64 = .ok (.getfield 95, 3) := by decide +kernel
theorem dX8_leave_67 : decode cX8_leave 67 = .ok (.iload 5, 2) := by decide +kernel
theorem dX8_leave_69 : decode cX8_leave 69 = .ok (.iaload, 1) := by decide +kernel
theorem dX8_leave_70 : decode cX8_leave 70 = .ok (.istore 6, 2) := by decide +kernel
theorem dX8_leave_72 : decode cX8_leave 72 = .ok (.aload_n 0, 1) := by decide +kernel
theorem dX8_leave_73 : decode cX8_leave 73 = .ok (.getfield 95, 3) := by decide +kernel
theorem dX8_leave_76 : decode cX8_leave 76 = .ok (.iload 5, 2) := by decide +kernel
theorem dX8_leave_78 : decode cX8_leave 78 = .ok (.iload 4, 2) := by decide +kernel
theorem dX8_leave_80 : decode cX8_leave 80 = .ok (.ifCond .ge 8, 3) := by decide +kernel
theorem dX8_leave_83 : decode cX8_leave 83 = .ok (.bipush (-9), 2) := by decide +kernel
theorem dX8_leave_85 : decode cX8_leave 85 = .ok (.goto 5, 3) := by decide +kernel
theorem dX8_leave_88 : decode cX8_leave 88 = .ok (.iload 4, 2) := by decide +kernel
theorem dX8_leave_90 : decode cX8_leave 90 = .ok (.iastore, 1) := by decide +kernel
theorem dX8_leave_91 : decode cX8_leave 91 = .ok (.iload 6, 2) := by decide +kernel
theorem dX8_leave_93 : decode cX8_leave 93 = .ok (.ireturn, 1) := by decide +kernel
theorem dX8_maySee_0 : decode cX8_maySee 0 = .ok (.iload_n 2, 1) := by decide +kernel
theorem dX8_maySee_1 : decode cX8_maySee 1 = .ok (.iload_n 1, 1) := by decide +kernel
theorem dX8_maySee_2 : decode cX8_maySee 2 = .ok (.if_icmp .eq 23, 3) := by decide +kernel
theorem dX8_maySee_5 : decode cX8_maySee 5 = .ok (.iload 4, 2) := by decide +kernel
theorem dX8_maySee_7 : decode cX8_maySee 7 = .ok (.aload_n 0, 1) := by decide +kernel
theorem dX8_maySee_8 : decode cX8_maySee 8 = .ok (.getfield 95, 3) := by decide +kernel
theorem dX8_maySee_11 : decode cX8_maySee 11 = .ok (.bipush 8, 2) := by decide +kernel
theorem dX8_maySee_13 : decode cX8_maySee 13 = .ok (.iload_n 2, 1) := by decide +kernel
theorem dX8_maySee_14 : decode cX8_maySee 14 = .ok (.imul, 1) := by decide +kernel
theorem dX8_maySee_15 : decode cX8_maySee 15 = .ok (.iconst 2, 1) := by decide +kernel
theorem dX8_maySee_16 : decode cX8_maySee 16 = .ok (.iload_n 1, 1) := by decide +kernel
theorem dX8_maySee_17 : decode cX8_maySee 17 = .ok (.imul, 1) := by decide +kernel
theorem dX8_maySee_18 : decode cX8_maySee 18 = .ok (.iadd, 1) := by decide +kernel
theorem dX8_maySee_19 : decode cX8_maySee 19 = .ok (.iload_n 3, 1) := by decide +kernel
theorem dX8_maySee_20 : decode cX8_maySee 20 = .ok (.iadd, 1) := by decide +kernel
theorem dX8_maySee_21 : decode cX8_maySee 21 = .ok (.iaload, 1) := by decide +kernel
theorem dX8_maySee_22 : decode cX8_maySee 22 = .ok (.if_icmp .gt 7, 3) := by decide +kernel
theorem dX8_maySee_25 : decode cX8_maySee 25 = .ok (.iconst 1, 1) := by decide +kernel
theorem dX8_maySee_26 : decode cX8_maySee 26 = .ok (.goto 4, 3) := by decide +kernel
theorem dX8_maySee_29 : decode cX8_maySee 29 = .ok (.iconst 0, 1) := by decide +kernel
theorem dX8_maySee_30 : decode cX8_maySee 30 = .ok (.ireturn, 1) := by decide +kernel
theorem dX8_see_0 : decode cX8_see 0 = .ok (.aload_n 0, 1) := by decide +kernel
theorem dX8_see_1 : decode cX8_see 1 = .ok (.iload_n 1, 1) := by decide +kernel
theorem dX8_see_2 : decode cX8_see 2 = .ok (.invokevirtual 175, 3) := by decide +kernel
theorem dX8_see_5 : decode cX8_see 5 = .ok (.ifCond .ne 18, 3) := by decide +kernel
theorem dX8_see_8 : decode cX8_see 8 = .ok (.aload_n 0, 1) := by decide +kernel
theorem dX8_see_9 : decode cX8_see 9 = .ok (.iload_n 2, 1) := by decide +kernel
theorem dX8_see_10 : decode cX8_see 10 = .ok (.invokevirtual 175, 3) := by decide +kernel
theorem dX8_see_13 : decode cX8_see 13 = .ok (.ifCond .ne 10, 3) := by decide +kernel
theorem dX8_see_16 : decode cX8_see 16 = .ok (.iload_n 3, 1) := by decide +kernel
theorem dX8_see_17 : decode cX8_see 17 = .ok (.invokestatic 243, 3) := by decide +kernel
theorem dX8_see_20 : decode cX8_see 20 = .ok (.ifCond .ne 5, 3) := by decide +kernel
theorem dX8_see_23 : decode cX8_see 23 = .ok (.iconst (-1), 1) := by decide +kernel
theorem dX8_see_24 : decode cX8_see 24 = .ok (.ireturn, 1) := by decide +kernel
theorem dX8_see_25 : decode cX8_see 25 = .ok (.iload 4, 2) := by decide +kernel
theorem dX8_see_27 : decode cX8_see 27 = .ok (.i2l, 1) := by decide +kernel
theorem dX8_see_28 : decode cX8_see 28 = .ok (.lconst 0, 1) := by decide +kernel
theorem dX8_see_29 : decode cX8_see 29 = .ok (.ldc2_w 233, 3) := by decide +kernel
theorem dX8_see_32 : decode cX8_see 32 = .ok (.invokestatic 128, 3) := by decide +kernel
theorem dX8_see_35 : decode cX8_see 35 = .ok (.ifCond .ne 6, 3) := by decide +kernel
theorem dX8_see_38 : decode cX8_see 38 = .ok (.bipush (-2), 2) := by decide +kernel
theorem dX8_see_40 : decode cX8_see 40 = .ok (.ireturn, 1) := by decide +kernel
theorem dX8_see_41 : decode cX8_see 41 = .ok (.aload_n 0, 1) := by decide +kernel
theorem dX8_see_42 : decode cX8_see 42 = .ok (.iload_n 1, 1) := by decide +kernel
theorem dX8_see_43 : decode cX8_see 43 = .ok (.iload_n 2, 1) := by decide +kernel
theorem dX8_see_44 : decode cX8_see 44 = .ok (.iconst 0, 1) := by decide +kernel
theorem dX8_see_45 : decode cX8_see 45 = .ok (.iload 4, 2) := by decide +kernel
theorem dX8_see_47 : decode cX8_see 47 = .ok (.invokevirtual 288, 3) := by decide +kernel
theorem dX8_see_50 : decode cX8_see 50 = .ok (.ifCond .eq 12, 3) := by decide +kernel
theorem dX8_see_53 : decode cX8_see 53 = .ok (.aload_n 0, 1) := by decide +kernel
theorem dX8_see_54 : decode cX8_see 54 = .ok (.iload_n 2, 1) := by decide +kernel
theorem dX8_see_55 : decode cX8_see 55 = .ok (.iload_n 3, 1) := by decide +kernel
theorem dX8_see_56 : decode cX8_see 56 = .ok (.invokevirtual 246, 3) := by decide +kernel
theorem dX8_see_59 : decode cX8_see 59 = .ok (.goto 5, 3) := by decide +kernel
theorem dX8_see_62 : decode cX8_see 62 = .ok (.bipush (-3), 2) := by decide +kernel
theorem dX8_see_64 : decode cX8_see 64 = .ok (.ireturn, 1) := by decide +kernel
theorem dX8_told_0 : decode cX8_told 0 = .ok (.aload_n 0, 1) := by decide +kernel
theorem dX8_told_1 : decode cX8_told 1 = .ok (.iload_n 1, 1) := by decide +kernel
theorem dX8_told_2 : decode cX8_told 2 = .ok (.invokevirtual 175, 3) := by decide +kernel
theorem dX8_told_5 : decode cX8_told 5 = .ok (.ifCond .ne 11, 3) := by decide +kernel
theorem dX8_told_8 : decode cX8_told 8 = .ok (.aload_n 0, 1) := by decide +kernel
theorem dX8_told_9 : decode cX8_told 9 = .ok (.iload_n 2, 1) := by decide +kernel
theorem dX8_told_10 : decode cX8_told 10 = .ok (.invokevirtual 175, 3) := by decide +kernel
theorem dX8_told_13 : decode cX8_told 13 = .ok (.ifCond .eq 5, 3) := by decide +kernel
theorem dX8_told_16 : decode cX8_told 16 = .ok (.iconst (-1), 1) := by decide +kernel
theorem dX8_told_17 : decode cX8_told 17 = .ok (.ireturn, 1) := by decide +kernel
theorem dX8_told_18 : decode cX8_told 18 = .ok (.iload_n 3, 1) := by decide +kernel
theorem dX8_told_19 : decode cX8_told 19 = .ok (.i2l, 1) := by decide +kernel
theorem dX8_told_20 : decode cX8_told 20 = .ok (.lconst 1, 1) := by decide +kernel
theorem dX8_told_21 : decode cX8_told 21 = .ok (.ldc2_w 180, 3) := by decide +kernel
theorem dX8_told_24 : decode cX8_told 24 = .ok (.invokestatic 128, 3) := by decide +kernel
theorem dX8_told_27 : decode cX8_told 27 = .ok (.ifCond .eq 16, 3) := by decide +kernel
theorem dX8_told_30 : decode cX8_told 30 = .ok (.iload 4, 2) := by decide +kernel
theorem dX8_told_32 : decode cX8_told 32 = .ok (.i2l, 1) := by decide +kernel
theorem dX8_told_33 : decode cX8_told 33 = .ok (.lconst 0, 1) := by decide +kernel
theorem dX8_told_34 : decode cX8_told 34 = .ok (.ldc2_w 233, 3) := by decide +kernel
theorem dX8_told_37 : decode cX8_told 37 = .ok (.invokestatic 128, 3) := by decide +kernel
theorem dX8_told_40 : decode cX8_told 40 = .ok (.ifCond .ne 6, 3) := by decide +kernel
theorem dX8_told_43 : decode cX8_told 43 = .ok (.bipush (-2), 2) := by decide +kernel
theorem dX8_told_45 : decode cX8_told 45 = .ok (.ireturn, 1) := by decide +kernel
theorem dX8_told_46 : decode cX8_told 46 = .ok (.aload_n 0, 1) := by decide +kernel
theorem dX8_told_47 : decode cX8_told 47 = .ok (.iload_n 1, 1) := by decide +kernel
theorem dX8_told_48 : decode cX8_told 48 = .ok (.iload_n 2, 1) := by decide +kernel
theorem dX8_told_49 : decode cX8_told 49 = .ok (.iconst 1, 1) := by decide +kernel
theorem dX8_told_50 : decode cX8_told 50 = .ok (.iload 4, 2) := by decide +kernel
theorem dX8_told_52 : decode cX8_told 52 = .ok (.invokevirtual 288, 3) := by decide +kernel
theorem dX8_told_55 : decode cX8_told 55 = .ok (.ifCond .eq 12, 3) := by decide +kernel
theorem dX8_told_58 : decode cX8_told 58 = .ok (.aload_n 0, 1) := by decide +kernel
theorem dX8_told_59 : decode cX8_told 59 = .ok (.iload_n 2, 1) := by decide +kernel
theorem dX8_told_60 : decode cX8_told 60 = .ok (.iload_n 3, 1) := by decide +kernel
theorem dX8_told_61 : decode cX8_told 61 = .ok (.invokevirtual 278, 3) := by decide +kernel
theorem dX8_told_64 : decode cX8_told 64 = .ok (.goto 5, 3) := by decide +kernel
theorem dX8_told_67 : decode cX8_told 67 = .ok (.bipush (-3), 2) := by decide +kernel
theorem dX8_told_69 : decode cX8_told 69 = .ok (.ireturn, 1) := by decide +kernel
theorem dX8_noSheet_0 : decode cX8_noSheet 0 = .ok (.iload_n 0, 1) := by decide +kernel
theorem dX8_noSheet_1 : decode cX8_noSheet 1 = .ok (.i2l, 1) := by decide +kernel
theorem dX8_noSheet_2 : decode cX8_noSheet 2 = .ok (.lconst 0, 1) := by decide +kernel
theorem dX8_noSheet_3 : decode cX8_noSheet 3 = .ok (.ldc2_w 292, 3) := by decide +kernel
theorem dX8_noSheet_6 : decode cX8_noSheet 6 = .ok (.invokestatic 128, 3) := by decide +kernel
theorem dX8_noSheet_9 : decode cX8_noSheet 9 = .ok (.ifCond .ne 7, 3) := by decide +kernel
theorem dX8_noSheet_12 : decode cX8_noSheet 12 = .ok (.iconst 1, 1) := by decide +kernel
theorem dX8_noSheet_13 : decode cX8_noSheet 13 = .ok (.goto 4, 3) := by decide +kernel
theorem dX8_noSheet_16 : decode cX8_noSheet 16 = .ok (.iconst 0, 1) := by decide +kernel
theorem dX8_noSheet_17 : decode cX8_noSheet 17 = .ok (.ireturn, 1) := by decide +kernel
theorem dX8_sheet_0 : decode cX8_sheet 0 = .ok (.iload_n 1, 1) := by decide +kernel
theorem dX8_sheet_1 : decode cX8_sheet 1 = .ok (.invokestatic 153, 3) := by decide +kernel
theorem dX8_sheet_4 : decode cX8_sheet 4 = .ok (.ifCond .eq 9, 3) := by decide +kernel
theorem dX8_sheet_7 : decode cX8_sheet 7 = .ok (.aload_n 0, 1) := by decide +kernel
theorem dX8_sheet_8 : decode cX8_sheet 8 = .ok (.iconst (-1), 1) := by decide +kernel
theorem dX8_sheet_9 : decode cX8_sheet 9 = .ok (.invokevirtual 132, 3) := by decide +kernel
theorem dX8_sheet_12 : decode cX8_sheet 12 = .ok (.ireturn, 1) := by decide +kernel
theorem dX8_sheet_13 : decode cX8_sheet 13 = .ok (.iload_n 2, 1) := by decide +kernel
theorem dX8_sheet_14 : decode cX8_sheet 14 = .ok (.i2l, 1) := by decide +kernel
theorem dX8_sheet_15 : decode cX8_sheet 15 = .ok (.lconst 0, 1) := by decide +kernel
theorem dX8_sheet_16 : decode cX8_sheet 16 = .ok (.ldc2_w 126, 3) := by decide +kernel
theorem dX8_sheet_19 : decode cX8_sheet 19 = .ok (.invokestatic 128, 3) := by decide +kernel
theorem dX8_sheet_22 : decode cX8_sheet 22 = .ok (.ifCond .eq 9, 3) := by decide +kernel
theorem dX8_sheet_25 : decode cX8_sheet 25 = .ok (.iload_n 3, 1) := by decide +kernel
theorem dX8_sheet_26 : decode cX8_sheet 26 = .ok (.bipush 60, 2) := by decide +kernel
theorem dX8_sheet_28 : decode cX8_sheet 28 = .ok (.if_icmp .le 10, 3) := by decide +kernel
theorem dX8_sheet_31 : decode cX8_sheet 31 = .ok (.aload_n 0, 1) := by decide +kernel
theorem dX8_sheet_32 : decode cX8_sheet 32 = .ok (.bipush (-2), 2) := by decide +kernel
theorem dX8_sheet_34 : decode cX8_sheet 34 = .ok (.invokevirtual 132, 3) := by decide +kernel
theorem dX8_sheet_37 : decode cX8_sheet 37 = .ok (.ireturn, 1) := by decide +kernel
theorem dX8_sheet_38 : decode cX8_sheet 38 = .ok (.iload_n 3, 1) := by decide +kernel
theorem dX8_sheet_39 : decode cX8_sheet 39 = .ok (.ifCond .ge 9, 3) := by decide +kernel
theorem dX8_sheet_42 : decode cX8_sheet 42 = .ok (.aload_n 0, 1) := by decide +kernel
theorem dX8_sheet_43 : decode cX8_sheet 43 = .ok (.iconst 4, 1) := by decide +kernel
theorem dX8_sheet_44 : decode cX8_sheet 44 = .ok (.invokevirtual 136, 3) := by decide +kernel
theorem dX8_sheet_47 : decode cX8_sheet 47 = .ok (.ireturn, 1) := by decide +kernel
theorem dX8_sheet_48 : decode cX8_sheet 48 = .ok (.aload_n 0, 1) := by decide +kernel
theorem dX8_sheet_49 : decode cX8_sheet 49 = .ok (.getfield 98, 3) := by decide +kernel
theorem dX8_sheet_52 : decode cX8_sheet 52 = .ok (.iload_n 1, 1) := by decide +kernel
theorem dX8_sheet_53 : decode cX8_sheet 53 = .ok (.iload_n 3, 1) := by decide +kernel
theorem dX8_sheet_54 : decode cX8_sheet 54 = .ok (.iastore, 1) := by decide +kernel
theorem dX8_sheet_55 : decode cX8_sheet 55 = .ok (.aload_n 0, 1) := by decide +kernel
theorem dX8_sheet_56 : decode cX8_sheet 56 = .ok (.getfield 101, 3) := by decide +kernel
theorem dX8_sheet_59 : decode cX8_sheet 59 = .ok (.iload_n 1, 1) := by decide +kernel
theorem dX8_sheet_60 : decode cX8_sheet 60 = .ok (.iload_n 2, 1) := by decide +kernel
theorem dX8_sheet_61 : decode cX8_sheet 61 = .ok (.iastore, 1) := by decide +kernel
theorem dX8_sheet_62 : decode cX8_sheet 62 = .ok (.iconst 0, 1) := by decide +kernel
theorem dX8_sheet_63 : decode cX8_sheet 63 = .ok (.istore 4, 2) := by decide +kernel
theorem dX8_sheet_65 : decode cX8_sheet 65 = .ok (.iload 4, 2) := by decide +kernel
theorem dX8_sheet_67 : decode cX8_sheet 67 = .ok (.iload_n 3, 1) := by decide +kernel
theorem dX8_sheet_68 : decode cX8_sheet 68 = .ok (.if_icmp .ge 22, 3) := by decide +kernel
theorem dX8_sheet_71 : decode cX8_sheet 71 = .ok (.aload_n 0, 1) := by decide +kernel
theorem dX8_sheet_72 : decode cX8_sheet 72 = .ok (.getfield 104, 3) := by decide +kernel
theorem dX8_sheet_75 : decode cX8_sheet 75 = .ok (.bipush 60, 2) := by decide +kernel
theorem dX8_sheet_77 : decode cX8_sheet 77 = .ok (.iload_n 1, 1) := by decide +kernel
theorem dX8_sheet_78 : decode cX8_sheet 78 = .ok (.imul, 1) := by decide +kernel
theorem dX8_sheet_79 : decode cX8_sheet 79 = .ok (.iload 4, 2) := by decide +kernel
theorem dX8_sheet_81 : decode cX8_sheet 81 = .ok (.iadd, 1) := by decide +kernel
theorem dX8_sheet_82 : decode cX8_sheet 82 = .ok (.iconst 0, 1) := by decide +kernel
theorem dX8_sheet_83 : decode cX8_sheet 83 = .ok (.iastore, 1) := by decide +kernel
theorem dX8_sheet_84 : decode cX8_sheet 84 = .ok (.iinc 4 1, 3) := by decide +kernel
theorem dX8_sheet_87 : decode cX8_sheet 87 = .ok (.goto (-22), 3) := by decide +kernel
theorem dX8_sheet_90 : decode cX8_sheet 90 = .ok (.aload_n 0, 1) := by decide +kernel
theorem dX8_sheet_91 : decode cX8_sheet 91 = .ok (.iconst 1, 1) := by decide +kernel
theorem dX8_sheet_92 : decode cX8_sheet 92 = .ok (.invokevirtual 132, 3) := by decide +kernel
theorem dX8_sheet_95 : decode cX8_sheet 95 = .ok (.ireturn, 1) := by decide +kernel
theorem dX8_lose_0 : decode cX8_lose 0 = .ok (.iload_n 1, 1) := by decide +kernel
theorem dX8_lose_1 : decode cX8_lose 1 = .ok (.invokestatic 153, 3) := by decide +kernel
theorem dX8_lose_4 : decode cX8_lose 4 = .ok (.ifCond .eq 5, 3) := by decide +kernel
theorem dX8_lose_7 : decode cX8_lose 7 = .ok (.iconst (-1), 1) := by decide +kernel
theorem dX8_lose_8 : decode cX8_lose 8 = .ok (.ireturn, 1) := by decide +kernel
theorem dX8_lose_9 : decode cX8_lose 9 = .ok (.aload_n 0, 1) := by decide +kernel
theorem dX8_lose_10 : decode cX8_lose 10 = .ok (.getfield 98, 3) := by decide +kernel
theorem dX8_lose_13 : decode cX8_lose 13 = .ok (.iload_n 1, 1) := by decide +kernel
theorem dX8_lose_14 : decode cX8_lose 14 = .ok (.iaload, 1) := by decide +kernel
theorem dX8_lose_15 : decode cX8_lose 15 = .ok (.ifCond .ge 7, 3) := by decide +kernel
theorem dX8_lose_18 : decode cX8_lose 18 = .ok (.iconst 0, 1) := by decide +kernel
theorem dX8_lose_19 : decode cX8_lose 19 = .ok (.goto 4, 3) := by decide +kernel
theorem dX8_lose_22 : decode cX8_lose 22 = .ok (.iconst 1, 1) := by decide +kernel
theorem dX8_lose_23 : decode cX8_lose 23 = .ok (.istore_n 2, 1) := by decide +kernel
theorem dX8_lose_24 : decode cX8_lose 24 = .ok (.aload_n 0, 1) := by decide +kernel
theorem dX8_lose_25 : decode cX8_lose 25 = .ok (.getfield 98, 3) := by decide +kernel
theorem dX8_lose_28 : decode cX8_lose 28 = .ok (.iload_n 1, 1) := by decide +kernel
theorem dX8_lose_29 : decode cX8_lose 29 = .ok (.iconst (-1), 1) := by decide +kernel
theorem dX8_lose_30 : decode cX8_lose 30 = .ok (.iastore, 1) := by decide +kernel
theorem dX8_lose_31 : decode cX8_lose 31 = .ok (.iload_n 2, 1) := by decide +kernel
theorem dX8_lose_32 : decode cX8_lose 32 = .ok (.ireturn, 1) := by decide +kernel
theorem dX8_noCell_0 : decode cX8_noCell 0 = .ok (.aload_n 0, 1) := by decide +kernel
theorem dX8_noCell_1 : decode cX8_noCell 1 = .ok (.getfield 98, 3) := by decide +kernel
theorem dX8_noCell_4 : decode cX8_noCell 4 = .ok (.iload_n 1, 1) := by decide +kernel
theorem dX8_noCell_5 : decode cX8_noCell 5 = .ok (.iaload, 1) := by decide +kernel
theorem dX8_noCell_6 : decode cX8_noCell 6 = .ok (.ifCond .ge 7, 3) := by decide +kernel
theorem dX8_noCell_9 : decode cX8_noCell 9 = .ok (.iconst 1, 1) := by decide +kernel
theorem dX8_noCell_10 : decode cX8_noCell 10 = .ok (.goto 26, 3) := by decide +kernel
theorem dX8_noCell_13 : decode cX8_noCell 13 = .ok (.iload_n 2, 1) := by decide +kernel
theorem dX8_noCell_14 : decode cX8_noCell 14 = .ok (.i2l, 1) := by decide +kernel
theorem dX8_noCell_15 : decode cX8_noCell 15 = .ok (.lconst 0, 1) := by decide +kernel
theorem dX8_noCell_16 : decode cX8_noCell 16 = .ok (.aload_n 0, 1) := by decide +kernel
theorem dX8_noCell_17 : decode cX8_noCell 17 = .ok (.getfield 98, 3) := by decide +kernel
theorem dX8_noCell_20 : decode cX8_noCell 20 = .ok (.iload_n 1, 1) := by decide +kernel
theorem dX8_noCell_21 : decode cX8_noCell 21 = .ok (.iaload, 1) := by decide +kernel
theorem dX8_noCell_22 : decode cX8_noCell 22 = .ok (.i2l, 1) := by decide +kernel
theorem dX8_noCell_23 : decode cX8_noCell 23 = .ok (.lconst 1, 1) := by decide +kernel
theorem dX8_noCell_24 : decode cX8_noCell 24 = .ok (.lsub, 1) := by decide +kernel
theorem dX8_noCell_25 : decode cX8_noCell 25 = .ok (.invokestatic 128, 3) := by decide +kernel
theorem dX8_noCell_28 : decode cX8_noCell 28 = .ok (.ifCond .eq 7, 3) := by decide +kernel
theorem dX8_noCell_31 : decode cX8_noCell 31 = .ok (.iconst 0, 1) := by decide +kernel
theorem dX8_noCell_32 : decode cX8_noCell 32 = .ok (.goto 4, 3) := by decide +kernel
theorem dX8_noCell_35 : decode cX8_noCell 35 = .ok (.iconst 3, 1) := by decide +kernel
theorem dX8_noCell_36 : decode cX8_noCell 36 = .ok (.ireturn, 1) := by decide +kernel
theorem dX8_put_0 : decode cX8_put 0 = .ok (.iload_n 1, 1) := by decide +kernel
theorem dX8_put_1 : decode cX8_put 1 = .ok (.invokestatic 153, 3) := by decide +kernel
theorem dX8_put_4 : decode cX8_put 4 = .ok (.ifCond .eq 9, 3) := by decide +kernel
theorem dX8_put_7 : decode cX8_put 7 = .ok (.aload_n 0, 1) := by decide +kernel
theorem dX8_put_8 : decode cX8_put 8 = .ok (.iconst (-1), 1) := by decide +kernel
theorem dX8_put_9 : decode cX8_put 9 = .ok (.invokevirtual 132, 3) := by decide +kernel
theorem dX8_put_12 : decode cX8_put 12 = .ok (.ireturn, 1) := by decide +kernel
theorem dX8_put_13 : decode cX8_put 13 = .ok (.aload_n 0, 1) := by decide +kernel
theorem dX8_put_14 : decode cX8_put 14 = .ok (.iload_n 1, 1) := by decide +kernel
theorem dX8_put_15 : decode cX8_put 15 = .ok (.iload_n 2, 1) := by decide +kernel
theorem dX8_put_16 : decode cX8_put 16 = .ok (.invokevirtual 294, 3) := by decide +kernel
theorem dX8_put_19 : decode cX8_put 19 = .ok (.ifCond .le 14, 3) := by decide +kernel
theorem dX8_put_22 : decode cX8_put 22 = .ok (.aload_n 0, 1) := by decide +kernel
theorem dX8_put_23 : decode cX8_put 23 = .ok (.aload_n 0, 1) := by decide +kernel
theorem dX8_put_24 : decode cX8_put 24 = .ok (.iload_n 1, 1) := by decide +kernel
theorem dX8_put_25 : decode cX8_put 25 = .ok (.iload_n 2, 1) := by decide +kernel
theorem dX8_put_26 : decode cX8_put 26 = .ok (.invokevirtual 294, 3) := by decide +kernel
theorem dX8_put_29 : decode cX8_put 29 = .ok (.invokevirtual 136, 3) := by decide +kernel
theorem dX8_put_32 : decode cX8_put 32 = .ok (.ireturn, 1) := by decide +kernel
theorem dX8_put_33 : decode cX8_put 33 = .ok (.aload_n 0, 1) := by decide +kernel
theorem dX8_put_34 : decode cX8_put 34 = .ok (.getfield 104, 3) := by decide +kernel
theorem dX8_put_37 : decode cX8_put 37 = .ok (.bipush 60, 2) := by decide +kernel
theorem dX8_put_39 : decode cX8_put 39 = .ok (.iload_n 1, 1) := by decide +kernel
theorem dX8_put_40 : decode cX8_put 40 = .ok (.imul, 1) := by decide +kernel
theorem dX8_put_41 : decode cX8_put 41 = .ok (.iload_n 2, 1) := by decide +kernel
theorem dX8_put_42 : decode cX8_put 42 = .ok (.iadd, 1) := by decide +kernel
theorem dX8_put_43 : decode cX8_put 43 = .ok (.aload_n 0, 1) := by decide +kernel
theorem dX8_put_44 : decode cX8_put 44 = .ok (.getfield 101, 3) := by decide +kernel
theorem dX8_put_47 : decode cX8_put 47 = .ok (.iload_n 1, 1) := by decide +kernel
theorem dX8_put_48 : decode cX8_put 48 = .ok (.iaload, 1) := by decide +kernel
theorem dX8_put_49 : decode cX8_put 49 = .ok (.ifCond .ne 8, 3) := by decide +kernel
theorem dX8_put_52 : decode cX8_put 52 = .ok (.iload_n 3, 1) := by decide +kernel
theorem dX8_put_53 : decode cX8_put 53 = .ok (.i2b, 1) := by decide +kernel
theorem dX8_put_54 : decode cX8_put 54 = .ok (.goto 19, 3) := by decide +kernel
theorem dX8_put_57 : decode cX8_put 57 = .ok (.aload_n 0, 1) := by decide +kernel
theorem dX8_put_58 : decode cX8_put 58 = .ok (.getfield 101, 3) := by decide +kernel
theorem dX8_put_61 : decode cX8_put 61 = .ok (.iload_n 1, 1) := by decide +kernel
theorem dX8_put_62 : decode cX8_put 62 = .ok (.iaload, 1) := by decide +kernel
theorem dX8_put_63 : decode cX8_put 63 = .ok (.iconst 1, 1) := by decide +kernel
theorem dX8_put_64 : decode cX8_put 64 = .ok (.if_icmp .ne 8, 3) := by decide +kernel
theorem dX8_put_67 : decode cX8_put 67 = .ok (.iload_n 3, 1) := by decide +kernel
theorem dX8_put_68 : decode cX8_put 68 = .ok (.i2s, 1) := by decide +kernel
theorem dX8_put_69 : decode cX8_put 69 = .ok (.goto 4, 3) := by decide +kernel
theorem dX8_put_72 : decode cX8_put 72 = .ok (.iload_n 3, 1) := by decide +kernel
theorem dX8_put_73 : decode cX8_put 73 = .ok (.iastore, 1) := by decide +kernel
theorem dX8_put_74 : decode cX8_put 74 = .ok (.aload_n 0, 1) := by decide +kernel
theorem dX8_put_75 : decode cX8_put 75 = .ok (.iconst 1, 1) := by decide +kernel
theorem dX8_put_76 : decode cX8_put 76 = .ok (.invokevirtual 132, 3) := by decide +kernel
theorem dX8_put_79 : decode cX8_put 79 = .ok (.ireturn, 1) := by decide +kernel
theorem dX8_cell_0 : decode cX8_cell 0 = .ok (.aload_n 0, 1) := by decide +kernel
theorem dX8_cell_1 : decode cX8_cell 1 = .ok (.iconst 0, 1) := by decide +kernel
theorem dX8_cell_2 : decode cX8_cell 2 = .ok (.putfield 119, 3) := by decide +kernel
theorem dX8_cell_5 : decode cX8_cell 5 = .ok (.iload_n 1, 1) := by decide +kernel
theorem dX8_cell_6 : decode cX8_cell 6 = .ok (.invokestatic 153, 3) := by decide +kernel
theorem dX8_cell_9 : decode cX8_cell 9 = .ok (.ifCond .ne 15, 3) := by decide +kernel
theorem dX8_cell_12 : decode cX8_cell 12 = .ok (.iload_n 3, 1) := by decide +kernel
theorem dX8_cell_13 : decode cX8_cell 13 = .ok (.i2l, 1) := by decide +kernel
theorem dX8_cell_14 : decode cX8_cell 14 = .ok (.lconst 0, 1) := by decide +kernel
theorem dX8_cell_15 : decode cX8_cell 15 = .ok (.ldc2_w 126, 3) := by decide +kernel
theorem dX8_cell_18 : decode cX8_cell 18 = .ok (.invokestatic 128, 3) := by decide +kernel
theorem dX8_cell_21 : decode cX8_cell 21 = .ok (.ifCond .ne 7, 3) := by decide +kernel
theorem dX8_cell_24 : decode cX8_cell 24 = .ok (.invokestatic 122, 3) := by decide +kernel
theorem dX8_cell_27 : decode cX8_cell 27 = .ok (.lreturn, 1) := by decide +kernel
theorem dX8_cell_28 : decode cX8_cell 28 = .ok (.aload_n 0, 1) := by decide +kernel
theorem dX8_cell_29 : decode cX8_cell 29 = .ok (.getfield 98, 3) := by decide +kernel
theorem dX8_cell_32 : decode cX8_cell 32 = .ok (.iload_n 1, 1) := by decide +kernel
theorem dX8_cell_33 : decode cX8_cell 33 = .ok (.iaload, 1) := by decide +kernel
theorem dX8_cell_34 : decode cX8_cell 34 = .ok (.ifCond .lt 19, 3) := by decide +kernel
theorem dX8_cell_37 : decode cX8_cell 37 = .ok (.aload_n 0, 1) := by decide +kernel
theorem dX8_cell_38 : decode cX8_cell 38 = .ok (.getfield 101, 3) := by decide +kernel
theorem dX8_cell_41 : decode cX8_cell 41 = .ok (.iload_n 1, 1) := by decide +kernel
theorem dX8_cell_42 : decode cX8_cell 42 = .ok (.iaload, 1) := by decide +kernel
theorem dX8_cell_43 : decode cX8_cell 43 = .ok (.iload_n 3, 1) := by decide +kernel
theorem dX8_cell_44 : decode cX8_cell 44 = .ok (.if_icmp .eq 9, 3) := by decide +kernel
theorem dX8_cell_47 : decode cX8_cell 47 = .ok (.aload_n 0, 1) := by decide +kernel
theorem dX8_cell_48 : decode cX8_cell 48 = .ok (.iconst 2, 1) := by decide +kernel
theorem dX8_cell_49 : decode cX8_cell 49 = .ok (.invokevirtual 297, 3) := by decide +kernel
theorem dX8_cell_52 : decode cX8_cell 52 = .ok (.lreturn, 1) := by decide +kernel
theorem dX8_cell_53 : decode cX8_cell 53 = .ok (.aload_n 0, 1) := by decide +kernel
theorem dX8_cell_54 : decode cX8_cell 54 = .ok (.iload_n 1, 1) := by decide +kernel
theorem dX8_cell_55 : decode cX8_cell 55 = .ok (.iload_n 2, 1) := by decide +kernel
theorem dX8_cell_56 : decode cX8_cell 56 = .ok (.invokevirtual 294, 3) := by decide +kernel
theorem dX8_cell_59 : decode cX8_cell 59 = .ok (.ifCond .le 16, 3) := by decide +kernel
theorem dX8_cell_62 : decode cX8_cell 62 = .ok (.aload_n 0, 1) := by decide +kernel
theorem dX8_cell_63 : decode cX8_cell 63 = .ok (.aload_n 0, 1) := by decide +kernel
theorem dX8_cell_64 : decode cX8_cell 64 = .ok (.iload_n 1, 1) := by decide +kernel
theorem dX8_cell_65 : decode cX8_cell 65 = .ok (.iload_n 2, 1) := by decide +kernel
theorem dX8_cell_66 : decode cX8_cell 66 = .ok (.invokevirtual 294, 3) := by decide +kernel
theorem dX8_cell_69 : decode cX8_cell 69 = .ok (.invokevirtual 297, 3) := by decide +kernel
theorem dX8_cell_72 : decode cX8_cell 72 = .ok (.goto 15, 3) := by decide +kernel
theorem dX8_cell_75 : decode cX8_cell 75 = .ok (.aload_n 0, 1) := by decide +kernel
theorem dX8_cell_76 : decode cX8_cell 76 = .ok (.getfield 104, 3) := by decide +kernel
theorem dX8_cell_79 : decode cX8_cell 79 = .ok (.bipush 60, 2) := by decide +kernel
theorem dX8_cell_81 : decode cX8_cell 81 = .ok (.iload_n 1, 1) := by decide +kernel
theorem dX8_cell_82 : decode cX8_cell 82 = .ok (.imul, 1) := by decide +kernel
theorem dX8_cell_83 : decode cX8_cell 83 = .ok (.iload_n 2, 1) := by decide +kernel
theorem dX8_cell_84 : decode cX8_cell 84 = .ok (.iadd, 1) := by decide +kernel
theorem dX8_cell_85 : decode cX8_cell 85 = .ok (.iaload, 1) := by decide +kernel
theorem dX8_cell_86 : decode cX8_cell 86 = .ok (.i2l, 1) := by decide +kernel
theorem dX8_cell_87 : decode cX8_cell 87 = .ok (.lreturn, 1) := by decide +kernel
theorem dX8_isBeyond_0 : decode cX8_isBeyond 0 = .ok (.iload_n 0, 1) := by decide +kernel
theorem dX8_isBeyond_1 : decode cX8_isBeyond 1 = .ok (.ifCond .lt 19, 3) := by decide +kernel
theorem dX8_isBeyond_4 : decode cX8_isBeyond 4 = .ok (.lload_n 1, 1) := by decide +kernel
theorem dX8_isBeyond_5 : decode cX8_isBeyond 5 = .ok (.lconst 0, 1) := by decide +kernel
theorem dX8_isBeyond_6 : decode cX8_isBeyond 6 = .ok (.lcmp, 1) := by decide +kernel
theorem dX8_isBeyond_7 : decode cX8_isBeyond 7 = .ok (.ifCond .lt 13, 3) := by decide +kernel
theorem dX8_isBeyond_10 : decode cX8_isBeyond 10 = .ok (.iload_n 0, 1) := by decide +kernel
theorem dX8_isBeyond_11 : decode cX8_isBeyond 11 = .ok (.i2l, 1) := by decide +kernel
theorem dX8_isBeyond_12 : decode cX8_isBeyond 12 = .ok (.lload_n 1, 1) := by decide +kernel
theorem dX8_isBeyond_13 : decode cX8_isBeyond 13 = .ok (.ladd, 1) := by decide +kernel
theorem dX8_isBeyond_14 : decode cX8_isBeyond 14 = .ok (.iload_n 3, 1) := by decide +kernel
theorem dX8_isBeyond_15 : decode cX8_isBeyond 15 = .ok (.i2l, 1) := by decide +kernel
theorem dX8_isBeyond_16 : decode cX8_isBeyond 16 = .ok (.lcmp, 1) := by decide +kernel
theorem dX8_isBeyond_17 : decode cX8_isBeyond 17 = .ok (.ifCond .le 7, 3) := by decide +kernel
theorem dX8_isBeyond_20 : decode cX8_isBeyond 20 = .ok (.iconst 1, 1) := by decide +kernel
theorem dX8_isBeyond_21 : decode cX8_isBeyond 21 = .ok (.goto 4, 3) := by decide +kernel
theorem dX8_isBeyond_24 : decode cX8_isBeyond 24 = .ok (.iconst 0, 1) := by decide +kernel
theorem dX8_isBeyond_25 : decode cX8_isBeyond 25 = .ok (.ireturn, 1) := by decide +kernel
theorem dX8_copy_0 : decode cX8_copy 0 = .ok (.iload_n 1, 1) := by decide +kernel
theorem dX8_copy_1 : decode cX8_copy 1 = .ok (.invokestatic 153, 3) := by decide +kernel
theorem dX8_copy_4 : decode cX8_copy 4 = .ok (.ifCond .ne 10, 3) := by decide +kernel
theorem dX8_copy_7 : decode cX8_copy 7 = .ok (.iload_n 3, 1) := by decide +kernel
theorem dX8_copy_8 : decode cX8_copy 8 = .ok (.invokestatic 153, 3) := by decide +kernel
theorem dX8_copy_11 : decode cX8_copy 11 = .ok (.ifCond .eq 9, 3) := by decide +kernel
theorem dX8_copy_14 : decode cX8_copy 14 = .ok (.aload_n 0, 1) := by decide +kernel
theorem dX8_copy_15 : decode cX8_copy 15 = .ok (.iconst (-1), 1) := by decide +kernel
theorem dX8_copy_16 : decode cX8_copy 16 = .ok (.invokevirtual 132, 3) := by decide +kernel
theorem dX8_copy_19 : decode cX8_copy 19 = .ok (.ireturn, 1) := by decide +kernel
theorem dX8_copy_20 : decode cX8_copy 20 = .ok (.aload_n 0, 1) := by decide +kernel
theorem dX8_copy_21 : decode cX8_copy 21 = .ok (.getfield 98, 3) := by decide +kernel
theorem dX8_copy_24 : decode cX8_copy 24 = .ok (.iload_n 1, 1) := by decide +kernel
theorem dX8_copy_25 : decode cX8_copy 25 = .ok (.iaload, 1) := by decide +kernel
theorem dX8_copy_26 : decode cX8_copy 26 = .ok (.ifCond .lt 12, 3) := by decide +kernel
theorem dX8_copy_29 : decode cX8_copy 29 = .ok (.aload_n 0, 1) := by decide +kernel
theorem dX8_copy_30 : decode cX8_copy 30 = .ok (.getfield 98, 3) := by decide +kernel
theorem dX8_copy_33 : decode cX8_copy 33 = .ok (.iload_n 3, 1) := by decide +kernel
theorem dX8_copy_34 : decode cX8_copy 34 = .ok (.iaload, 1) := by decide +kernel
theorem dX8_copy_35 : decode cX8_copy 35 = .ok (.ifCond .ge 9, 3) := by decide +kernel
theorem dX8_copy_38 : decode cX8_copy 38 = .ok (.aload_n 0, 1) := by decide +kernel
theorem dX8_copy_39 : decode cX8_copy 39 = .ok (.iconst 1, 1) := by decide +kernel
theorem dX8_copy_40 : decode cX8_copy 40 = .ok (.invokevirtual 136, 3) := by decide +kernel
theorem dX8_copy_43 : decode cX8_copy 43 = .ok (.ireturn, 1) := by decide +kernel
theorem dX8_copy_44 : decode cX8_copy 44 = .ok (.aload_n 0, 1) := by decide +kernel
theorem dX8_copy_45 : decode cX8_copy 45 = .ok (.getfield 101, 3) := by decide +kernel
theorem dX8_copy_48 : decode cX8_copy 48 = .ok (.iload_n 1, 1) := by decide +kernel
theorem dX8_copy_49 : decode cX8_copy 49 = .ok (.iaload, 1) := by decide +kernel
theorem dX8_copy_50 : decode cX8_copy 50 = .ok (.aload_n 0, 1) := by decide +kernel
theorem dX8_copy_51 : decode cX8_copy 51 = .ok (.getfield 101, 3) := by decide +kernel
theorem dX8_copy_54 : decode cX8_copy 54 = .ok (.iload_n 3, 1) := by decide +kernel
theorem dX8_copy_55 : decode cX8_copy 55 = .ok (.iaload, 1) := by decide +kernel
theorem dX8_copy_56 : decode cX8_copy 56 = .ok (.if_icmp .eq 9, 3) := by decide +kernel
theorem dX8_copy_59 : decode cX8_copy 59 = .ok (.aload_n 0, 1) := by decide +kernel
theorem dX8_copy_60 : decode cX8_copy 60 = .ok (.iconst 2, 1) := by decide +kernel
theorem dX8_copy_61 : decode cX8_copy 61 = .ok (.invokevirtual 136, 3) := by decide +kernel
theorem dX8_copy_64 : decode cX8_copy 64 = .ok (.ireturn, 1) := by decide +kernel
theorem dX8_copy_65 : decode cX8_copy 65 = .ok (.iload_n 2, 1) := by decide +kernel
theorem dX8_copy_66 : decode cX8_copy 66 = .ok (.iload 5, 2) := by decide +kernel
theorem dX8_copy_68 : decode cX8_copy 68 = .ok (.i2l, 1) := by decide +kernel
theorem dX8_copy_69 : decode cX8_copy 69 = .ok (.aload_n 0, 1) := by decide +kernel
theorem dX8_copy_70 : decode cX8_copy 70 = .ok (.getfield 98, 3) := by decide +kernel
theorem dX8_copy_73 : decode cX8_copy 73 = .ok (.iload_n 1, 1) := by decide +kernel
theorem dX8_copy_74 : decode cX8_copy 74 = .ok (.iaload, 1) := by decide +kernel
theorem dX8_copy_75 : decode cX8_copy 75 = .ok (.invokestatic 139, 3) := by decide +kernel
theorem dX8_copy_78 : decode cX8_copy 78 = .ok (.ifCond .ne 20, 3) := by decide +kernel
theorem dX8_copy_81 : decode cX8_copy 81 = .ok (.iload 4, 2) := by decide +kernel
theorem dX8_copy_83 : decode cX8_copy 83 = .ok (.iload 5, 2) := by decide +kernel
theorem dX8_copy_85 : decode cX8_copy 85 = .ok (.i2l, 1) := by decide +kernel
theorem dX8_copy_86 : decode cX8_copy 86 = .ok (.aload_n 0, 1) := by decide +kernel
theorem dX8_copy_87 : decode cX8_copy 87 = .ok (.getfield 98, 3) := by decide +kernel
theorem dX8_copy_90 : decode cX8_copy 90 = .ok (.iload_n 3, 1) := by decide +kernel
theorem dX8_copy_91 : decode cX8_copy 91 = .ok (.iaload, 1) := by decide +kernel
theorem dX8_copy_92 : decode cX8_copy 92 = .ok (.invokestatic 139, 3) := by decide +kernel
theorem dX8_copy_95 : decode cX8_copy 95 = .ok (.ifCond .eq 9, 3) := by decide +kernel
theorem dX8_copy_98 : decode cX8_copy 98 = .ok (.aload_n 0, 1) := by decide +kernel
theorem dX8_copy_99 : decode cX8_copy 99 = .ok (.iconst 3, 1) := by decide +kernel
theorem dX8_copy_100 : decode cX8_copy 100 = .ok (.invokevirtual 136, 3) := by decide +kernel
theorem dX8_copy_103 : decode cX8_copy 103 = .ok (.ireturn, 1) := by decide +kernel
theorem dX8_copy_104 : decode cX8_copy 104 = .ok (.iconst 0, 1) := by decide +kernel
theorem dX8_copy_105 : decode cX8_copy 105 = .ok (.istore 6, 2) := by decide +kernel
theorem dX8_copy_107 : decode cX8_copy 107 = .ok (.iload 6, 2) := by decide +kernel
theorem dX8_copy_109 : decode cX8_copy 109 = .ok (.iload 5, 2) := by decide +kernel
theorem dX8_copy_111 : decode cX8_copy 111 = .ok (.if_icmp .ge 30, 3) := by decide +kernel
theorem dX8_copy_114 : decode cX8_copy 114 = .ok (.aload_n 0, 1) := by decide +kernel
theorem dX8_copy_115 : decode cX8_copy 115 = .ok (.getfield 107, 3) := by decide +kernel
theorem dX8_copy_118 : decode cX8_copy 118 = .ok (.iload 6, 2) := by decide +kernel
theorem dX8_copy_120 : decode cX8_copy 120 = .ok (.aload_n 0, 1) := by decide +kernel
theorem dX8_copy_121 : decode cX8_copy 121 = .ok (.getfield 104, 3) := by decide +kernel
theorem dX8_copy_124 : decode cX8_copy 124 = .ok (.bipush 60, 2) := by decide +kernel
theorem dX8_copy_126 : decode cX8_copy 126 = .ok (.iload_n 1, 1) := by decide +kernel
theorem dX8_copy_127 : decode cX8_copy 127 = .ok (.imul, 1) := by decide +kernel
theorem dX8_copy_128 : decode cX8_copy 128 = .ok (.iload_n 2, 1) := by decide +kernel
theorem dX8_copy_129 : decode cX8_copy 129 = .ok (.iadd, 1) := by decide +kernel
theorem dX8_copy_130 : decode cX8_copy 130 = .ok (.iload 6, 2) := by decide +kernel
theorem dX8_copy_132 : decode cX8_copy 132 = .ok (.iadd, 1) := by decide +kernel
theorem dX8_copy_133 : decode cX8_copy 133 = .ok (.iaload, 1) := by decide +kernel
theorem dX8_copy_134 : decode cX8_copy 134 = .ok (.iastore, 1) := by decide +kernel
theorem dX8_copy_135 : decode cX8_copy 135 = .ok (.iinc 6 1, 3) := by decide +kernel
theorem dX8_copy_138 : decode cX8_copy 138 = .ok (.goto (-31), 3) := by decide +kernel
theorem dX8_copy_141 : decode cX8_copy 141 = .ok (.iconst 0, 1) := by decide +kernel
theorem dX8_copy_142 : decode cX8_copy 142 = .ok (.istore 6, 2) := by decide +kernel
theorem dX8_copy_144 : decode cX8_copy 144 = .ok (.iload 6, 2) := by decide +kernel
theorem dX8_copy_146 : decode cX8_copy 146 = .ok (.iload 5, 2) := by decide +kernel
theorem dX8_copy_148 : decode cX8_copy 148 = .ok (.if_icmp .ge 31, 3) := by decide +kernel
theorem dX8_copy_151 : decode cX8_copy 151 = .ok (.aload_n 0, 1) := by decide +kernel
theorem dX8_copy_152 : decode cX8_copy 152 = .ok (.getfield 104, 3) := by decide +kernel
theorem dX8_copy_155 : decode cX8_copy 155 = .ok (.bipush 60, 2) := by decide +kernel
theorem dX8_copy_157 : decode cX8_copy 157 = .ok (.iload_n 3, 1) := by decide +kernel
theorem dX8_copy_158 : decode cX8_copy 158 = .ok (.imul, 1) := by decide +kernel
theorem dX8_copy_159 : decode cX8_copy 159 = .ok (.iload 4, 2) := by decide +kernel
theorem dX8_copy_161 : decode cX8_copy 161 = .ok (.iadd, 1) := by decide +kernel
theorem dX8_copy_162 : decode cX8_copy 162 = .ok (.iload 6, 2) := by decide +kernel
theorem dX8_copy_164 : decode cX8_copy 164 = .ok (.iadd, 1) := by decide +kernel
theorem dX8_copy_165 : decode cX8_copy 165 = .ok (.aload_n 0, 1) := by decide +kernel
theorem dX8_copy_166 : decode cX8_copy 166 = .ok (.getfield 107, 3) := by decide +kernel
theorem dX8_copy_169 : decode cX8_copy 169 = .ok (.iload 6, 2) := by decide +kernel
theorem dX8_copy_171 : decode cX8_copy 171 = .ok (.iaload, 1) := by decide +kernel
theorem dX8_copy_172 : decode cX8_copy 172 = .ok (.iastore, 1) := by decide +kernel
theorem dX8_copy_173 : decode cX8_copy 173 = .ok (.iinc 6 1, 3) := by decide +kernel
theorem dX8_copy_176 : decode cX8_copy 176 = .ok (.goto (-32), 3) := by decide +kernel
theorem dX8_copy_179 : decode cX8_copy 179 = .ok (.aload_n 0, 1) := by decide +kernel
theorem dX8_copy_180 : decode cX8_copy 180 = .ok (.iload 5, 2) := by decide +kernel
theorem dX8_copy_182 : decode cX8_copy 182 = .ok (.invokevirtual 132, 3) := by decide +kernel
theorem dX8_copy_185 : decode cX8_copy 185 = .ok (.ireturn, 1) := by decide +kernel
theorem dX8_traced_0 : decode cX8_traced 0 = .ok (.aload_n 0, 1) := by decide +kernel
theorem dX8_traced_1 : decode cX8_traced 1 = .ok (.bipush 31, 2) := by decide +kernel
theorem dX8_traced_3 : decode cX8_traced 3 = .ok (.aload_n 0, 1) := by decide +kernel
theorem dX8_traced_4 : decode cX8_traced 4 = .ok (.getfield 301, 3) := by decide +kernel
theorem dX8_traced_7 : decode cX8_traced 7 = .ok (.imul, 1) := by decide +kernel
theorem dX8_traced_8 : decode cX8_traced 8 = .ok (.iload_n 1, 1) := by decide +kernel
theorem dX8_traced_9 : decode cX8_traced 9 = .ok (.iadd, 1) := by decide +kernel
theorem dX8_traced_10 : decode cX8_traced 10 = .ok (.putfield 301, 3) := by decide +kernel
theorem dX8_traced_13 : decode cX8_traced 13 = .ok (.return_, 1) := by decide +kernel
theorem dX8_tell_0 : decode cX8_tell 0 = .ok (.aload_n 0, 1) := by decide +kernel
theorem dX8_tell_1 : decode cX8_tell 1 = .ok (.iload_n 1, 1) := by decide +kernel
theorem dX8_tell_2 : decode cX8_tell 2 = .ok (.invokevirtual 165, 3) := by decide +kernel
theorem dX8_tell_5 : decode cX8_tell 5 = .ok (.ifCond .eq 5, 3) := by decide +kernel
theorem dX8_tell_8 : decode cX8_tell 8 = .ok (.iconst (-1), 1) := by decide +kernel
theorem dX8_tell_9 : decode cX8_tell 9 = .ok (.ireturn, 1) := by decide +kernel
theorem dX8_tell_10 : decode cX8_tell 10 = .ok (.aload_n 0, 1) := by decide +kernel
theorem dX8_tell_11 : decode cX8_tell 11 = .ok (.getfield 7, 3) := by decide +kernel
theorem dX8_tell_14 : decode cX8_tell 14 = .ok (.iload_n 1, 1) := by decide +kernel
theorem dX8_tell_15 : decode cX8_tell 15 = .ok (.iaload, 1) := by decide +kernel
theorem dX8_tell_16 : decode cX8_tell 16 = .ok (.istore_n 2, 1) := by decide +kernel
theorem dX8_tell_17 : decode cX8_tell 17 = .ok (.iload_n 2, 1) := by decide +kernel
theorem dX8_tell_18 : decode cX8_tell 18 = .ok (.iconst 2, 1) := by decide +kernel
theorem dX8_tell_19 : decode cX8_tell 19 = .ok (.if_icmp .ne 8, 3) := by decide +kernel
theorem dX8_tell_22 : decode cX8_tell 22 = .ok (.aload_n 0, 1) := by decide +kernel
theorem dX8_tell_23 : decode cX8_tell 23 = .ok (.iconst 3, 1) := by decide +kernel
theorem dX8_tell_24 : decode cX8_tell 24 = .ok (.invokevirtual 304, 3) := by decide +kernel
theorem dX8_tell_27 : decode cX8_tell 27 = .ok (.iload_n 2, 1) := by decide +kernel
theorem dX8_tell_28 : decode cX8_tell 28 = .ok (.ifCond .le 8, 3) := by decide +kernel
theorem dX8_tell_31 : decode cX8_tell 31 = .ok (.aload_n 0, 1) := by decide +kernel
theorem dX8_tell_32 : decode cX8_tell 32 = .ok (.iconst 2, 1) := by decide +kernel
theorem dX8_tell_33 : decode cX8_tell 33 = .ok (.invokevirtual 304, 3) := by decide +kernel
theorem dX8_tell_36 : decode cX8_tell 36 = .ok (.aload_n 0, 1) := by decide +kernel
theorem dX8_tell_37 : decode cX8_tell 37 = .ok (.iconst 1, 1) := by decide +kernel
theorem dX8_tell_38 : decode cX8_tell 38 = .ok (.invokevirtual 304, 3) := by decide +kernel
theorem dX8_tell_41 : decode cX8_tell 41 = .ok (.iload_n 2, 1) := by decide +kernel
theorem dX8_tell_42 : decode cX8_tell 42 = .ok (.iconst 2, 1) := by decide +kernel
theorem dX8_tell_43 : decode cX8_tell 43 = .ok (.if_icmp .ne 8, 3) := by decide +kernel
theorem dX8_tell_46 : decode cX8_tell 46 = .ok (.aload_n 0, 1) := by decide +kernel
theorem dX8_tell_47 : decode cX8_tell 47 = .ok (.iconst 1, 1) := by decide +kernel
theorem dX8_tell_48 : decode cX8_tell 48 = .ok (.invokevirtual 304, 3) := by decide +kernel
theorem dX8_tell_51 : decode cX8_tell 51 = .ok (.iload_n 2, 1) := by decide +kernel
theorem dX8_tell_52 : decode cX8_tell 52 = .ok (.ifCond .ne 12, 3) := by decide +kernel
theorem dX8_tell_55 : decode cX8_tell 55 = .ok (.aload_n 0, 1) := by decide +kernel
theorem dX8_tell_56 : decode cX8_tell 56 = .ok (.getfield 13, 3) := by decide +kernel
theorem dX8_tell_59 : decode cX8_tell 59 = .ok (.iload_n 1, 1) := by decide +kernel
theorem dX8_tell_60 : decode cX8_tell 60 = .ok (.iaload, 1) := by decide +kernel
theorem dX8_tell_61 : decode cX8_tell 61 = .ok (.goto 33, 3) := by decide +kernel
theorem dX8_tell_64 : decode cX8_tell 64 = .ok (.iload_n 2, 1) := by decide +kernel
theorem dX8_tell_65 : decode cX8_tell 65 = .ok (.iconst 1, 1) := by decide +kernel
theorem dX8_tell_66 : decode cX8_tell 66 = .ok (.if_icmp .ne 16, 3) := by decide +kernel
theorem dX8_tell_69 : decode cX8_tell 69 = .ok (.aload_n 0, 1) := by decide +kernel
theorem dX8_tell_70 : decode cX8_tell 70 = .ok (.getfield 13, 3) := by decide +kernel
theorem dX8_tell_73 : decode cX8_tell 73 = .ok (.iload_n 1, 1) := by decide +kernel
theorem dX8_tell_74 : decode cX8_tell 74 = .ok (.iaload, 1) := by decide +kernel
theorem dX8_tell_75 : decode cX8_tell 75 = .ok (.sipush 1000, 3) := by decide +kernel
theorem dX8_tell_78 : decode cX8_tell 78 = .ok (.iadd, 1) := by decide +kernel
theorem dX8_tell_79 : decode cX8_tell 79 = .ok (.goto 15, 3) := by decide +kernel
theorem dX8_tell_82 : decode cX8_tell 82 = .ok (.iconst 2, 1) := by decide +kernel
theorem dX8_tell_83 : decode cX8_tell 83 = .ok (.aload_n 0, 1) := by decide +kernel
theorem dX8_tell_84 : decode cX8_tell 84 = .ok (.getfield 13, 3) := by decide +kernel
theorem dX8_tell_87 : decode cX8_tell 87 = .ok (.iload_n 1, 1) := by decide +kernel
theorem dX8_tell_88 : decode cX8_tell 88 = .ok (.iaload, 1) := by decide +kernel
theorem dX8_tell_89 : decode cX8_tell 89 = .ok (.imul, 1) := by decide +kernel
theorem dX8_tell_90 : decode cX8_tell 90 = .ok (.sipush 1000, 3) := by decide +kernel
theorem dX8_tell_93 : decode cX8_tell 93 = .ok (.iadd, 1) := by decide +kernel
theorem dX8_tell_94 : decode cX8_tell 94 = .ok (.ireturn, 1) := by decide +kernel
theorem dX8_speak_0 : decode cX8_speak 0 = .ok (.aload_n 0, 1) := by decide +kernel
theorem dX8_speak_1 : decode cX8_speak 1 = .ok (.iload_n 1, 1) := by decide +kernel
theorem dX8_speak_2 : decode cX8_speak 2 = .ok (.invokevirtual 165, 3) := by decide +kernel
theorem dX8_speak_5 : decode cX8_speak 5 = .ok (.ifCond .eq 5, 3) := by decide +kernel
theorem dX8_speak_8 : decode cX8_speak 8 = .ok (.iconst (-1), 1) := by decide +kernel
theorem dX8_speak_9 : decode cX8_speak 9 = .ok (.ireturn, 1) := by decide +kernel
theorem dX8_speak_10 : decode cX8_speak 10 = .ok (.aload_n 0, 1) := by decide +kernel
theorem dX8_speak_11 : decode cX8_speak 11 = .ok (.aload_n 0, 1) := by decide +kernel
theorem dX8_speak_12 : decode cX8_speak 12 = .ok (.getfield 7, 3) := by decide +kernel
theorem dX8_speak_15 : decode cX8_speak 15 = .ok (.iload_n 1, 1) := by decide +kernel
theorem dX8_speak_16 : decode cX8_speak 16 = .ok (.iaload, 1) := by decide +kernel
theorem dX8_speak_17 : decode cX8_speak 17 = .ok (.iconst 2, 1) := by decide +kernel
theorem dX8_speak_18 : decode cX8_speak 18 = .ok (.if_icmp .ne 7, 3) := by decide +kernel
theorem dX8_speak_21 : decode cX8_speak 21 = .ok (.iconst 5, 1) := by decide +kernel
theorem dX8_speak_22 : decode cX8_speak 22 = .ok (.goto 4, 3) := by decide +kernel
theorem dX8_speak_25 : decode cX8_speak 25 = .ok (.iconst 4, 1) := by decide +kernel
theorem dX8_speak_26 : decode cX8_speak 26 = .ok (.invokevirtual 304, 3) := by decide +kernel
theorem dX8_speak_29 : decode cX8_speak 29 = .ok (.aload_n 0, 1) := by decide +kernel
theorem dX8_speak_30 : decode cX8_speak 30 = .ok (.getfield 7, 3) := by decide +kernel
theorem dX8_speak_33 : decode cX8_speak 33 = .ok (.iload_n 1, 1) := by decide +kernel
theorem dX8_speak_34 : decode cX8_speak 34 = .ok (.iaload, 1) := by decide +kernel
theorem dX8_speak_35 : decode cX8_speak 35 = .ok (.iconst 2, 1) := by decide +kernel
theorem dX8_speak_36 : decode cX8_speak 36 = .ok (.if_icmp .ne 8, 3) := by decide +kernel
theorem dX8_speak_39 : decode cX8_speak 39 = .ok (.bipush 99, 2) := by decide +kernel
theorem dX8_speak_41 : decode cX8_speak 41 = .ok (.goto 4, 3) := by decide +kernel
theorem dX8_speak_44 : decode cX8_speak 44 = .ok (.iload_n 1, 1) := by decide +kernel
theorem dX8_speak_45 : decode cX8_speak 45 = .ok (.ireturn, 1) := by decide +kernel
theorem dX8_as_0 : decode cX8_as 0 = .ok (.aload_n 0, 1) := by decide +kernel
theorem dX8_as_1 : decode cX8_as 1 = .ok (.iload_n 1, 1) := by decide +kernel
theorem dX8_as_2 : decode cX8_as 2 = .ok (.invokevirtual 165, 3) := by decide +kernel
theorem dX8_as_5 : decode cX8_as 5 = .ok (.ifCond .eq 9, 3) := by decide +kernel
theorem dX8_as_8 : decode cX8_as 8 = .ok (.aload_n 0, 1) := by decide +kernel
theorem dX8_as_9 : decode cX8_as 9 = .ok (.iconst (-1), 1) := by decide +kernel
theorem dX8_as_10 : decode cX8_as 10 = .ok (.invokevirtual 132, 3) := by decide +kernel
theorem dX8_as_13 : decode cX8_as 13 = .ok (.ireturn, 1) := by decide +kernel
theorem dX8_as_14 : decode cX8_as 14 = .ok (.iload_n 2, 1) := by decide +kernel
theorem dX8_as_15 : decode cX8_as 15 = .ok (.i2l, 1) := by decide +kernel
theorem dX8_as_16 : decode cX8_as 16 = .ok (.lconst 0, 1) := by decide +kernel
theorem dX8_as_17 : decode cX8_as 17 = .ok (.ldc2_w 126, 3) := by decide +kernel
theorem dX8_as_20 : decode cX8_as 20 = .ok (.invokestatic 128, 3) := by decide +kernel
theorem dX8_as_23 : decode cX8_as 23 = .ok (.ifCond .ne 10, 3) := by decide +kernel
theorem dX8_as_26 : decode cX8_as 26 = .ok (.aload_n 0, 1) := by decide +kernel
theorem dX8_as_27 : decode cX8_as 27 = .ok (.bipush (-2), 2) := by decide +kernel
theorem dX8_as_29 : decode cX8_as 29 = .ok (.invokevirtual 132, 3) := by decide +kernel
theorem dX8_as_32 : decode cX8_as 32 = .ok (.ireturn, 1) := by decide +kernel
theorem dX8_as_33 : decode cX8_as 33 = .ok (.aload_n 0, 1) := by decide +kernel
theorem dX8_as_34 : decode cX8_as 34 = .ok (.getfield 7, 3) := by decide +kernel
theorem dX8_as_37 : decode cX8_as 37 = .ok (.iload_n 1, 1) := by decide +kernel
theorem dX8_as_38 : decode cX8_as 38 = .ok (.iaload, 1) := by decide +kernel
theorem dX8_as_39 : decode cX8_as 39 = .ok (.iload_n 2, 1) := by decide +kernel
theorem dX8_as_40 : decode cX8_as 40 = .ok (.if_icmp .lt 11, 3) := by decide +kernel
theorem dX8_as_43 : decode cX8_as 43 = .ok (.aload_n 0, 1) := by decide +kernel
theorem dX8_as_44 : decode cX8_as 44 = .ok (.iconst 1, 1) := by decide +kernel
theorem dX8_as_45 : decode cX8_as 45 = .ok (.invokevirtual 132, 3) := by decide +kernel
theorem dX8_as_48 : decode cX8_as 48 = .ok (.goto 8, 3) := by decide +kernel
theorem dX8_as_51 : decode cX8_as 51 = .ok (.aload_n 0, 1) := by decide +kernel
theorem dX8_as_52 : decode cX8_as 52 = .ok (.iconst 2, 1) := by decide +kernel
theorem dX8_as_53 : decode cX8_as 53 = .ok (.invokevirtual 136, 3) := by decide +kernel
theorem dX8_as_56 : decode cX8_as 56 = .ok (.ireturn, 1) := by decide +kernel
theorem dX8_trace_0 : decode cX8_trace 0 = .ok (.aload_n 0, 1) := by decide +kernel
theorem dX8_trace_1 : decode cX8_trace 1 = .ok (.getfield 301, 3) := by decide +kernel
theorem dX8_trace_4 : decode cX8_trace 4 = .ok (.ireturn, 1) := by decide +kernel
theorem dX8_fault_0 : decode cX8_fault 0 = .ok (.aload_n 0, 1) := by decide +kernel
theorem dX8_fault_1 : decode cX8_fault 1 = .ok (.getfield 119, 3) := by decide +kernel
theorem dX8_fault_4 : decode cX8_fault 4 = .ok (.ireturn, 1) := by decide +kernel
theorem dX8_many_0 : decode cX8_many 0 = .ok (.iload_n 1, 1) := by decide +kernel
theorem dX8_many_1 : decode cX8_many 1 = .ok (.ifCond .ne 10, 3) := by decide +kernel
theorem dX8_many_4 : decode cX8_many 4 = .ok (.aload_n 0, 1) := by decide +kernel
theorem dX8_many_5 : decode cX8_many 5 = .ok (.getfield 143, 3) := by decide +kernel
theorem dX8_many_8 : decode cX8_many 8 = .ok (.goto 17, 3) := by decide +kernel
theorem dX8_many_11 : decode cX8_many 11 = .ok (.iload_n 1, 1) := by decide +kernel
theorem dX8_many_12 : decode cX8_many 12 = .ok (.iconst 1, 1) := by decide +kernel
theorem dX8_many_13 : decode cX8_many 13 = .ok (.if_icmp .ne 10, 3) := by decide +kernel
theorem dX8_many_16 : decode cX8_many 16 = .ok (.aload_n 0, 1) := by decide +kernel
theorem dX8_many_17 : decode cX8_many 17 = .ok (.getfield 172, 3) := by decide +kernel
theorem dX8_many_20 : decode cX8_many 20 = .ok (.goto 5, 3) := by decide +kernel
theorem dX8_many_23 : decode cX8_many 23 = .ok (.bipush (-2), 2) := by decide +kernel
theorem dX8_many_25 : decode cX8_many 25 = .ok (.ireturn, 1) := by decide +kernel
end
