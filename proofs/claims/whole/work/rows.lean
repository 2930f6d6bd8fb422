section
-- ===== PART A: goes FIRST, ahead of the names: the tables' words, and 'selects' of the private methods out of them =====
/-- a private method of a class that the tables say can be made, by its rows of tables_1 -/
def lw_okq (q : MethodName × Nat) : Prop := (q.1.cls ≠ "java/lang/invoke/MethodHandle" ∧ q.1.cls ≠ "java/lang/invoke/VarHandle") ∧ Cond.instantiable q.1.cls q.2 ∈ tables_1 ∧ Cond.privateMethod q.1 ∈ tables_1 ∧ Cond.instanceMethod q.1 ∈ tables_1
theorem lw_p0 : lw_okq (⟨"NorthCurtains", "stationAt", "(I)LNorthCurtains$Station;"⟩, 17) := ⟨⟨by decide +kernel, by decide +kernel⟩, List.mem_of_getElem? (i := 14) (by decide +kernel), List.mem_of_getElem? (i := 212) (by decide +kernel), List.mem_of_getElem? (i := 213) (by decide +kernel)⟩
theorem lw_p1 : lw_okq (⟨"NorthCurtains", "keep", "(LNorthCurtains$Glow;)I"⟩, 17) := ⟨⟨by decide +kernel, by decide +kernel⟩, List.mem_of_getElem? (i := 14) (by decide +kernel), List.mem_of_getElem? (i := 261) (by decide +kernel), List.mem_of_getElem? (i := 262) (by decide +kernel)⟩
theorem lw_p2 : lw_okq (⟨"NorthCurtains", "isSeenNight", "(I)Z"⟩, 17) := ⟨⟨by decide +kernel, by decide +kernel⟩, List.mem_of_getElem? (i := 14) (by decide +kernel), List.mem_of_getElem? (i := 265) (by decide +kernel), List.mem_of_getElem? (i := 266) (by decide +kernel)⟩
theorem lw_p3 : lw_okq (⟨"NorthCurtains", "sightingAt", "(I)LNorthCurtains$Glow;"⟩, 17) := ⟨⟨by decide +kernel, by decide +kernel⟩, List.mem_of_getElem? (i := 14) (by decide +kernel), List.mem_of_getElem? (i := 317) (by decide +kernel), List.mem_of_getElem? (i := 318) (by decide +kernel)⟩
theorem lw_p4 : lw_okq (⟨"NorthCurtains$Crossing", "findHeights", "(LNorthCurtains$Arc;LNorthCurtains$Arc;I)Z"⟩, 1) := ⟨⟨by decide +kernel, by decide +kernel⟩, List.mem_of_getElem? (i := 30) (by decide +kernel), List.mem_of_getElem? (i := 398) (by decide +kernel), List.mem_of_getElem? (i := 399) (by decide +kernel)⟩
theorem lw_p5 : lw_okq (⟨"NorthCurtains", "lookAt", "(I)I"⟩, 17) := ⟨⟨by decide +kernel, by decide +kernel⟩, List.mem_of_getElem? (i := 14) (by decide +kernel), List.mem_of_getElem? (i := 438) (by decide +kernel), List.mem_of_getElem? (i := 439) (by decide +kernel)⟩
theorem lw_p6 : lw_okq (⟨"NorthCurtains$Sky", "findMeetings", "(LNorthCurtains$Crossing;I)V"⟩, 9) := ⟨⟨by decide +kernel, by decide +kernel⟩, List.mem_of_getElem? (i := 43) (by decide +kernel), List.mem_of_getElem? (i := 450) (by decide +kernel), List.mem_of_getElem? (i := 451) (by decide +kernel)⟩
theorem lw_p7 : lw_okq (⟨"NorthCurtains$Sky", "partFrom", "(III)Z"⟩, 9) := ⟨⟨by decide +kernel, by decide +kernel⟩, List.mem_of_getElem? (i := 43) (by decide +kernel), List.mem_of_getElem? (i := 456) (by decide +kernel), List.mem_of_getElem? (i := 457) (by decide +kernel)⟩
theorem lw_p8 : lw_okq (⟨"NorthCurtains$Sky", "tellCurtain", "(ILNorthCurtains$Crossing;I)V"⟩, 9) := ⟨⟨by decide +kernel, by decide +kernel⟩, List.mem_of_getElem? (i := 43) (by decide +kernel), List.mem_of_getElem? (i := 461) (by decide +kernel), List.mem_of_getElem? (i := 462) (by decide +kernel)⟩
theorem lw_p9 : lw_okq (⟨"NorthCurtains$Sky", "findFollowers", "(I)I"⟩, 9) := ⟨⟨by decide +kernel, by decide +kernel⟩, List.mem_of_getElem? (i := 43) (by decide +kernel), List.mem_of_getElem? (i := 521) (by decide +kernel), List.mem_of_getElem? (i := 522) (by decide +kernel)⟩
theorem lw_p10 : lw_okq (⟨"NorthCurtains$Sky", "mostLinks", "(II)I"⟩, 9) := ⟨⟨by decide +kernel, by decide +kernel⟩, List.mem_of_getElem? (i := 43) (by decide +kernel), List.mem_of_getElem? (i := 534) (by decide +kernel), List.mem_of_getElem? (i := 535) (by decide +kernel)⟩
theorem lw_p11 : lw_okq (⟨"NorthCurtains$Sky", "firstFollower", "(III)I"⟩, 9) := ⟨⟨by decide +kernel, by decide +kernel⟩, List.mem_of_getElem? (i := 43) (by decide +kernel), List.mem_of_getElem? (i := 538) (by decide +kernel), List.mem_of_getElem? (i := 539) (by decide +kernel)⟩
theorem lw_p12 : lw_okq (⟨"NorthCurtains", "watchOf", "(LNorthCurtains$Station;I)LNorthCurtains$Watch;"⟩, 17) := ⟨⟨by decide +kernel, by decide +kernel⟩, List.mem_of_getElem? (i := 14) (by decide +kernel), List.mem_of_getElem? (i := 559) (by decide +kernel), List.mem_of_getElem? (i := 560) (by decide +kernel)⟩
theorem lw_p13 : lw_okq (⟨"NorthCurtains", "saw", "(LNorthCurtains$Station;I)Z"⟩, 17) := ⟨⟨by decide +kernel, by decide +kernel⟩, List.mem_of_getElem? (i := 14) (by decide +kernel), List.mem_of_getElem? (i := 589) (by decide +kernel), List.mem_of_getElem? (i := 590) (by decide +kernel)⟩
theorem lw_p14 : lw_okq (⟨"NorthCurtains", "roundOf", "(I)I"⟩, 17) := ⟨⟨by decide +kernel, by decide +kernel⟩, List.mem_of_getElem? (i := 14) (by decide +kernel), List.mem_of_getElem? (i := 601) (by decide +kernel), List.mem_of_getElem? (i := 602) (by decide +kernel)⟩
theorem lw_p15 : lw_okq (⟨"NorthCurtains", "areShared", "(II)Z"⟩, 17) := ⟨⟨by decide +kernel, by decide +kernel⟩, List.mem_of_getElem? (i := 14) (by decide +kernel), List.mem_of_getElem? (i := 613) (by decide +kernel), List.mem_of_getElem? (i := 614) (by decide +kernel)⟩
def lw_privs_1 : List (MethodName × Nat) := [(⟨"NorthCurtains", "stationAt", "(I)LNorthCurtains$Station;"⟩, 17), (⟨"NorthCurtains", "keep", "(LNorthCurtains$Glow;)I"⟩, 17), (⟨"NorthCurtains", "isSeenNight", "(I)Z"⟩, 17), (⟨"NorthCurtains", "sightingAt", "(I)LNorthCurtains$Glow;"⟩, 17), (⟨"NorthCurtains$Crossing", "findHeights", "(LNorthCurtains$Arc;LNorthCurtains$Arc;I)Z"⟩, 1), (⟨"NorthCurtains", "lookAt", "(I)I"⟩, 17), (⟨"NorthCurtains$Sky", "findMeetings", "(LNorthCurtains$Crossing;I)V"⟩, 9), (⟨"NorthCurtains$Sky", "partFrom", "(III)Z"⟩, 9), (⟨"NorthCurtains$Sky", "tellCurtain", "(ILNorthCurtains$Crossing;I)V"⟩, 9), (⟨"NorthCurtains$Sky", "findFollowers", "(I)I"⟩, 9), (⟨"NorthCurtains$Sky", "mostLinks", "(II)I"⟩, 9), (⟨"NorthCurtains$Sky", "firstFollower", "(III)I"⟩, 9), (⟨"NorthCurtains", "watchOf", "(LNorthCurtains$Station;I)LNorthCurtains$Watch;"⟩, 17), (⟨"NorthCurtains", "saw", "(LNorthCurtains$Station;I)Z"⟩, 17), (⟨"NorthCurtains", "roundOf", "(I)I"⟩, 17), (⟨"NorthCurtains", "areShared", "(II)Z"⟩, 17)]
theorem lw_r1 : ∀ q ∈ lw_privs_1, lw_okq q := List.forall_mem_cons.mpr ⟨lw_p0, List.forall_mem_cons.mpr ⟨lw_p1, List.forall_mem_cons.mpr ⟨lw_p2, List.forall_mem_cons.mpr ⟨lw_p3, List.forall_mem_cons.mpr ⟨lw_p4, List.forall_mem_cons.mpr ⟨lw_p5, List.forall_mem_cons.mpr ⟨lw_p6, List.forall_mem_cons.mpr ⟨lw_p7, List.forall_mem_cons.mpr ⟨lw_p8, List.forall_mem_cons.mpr ⟨lw_p9, List.forall_mem_cons.mpr ⟨lw_p10, List.forall_mem_cons.mpr ⟨lw_p11, List.forall_mem_cons.mpr ⟨lw_p12, List.forall_mem_cons.mpr ⟨lw_p13, List.forall_mem_cons.mpr ⟨lw_p14, List.forall_mem_cons.mpr ⟨lw_p15, fun _ h => absurd h List.not_mem_nil⟩⟩⟩⟩⟩⟩⟩⟩⟩⟩⟩⟩⟩⟩⟩⟩
theorem lw_p16 : lw_okq (⟨"NorthCurtains", "keepArcs", "([III)I"⟩, 17) := ⟨⟨by decide +kernel, by decide +kernel⟩, List.mem_of_getElem? (i := 14) (by decide +kernel), List.mem_of_getElem? (i := 671) (by decide +kernel), List.mem_of_getElem? (i := 672) (by decide +kernel)⟩
theorem lw_p17 : lw_okq (⟨"NorthCurtains", "isArcAt", "([II)Z"⟩, 17) := ⟨⟨by decide +kernel, by decide +kernel⟩, List.mem_of_getElem? (i := 14) (by decide +kernel), List.mem_of_getElem? (i := 675) (by decide +kernel), List.mem_of_getElem? (i := 676) (by decide +kernel)⟩
theorem lw_p18 : lw_okq (⟨"NorthCurtains", "keepArcAt", "([II)V"⟩, 17) := ⟨⟨by decide +kernel, by decide +kernel⟩, List.mem_of_getElem? (i := 14) (by decide +kernel), List.mem_of_getElem? (i := 679) (by decide +kernel), List.mem_of_getElem? (i := 680) (by decide +kernel)⟩
theorem lw_p19 : lw_okq (⟨"NorthCurtainsModel", "sinOf", "(I)I"⟩, 46) := ⟨⟨by decide +kernel, by decide +kernel⟩, List.mem_of_getElem? (i := 683) (by decide +kernel), List.mem_of_getElem? (i := 846) (by decide +kernel), List.mem_of_getElem? (i := 847) (by decide +kernel)⟩
theorem lw_p20 : lw_okq (⟨"NorthCurtainsModel", "cosOf", "(I)I"⟩, 46) := ⟨⟨by decide +kernel, by decide +kernel⟩, List.mem_of_getElem? (i := 683) (by decide +kernel), List.mem_of_getElem? (i := 850) (by decide +kernel), List.mem_of_getElem? (i := 851) (by decide +kernel)⟩
theorem lw_p21 : lw_okq (⟨"NorthCurtainsModel", "isStation", "(I)Z"⟩, 46) := ⟨⟨by decide +kernel, by decide +kernel⟩, List.mem_of_getElem? (i := 683) (by decide +kernel), List.mem_of_getElem? (i := 863) (by decide +kernel), List.mem_of_getElem? (i := 864) (by decide +kernel)⟩
theorem lw_p22 : lw_okq (⟨"NorthCurtainsModel", "isTold", "(IIIII)Z"⟩, 46) := ⟨⟨by decide +kernel, by decide +kernel⟩, List.mem_of_getElem? (i := 683) (by decide +kernel), List.mem_of_getElem? (i := 873) (by decide +kernel), List.mem_of_getElem? (i := 874) (by decide +kernel)⟩
theorem lw_p23 : lw_okq (⟨"NorthCurtainsModel", "add", "(IIIIIIII)I"⟩, 46) := ⟨⟨by decide +kernel, by decide +kernel⟩, List.mem_of_getElem? (i := 683) (by decide +kernel), List.mem_of_getElem? (i := 883) (by decide +kernel), List.mem_of_getElem? (i := 884) (by decide +kernel)⟩
theorem lw_p24 : lw_okq (⟨"NorthCurtainsModel", "isSighting", "(I)Z"⟩, 46) := ⟨⟨by decide +kernel, by decide +kernel⟩, List.mem_of_getElem? (i := 683) (by decide +kernel), List.mem_of_getElem? (i := 902) (by decide +kernel), List.mem_of_getElem? (i := 903) (by decide +kernel)⟩
theorem lw_p25 : lw_okq (⟨"NorthCurtainsModel", "firstOf", "(I)I"⟩, 46) := ⟨⟨by decide +kernel, by decide +kernel⟩, List.mem_of_getElem? (i := 683) (by decide +kernel), List.mem_of_getElem? (i := 906) (by decide +kernel), List.mem_of_getElem? (i := 907) (by decide +kernel)⟩
theorem lw_p26 : lw_okq (⟨"NorthCurtainsModel", "lastOf", "(I)I"⟩, 46) := ⟨⟨by decide +kernel, by decide +kernel⟩, List.mem_of_getElem? (i := 683) (by decide +kernel), List.mem_of_getElem? (i := 910) (by decide +kernel), List.mem_of_getElem? (i := 911) (by decide +kernel)⟩
theorem lw_p27 : lw_okq (⟨"NorthCurtainsModel", "areMet", "(II)Z"⟩, 46) := ⟨⟨by decide +kernel, by decide +kernel⟩, List.mem_of_getElem? (i := 683) (by decide +kernel), List.mem_of_getElem? (i := 931) (by decide +kernel), List.mem_of_getElem? (i := 932) (by decide +kernel)⟩
theorem lw_p28 : lw_okq (⟨"NorthCurtainsModel", "crosses", "(II)Z"⟩, 46) := ⟨⟨by decide +kernel, by decide +kernel⟩, List.mem_of_getElem? (i := 683) (by decide +kernel), List.mem_of_getElem? (i := 935) (by decide +kernel), List.mem_of_getElem? (i := 936) (by decide +kernel)⟩
theorem lw_p29 : lw_okq (⟨"NorthCurtainsModel", "rise", "(II)I"⟩, 46) := ⟨⟨by decide +kernel, by decide +kernel⟩, List.mem_of_getElem? (i := 683) (by decide +kernel), List.mem_of_getElem? (i := 943) (by decide +kernel), List.mem_of_getElem? (i := 944) (by decide +kernel)⟩
theorem lw_p30 : lw_okq (⟨"NorthCurtainsModel", "crossPart", "(III)I"⟩, 46) := ⟨⟨by decide +kernel, by decide +kernel⟩, List.mem_of_getElem? (i := 683) (by decide +kernel), List.mem_of_getElem? (i := 954) (by decide +kernel), List.mem_of_getElem? (i := 955) (by decide +kernel)⟩
theorem lw_p31 : lw_okq (⟨"NorthCurtainsModel", "findCurtains", "(I)I"⟩, 46) := ⟨⟨by decide +kernel, by decide +kernel⟩, List.mem_of_getElem? (i := 683) (by decide +kernel), List.mem_of_getElem? (i := 962) (by decide +kernel), List.mem_of_getElem? (i := 963) (by decide +kernel)⟩
def lw_privs_2 : List (MethodName × Nat) := [(⟨"NorthCurtains", "keepArcs", "([III)I"⟩, 17), (⟨"NorthCurtains", "isArcAt", "([II)Z"⟩, 17), (⟨"NorthCurtains", "keepArcAt", "([II)V"⟩, 17), (⟨"NorthCurtainsModel", "sinOf", "(I)I"⟩, 46), (⟨"NorthCurtainsModel", "cosOf", "(I)I"⟩, 46), (⟨"NorthCurtainsModel", "isStation", "(I)Z"⟩, 46), (⟨"NorthCurtainsModel", "isTold", "(IIIII)Z"⟩, 46), (⟨"NorthCurtainsModel", "add", "(IIIIIIII)I"⟩, 46), (⟨"NorthCurtainsModel", "isSighting", "(I)Z"⟩, 46), (⟨"NorthCurtainsModel", "firstOf", "(I)I"⟩, 46), (⟨"NorthCurtainsModel", "lastOf", "(I)I"⟩, 46), (⟨"NorthCurtainsModel", "areMet", "(II)Z"⟩, 46), (⟨"NorthCurtainsModel", "crosses", "(II)Z"⟩, 46), (⟨"NorthCurtainsModel", "rise", "(II)I"⟩, 46), (⟨"NorthCurtainsModel", "crossPart", "(III)I"⟩, 46), (⟨"NorthCurtainsModel", "findCurtains", "(I)I"⟩, 46)]
theorem lw_r2 : ∀ q ∈ lw_privs_2, lw_okq q := List.forall_mem_cons.mpr ⟨lw_p16, List.forall_mem_cons.mpr ⟨lw_p17, List.forall_mem_cons.mpr ⟨lw_p18, List.forall_mem_cons.mpr ⟨lw_p19, List.forall_mem_cons.mpr ⟨lw_p20, List.forall_mem_cons.mpr ⟨lw_p21, List.forall_mem_cons.mpr ⟨lw_p22, List.forall_mem_cons.mpr ⟨lw_p23, List.forall_mem_cons.mpr ⟨lw_p24, List.forall_mem_cons.mpr ⟨lw_p25, List.forall_mem_cons.mpr ⟨lw_p26, List.forall_mem_cons.mpr ⟨lw_p27, List.forall_mem_cons.mpr ⟨lw_p28, List.forall_mem_cons.mpr ⟨lw_p29, List.forall_mem_cons.mpr ⟨lw_p30, List.forall_mem_cons.mpr ⟨lw_p31, fun _ h => absurd h List.not_mem_nil⟩⟩⟩⟩⟩⟩⟩⟩⟩⟩⟩⟩⟩⟩⟩⟩
theorem lw_p32 : lw_okq (⟨"NorthCurtainsModel", "listNight", "(I)V"⟩, 46) := ⟨⟨by decide +kernel, by decide +kernel⟩, List.mem_of_getElem? (i := 683) (by decide +kernel), List.mem_of_getElem? (i := 966) (by decide +kernel), List.mem_of_getElem? (i := 967) (by decide +kernel)⟩
theorem lw_p33 : lw_okq (⟨"NorthCurtainsModel", "part", "(I)Z"⟩, 46) := ⟨⟨by decide +kernel, by decide +kernel⟩, List.mem_of_getElem? (i := 683) (by decide +kernel), List.mem_of_getElem? (i := 970) (by decide +kernel), List.mem_of_getElem? (i := 971) (by decide +kernel)⟩
theorem lw_p34 : lw_okq (⟨"NorthCurtainsModel", "setsAhead", "(I)I"⟩, 46) := ⟨⟨by decide +kernel, by decide +kernel⟩, List.mem_of_getElem? (i := 683) (by decide +kernel), List.mem_of_getElem? (i := 974) (by decide +kernel), List.mem_of_getElem? (i := 975) (by decide +kernel)⟩
theorem lw_p35 : lw_okq (⟨"NorthCurtainsModel", "canBeIn", "(II)Z"⟩, 46) := ⟨⟨by decide +kernel, by decide +kernel⟩, List.mem_of_getElem? (i := 683) (by decide +kernel), List.mem_of_getElem? (i := 978) (by decide +kernel), List.mem_of_getElem? (i := 979) (by decide +kernel)⟩
theorem lw_p36 : lw_okq (⟨"NorthCurtainsModel", "findPlace", "(I)V"⟩, 46) := ⟨⟨by decide +kernel, by decide +kernel⟩, List.mem_of_getElem? (i := 683) (by decide +kernel), List.mem_of_getElem? (i := 982) (by decide +kernel), List.mem_of_getElem? (i := 983) (by decide +kernel)⟩
theorem lw_p37 : lw_okq (⟨"NorthCurtainsModel", "findWays", "()I"⟩, 46) := ⟨⟨by decide +kernel, by decide +kernel⟩, List.mem_of_getElem? (i := 683) (by decide +kernel), List.mem_of_getElem? (i := 1004) (by decide +kernel), List.mem_of_getElem? (i := 1005) (by decide +kernel)⟩
theorem lw_p38 : lw_okq (⟨"NorthCurtainsModel", "canFollow", "(II)Z"⟩, 46) := ⟨⟨by decide +kernel, by decide +kernel⟩, List.mem_of_getElem? (i := 683) (by decide +kernel), List.mem_of_getElem? (i := 1008) (by decide +kernel), List.mem_of_getElem? (i := 1009) (by decide +kernel)⟩
theorem lw_p39 : lw_okq (⟨"NorthCurtainsModel", "nextOf", "(II)I"⟩, 46) := ⟨⟨by decide +kernel, by decide +kernel⟩, List.mem_of_getElem? (i := 683) (by decide +kernel), List.mem_of_getElem? (i := 1016) (by decide +kernel), List.mem_of_getElem? (i := 1017) (by decide +kernel)⟩
theorem lw_p40 : lw_okq (⟨"NorthCurtainsModel", "watchOf", "(II)I"⟩, 46) := ⟨⟨by decide +kernel, by decide +kernel⟩, List.mem_of_getElem? (i := 683) (by decide +kernel), List.mem_of_getElem? (i := 1030) (by decide +kernel), List.mem_of_getElem? (i := 1031) (by decide +kernel)⟩
theorem lw_p41 : lw_okq (⟨"NorthCurtainsModel", "isSeen", "(II)Z"⟩, 46) := ⟨⟨by decide +kernel, by decide +kernel⟩, List.mem_of_getElem? (i := 683) (by decide +kernel), List.mem_of_getElem? (i := 1038) (by decide +kernel), List.mem_of_getElem? (i := 1039) (by decide +kernel)⟩
theorem lw_p42 : lw_okq (⟨"NorthCurtainsModel", "roundOf", "(I)I"⟩, 46) := ⟨⟨by decide +kernel, by decide +kernel⟩, List.mem_of_getElem? (i := 683) (by decide +kernel), List.mem_of_getElem? (i := 1053) (by decide +kernel), List.mem_of_getElem? (i := 1054) (by decide +kernel)⟩
theorem lw_p43 : lw_okq (⟨"NorthCurtainsModel", "nightsSeen", "()I"⟩, 46) := ⟨⟨by decide +kernel, by decide +kernel⟩, List.mem_of_getElem? (i := 683) (by decide +kernel), List.mem_of_getElem? (i := 1061) (by decide +kernel), List.mem_of_getElem? (i := 1062) (by decide +kernel)⟩
def lw_privs_3 : List (MethodName × Nat) := [(⟨"NorthCurtainsModel", "listNight", "(I)V"⟩, 46), (⟨"NorthCurtainsModel", "part", "(I)Z"⟩, 46), (⟨"NorthCurtainsModel", "setsAhead", "(I)I"⟩, 46), (⟨"NorthCurtainsModel", "canBeIn", "(II)Z"⟩, 46), (⟨"NorthCurtainsModel", "findPlace", "(I)V"⟩, 46), (⟨"NorthCurtainsModel", "findWays", "()I"⟩, 46), (⟨"NorthCurtainsModel", "canFollow", "(II)Z"⟩, 46), (⟨"NorthCurtainsModel", "nextOf", "(II)I"⟩, 46), (⟨"NorthCurtainsModel", "watchOf", "(II)I"⟩, 46), (⟨"NorthCurtainsModel", "isSeen", "(II)Z"⟩, 46), (⟨"NorthCurtainsModel", "roundOf", "(I)I"⟩, 46), (⟨"NorthCurtainsModel", "nightsSeen", "()I"⟩, 46)]
theorem lw_r3 : ∀ q ∈ lw_privs_3, lw_okq q := List.forall_mem_cons.mpr ⟨lw_p32, List.forall_mem_cons.mpr ⟨lw_p33, List.forall_mem_cons.mpr ⟨lw_p34, List.forall_mem_cons.mpr ⟨lw_p35, List.forall_mem_cons.mpr ⟨lw_p36, List.forall_mem_cons.mpr ⟨lw_p37, List.forall_mem_cons.mpr ⟨lw_p38, List.forall_mem_cons.mpr ⟨lw_p39, List.forall_mem_cons.mpr ⟨lw_p40, List.forall_mem_cons.mpr ⟨lw_p41, List.forall_mem_cons.mpr ⟨lw_p42, List.forall_mem_cons.mpr ⟨lw_p43, fun _ h => absurd h List.not_mem_nil⟩⟩⟩⟩⟩⟩⟩⟩⟩⟩⟩⟩
def lw_privs : List (MethodName × Nat) := lw_privs_1 ++ (lw_privs_2 ++ (lw_privs_3))
def lw_tbl : List Cond := k2_sels lw_privs ++ tables_1
theorem lw_privs_ok : ∀ q ∈ lw_privs, lw_okq q := by
  show ∀ q ∈ lw_privs_1 ++ (lw_privs_2 ++ (lw_privs_3)), lw_okq q
  exact List.forall_mem_append.mpr ⟨lw_r1, List.forall_mem_append.mpr ⟨lw_r2, lw_r3⟩⟩
/-- the streams that the claim lets the run draw from -/
abbrev lw_cs : List Choice := [Jvm.Choice.named "NaN.bits"]
theorem lw_bits : nanBits ∈ lw_cs := by first | decide | exact List.mem_cons_self | simp [lw_cs, nanBits]

def RX0 : String := "NorthCurtains$Arc"
def TX0 : u_T := fun k => match k with
  | 0 => ("NorthCurtains$Glow", "at", "LNorthCurtains$Station;", true)
  | 1 => ("NorthCurtains$Glow", "night", "I", true)
  | 2 => ("NorthCurtains$Glow", "minute", "I", true)
  | 3 => ("NorthCurtains$Glow", "bearing", "I", true)
  | 4 => ("NorthCurtains$Glow", "height", "I", true)
  | _ => ("NorthCurtains$Arc", "hue", "I", true)
def tyX0 : Nat → FieldType := fun k => match k with
  | 0 => .object "NorthCurtains$Station"
  | 1 => .int
  | 2 => .int
  | 3 => .int
  | 4 => .int
  | _ => .int
theorem nmX0 : ∀ a, a < 6 → ∀ b, b < 6 → a ≠ b → (TX0 a).2.1 ≠ (TX0 b).2.1 := by decide +kernel
theorem tyX0_ok : ∀ k, k < 6 → parseFieldDescriptor (TX0 k).2.2.1 = some (tyX0 k) := by decide +kernel
abbrev cX0_init : ByteArray := prog_2_method_1_code
def yX0_init : MethodName := ⟨RX0, "<init>", "(LNorthCurtains$Station;IIIII)V"⟩
abbrev cX0_kind : ByteArray := prog_2_method_2_code
def yX0_kind : MethodName := ⟨RX0, "kind", "()I"⟩
abbrev cX0_mayBeAtOnceWith : ByteArray := prog_2_method_3_code
def yX0_mayBeAtOnceWith : MethodName := ⟨RX0, "mayBeAtOnceWith", "(LNorthCurtains$Arc;)Z"⟩
def RX1 : String := "NorthCurtains$Crossing"
def TX1 : u_T := fun k => match k with
  | _ => ("NorthCurtains$Crossing", "values", "[I", true)
def tyX1 : Nat → FieldType := fun k => match k with
  | _ => .array .int
theorem nmX1 : ∀ a, a < 1 → ∀ b, b < 1 → a ≠ b → (TX1 a).2.1 ≠ (TX1 b).2.1 := by decide +kernel
theorem tyX1_ok : ∀ k, k < 1 → parseFieldDescriptor (TX1 k).2.2.1 = some (tyX1 k) := by decide +kernel
abbrev cX1_init : ByteArray := prog_3_method_1_code
def yX1_init : MethodName := ⟨RX1, "<init>", "()V"⟩
abbrev cX1_find : ByteArray := prog_3_method_2_code
def yX1_find : MethodName := ⟨RX1, "find", "(LNorthCurtains$Arc;LNorthCurtains$Arc;I)Z"⟩
abbrev cX1_across : ByteArray := prog_3_method_3_code
def yX1_across : MethodName := ⟨RX1, "across", "(LNorthCurtains$Arc;LNorthCurtains$Arc;I)J"⟩
abbrev cX1_findHeights : ByteArray := prog_3_method_4_code
def yX1_findHeights : MethodName := ⟨RX1, "findHeights", "(LNorthCurtains$Arc;LNorthCurtains$Arc;I)Z"⟩
abbrev cX1_rise : ByteArray := prog_3_method_5_code
def yX1_rise : MethodName := ⟨RX1, "rise", "(II)I"⟩
def RX2 : String := "NorthCurtains$Curtain"
def TX2 : u_T := fun k => match k with
  | 0 => ("NorthCurtains$Curtain", "size", "I", false)
  | 1 => ("NorthCurtains$Curtain", "time", "I", false)
  | 2 => ("NorthCurtains$Curtain", "x", "I", false)
  | 3 => ("NorthCurtains$Curtain", "y", "I", false)
  | 4 => ("NorthCurtains$Curtain", "height", "I", false)
  | 5 => ("NorthCurtains$Curtain", "firstSighting", "I", false)
  | 6 => ("NorthCurtains$Curtain", "follower", "I", false)
  | 7 => ("NorthCurtains$Curtain", "latestBeginning", "I", false)
  | 8 => ("NorthCurtains$Curtain", "earliestEnd", "I", false)
  | _ => ("NorthCurtains$Curtain", "pairs", "I", false)
def tyX2 : Nat → FieldType := fun k => match k with
  | 0 => .int
  | 1 => .int
  | 2 => .int
  | 3 => .int
  | 4 => .int
  | 5 => .int
  | 6 => .int
  | 7 => .int
  | 8 => .int
  | _ => .int
theorem nmX2 : ∀ a, a < 10 → ∀ b, b < 10 → a ≠ b → (TX2 a).2.1 ≠ (TX2 b).2.1 := by decide +kernel
theorem tyX2_ok : ∀ k, k < 10 → parseFieldDescriptor (TX2 k).2.2.1 = some (tyX2 k) := by decide +kernel
abbrev cX2_init : ByteArray := prog_4_method_1_code
def yX2_init : MethodName := ⟨RX2, "<init>", "()V"⟩
abbrev cX2_clear : ByteArray := prog_4_method_2_code
def yX2_clear : MethodName := ⟨RX2, "clear", "()V"⟩
abbrev cX2_take : ByteArray := prog_4_method_3_code
def yX2_take : MethodName := ⟨RX2, "take", "(ILNorthCurtains$Arc;)V"⟩
abbrev cX2_takePair : ByteArray := prog_4_method_4_code
def yX2_takePair : MethodName := ⟨RX2, "takePair", "([I)V"⟩
abbrev cX2_finish : ByteArray := prog_4_method_5_code
def yX2_finish : MethodName := ⟨RX2, "finish", "()V"⟩
abbrev cX2_hasPlace : ByteArray := prog_4_method_6_code
def yX2_hasPlace : MethodName := ⟨RX2, "hasPlace", "()Z"⟩
abbrev cX2_answer : ByteArray := prog_4_method_7_code
def yX2_answer : MethodName := ⟨RX2, "answer", "(I)I"⟩
abbrev cX2_canBeFollowedBy : ByteArray := prog_4_method_8_code
def yX2_canBeFollowedBy : MethodName := ⟨RX2, "canBeFollowedBy", "(LNorthCurtains$Curtain;I)Z"⟩
abbrev cX2_nearestMinute : ByteArray := prog_4_method_9_code
def yX2_nearestMinute : MethodName := ⟨RX2, "nearestMinute", "(LNorthCurtains$Curtain;LNorthCurtains$Station;)I"⟩
abbrev cX2_squareOfFar : ByteArray := prog_4_method_10_code
def yX2_squareOfFar : MethodName := ⟨RX2, "squareOfFar", "(II)J"⟩
def RX3 : String := "NorthCurtains$Glow"
def TX3 : u_T := fun k => match k with
  | 0 => ("NorthCurtains$Glow", "at", "LNorthCurtains$Station;", true)
  | 1 => ("NorthCurtains$Glow", "night", "I", true)
  | 2 => ("NorthCurtains$Glow", "minute", "I", true)
  | 3 => ("NorthCurtains$Glow", "bearing", "I", true)
  | _ => ("NorthCurtains$Glow", "height", "I", true)
def tyX3 : Nat → FieldType := fun k => match k with
  | 0 => .object "NorthCurtains$Station"
  | 1 => .int
  | 2 => .int
  | 3 => .int
  | _ => .int
theorem nmX3 : ∀ a, a < 5 → ∀ b, b < 5 → a ≠ b → (TX3 a).2.1 ≠ (TX3 b).2.1 := by decide +kernel
theorem tyX3_ok : ∀ k, k < 5 → parseFieldDescriptor (TX3 k).2.2.1 = some (tyX3 k) := by decide +kernel
abbrev cX3_init : ByteArray := prog_5_method_1_code
def yX3_init : MethodName := ⟨RX3, "<init>", "(LNorthCurtains$Station;IIII)V"⟩
abbrev cX3_kind : ByteArray := prog_5_method_2_code
def yX3_kind : MethodName := ⟨RX3, "kind", "()I"⟩
abbrev cX3_earliest : ByteArray := prog_5_method_3_code
def yX3_earliest : MethodName := ⟨RX3, "earliest", "()I"⟩
abbrev cX3_latest : ByteArray := prog_5_method_4_code
def yX3_latest : MethodName := ⟨RX3, "latest", "()I"⟩
def RX4 : String := "NorthCurtains$Ray"
def TX4 : u_T := fun k => match k with
  | 0 => ("NorthCurtains$Arc", "hue", "I", true)
  | 1 => ("NorthCurtains$Glow", "at", "LNorthCurtains$Station;", true)
  | 2 => ("NorthCurtains$Glow", "night", "I", true)
  | 3 => ("NorthCurtains$Glow", "minute", "I", true)
  | 4 => ("NorthCurtains$Glow", "bearing", "I", true)
  | 5 => ("NorthCurtains$Glow", "height", "I", true)
  | _ => ("NorthCurtains$Ray", "slant", "I", true)
def tyX4 : Nat → FieldType := fun k => match k with
  | 0 => .int
  | 1 => .object "NorthCurtains$Station"
  | 2 => .int
  | 3 => .int
  | 4 => .int
  | 5 => .int
  | _ => .int
theorem nmX4 : ∀ a, a < 7 → ∀ b, b < 7 → a ≠ b → (TX4 a).2.1 ≠ (TX4 b).2.1 := by decide +kernel
theorem tyX4_ok : ∀ k, k < 7 → parseFieldDescriptor (TX4 k).2.2.1 = some (tyX4 k) := by decide +kernel
abbrev cX4_init : ByteArray := prog_6_method_1_code
def yX4_init : MethodName := ⟨RX4, "<init>", "(LNorthCurtains$Station;IIIIII)V"⟩
abbrev cX4_kind : ByteArray := prog_6_method_2_code
def yX4_kind : MethodName := ⟨RX4, "kind", "()I"⟩
def RX5 : String := "NorthCurtains$Row"
def TX5 : u_T := fun k => match k with
  | 0 => ("NorthCurtains$Row", "lane", "I", true)
  | _ => ("NorthCurtains$Row", "items", "[I", true)
def tyX5 : Nat → FieldType := fun k => match k with
  | 0 => .int
  | _ => .array .int
theorem nmX5 : ∀ a, a < 2 → ∀ b, b < 2 → a ≠ b → (TX5 a).2.1 ≠ (TX5 b).2.1 := by decide +kernel
theorem tyX5_ok : ∀ k, k < 2 → parseFieldDescriptor (TX5 k).2.2.1 = some (tyX5 k) := by decide +kernel
abbrev cX5_init : ByteArray := prog_7_method_1_code
def yX5_init : MethodName := ⟨RX5, "<init>", "(II)V"⟩
abbrev cX5_holds : ByteArray := prog_7_method_2_code
def yX5_holds : MethodName := ⟨RX5, "holds", "(II)Z"⟩
def RX6 : String := "NorthCurtains$Sky"
def TX6 : u_T := fun k => match k with
  | 0 => ("NorthCurtains$Sky", "curtains", "[LNorthCurtains$Curtain;", true)
  | 1 => ("NorthCurtains$Sky", "arcs", "[LNorthCurtains$Arc;", true)
  | 2 => ("NorthCurtains$Sky", "numbers", "[I", true)
  | 3 => ("NorthCurtains$Sky", "meeting", "[I", true)
  | 4 => ("NorthCurtains$Sky", "members", "[I", true)
  | 5 => ("NorthCurtains$Sky", "followers", "[I", true)
  | 6 => ("NorthCurtains$Sky", "setOf", "[I", true)
  | 7 => ("NorthCurtains$Sky", "arcCount", "I", false)
  | _ => ("NorthCurtains$Sky", "curtainCount", "I", false)
def tyX6 : Nat → FieldType := fun k => match k with
  | 0 => .array (.object "NorthCurtains$Curtain")
  | 1 => .array (.object "NorthCurtains$Arc")
  | 2 => .array .int
  | 3 => .array .int
  | 4 => .array .int
  | 5 => .array .int
  | 6 => .array .int
  | 7 => .int
  | _ => .int
theorem nmX6 : ∀ a, a < 9 → ∀ b, b < 9 → a ≠ b → (TX6 a).2.1 ≠ (TX6 b).2.1 := by decide +kernel
theorem tyX6_ok : ∀ k, k < 9 → parseFieldDescriptor (TX6 k).2.2.1 = some (tyX6 k) := by decide +kernel
abbrev cX6_init : ByteArray := prog_8_method_1_code
def yX6_init : MethodName := ⟨RX6, "<init>", "()V"⟩
abbrev cX6_gather : ByteArray := prog_8_method_2_code
def yX6_gather : MethodName := ⟨RX6, "gather", "([LNorthCurtains$Glow;II)Z"⟩
abbrev cX6_partCurtains : ByteArray := prog_8_method_3_code
def yX6_partCurtains : MethodName := ⟨RX6, "partCurtains", "(LNorthCurtains$Crossing;I)I"⟩
abbrev cX6_setOfSighting : ByteArray := prog_8_method_4_code
def yX6_setOfSighting : MethodName := ⟨RX6, "setOfSighting", "(I)I"⟩
abbrev cX6_joinWays : ByteArray := prog_8_method_5_code
def yX6_joinWays : MethodName := ⟨RX6, "joinWays", "(I)I"⟩
abbrev cX6_findMeetings : ByteArray := prog_8_method_6_code
def yX6_findMeetings : MethodName := ⟨RX6, "findMeetings", "(LNorthCurtains$Crossing;I)V"⟩
abbrev cX6_partFrom : ByteArray := prog_8_method_7_code
def yX6_partFrom : MethodName := ⟨RX6, "partFrom", "(III)Z"⟩
abbrev cX6_tellCurtain : ByteArray := prog_8_method_8_code
def yX6_tellCurtain : MethodName := ⟨RX6, "tellCurtain", "(ILNorthCurtains$Crossing;I)V"⟩
abbrev cX6_findFollowers : ByteArray := prog_8_method_9_code
def yX6_findFollowers : MethodName := ⟨RX6, "findFollowers", "(I)I"⟩
abbrev cX6_mostLinks : ByteArray := prog_8_method_10_code
def yX6_mostLinks : MethodName := ⟨RX6, "mostLinks", "(II)I"⟩
abbrev cX6_firstFollower : ByteArray := prog_8_method_11_code
def yX6_firstFollower : MethodName := ⟨RX6, "firstFollower", "(III)I"⟩
def RX7 : String := "NorthCurtains$Station"
def TX7 : u_T := fun k => match k with
  | 0 => ("NorthCurtains$Station", "number", "I", true)
  | 1 => ("NorthCurtains$Station", "x", "I", true)
  | 2 => ("NorthCurtains$Station", "y", "I", true)
  | 3 => ("NorthCurtains$Station", "low", "I", false)
  | _ => ("NorthCurtains$Station", "high", "I", false)
def tyX7 : Nat → FieldType := fun k => match k with
  | 0 => .int
  | 1 => .int
  | 2 => .int
  | 3 => .int
  | _ => .int
theorem nmX7 : ∀ a, a < 5 → ∀ b, b < 5 → a ≠ b → (TX7 a).2.1 ≠ (TX7 b).2.1 := by decide +kernel
theorem tyX7_ok : ∀ k, k < 5 → parseFieldDescriptor (TX7 k).2.2.1 = some (tyX7 k) := by decide +kernel
abbrev cX7_init : ByteArray := prog_9_method_1_code
def yX7_init : MethodName := ⟨RX7, "<init>", "(III)V"⟩
def RX8 : String := "NorthCurtains$Watch"
def TX8 : u_T := fun k => match k with
  | 0 => ("NorthCurtains$Watch", "at", "LNorthCurtains$Station;", true)
  | 1 => ("NorthCurtains$Watch", "night", "I", true)
  | 2 => ("NorthCurtains$Watch", "clear", "I", true)
  | _ => ("NorthCurtains$Watch", "dark", "I", true)
def tyX8 : Nat → FieldType := fun k => match k with
  | 0 => .object "NorthCurtains$Station"
  | 1 => .int
  | 2 => .int
  | _ => .int
theorem nmX8 : ∀ a, a < 4 → ∀ b, b < 4 → a ≠ b → (TX8 a).2.1 ≠ (TX8 b).2.1 := by decide +kernel
theorem tyX8_ok : ∀ k, k < 4 → parseFieldDescriptor (TX8 k).2.2.1 = some (tyX8 k) := by decide +kernel
abbrev cX8_init : ByteArray := prog_10_method_1_code
def yX8_init : MethodName := ⟨RX8, "<init>", "(LNorthCurtains$Station;III)V"⟩
def RX9 : String := "NorthCurtains"
def TX9 : u_T := fun k => match k with
  | 0 => ("NorthCurtains", "stations", "[LNorthCurtains$Station;", true)
  | 1 => ("NorthCurtains", "sightings", "[LNorthCurtains$Glow;", true)
  | 2 => ("NorthCurtains", "watches", "[LNorthCurtains$Watch;", true)
  | 3 => ("NorthCurtains", "sharedFirst", "[I", true)
  | 4 => ("NorthCurtains", "sharedSecond", "[I", true)
  | 5 => ("NorthCurtains", "nightsSeen", "[I", true)
  | 6 => ("NorthCurtains", "rests", "[I", true)
  | 7 => ("NorthCurtains", "rows", "[LNorthCurtains$Row;", true)
  | 8 => ("NorthCurtains", "crossing", "LNorthCurtains$Crossing;", true)
  | 9 => ("NorthCurtains", "sky", "LNorthCurtains$Sky;", true)
  | 10 => ("NorthCurtains", "stationCount", "I", false)
  | 11 => ("NorthCurtains", "sightingCount", "I", false)
  | 12 => ("NorthCurtains", "watchCount", "I", false)
  | 13 => ("NorthCurtains", "sharedCount", "I", false)
  | 14 => ("NorthCurtains", "nightsSeenCount", "I", false)
  | 15 => ("NorthCurtains", "thickness", "I", false)
  | _ => ("NorthCurtains", "pace", "I", false)
def tyX9 : Nat → FieldType := fun k => match k with
  | 0 => .array (.object "NorthCurtains$Station")
  | 1 => .array (.object "NorthCurtains$Glow")
  | 2 => .array (.object "NorthCurtains$Watch")
  | 3 => .array .int
  | 4 => .array .int
  | 5 => .array .int
  | 6 => .array .int
  | 7 => .array (.object "NorthCurtains$Row")
  | 8 => .object "NorthCurtains$Crossing"
  | 9 => .object "NorthCurtains$Sky"
  | 10 => .int
  | 11 => .int
  | 12 => .int
  | 13 => .int
  | 14 => .int
  | 15 => .int
  | _ => .int
theorem nmX9 : ∀ a, a < 17 → ∀ b, b < 17 → a ≠ b → (TX9 a).2.1 ≠ (TX9 b).2.1 := by decide +kernel
theorem tyX9_ok : ∀ k, k < 17 → parseFieldDescriptor (TX9 k).2.2.1 = some (tyX9 k) := by decide +kernel
abbrev cX9_init : ByteArray := prog_1_method_1_code
def yX9_init : MethodName := ⟨RX9, "<init>", "()V"⟩
abbrev cX9_station : ByteArray := prog_1_method_2_code
def yX9_station : MethodName := ⟨RX9, "station", "(II)I"⟩
abbrev cX9_clock : ByteArray := prog_1_method_3_code
def yX9_clock : MethodName := ⟨RX9, "clock", "(III)I"⟩
abbrev cX9_glow : ByteArray := prog_1_method_4_code
def yX9_glow : MethodName := ⟨RX9, "glow", "(IIIII)I"⟩
abbrev cX9_arc : ByteArray := prog_1_method_5_code
def yX9_arc : MethodName := ⟨RX9, "arc", "(IIIIII)I"⟩
abbrev cX9_ray : ByteArray := prog_1_method_6_code
def yX9_ray : MethodName := ⟨RX9, "ray", "(IIIIIII)I"⟩
abbrev cX9_told : ByteArray := prog_1_method_7_code
def yX9_told : MethodName := ⟨RX9, "told", "(II)I"⟩
abbrev cX9_colour : ByteArray := prog_1_method_8_code
def yX9_colour : MethodName := ⟨RX9, "colour", "(I)I"⟩
abbrev cX9_lean : ByteArray := prog_1_method_9_code
def yX9_lean : MethodName := ⟨RX9, "lean", "(I)I"⟩
abbrev cX9_table : ByteArray := prog_1_method_10_code
def yX9_table : MethodName := ⟨RX9, "table", "(II)I"⟩
abbrev cX9_thick : ByteArray := prog_1_method_11_code
def yX9_thick : MethodName := ⟨RX9, "thick", "(I)I"⟩
abbrev cX9_meets : ByteArray := prog_1_method_12_code
def yX9_meets : MethodName := ⟨RX9, "meets", "(II)I"⟩
abbrev cX9_cross : ByteArray := prog_1_method_13_code
def yX9_cross : MethodName := ⟨RX9, "cross", "(III)I"⟩
abbrev cX9_curtains : ByteArray := prog_1_method_14_code
def yX9_curtains : MethodName := ⟨RX9, "curtains", "(I)I"⟩
abbrev cX9_curtain : ByteArray := prog_1_method_15_code
def yX9_curtain : MethodName := ⟨RX9, "curtain", "(III)I"⟩
abbrev cX9_curtainOf : ByteArray := prog_1_method_16_code
def yX9_curtainOf : MethodName := ⟨RX9, "curtainOf", "(I)I"⟩
abbrev cX9_speed : ByteArray := prog_1_method_17_code
def yX9_speed : MethodName := ⟨RX9, "speed", "(I)I"⟩
abbrev cX9_ways : ByteArray := prog_1_method_18_code
def yX9_ways : MethodName := ⟨RX9, "ways", "(I)I"⟩
abbrev cX9_next : ByteArray := prog_1_method_19_code
def yX9_next : MethodName := ⟨RX9, "next", "(II)I"⟩
abbrev cX9_overhead : ByteArray := prog_1_method_20_code
def yX9_overhead : MethodName := ⟨RX9, "overhead", "(III)I"⟩
abbrev cX9_watch : ByteArray := prog_1_method_21_code
def yX9_watch : MethodName := ⟨RX9, "watch", "(IIIII)I"⟩
abbrev cX9_seen : ByteArray := prog_1_method_22_code
def yX9_seen : MethodName := ⟨RX9, "seen", "(II)I"⟩
abbrev cX9_rate : ByteArray := prog_1_method_23_code
def yX9_rate : MethodName := ⟨RX9, "rate", "(IIII)I"⟩
abbrev cX9_round : ByteArray := prog_1_method_24_code
def yX9_round : MethodName := ⟨RX9, "round", "(I)I"⟩
abbrev cX9_best : ByteArray := prog_1_method_25_code
def yX9_best : MethodName := ⟨RX9, "best", "()I"⟩
abbrev cX9_share : ByteArray := prog_1_method_26_code
def yX9_share : MethodName := ⟨RX9, "share", "(II)I"⟩
abbrev cX9_mended : ByteArray := prog_1_method_27_code
def yX9_mended : MethodName := ⟨RX9, "mended", "(II)I"⟩
abbrev cX9_moved : ByteArray := prog_1_method_28_code
def yX9_moved : MethodName := ⟨RX9, "moved", "(I)I"⟩
abbrev cX9_count : ByteArray := prog_1_method_29_code
def yX9_count : MethodName := ⟨RX9, "count", "(I)I"⟩
abbrev cX9_sheet : ByteArray := prog_1_method_30_code
def yX9_sheet : MethodName := ⟨RX9, "sheet", "(III)I"⟩
abbrev cX9_drop : ByteArray := prog_1_method_31_code
def yX9_drop : MethodName := ⟨RX9, "drop", "(I)I"⟩
abbrev cX9_item : ByteArray := prog_1_method_32_code
def yX9_item : MethodName := ⟨RX9, "item", "(IIII)I"⟩
abbrev cX9_arcs : ByteArray := prog_1_method_33_code
def yX9_arcs : MethodName := ⟨RX9, "arcs", "(IIII)I"⟩
abbrev cX9_isWithin : ByteArray := prog_1_method_34_code
def yX9_isWithin : MethodName := ⟨RX9, "isWithin", "(III)Z"⟩
abbrev cX9_isNight : ByteArray := prog_1_method_35_code
def yX9_isNight : MethodName := ⟨RX9, "isNight", "(I)Z"⟩
abbrev cX9_isInSky : ByteArray := prog_1_method_36_code
def yX9_isInSky : MethodName := ⟨RX9, "isInSky", "(IIII)Z"⟩
abbrev cX9_isColour : ByteArray := prog_1_method_37_code
def yX9_isColour : MethodName := ⟨RX9, "isColour", "(I)Z"⟩
abbrev cX9_isSheet : ByteArray := prog_1_method_38_code
def yX9_isSheet : MethodName := ⟨RX9, "isSheet", "(I)Z"⟩
abbrev cX9_isLane : ByteArray := prog_1_method_39_code
def yX9_isLane : MethodName := ⟨RX9, "isLane", "(I)Z"⟩
abbrev cX9_sine : ByteArray := prog_1_method_40_code
def yX9_sine : MethodName := ⟨RX9, "sine", "(I)I"⟩
abbrev cX9_cosine : ByteArray := prog_1_method_41_code
def yX9_cosine : MethodName := ⟨RX9, "cosine", "(I)I"⟩
abbrev cX9_tangent : ByteArray := prog_1_method_42_code
def yX9_tangent : MethodName := ⟨RX9, "tangent", "(I)I"⟩
abbrev cX9_stationAt : ByteArray := prog_1_method_43_code
def yX9_stationAt : MethodName := ⟨RX9, "stationAt", "(I)LNorthCurtains$Station;"⟩
abbrev cX9_sightingAt : ByteArray := prog_1_method_44_code
def yX9_sightingAt : MethodName := ⟨RX9, "sightingAt", "(I)LNorthCurtains$Glow;"⟩
abbrev cX9_keep : ByteArray := prog_1_method_45_code
def yX9_keep : MethodName := ⟨RX9, "keep", "(LNorthCurtains$Glow;)I"⟩
abbrev cX9_isSeenNight : ByteArray := prog_1_method_46_code
def yX9_isSeenNight : MethodName := ⟨RX9, "isSeenNight", "(I)Z"⟩
abbrev cX9_keepArcs : ByteArray := prog_1_method_47_code
def yX9_keepArcs : MethodName := ⟨RX9, "keepArcs", "([III)I"⟩
abbrev cX9_isArcAt : ByteArray := prog_1_method_48_code
def yX9_isArcAt : MethodName := ⟨RX9, "isArcAt", "([II)Z"⟩
abbrev cX9_keepArcAt : ByteArray := prog_1_method_49_code
def yX9_keepArcAt : MethodName := ⟨RX9, "keepArcAt", "([II)V"⟩
abbrev cX9_lookAt : ByteArray := prog_1_method_50_code
def yX9_lookAt : MethodName := ⟨RX9, "lookAt", "(I)I"⟩
abbrev cX9_watchOf : ByteArray := prog_1_method_51_code
def yX9_watchOf : MethodName := ⟨RX9, "watchOf", "(LNorthCurtains$Station;I)LNorthCurtains$Watch;"⟩
abbrev cX9_saw : ByteArray := prog_1_method_52_code
def yX9_saw : MethodName := ⟨RX9, "saw", "(LNorthCurtains$Station;I)Z"⟩
abbrev cX9_roundOf : ByteArray := prog_1_method_53_code
def yX9_roundOf : MethodName := ⟨RX9, "roundOf", "(I)I"⟩
abbrev cX9_areShared : ByteArray := prog_1_method_54_code
def yX9_areShared : MethodName := ⟨RX9, "areShared", "(II)Z"⟩
def RX10 : String := "NorthCurtainsModel"
def TX10 : u_T := fun k => match k with
  | 0 => ("NorthCurtainsModel", "sines", "[I", true)
  | 1 => ("NorthCurtainsModel", "tangents", "[I", true)
  | 2 => ("NorthCurtainsModel", "stations", "I", false)
  | 3 => ("NorthCurtainsModel", "xs", "[I", true)
  | 4 => ("NorthCurtainsModel", "ys", "[I", true)
  | 5 => ("NorthCurtainsModel", "lows", "[I", true)
  | 6 => ("NorthCurtainsModel", "highs", "[I", true)
  | 7 => ("NorthCurtainsModel", "sightings", "I", false)
  | 8 => ("NorthCurtainsModel", "kinds", "[I", true)
  | 9 => ("NorthCurtainsModel", "at", "[I", true)
  | 10 => ("NorthCurtainsModel", "nights", "[I", true)
  | 11 => ("NorthCurtainsModel", "minutes", "[I", true)
  | 12 => ("NorthCurtainsModel", "bearings", "[I", true)
  | 13 => ("NorthCurtainsModel", "heights", "[I", true)
  | 14 => ("NorthCurtainsModel", "colours", "[I", true)
  | 15 => ("NorthCurtainsModel", "leans", "[I", true)
  | 16 => ("NorthCurtainsModel", "thick", "I", false)
  | 17 => ("NorthCurtainsModel", "\x72", "I", false)
  | 18 => ("NorthCurtainsModel", "s", "I", false)
  | 19 => ("NorthCurtainsModel", "listed", "I", false)
  | 20 => ("NorthCurtainsModel", "list", "[I", true)
  | 21 => ("NorthCurtainsModel", "curtains", "I", false)
  | 22 => ("NorthCurtainsModel", "curtainIs", "[I", true)
  | 23 => ("NorthCurtainsModel", "meetBits", "[I", true)
  | 24 => ("NorthCurtainsModel", "sets", "[I", true)
  | 25 => ("NorthCurtainsModel", "members", "[I", true)
  | 26 => ("NorthCurtainsModel", "times", "[I", true)
  | 27 => ("NorthCurtainsModel", "placeX", "[I", true)
  | 28 => ("NorthCurtainsModel", "placeY", "[I", true)
  | 29 => ("NorthCurtainsModel", "placeHeight", "[I", true)
  | 30 => ("NorthCurtainsModel", "firsts", "[I", true)
  | 31 => ("NorthCurtainsModel", "speed", "I", false)
  | 32 => ("NorthCurtainsModel", "follows", "[I", true)
  | 33 => ("NorthCurtainsModel", "nexts", "[I", true)
  | 34 => ("NorthCurtainsModel", "watches", "I", false)
  | 35 => ("NorthCurtainsModel", "watchers", "[I", true)
  | 36 => ("NorthCurtainsModel", "watchNights", "[I", true)
  | 37 => ("NorthCurtainsModel", "clears", "[I", true)
  | 38 => ("NorthCurtainsModel", "darks", "[I", true)
  | 39 => ("NorthCurtainsModel", "rests", "[I", true)
  | 40 => ("NorthCurtainsModel", "shares", "I", false)
  | 41 => ("NorthCurtainsModel", "shareOne", "[I", true)
  | 42 => ("NorthCurtainsModel", "shareOther", "[I", true)
  | 43 => ("NorthCurtainsModel", "lanes", "[I", true)
  | 44 => ("NorthCurtainsModel", "sizes", "[I", true)
  | _ => ("NorthCurtainsModel", "items", "[I", true)
def tyX10 : Nat → FieldType := fun k => match k with
  | 0 => .array .int
  | 1 => .array .int
  | 2 => .int
  | 3 => .array .int
  | 4 => .array .int
  | 5 => .array .int
  | 6 => .array .int
  | 7 => .int
  | 8 => .array .int
  | 9 => .array .int
  | 10 => .array .int
  | 11 => .array .int
  | 12 => .array .int
  | 13 => .array .int
  | 14 => .array .int
  | 15 => .array .int
  | 16 => .int
  | 17 => .int
  | 18 => .int
  | 19 => .int
  | 20 => .array .int
  | 21 => .int
  | 22 => .array .int
  | 23 => .array .int
  | 24 => .array .int
  | 25 => .array .int
  | 26 => .array .int
  | 27 => .array .int
  | 28 => .array .int
  | 29 => .array .int
  | 30 => .array .int
  | 31 => .int
  | 32 => .array .int
  | 33 => .array .int
  | 34 => .int
  | 35 => .array .int
  | 36 => .array .int
  | 37 => .array .int
  | 38 => .array .int
  | 39 => .array .int
  | 40 => .int
  | 41 => .array .int
  | 42 => .array .int
  | 43 => .array .int
  | 44 => .array .int
  | _ => .array .int
theorem nmX10 : ∀ a, a < 46 → ∀ b, b < 46 → a ≠ b → (TX10 a).2.1 ≠ (TX10 b).2.1 := by decide +kernel
theorem tyX10_ok : ∀ k, k < 46 → parseFieldDescriptor (TX10 k).2.2.1 = some (tyX10 k) := by decide +kernel
abbrev cX10_in : ByteArray := prog_12_method_1_code
def yX10_in : MethodName := ⟨RX10, "in", "(JJJ)Z"⟩
abbrev cX10_init : ByteArray := prog_12_method_2_code
def yX10_init : MethodName := ⟨RX10, "<init>", "()V"⟩
abbrev cX10_sineOf : ByteArray := prog_12_method_3_code
def yX10_sineOf : MethodName := ⟨RX10, "sineOf", "(I)D"⟩
abbrev cX10_sinOf : ByteArray := prog_12_method_4_code
def yX10_sinOf : MethodName := ⟨RX10, "sinOf", "(I)I"⟩
abbrev cX10_cosOf : ByteArray := prog_12_method_5_code
def yX10_cosOf : MethodName := ⟨RX10, "cosOf", "(I)I"⟩
abbrev cX10_table : ByteArray := prog_12_method_6_code
def yX10_table : MethodName := ⟨RX10, "table", "(II)I"⟩
abbrev cX10_isStation : ByteArray := prog_12_method_7_code
def yX10_isStation : MethodName := ⟨RX10, "isStation", "(I)Z"⟩
abbrev cX10_station : ByteArray := prog_12_method_8_code
def yX10_station : MethodName := ⟨RX10, "station", "(II)I"⟩
abbrev cX10_clock : ByteArray := prog_12_method_9_code
def yX10_clock : MethodName := ⟨RX10, "clock", "(III)I"⟩
abbrev cX10_isNight : ByteArray := prog_12_method_10_code
def yX10_isNight : MethodName := ⟨RX10, "isNight", "(I)Z"⟩
abbrev cX10_isTold : ByteArray := prog_12_method_11_code
def yX10_isTold : MethodName := ⟨RX10, "isTold", "(IIIII)Z"⟩
abbrev cX10_add : ByteArray := prog_12_method_12_code
def yX10_add : MethodName := ⟨RX10, "add", "(IIIIIIII)I"⟩
abbrev cX10_glow : ByteArray := prog_12_method_13_code
def yX10_glow : MethodName := ⟨RX10, "glow", "(IIIII)I"⟩
abbrev cX10_arc : ByteArray := prog_12_method_14_code
def yX10_arc : MethodName := ⟨RX10, "arc", "(IIIIII)I"⟩
abbrev cX10_ray : ByteArray := prog_12_method_15_code
def yX10_ray : MethodName := ⟨RX10, "ray", "(IIIIIII)I"⟩
abbrev cX10_isSighting : ByteArray := prog_12_method_16_code
def yX10_isSighting : MethodName := ⟨RX10, "isSighting", "(I)Z"⟩
abbrev cX10_firstOf : ByteArray := prog_12_method_17_code
def yX10_firstOf : MethodName := ⟨RX10, "firstOf", "(I)I"⟩
abbrev cX10_lastOf : ByteArray := prog_12_method_18_code
def yX10_lastOf : MethodName := ⟨RX10, "lastOf", "(I)I"⟩
abbrev cX10_told : ByteArray := prog_12_method_19_code
def yX10_told : MethodName := ⟨RX10, "told", "(II)I"⟩
abbrev cX10_colour : ByteArray := prog_12_method_20_code
def yX10_colour : MethodName := ⟨RX10, "colour", "(I)I"⟩
abbrev cX10_lean : ByteArray := prog_12_method_21_code
def yX10_lean : MethodName := ⟨RX10, "lean", "(I)I"⟩
abbrev cX10_thick : ByteArray := prog_12_method_22_code
def yX10_thick : MethodName := ⟨RX10, "thick", "(I)I"⟩
abbrev cX10_crosses : ByteArray := prog_12_method_23_code
def yX10_crosses : MethodName := ⟨RX10, "crosses", "(II)Z"⟩
abbrev cX10_rise : ByteArray := prog_12_method_24_code
def yX10_rise : MethodName := ⟨RX10, "rise", "(II)I"⟩
abbrev cX10_areMet : ByteArray := prog_12_method_25_code
def yX10_areMet : MethodName := ⟨RX10, "areMet", "(II)Z"⟩
abbrev cX10_meets : ByteArray := prog_12_method_26_code
def yX10_meets : MethodName := ⟨RX10, "meets", "(II)I"⟩
abbrev cX10_crossPart : ByteArray := prog_12_method_27_code
def yX10_crossPart : MethodName := ⟨RX10, "crossPart", "(III)I"⟩
abbrev cX10_cross : ByteArray := prog_12_method_28_code
def yX10_cross : MethodName := ⟨RX10, "cross", "(III)I"⟩
abbrev cX10_listNight : ByteArray := prog_12_method_29_code
def yX10_listNight : MethodName := ⟨RX10, "listNight", "(I)V"⟩
abbrev cX10_canBeIn : ByteArray := prog_12_method_30_code
def yX10_canBeIn : MethodName := ⟨RX10, "canBeIn", "(II)Z"⟩
abbrev cX10_setsAhead : ByteArray := prog_12_method_31_code
def yX10_setsAhead : MethodName := ⟨RX10, "setsAhead", "(I)I"⟩
abbrev cX10_part : ByteArray := prog_12_method_32_code
def yX10_part : MethodName := ⟨RX10, "part", "(I)Z"⟩
abbrev cX10_findCurtains : ByteArray := prog_12_method_33_code
def yX10_findCurtains : MethodName := ⟨RX10, "findCurtains", "(I)I"⟩
abbrev cX10_curtains : ByteArray := prog_12_method_34_code
def yX10_curtains : MethodName := ⟨RX10, "curtains", "(I)I"⟩
abbrev cX10_findPlace : ByteArray := prog_12_method_35_code
def yX10_findPlace : MethodName := ⟨RX10, "findPlace", "(I)V"⟩
abbrev cX10_curtain : ByteArray := prog_12_method_36_code
def yX10_curtain : MethodName := ⟨RX10, "curtain", "(III)I"⟩
abbrev cX10_curtainOf : ByteArray := prog_12_method_37_code
def yX10_curtainOf : MethodName := ⟨RX10, "curtainOf", "(I)I"⟩
abbrev cX10_speed : ByteArray := prog_12_method_38_code
def yX10_speed : MethodName := ⟨RX10, "speed", "(I)I"⟩
abbrev cX10_canFollow : ByteArray := prog_12_method_39_code
def yX10_canFollow : MethodName := ⟨RX10, "canFollow", "(II)Z"⟩
abbrev cX10_findWays : ByteArray := prog_12_method_40_code
def yX10_findWays : MethodName := ⟨RX10, "findWays", "()I"⟩
abbrev cX10_ways : ByteArray := prog_12_method_41_code
def yX10_ways : MethodName := ⟨RX10, "ways", "(I)I"⟩
abbrev cX10_nextOf : ByteArray := prog_12_method_42_code
def yX10_nextOf : MethodName := ⟨RX10, "nextOf", "(II)I"⟩
abbrev cX10_next : ByteArray := prog_12_method_43_code
def yX10_next : MethodName := ⟨RX10, "next", "(II)I"⟩
abbrev cX10_overhead : ByteArray := prog_12_method_44_code
def yX10_overhead : MethodName := ⟨RX10, "overhead", "(III)I"⟩
abbrev cX10_watchOf : ByteArray := prog_12_method_45_code
def yX10_watchOf : MethodName := ⟨RX10, "watchOf", "(II)I"⟩
abbrev cX10_watch : ByteArray := prog_12_method_46_code
def yX10_watch : MethodName := ⟨RX10, "watch", "(IIIII)I"⟩
abbrev cX10_isSeen : ByteArray := prog_12_method_47_code
def yX10_isSeen : MethodName := ⟨RX10, "isSeen", "(II)Z"⟩
abbrev cX10_seen : ByteArray := prog_12_method_48_code
def yX10_seen : MethodName := ⟨RX10, "seen", "(II)I"⟩
abbrev cX10_rate : ByteArray := prog_12_method_49_code
def yX10_rate : MethodName := ⟨RX10, "rate", "(IIII)I"⟩
abbrev cX10_roundOf : ByteArray := prog_12_method_50_code
def yX10_roundOf : MethodName := ⟨RX10, "roundOf", "(I)I"⟩
abbrev cX10_nightsSeen : ByteArray := prog_12_method_51_code
def yX10_nightsSeen : MethodName := ⟨RX10, "nightsSeen", "()I"⟩
abbrev cX10_round : ByteArray := prog_12_method_52_code
def yX10_round : MethodName := ⟨RX10, "round", "(I)I"⟩
abbrev cX10_best : ByteArray := prog_12_method_53_code
def yX10_best : MethodName := ⟨RX10, "best", "()I"⟩
abbrev cX10_share : ByteArray := prog_12_method_54_code
def yX10_share : MethodName := ⟨RX10, "share", "(II)I"⟩
abbrev cX10_mended : ByteArray := prog_12_method_55_code
def yX10_mended : MethodName := ⟨RX10, "mended", "(II)I"⟩
abbrev cX10_moved : ByteArray := prog_12_method_56_code
def yX10_moved : MethodName := ⟨RX10, "moved", "(I)I"⟩
abbrev cX10_count : ByteArray := prog_12_method_57_code
def yX10_count : MethodName := ⟨RX10, "count", "(I)I"⟩
abbrev cX10_isSheet : ByteArray := prog_12_method_58_code
def yX10_isSheet : MethodName := ⟨RX10, "isSheet", "(II)Z"⟩
abbrev cX10_sheet : ByteArray := prog_12_method_59_code
def yX10_sheet : MethodName := ⟨RX10, "sheet", "(III)I"⟩
abbrev cX10_drop : ByteArray := prog_12_method_60_code
def yX10_drop : MethodName := ⟨RX10, "drop", "(I)I"⟩
abbrev cX10_item : ByteArray := prog_12_method_61_code
def yX10_item : MethodName := ⟨RX10, "item", "(IIII)I"⟩
abbrev cX10_arcs : ByteArray := prog_12_method_62_code
def yX10_arcs : MethodName := ⟨RX10, "arcs", "(IIII)I"⟩
def RJ9 : String := "java/lang/Math"
def TJ9 : u_T := fun k => match k with
  | _ => ("", "", "", false)
def tyJ9 : Nat → FieldType := fun k => match k with
  | _ => .int
theorem nmJ9 : ∀ a, a < 0 → ∀ b, b < 0 → a ≠ b → (TJ9 a).2.1 ≠ (TJ9 b).2.1 := by decide +kernel
theorem tyJ9_ok : ∀ k, k < 0 → parseFieldDescriptor (TJ9 k).2.2.1 = some (tyJ9 k) := by decide +kernel
abbrev cJ9_floorDiv_7cf53 : ByteArray := prog_13_method_47_code
def yJ9_floorDiv_7cf53 : MethodName := ⟨RJ9, "floorDiv", "(II)I"⟩
abbrev cJ9_floorMod_7cf53 : ByteArray := prog_13_method_50_code
def yJ9_floorMod_7cf53 : MethodName := ⟨RJ9, "floorMod", "(II)I"⟩
abbrev cJ9_abs_0f7a4 : ByteArray := prog_13_method_59_code
def yJ9_abs_0f7a4 : MethodName := ⟨RJ9, "abs", "(I)I"⟩
abbrev cJ9_max_7cf53 : ByteArray := prog_13_method_65_code
def yJ9_max_7cf53 : MethodName := ⟨RJ9, "max", "(II)I"⟩
abbrev cJ9_min_7cf53 : ByteArray := prog_13_method_69_code
def yJ9_min_7cf53 : MethodName := ⟨RJ9, "min", "(II)I"⟩
def RL : String := "NorthCurtainsLaw"
abbrev cL_law : ByteArray := code
def yL_law : MethodName := ⟨RL, "law", "([I)Z"⟩
abbrev vwCl : List vw_C := [(RX0, TX0, 6), (RX1, TX1, 1), (RX2, TX2, 10), (RX3, TX3, 5), (RX4, TX4, 7), (RX5, TX5, 2), (RX6, TX6, 9), (RX7, TX7, 5), (RX8, TX8, 4), (RX9, TX9, 17), (RX10, TX10, 46)]
end
section
/-! numbers: every int on the abstract stack is iI of a whole number, every long lI of one -/
def iI (z : Int) : Int32 := Int32.ofInt z
def lI (z : Int) : Int64 := Int64.ofInt z
abbrev vI (z : Int) : Value := .int (iI z)
abbrev vL (z : Int) : Value := .long (lI z)
abbrev InR (z : Int) : Prop := -2147483648 ≤ z ∧ z ≤ 2147483647
abbrev InL (z : Int) : Prop := -9223372036854775808 ≤ z ∧ z ≤ 9223372036854775807
theorem InR.l {z : Int} (h : InR z) : InL z := by unfold InR at h; unfold InL; omega
theorem iI_toInt {z : Int} (h : InR z) : (iI z).toInt = z := by
  unfold InR at h
  exact Int32.toInt_ofInt_of_le (by omega) (by omega)
theorem lI_toInt {z : Int} (h : InL z) : (lI z).toInt = z := by
  unfold InL at h
  exact Int64.toInt_ofInt_of_le (by omega) (by omega)
theorem iI_of (x : Int32) : iI x.toInt = x := Int32.ofInt_toInt x
theorem iI_in (x : Int32) : InR x.toInt := by
  have h1 := Int32.le_toInt x
  have h2 := Int32.toInt_lt x
  unfold InR
  omega
theorem iI_add (a b : Int) : iI a + iI b = iI (a + b) := (Int32.ofInt_add a b).symm
theorem iI_sub (a b : Int) : iI a - iI b = iI (a - b) := (Int32.ofInt_sub a b).symm
theorem iI_mul (a b : Int) : iI a * iI b = iI (a * b) := (Int32.ofInt_mul a b).symm
theorem iI_neg (a : Int) : - iI a = iI (-a) := (Int32.ofInt_neg a).symm
theorem lI_add (a b : Int) : lI a + lI b = lI (a + b) := (Int64.ofInt_add a b).symm
theorem lI_sub (a b : Int) : lI a - lI b = lI (a - b) := (Int64.ofInt_sub a b).symm
theorem lI_mul (a b : Int) : lI a * lI b = lI (a * b) := (Int64.ofInt_mul a b).symm
theorem iI_lt {a b : Int} (ha : InR a) (hb : InR b) : iI a < iI b ↔ a < b := by
  rw [Int32.lt_iff_toInt_lt, iI_toInt ha, iI_toInt hb]
theorem iI_le {a b : Int} (ha : InR a) (hb : InR b) : iI a ≤ iI b ↔ a ≤ b := by
  rw [Int32.le_iff_toInt_le, iI_toInt ha, iI_toInt hb]
theorem iI_eq {a b : Int} (ha : InR a) (hb : InR b) : iI a = iI b ↔ a = b := by
  rw [← Int32.toInt_inj, iI_toInt ha, iI_toInt hb]
theorem lI_lt {a b : Int} (ha : InL a) (hb : InL b) : lI a < lI b ↔ a < b := by
  rw [Int64.lt_iff_toInt_lt, lI_toInt ha, lI_toInt hb]
theorem lI_eq {a b : Int} (ha : InL a) (hb : InL b) : lI a = lI b ↔ a = b := by
  rw [← Int64.toInt_inj, lI_toInt ha, lI_toInt hb]
theorem iI_0 : iI 0 = 0 := rfl
theorem iI_l {a : Int} (ha : InR a) : (iI a).toInt64 = lI a := by
  rw [← Int64.toInt_inj, Int32.toInt_toInt64, iI_toInt ha, lI_toInt ha.l]
theorem lI_i (a : Int) : (lI a).toInt32 = iI a := Int64.toInt32_ofInt
theorem iI_div {a b : Int} (ha : InR a) (hb : InR b) (h : InR (a.tdiv b)) : iI a / iI b = iI (a.tdiv b) := by
  rw [← Int32.toInt_inj, Int32.toInt_div, iI_toInt ha, iI_toInt hb, iI_toInt h]
  unfold InR at h
  exact Int.bmod_eq_of_le (by omega) (by omega)
theorem lI_div {a b : Int} (ha : InL a) (hb : InL b) (h : InL (a.tdiv b)) : lI a / lI b = lI (a.tdiv b) := by
  rw [← Int64.toInt_inj, Int64.toInt_div, lI_toInt ha, lI_toInt hb, lI_toInt h]
  unfold InL at h
  exact Int.bmod_eq_of_le (by omega) (by omega)
theorem vp_in_iI {z : Int} {n : Nat} (h0 : 0 ≤ z) (h1 : z < n) (hn : n < 2 ^ 31) : vp_in (iI z) n := by
  rw [vp_in_iff, iI_toInt (by unfold InR; omega)]
  exact ⟨h0, h1⟩
theorem iI_nat {z : Int} (h0 : 0 ≤ z) (h : InR z) : (iI z).toNatClampNeg = z.toNat := by
  have h2 : (iI z).toNatClampNeg = (iI z).toInt.toNat := rfl
  rw [h2, iI_toInt h]

/-! the tables' words that a call keeps -/
def TB : List Cond := lw_tbl.filter goodWord
theorem TB_in {w : Cond} (h : w ∈ TB) : w ∈ lw_tbl := (List.mem_filter.mp h).1
theorem TB_good {y : MethodName} {cc : ByteArray} {n : Nat} {ret : Option FieldType} (h : Cond.code y cc n ret ∈ TB) : GoodIn TB (Cond.code y cc n ret :: TB) := by
  intro w hw
  have hm : w ∈ TB := (List.mem_cons.mp hw).elim (fun e => e ▸ h) id
  exact ⟨hm, good_of_word (List.mem_filter.mp hm).2⟩
/-! the abstract heap: what is at an address -/
abbrev AH : Type := Nat → Option va_E
def ah_up (h : AH) (q : Nat) (e : va_E) : AH := fun x => if x = q then some e else h x
def Hold (D : va_G) (A : Nat → Prop) (h : AH) (H : Heap) : Prop := ∃ ws : va_W, va_P D vwCl ws H ∧ va_D A ws ∧ ∀ (q : Nat) (e : va_E), h q = some e ↔ ∃ k : Nat, ws[k]? = some (q, e)
theorem Hold.set {D : va_G} {A : Nat → Prop} {h : AH} {ws : va_W} (hD : va_D A ws) (hh : ∀ (q : Nat) (e : va_E), h q = some e ↔ ∃ k : Nat, ws[k]? = some (q, e)) {k a : Nat} {e0 e1 : va_E} (hk : ws[k]? = some (a, e0)) : ∀ (q : Nat) (e : va_E), ah_up h a e1 q = some e ↔ ∃ j : Nat, (ws.set k (a, e1))[j]? = some (q, e) := by
  have hlt : k < ws.length := (List.getElem?_eq_some_iff.mp hk).1
  intro q e
  unfold ah_up
  constructor
  · intro hq
    split at hq
    · next h1 =>
      subst h1
      cases hq
      exact ⟨k, by simp [List.getElem?_set, hlt]⟩
    · next h1 =>
      obtain ⟨j, hj⟩ := (hh q e).mp hq
      refine ⟨j, ?_⟩
      have hne : ¬ k = j := fun e2 => by
        subst e2
        rw [hk] at hj
        cases hj
        exact h1 rfl
      simp [List.getElem?_set, hne, hj]
  · intro ⟨j, hj⟩
    by_cases hjk : k = j
    · subst hjk
      simp [List.getElem?_set, hlt] at hj
      simp [hj.1.symm, hj.2]
    · have hj2 : ws[j]? = some (q, e) := by simpa [List.getElem?_set, hjk] using hj
      have hne : ¬ q = a := fun e2 => hjk (hD.1 k j _ _ hk hj2 e2.symm)
      rw [if_neg hne]
      exact (hh q e).mpr ⟨j, hj2⟩
theorem Hold.push {D : va_G} {A : Nat → Prop} {h : AH} {ws : va_W} {a : Nat} {e1 : va_E} (hD : va_D A (ws ++ [(a, e1)])) (hh : ∀ (q : Nat) (e : va_E), h q = some e ↔ ∃ k : Nat, ws[k]? = some (q, e)) : h a = none ∧ ∀ (q : Nat) (e : va_E), ah_up h a e1 q = some e ↔ ∃ j : Nat, (ws ++ [(a, e1)])[j]? = some (q, e) := by
  have hlast : (ws ++ [(a, e1)])[ws.length]? = some (a, e1) := by simp
  have key : ∀ (e : va_E) (k : Nat), ¬ ws[k]? = some (a, e) := fun e k hk => by
    have hlt : k < ws.length := (List.getElem?_eq_some_iff.mp hk).1
    have h2 : (ws ++ [(a, e1)])[k]? = some (a, e) := by rw [List.getElem?_append_left hlt]; exact hk
    have := hD.1 k ws.length _ _ h2 hlast rfl
    omega
  refine ⟨?_, fun q e => ?_⟩
  · cases hq : h a with
    | none => rfl
    | some e =>
      obtain ⟨k, hk⟩ := (hh a e).mp hq
      exact absurd hk (key e k)
  · unfold ah_up
    constructor
    · intro hq
      split at hq
      · next h1 =>
        subst h1
        cases hq
        exact ⟨ws.length, hlast⟩
      · obtain ⟨j, hj⟩ := (hh q e).mp hq
        exact ⟨j, by rw [List.getElem?_append_left (List.getElem?_eq_some_iff.mp hj).1]; exact hj⟩
    · intro ⟨j, hj⟩
      by_cases hl : j < ws.length
      · rw [List.getElem?_append_left hl] at hj
        have hne : ¬ q = a := fun e2 => key e j (e2 ▸ hj)
        rw [if_neg hne]
        exact (hh q e).mpr ⟨j, hj⟩
      · rw [List.getElem?_append_right (by omega)] at hj
        have hz : j - ws.length < 1 := (List.getElem?_eq_some_iff.mp hj).1
        rw [show j - ws.length = 0 by omega] at hj
        cases hj
        rw [if_pos rfl]
theorem Hold.weaken {D : va_G} {A B : Nat → Prop} {h : AH} {H : Heap} (x : Hold D A h H) (hAB : ∀ q, h q ≠ none → A q → B q) : Hold D B h H := by
  obtain ⟨ws, hP, hD, hh⟩ := x
  exact ⟨ws, hP, hD.weaken (fun k q hk ha => hAB q.1 (by rw [(hh q.1 q.2).mpr ⟨k, hk⟩]; exact fun z => by cases z) ha), hh⟩
theorem Hold.dom {D : va_G} {A : Nat → Prop} {h : AH} {H : Heap} (x : Hold D A h H) {q : Nat} (hq : h q ≠ none) : A q ∧ q < H.size := by
  obtain ⟨ws, hP, hD, hh⟩ := x
  cases he : h q with
  | none => exact absurd he hq
  | some e =>
    obtain ⟨k, hk⟩ := (hh q e).mp he
    exact ⟨hD.2 k _ hk, (hP k _ hk).lt⟩
/-- which cells a method that owns h may change -/
def Fr (h : AH) (sz : Nat) : Nat → Prop := fun q => h q ≠ none ∨ sz ≤ q
/-! what stands in every state: nest mates' links, castable pairs, arrays' classes, the two static rows -/
def tysA (G : Nat → ClassId) : List (ClassId × FieldType) := [(G 0, .int), (G 1, .object RX7), (G 2, .object RX3), (G 3, .object RX8), (G 4, .object RX5), (G 5, .object RX2), (G 6, .object RX0)]
def glO : List String := [RX7, RX3, RX8, RX5, RX2, RX0]
def glM : List (String × Nat × MethodName) := [(RX9, 48, yX1_init), (RX6, 39, yX2_init), (RX1, 28, yX9_sine), (RX1, 34, yX9_cosine), (RX1, 74, yX9_tangent)]
def glC : List (String × String) := [(RX0, RX3), (RX4, RX3), (RX4, RX0)]
def glN : List (String × String) := [(RX3, RX0), (RX3, RX4), (RX0, RX4)]
def tabS (z : Int) : Int := ([0, 17, 35, 52, 70, 87, 105, 122, 139, 156, 174, 191, 208, 225, 242, 259, 276, 292, 309, 326, 342, 358, 375, 391, 407, 423, 438, 454, 469, 485, 500, 515, 530, 545, 559, 574, 588, 602, 616, 629, 643, 656, 669, 682, 695, 707, 719, 731, 743, 755, 766, 777, 788, 799, 809, 819, 829, 839, 848, 857, 866, 875, 883, 891, 899, 906, 914, 921, 927, 934, 940, 946, 951, 956, 961, 966, 970, 974, 978, 982, 985, 988, 990, 993, 995, 996, 998, 999, 999, 1000, 1000] : List Int).getD z.toNat 0
def tabT (z : Int) : Int := ([0, 17, 35, 52, 70, 87, 105, 123, 141, 158, 176, 194, 213, 231, 249, 268, 287, 306, 325, 344, 364, 384, 404, 424, 445, 466, 488, 510, 532, 554, 577, 601, 625, 649, 675, 700, 727, 754, 781, 810, 839, 869, 900, 933, 966, 1000, 1036, 1072, 1111, 1150, 1192, 1235, 1280, 1327, 1376, 1428, 1483, 1540, 1600, 1664, 1732, 1804, 1881, 1963, 2050, 2145, 2246, 2356, 2475, 2605, 2747, 2904, 3078, 3271, 3487, 3732, 4011, 4331, 4705, 5145, 5671, 6314, 7115, 8144, 9514, 11430, 14301, 19081, 28636, 57290] : List Int).getD z.toNat 0
abbrev EV : Type := va_G × (Nat → ClassId) × Nat × Nat
def Gl (E : EV) (A : Nat → Prop) (U : State) (H : Heap) : Prop :=
  (∀ w ∈ glM, va_Nw (.methodLinkNest w.1 w.2.1 w.2.2 RX9) U) ∧ (∀ w ∈ glC, va_Nw (.castable w.1 w.2) U) ∧ (∀ w ∈ glN, va_Nc w.1 w.2 U) ∧ (∀ w ∈ glO, va_AO w U) ∧
  va_Z RX9 "SINES" "[I" (.ref E.2.2.1) A U H ∧ va_T .int E.2.2.1 91 (fun j => vI (tabS (j : Int))) A U H ∧ va_Z RX9 "TANGENTS" "[I" (.ref E.2.2.2) A U H ∧ va_T .int E.2.2.2 90 (fun j => vI (tabT (j : Int))) A U H
theorem Gl.warm {E : EV} {A : Nat → Prop} {s U : State} {H : Heap} (hW : s.WarmedH U.vm) (h : Gl E A s H) : Gl E A U H := by
  obtain ⟨h1, h2, h3, h4, h5, h6, h7, h8⟩ := h
  exact ⟨fun w hw => va_Nw.warmM hW (h1 w hw), fun w hw => va_Nw.warmC hW (h2 w hw), fun w hw => (h3 w hw).moved hW.alike, fun w hw => va_AO.moved hW.alike (h4 w hw), h5.moved hW.alike, h6.moved hW.alike, h7.moved hW.alike, h8.moved hW.alike⟩
theorem Gl.same {E : EV} {A : Nat → Prop} {s U : State} {H : Heap} (hv : s.vm = U.vm) (h : Gl E A s H) : Gl E A U H := by
  obtain ⟨h1, h2, h3, h4, h5, h6, h7, h8⟩ := h
  have ha : s.vm.Alike U.vm := hv ▸ Vm.Alike.refl s.vm
  exact ⟨fun w hw => va_Nw.same rfl hv (h1 w hw), fun w hw => va_Nw.same rfl hv (h2 w hw), fun w hw => (h3 w hw).moved ha, fun w hw => va_AO.moved ha (h4 w hw), h5.moved ha, h6.moved ha, h7.moved ha, h8.moved ha⟩
theorem Gl.kept {E : EV} {A B : Nat → Prop} {U : State} {H H1 : Heap} (hq : ∀ a : Nat, a < H.size → ¬ A a → H1[a]? = H[a]?) (hAB : ∀ q, B q → A q) (h : Gl E A U H) : Gl E B U H1 := by
  obtain ⟨h1, h2, h3, h4, h5, h6, h7, h8⟩ := h
  exact ⟨h1, h2, h3, h4, (h5.kept hq).narrow hAB, (h6.kept hq).narrow hAB, (h7.kept hq).narrow hAB, (h8.kept hq).narrow hAB⟩
/-! a method's end: the answer r, the heap h' -/
def QC (E : EV) (A : Nat → Prop) (Q : Option Value → AH → Prop) : Array Value → State → Outcome → State → Prop := fun _ st o t =>
  (∃ (r : Option Value) (h' : AH), o = .returned r ∧ Q r h' ∧ Hold E.1 A h' t.heap ∧ va_K E.1 vwCl (tysA E.2.1) t) ∧ va_F A st t
def rmD (d mc ms : Nat) : Room := { frames := d, cells := mc, slots := ms, locals := 64 * d }
/-- what is known within a method of class own, code cc, at the heap h -/
def Cx (E : EV) (own : String) (cc : ByteArray) (nL : Nat) (ret : Option FieldType) (mn : String) (kc ks : Nat) (L : List (Nat × Value)) (h : AH) (p : Program) (s : State) (m : MethodId) (args : Array Value) (meth : Method) (c : Code) (H : Heap) (locs : List Loc) (cells slots mc ms : Nat) (A : Nat → Prop) (ls : Array Slot) : Prop :=
  p.tables.exec = Jvm.exec ∧ c.code = cc ∧ meth.sig.returnType = ret ∧ c.maxLocals = nL ∧ s.vm.findClass own = some m.cls ∧ meth.name = mn ∧ meth.locks = false ∧ (∀ w ∈ TB, w.before args s = true) ∧ va_K E.1 vwCl (tysA E.2.1) s ∧ Gl E A s s.heap ∧ (∀ q : Nat, s.heap.size ≤ q → A q) ∧ Hold E.1 A h H ∧ va_S A s.heap H locs ∧ lv_has ls nL L ∧ cells + kc ≤ mc ∧ slots + ks ≤ ms
/-- from pc with locals L, stack st, heap h the method comes to its end with Q; kc cells and ks slots may yet be made, d frames opened -/
def Ev (E : EV) (own : String) (cc : ByteArray) (nL : Nat) (ret : Option FieldType) (mn : String) (Q : Option Value → AH → Prop) (d kc ks : Nat) (pc : Nat) (L : List (Nat × Value)) (st : List Value) (h : AH) : Prop :=
  ∀ (p : Program) (l : Launch) (e : Env) (s : State) (m : MethodId) (args : Array Value) (below : List Frame) (meth : Method) (c : Code) (H : Heap) (locs : List Loc) (cells slots mc ms : Nat) (A : Nat → Prop) (ls : Array Slot),
    Cx E own cc nL ret mn kc ks L h p s m args meth c H locs cells slots mc ms A ls → W p l e (rmD d mc ms) s m args below meth c H locs cells slots (MQ below (QC E A Q) args s mc ms A) (F0 m pc ls st)
/-- a method's contract -/
def CM (E : EV) (y : MethodName) (cc : ByteArray) (nL : Nat) (ret : Option FieldType) (d kc ks : Nat) (av : List Value) (h : AH) (Q : Option Value → AH → Prop) : Prop :=
  ∀ (l : Launch) (sz : Nat), Met l y (Cond.code y cc nL ret :: TB) (rmD d kc ks) (va_Pc av (fun U => U.heap.size = sz ∧ va_K E.1 vwCl (tysA E.2.1) U ∧ Gl E (Fr h sz) U U.heap ∧ Hold E.1 (Fr h sz) h U.heap)) (QC E (Fr h sz) Q) kc ks (Fr h sz)
theorem CM.of {E : EV} {y : MethodName} {cc : ByteArray} {nL : Nat} {ret : Option FieldType} {d kc ks : Nat} {av : List Value} {h : AH} {Q : Option Value → AH → Prop} (hy : plainName y.cls = true) (hn : (lg_sl av).length ≤ nL) {L : List (Nat × Value)} (hL : lv_args 0 av = L)
    (k : Ev E y.cls cc nL ret y.name Q d kc ks 0 L [] h) : CM E y cc nL ret d kc ks av h Q := by
  intro l sz
  refine Met.ofW (cc := cc) (maxL := nL) (ret := ret) hy rfl ?_
  intro p e s m args below meth c s₁ B hml hv
  obtain ⟨rfl, hsz, hK, hG, hH⟩ := hv
  subst hsz
  subst hL
  have hl := lv_entry av (n := nL) hn
  rw [lg_entry_eq]
  generalize (lg_sl av ++ List.replicate (nL - (lg_sl av).length) Slot.unset).toArray = ls at hl ⊢
  exact k p l e s m _ below meth c s.heap [] 0 0 kc ks (Fr h s.heap.size) ls ⟨B.exec, B.bytes, B.returns, hml, findClass_of_methodNamed B.named, (name_of_methodNamed B.named B.method).1, B.notSynchronized, fun w hw => atoms_spec (ws := Cond.code y cc nL ret :: TB) B.pre w (List.mem_cons_of_mem _ hw), hK, hG, fun q hq => Or.inr hq, hH, va_S.rf, hl, by omega, by omega⟩
end
section
section RULES
variable {E : EV} {own : String} {cc : ByteArray} {nL : Nat} {ret : Option FieldType} {mn : String} {Q : Option Value → AH → Prop} {d kc ks pc : Nat} {L : List (Nat × Value)} {st : List Value} {h : AH}

theorem ev_iconst {n : Int} (hd : decode cc pc = .ok (.iconst n, 1)) (k : Ev E own cc nL ret mn Q d kc ks (pc + 1) L (vI n :: st) h) : Ev E own cc nL ret mn Q d kc ks pc L (st) h := by
  intro p l e s m args below meth c H locs cells slots mc ms A ls hC
  refine lv_iconst hC.1 hC.2.1 hd rfl ?_
  exact k p l e s m args below meth c H locs cells slots mc ms A ls hC

theorem ev_bipush {n : Int} (hd : decode cc pc = .ok (.bipush n, 2)) (hn : (Int8.ofInt n).toInt32 = iI n) (k : Ev E own cc nL ret mn Q d kc ks (pc + 2) L (vI n :: st) h) : Ev E own cc nL ret mn Q d kc ks pc L (st) h := by
  intro p l e s m args below meth c H locs cells slots mc ms A ls hC
  refine lv_bipush hC.1 hC.2.1 hd hn ?_
  exact k p l e s m args below meth c H locs cells slots mc ms A ls hC

theorem ev_sipush {n : Int} (hd : decode cc pc = .ok (.sipush n, 3)) (hn : (Int16.ofInt n).toInt32 = iI n) (k : Ev E own cc nL ret mn Q d kc ks (pc + 3) L (vI n :: st) h) : Ev E own cc nL ret mn Q d kc ks pc L (st) h := by
  intro p l e s m args below meth c H locs cells slots mc ms A ls hC
  refine lv_sipush hC.1 hC.2.1 hd hn ?_
  exact k p l e s m args below meth c H locs cells slots mc ms A ls hC

theorem ev_lconst {n : Fin 2} {z : Int} (hd : decode cc pc = .ok (.lconst n, 1)) (hn : Int64.ofNat (n : Nat) = lI z) (k : Ev E own cc nL ret mn Q d kc ks (pc + 1) L (vL z :: st) h) : Ev E own cc nL ret mn Q d kc ks pc L (st) h := by
  intro p l e s m args below meth c H locs cells slots mc ms A ls hC
  refine lv_lconst hC.1 hC.2.1 hd hn ?_
  exact k p l e s m args below meth c H locs cells slots mc ms A ls hC

theorem ev_dconst1  (hd : decode cc pc = .ok (.dconst 1, 1)) (k : Ev E own cc nL ret mn Q d kc ks (pc + 1) L (.double 0x3ff0000000000000 :: st) h) : Ev E own cc nL ret mn Q d kc ks pc L (st) h := by
  intro p l e s m args below meth c H locs cells slots mc ms A ls hC
  refine lv_dconst1 hC.1 hC.2.1 hd  ?_
  exact k p l e s m args below meth c H locs cells slots mc ms A ls hC

theorem ev_null  (hd : decode cc pc = .ok (.aconst_null, 1)) (k : Ev E own cc nL ret mn Q d kc ks (pc + 1) L (.null :: st) h) : Ev E own cc nL ret mn Q d kc ks pc L (st) h := by
  intro p l e s m args below meth c H locs cells slots mc ms A ls hC
  refine lv_null hC.1 hC.2.1 hd  ?_
  exact k p l e s m args below meth c H locs cells slots mc ms A ls hC

theorem ev_ldc {i : Nat} {v : Int32} {z : Int} (hd : decode cc pc = .ok (.ldc i, 2)) (hw : Cond.constant own i v ∈ TB) (hz : v = iI z) (k : Ev E own cc nL ret mn Q d kc ks (pc + 2) L (vI z :: st) h) : Ev E own cc nL ret mn Q d kc ks pc L (st) h := by
  intro p l e s m args below meth c H locs cells slots mc ms A ls hC
  refine lv_ldc hC.1 hC.2.1 hC.2.2.2.2.1 (hC.2.2.2.2.2.2.2.1 _ hw) hd ?_
  subst hz
  exact k p l e s m args below meth c H locs cells slots mc ms A ls hC

theorem ev_ldcw {i : Nat} {v : Int32} {z : Int} (hd : decode cc pc = .ok (.ldc_w i, 3)) (hw : Cond.constant own i v ∈ TB) (hz : v = iI z) (k : Ev E own cc nL ret mn Q d kc ks (pc + 3) L (vI z :: st) h) : Ev E own cc nL ret mn Q d kc ks pc L (st) h := by
  intro p l e s m args below meth c H locs cells slots mc ms A ls hC
  refine lv_ldcw hC.1 hC.2.1 hC.2.2.2.2.1 (hC.2.2.2.2.2.2.2.1 _ hw) hd ?_
  subst hz
  exact k p l e s m args below meth c H locs cells slots mc ms A ls hC

theorem ev_ldc2 {i : Nat} {v : Int64} {z : Int} (hd : decode cc pc = .ok (.ldc2_w i, 3)) (hw : Cond.constantLong own i v ∈ TB) (hz : v = lI z) (k : Ev E own cc nL ret mn Q d kc ks (pc + 3) L (vL z :: st) h) : Ev E own cc nL ret mn Q d kc ks pc L (st) h := by
  intro p l e s m args below meth c H locs cells slots mc ms A ls hC
  refine lv_ldc2 hC.1 hC.2.1 hC.2.2.2.2.1 (hC.2.2.2.2.2.2.2.1 _ hw) hd ?_
  subst hz
  exact k p l e s m args below meth c H locs cells slots mc ms A ls hC

theorem ev_ldc2d {i : Nat} {v : UInt64} (hd : decode cc pc = .ok (.ldc2_w i, 3)) (hw : Cond.constantDouble own i v ∈ TB) (k : Ev E own cc nL ret mn Q d kc ks (pc + 3) L (.double v :: st) h) : Ev E own cc nL ret mn Q d kc ks pc L (st) h := by
  intro p l e s m args below meth c H locs cells slots mc ms A ls hC
  refine lv_ldc2d hC.1 hC.2.1 hC.2.2.2.2.1 (hC.2.2.2.2.2.2.2.1 _ hw) hd ?_
  exact k p l e s m args below meth c H locs cells slots mc ms A ls hC

theorem ev_iload_n {f : Fin 4} {x : Int32} (j : Nat) (hj : L[j]? = some ((f : Nat), .int x)) (hd : decode cc pc = .ok (.iload_n f, 1)) (k : Ev E own cc nL ret mn Q d kc ks (pc + 1) L (.int x :: st) h) : Ev E own cc nL ret mn Q d kc ks pc L (st) h := by
  intro p l e s m args below meth c H locs cells slots mc ms A ls hC
  refine lv_iload_n hC.1 hC.2.1 hd rfl (lv_at hC.2.2.2.2.2.2.2.2.2.2.2.2.2.1 j hj) ?_
  exact k p l e s m args below meth c H locs cells slots mc ms A ls hC

theorem ev_iload {i : Nat} {x : Int32} (j : Nat) (hj : L[j]? = some (i, .int x)) (hd : decode cc pc = .ok (.iload i, 2)) (k : Ev E own cc nL ret mn Q d kc ks (pc + 2) L (.int x :: st) h) : Ev E own cc nL ret mn Q d kc ks pc L (st) h := by
  intro p l e s m args below meth c H locs cells slots mc ms A ls hC
  refine lv_iload hC.1 hC.2.1 hd (lv_at hC.2.2.2.2.2.2.2.2.2.2.2.2.2.1 j hj) ?_
  exact k p l e s m args below meth c H locs cells slots mc ms A ls hC

theorem ev_lload_n {f : Fin 4} {x : Int64} (j : Nat) (hj : L[j]? = some ((f : Nat), .long x)) (hd : decode cc pc = .ok (.lload_n f, 1)) (k : Ev E own cc nL ret mn Q d kc ks (pc + 1) L (.long x :: st) h) : Ev E own cc nL ret mn Q d kc ks pc L (st) h := by
  intro p l e s m args below meth c H locs cells slots mc ms A ls hC
  refine lv_lload_n hC.1 hC.2.1 hd rfl (lv_at hC.2.2.2.2.2.2.2.2.2.2.2.2.2.1 j hj) ?_
  exact k p l e s m args below meth c H locs cells slots mc ms A ls hC

theorem ev_lload {i : Nat} {x : Int64} (j : Nat) (hj : L[j]? = some (i, .long x)) (hd : decode cc pc = .ok (.lload i, 2)) (k : Ev E own cc nL ret mn Q d kc ks (pc + 2) L (.long x :: st) h) : Ev E own cc nL ret mn Q d kc ks pc L (st) h := by
  intro p l e s m args below meth c H locs cells slots mc ms A ls hC
  refine lv_lload hC.1 hC.2.1 hd (lv_at hC.2.2.2.2.2.2.2.2.2.2.2.2.2.1 j hj) ?_
  exact k p l e s m args below meth c H locs cells slots mc ms A ls hC

theorem ev_dload_n {f : Fin 4} {x : UInt64} (j : Nat) (hj : L[j]? = some ((f : Nat), .double x)) (hd : decode cc pc = .ok (.dload_n f, 1)) (k : Ev E own cc nL ret mn Q d kc ks (pc + 1) L (.double x :: st) h) : Ev E own cc nL ret mn Q d kc ks pc L (st) h := by
  intro p l e s m args below meth c H locs cells slots mc ms A ls hC
  refine lv_dload_n hC.1 hC.2.1 hd rfl (lv_at hC.2.2.2.2.2.2.2.2.2.2.2.2.2.1 j hj) ?_
  exact k p l e s m args below meth c H locs cells slots mc ms A ls hC

theorem ev_dload {i : Nat} {x : UInt64} (j : Nat) (hj : L[j]? = some (i, .double x)) (hd : decode cc pc = .ok (.dload i, 2)) (k : Ev E own cc nL ret mn Q d kc ks (pc + 2) L (.double x :: st) h) : Ev E own cc nL ret mn Q d kc ks pc L (st) h := by
  intro p l e s m args below meth c H locs cells slots mc ms A ls hC
  refine lv_dload hC.1 hC.2.1 hd (lv_at hC.2.2.2.2.2.2.2.2.2.2.2.2.2.1 j hj) ?_
  exact k p l e s m args below meth c H locs cells slots mc ms A ls hC

theorem ev_aload_n {f : Fin 4} {x : Nat} (j : Nat) (hj : L[j]? = some ((f : Nat), .ref x)) (hd : decode cc pc = .ok (.aload_n f, 1)) (k : Ev E own cc nL ret mn Q d kc ks (pc + 1) L (.ref x :: st) h) : Ev E own cc nL ret mn Q d kc ks pc L (st) h := by
  intro p l e s m args below meth c H locs cells slots mc ms A ls hC
  refine lv_aload_n hC.1 hC.2.1 hd rfl (lv_at hC.2.2.2.2.2.2.2.2.2.2.2.2.2.1 j hj) ?_
  exact k p l e s m args below meth c H locs cells slots mc ms A ls hC

theorem ev_aload {i : Nat} {x : Nat} (j : Nat) (hj : L[j]? = some (i, .ref x)) (hd : decode cc pc = .ok (.aload i, 2)) (k : Ev E own cc nL ret mn Q d kc ks (pc + 2) L (.ref x :: st) h) : Ev E own cc nL ret mn Q d kc ks pc L (st) h := by
  intro p l e s m args below meth c H locs cells slots mc ms A ls hC
  refine lv_aload hC.1 hC.2.1 hd (lv_at hC.2.2.2.2.2.2.2.2.2.2.2.2.2.1 j hj) ?_
  exact k p l e s m args below meth c H locs cells slots mc ms A ls hC

theorem ev_aload_nN {f : Fin 4} (j : Nat) (hj : L[j]? = some ((f : Nat), .null)) (hd : decode cc pc = .ok (.aload_n f, 1)) (k : Ev E own cc nL ret mn Q d kc ks (pc + 1) L (.null :: st) h) : Ev E own cc nL ret mn Q d kc ks pc L (st) h := by
  intro p l e s m args below meth c H locs cells slots mc ms A ls hC
  refine lv_aload_nN hC.1 hC.2.1 hd rfl (lv_at hC.2.2.2.2.2.2.2.2.2.2.2.2.2.1 j hj) ?_
  exact k p l e s m args below meth c H locs cells slots mc ms A ls hC

theorem ev_aloadN {i : Nat} (j : Nat) (hj : L[j]? = some (i, .null)) (hd : decode cc pc = .ok (.aload i, 2)) (k : Ev E own cc nL ret mn Q d kc ks (pc + 2) L (.null :: st) h) : Ev E own cc nL ret mn Q d kc ks pc L (st) h := by
  intro p l e s m args below meth c H locs cells slots mc ms A ls hC
  refine lv_aloadN hC.1 hC.2.1 hd (lv_at hC.2.2.2.2.2.2.2.2.2.2.2.2.2.1 j hj) ?_
  exact k p l e s m args below meth c H locs cells slots mc ms A ls hC

theorem Cx.locs' {L' : List (Nat × Value)} {p : Program} {s : State} {m : MethodId} {args : Array Value} {meth : Method} {c : Code} {H : Heap} {locs : List Loc} {cells slots mc ms : Nat} {A : Nat → Prop} {ls ls' : Array Slot} (hC : Cx E own cc nL ret mn kc ks L h p s m args meth c H locs cells slots mc ms A ls) (hl : lv_has ls' nL L') : Cx E own cc nL ret mn kc ks L' h p s m args meth c H locs cells slots mc ms A ls' := by
  obtain ⟨a1, a2, a3, a4, a5, a6, a7, a8, a9, a10, a11, a12, a13, a14, a15, a16⟩ := hC
  exact ⟨a1, a2, a3, a4, a5, a6, a7, a8, a9, a10, a11, a12, a13, hl, a15, a16⟩
theorem Cx.heap' {h' : AH} {p : Program} {s : State} {m : MethodId} {args : Array Value} {meth : Method} {c : Code} {H H' : Heap} {locs locs' : List Loc} {cells slots mc ms : Nat} {A : Nat → Prop} {ls : Array Slot} (hC : Cx E own cc nL ret mn kc ks L h p s m args meth c H locs cells slots mc ms A ls) (hH : Hold E.1 A h' H') (hS : va_S A s.heap H' locs') : Cx E own cc nL ret mn kc ks L h' p s m args meth c H' locs' cells slots mc ms A ls := by
  obtain ⟨a1, a2, a3, a4, a5, a6, a7, a8, a9, a10, a11, a12, a13, a14, a15, a16⟩ := hC
  exact ⟨a1, a2, a3, a4, a5, a6, a7, a8, a9, a10, a11, hH, hS, a14, a15, a16⟩
theorem Cx.grow' {kc' ks' kc0 ks0 : Nat} {h' : AH} {p : Program} {s : State} {m : MethodId} {args : Array Value} {meth : Method} {c : Code} {H H' : Heap} {locs locs' : List Loc} {cells slots mc ms : Nat} {A : Nat → Prop} {ls : Array Slot} (hC : Cx E own cc nL ret mn kc0 ks0 L h p s m args meth c H locs cells slots mc ms A ls) (h1 : kc + kc' = kc0) (h2 : ks + ks' = ks0) (hH : Hold E.1 A h' H') (hS : va_S A s.heap H' locs') : Cx E own cc nL ret mn kc ks L h' p s m args meth c H' locs' (cells + kc') (slots + ks') mc ms A ls := by
  obtain ⟨a1, a2, a3, a4, a5, a6, a7, a8, a9, a10, a11, a12, a13, a14, a15, a16⟩ := hC
  exact ⟨a1, a2, a3, a4, a5, a6, a7, a8, a9, a10, a11, hH, hS, a14, by omega, by omega⟩

theorem ev_istore_n {f : Fin 4} {x : Int32} {L' : List (Nat × Value)} (hd : decode cc pc = .ok (.istore_n f, 1)) (hn : (f : Nat) < nL) (hl : ((f : Nat), (.int x : Value)) :: L.filter (fun q => !(q.1 == (f : Nat)) && !(q.1 + 1 == (f : Nat) && q.2.category == 2)) = L') (k : Ev E own cc nL ret mn Q d kc ks (pc + 1) L' (st) h) : Ev E own cc nL ret mn Q d kc ks pc L (.int x :: st) h := by
  intro p l e s m args below meth c H locs cells slots mc ms A ls hC
  refine lv_istore_n hC.1 hC.2.1 hd rfl hC.2.2.2.2.2.2.2.2.2.2.2.2.2.1 hn hl (fun ls' hl' => ?_)
  exact k p l e s m args below meth c H locs cells slots mc ms A ls' (hC.locs' hl')

theorem ev_istore {i : Nat} {x : Int32} {L' : List (Nat × Value)} (hd : decode cc pc = .ok (.istore i, 2)) (hn : i < nL) (hl : (i, (.int x : Value)) :: L.filter (fun q => !(q.1 == i) && !(q.1 + 1 == i && q.2.category == 2)) = L') (k : Ev E own cc nL ret mn Q d kc ks (pc + 2) L' (st) h) : Ev E own cc nL ret mn Q d kc ks pc L (.int x :: st) h := by
  intro p l e s m args below meth c H locs cells slots mc ms A ls hC
  refine lv_istore hC.1 hC.2.1 hd hC.2.2.2.2.2.2.2.2.2.2.2.2.2.1 hn hl (fun ls' hl' => ?_)
  exact k p l e s m args below meth c H locs cells slots mc ms A ls' (hC.locs' hl')

theorem ev_lstore_n {f : Fin 4} {x : Int64} {L' : List (Nat × Value)} (hd : decode cc pc = .ok (.lstore_n f, 1)) (hn : (f : Nat) + 1 < nL) (hl : ((f : Nat), (.long x : Value)) :: L.filter (fun q => !(q.1 == (f : Nat)) && (!(q.1 == (f : Nat) + 1) && !(q.1 + 1 == (f : Nat) && q.2.category == 2))) = L') (k : Ev E own cc nL ret mn Q d kc ks (pc + 1) L' (st) h) : Ev E own cc nL ret mn Q d kc ks pc L (.long x :: st) h := by
  intro p l e s m args below meth c H locs cells slots mc ms A ls hC
  refine lv_lstore_n hC.1 hC.2.1 hd rfl hC.2.2.2.2.2.2.2.2.2.2.2.2.2.1 hn hl (fun ls' hl' => ?_)
  exact k p l e s m args below meth c H locs cells slots mc ms A ls' (hC.locs' hl')

theorem ev_lstore {i : Nat} {x : Int64} {L' : List (Nat × Value)} (hd : decode cc pc = .ok (.lstore i, 2)) (hn : i + 1 < nL) (hl : (i, (.long x : Value)) :: L.filter (fun q => !(q.1 == i) && (!(q.1 == i + 1) && !(q.1 + 1 == i && q.2.category == 2))) = L') (k : Ev E own cc nL ret mn Q d kc ks (pc + 2) L' (st) h) : Ev E own cc nL ret mn Q d kc ks pc L (.long x :: st) h := by
  intro p l e s m args below meth c H locs cells slots mc ms A ls hC
  refine lv_lstore hC.1 hC.2.1 hd hC.2.2.2.2.2.2.2.2.2.2.2.2.2.1 hn hl (fun ls' hl' => ?_)
  exact k p l e s m args below meth c H locs cells slots mc ms A ls' (hC.locs' hl')

theorem ev_dstore_n {f : Fin 4} {x : UInt64} {L' : List (Nat × Value)} (hd : decode cc pc = .ok (.dstore_n f, 1)) (hn : (f : Nat) + 1 < nL) (hl : ((f : Nat), (.double x : Value)) :: L.filter (fun q => !(q.1 == (f : Nat)) && (!(q.1 == (f : Nat) + 1) && !(q.1 + 1 == (f : Nat) && q.2.category == 2))) = L') (k : Ev E own cc nL ret mn Q d kc ks (pc + 1) L' (st) h) : Ev E own cc nL ret mn Q d kc ks pc L (.double x :: st) h := by
  intro p l e s m args below meth c H locs cells slots mc ms A ls hC
  refine lv_dstore_n hC.1 hC.2.1 hd rfl hC.2.2.2.2.2.2.2.2.2.2.2.2.2.1 hn hl (fun ls' hl' => ?_)
  exact k p l e s m args below meth c H locs cells slots mc ms A ls' (hC.locs' hl')

theorem ev_dstore {i : Nat} {x : UInt64} {L' : List (Nat × Value)} (hd : decode cc pc = .ok (.dstore i, 2)) (hn : i + 1 < nL) (hl : (i, (.double x : Value)) :: L.filter (fun q => !(q.1 == i) && (!(q.1 == i + 1) && !(q.1 + 1 == i && q.2.category == 2))) = L') (k : Ev E own cc nL ret mn Q d kc ks (pc + 2) L' (st) h) : Ev E own cc nL ret mn Q d kc ks pc L (.double x :: st) h := by
  intro p l e s m args below meth c H locs cells slots mc ms A ls hC
  refine lv_dstore hC.1 hC.2.1 hd hC.2.2.2.2.2.2.2.2.2.2.2.2.2.1 hn hl (fun ls' hl' => ?_)
  exact k p l e s m args below meth c H locs cells slots mc ms A ls' (hC.locs' hl')

theorem ev_astore_n {f : Fin 4} {x : Nat} {L' : List (Nat × Value)} (hd : decode cc pc = .ok (.astore_n f, 1)) (hn : (f : Nat) < nL) (hl : ((f : Nat), (.ref x : Value)) :: L.filter (fun q => !(q.1 == (f : Nat)) && !(q.1 + 1 == (f : Nat) && q.2.category == 2)) = L') (k : Ev E own cc nL ret mn Q d kc ks (pc + 1) L' (st) h) : Ev E own cc nL ret mn Q d kc ks pc L (.ref x :: st) h := by
  intro p l e s m args below meth c H locs cells slots mc ms A ls hC
  refine lv_astore_n hC.1 hC.2.1 hd rfl hC.2.2.2.2.2.2.2.2.2.2.2.2.2.1 hn hl (fun ls' hl' => ?_)
  exact k p l e s m args below meth c H locs cells slots mc ms A ls' (hC.locs' hl')

theorem ev_astore {i : Nat} {x : Nat} {L' : List (Nat × Value)} (hd : decode cc pc = .ok (.astore i, 2)) (hn : i < nL) (hl : (i, (.ref x : Value)) :: L.filter (fun q => !(q.1 == i) && !(q.1 + 1 == i && q.2.category == 2)) = L') (k : Ev E own cc nL ret mn Q d kc ks (pc + 2) L' (st) h) : Ev E own cc nL ret mn Q d kc ks pc L (.ref x :: st) h := by
  intro p l e s m args below meth c H locs cells slots mc ms A ls hC
  refine lv_astore hC.1 hC.2.1 hd hC.2.2.2.2.2.2.2.2.2.2.2.2.2.1 hn hl (fun ls' hl' => ?_)
  exact k p l e s m args below meth c H locs cells slots mc ms A ls' (hC.locs' hl')

theorem ev_astore_nN {f : Fin 4}  {L' : List (Nat × Value)} (hd : decode cc pc = .ok (.astore_n f, 1)) (hn : (f : Nat) < nL) (hl : ((f : Nat), (.null : Value)) :: L.filter (fun q => !(q.1 == (f : Nat)) && !(q.1 + 1 == (f : Nat) && q.2.category == 2)) = L') (k : Ev E own cc nL ret mn Q d kc ks (pc + 1) L' (st) h) : Ev E own cc nL ret mn Q d kc ks pc L (.null :: st) h := by
  intro p l e s m args below meth c H locs cells slots mc ms A ls hC
  refine lv_astore_nN hC.1 hC.2.1 hd rfl hC.2.2.2.2.2.2.2.2.2.2.2.2.2.1 hn hl (fun ls' hl' => ?_)
  exact k p l e s m args below meth c H locs cells slots mc ms A ls' (hC.locs' hl')

theorem ev_astoreN {i : Nat}  {L' : List (Nat × Value)} (hd : decode cc pc = .ok (.astore i, 2)) (hn : i < nL) (hl : (i, (.null : Value)) :: L.filter (fun q => !(q.1 == i) && !(q.1 + 1 == i && q.2.category == 2)) = L') (k : Ev E own cc nL ret mn Q d kc ks (pc + 2) L' (st) h) : Ev E own cc nL ret mn Q d kc ks pc L (.null :: st) h := by
  intro p l e s m args below meth c H locs cells slots mc ms A ls hC
  refine lv_astoreN hC.1 hC.2.1 hd hC.2.2.2.2.2.2.2.2.2.2.2.2.2.1 hn hl (fun ls' hl' => ?_)
  exact k p l e s m args below meth c H locs cells slots mc ms A ls' (hC.locs' hl')

theorem ev_iinc {i : Nat} {n a : Int} {L' : List (Nat × Value)} (j : Nat) (hj : L[j]? = some (i, vI a)) (hd : decode cc pc = .ok (.iinc i n, 3)) (hn : i < nL) (hl : (i, vI (a + n)) :: L.filter (fun q => !(q.1 == i) && !(q.1 + 1 == i && q.2.category == 2)) = L') (k : Ev E own cc nL ret mn Q d kc ks (pc + 3) L' (st) h) : Ev E own cc nL ret mn Q d kc ks pc L (st) h := by
  intro p l e s m args below meth c H locs cells slots mc ms A ls hC
  refine lv_iinc (v := iI (a + n)) hC.1 hC.2.1 hd hC.2.2.2.2.2.2.2.2.2.2.2.2.2.1 (k := j) hj (iI_add a n) hn hl (fun ls' hl' => ?_)
  exact k p l e s m args below meth c H locs cells slots mc ms A ls' (hC.locs' hl')

theorem ev_iadd {a b : Int} (hd : decode cc pc = .ok (.iadd, 1)) (k : Ev E own cc nL ret mn Q d kc ks (pc + 1) L (vI (a + b) :: st) h) : Ev E own cc nL ret mn Q d kc ks pc L (vI b :: vI a :: st) h := by
  intro p l e s m args below meth c H locs cells slots mc ms A ls hC
  refine lv_iadd hC.1 hC.2.1 hd  ?_
  rw [iI_add]
  exact k p l e s m args below meth c H locs cells slots mc ms A ls hC

theorem ev_isub {a b : Int} (hd : decode cc pc = .ok (.isub, 1)) (k : Ev E own cc nL ret mn Q d kc ks (pc + 1) L (vI (a - b) :: st) h) : Ev E own cc nL ret mn Q d kc ks pc L (vI b :: vI a :: st) h := by
  intro p l e s m args below meth c H locs cells slots mc ms A ls hC
  refine lv_isub hC.1 hC.2.1 hd  ?_
  rw [iI_sub]
  exact k p l e s m args below meth c H locs cells slots mc ms A ls hC

theorem ev_imul {a b : Int} (hd : decode cc pc = .ok (.imul, 1)) (k : Ev E own cc nL ret mn Q d kc ks (pc + 1) L (vI (a * b) :: st) h) : Ev E own cc nL ret mn Q d kc ks pc L (vI b :: vI a :: st) h := by
  intro p l e s m args below meth c H locs cells slots mc ms A ls hC
  refine lv_imul hC.1 hC.2.1 hd  ?_
  rw [iI_mul]
  exact k p l e s m args below meth c H locs cells slots mc ms A ls hC

theorem ev_ineg {a : Int} (hd : decode cc pc = .ok (.ineg, 1)) (k : Ev E own cc nL ret mn Q d kc ks (pc + 1) L (vI (-a) :: st) h) : Ev E own cc nL ret mn Q d kc ks pc L (vI a :: st) h := by
  intro p l e s m args below meth c H locs cells slots mc ms A ls hC
  refine lv_ineg hC.1 hC.2.1 hd  ?_
  rw [iI_neg]
  exact k p l e s m args below meth c H locs cells slots mc ms A ls hC

theorem ev_ladd {a b : Int} (hd : decode cc pc = .ok (.ladd, 1)) (k : Ev E own cc nL ret mn Q d kc ks (pc + 1) L (vL (a + b) :: st) h) : Ev E own cc nL ret mn Q d kc ks pc L (vL b :: vL a :: st) h := by
  intro p l e s m args below meth c H locs cells slots mc ms A ls hC
  refine lv_ladd hC.1 hC.2.1 hd  ?_
  rw [lI_add]
  exact k p l e s m args below meth c H locs cells slots mc ms A ls hC

theorem ev_lsub {a b : Int} (hd : decode cc pc = .ok (.lsub, 1)) (k : Ev E own cc nL ret mn Q d kc ks (pc + 1) L (vL (a - b) :: st) h) : Ev E own cc nL ret mn Q d kc ks pc L (vL b :: vL a :: st) h := by
  intro p l e s m args below meth c H locs cells slots mc ms A ls hC
  refine lv_lsub hC.1 hC.2.1 hd  ?_
  rw [lI_sub]
  exact k p l e s m args below meth c H locs cells slots mc ms A ls hC

theorem ev_lmul {a b : Int} (hd : decode cc pc = .ok (.lmul, 1)) (k : Ev E own cc nL ret mn Q d kc ks (pc + 1) L (vL (a * b) :: st) h) : Ev E own cc nL ret mn Q d kc ks pc L (vL b :: vL a :: st) h := by
  intro p l e s m args below meth c H locs cells slots mc ms A ls hC
  refine lv_lmul hC.1 hC.2.1 hd  ?_
  rw [lI_mul]
  exact k p l e s m args below meth c H locs cells slots mc ms A ls hC

def andZ (a b : Int) : Int := (iI a &&& iI b).toInt
def orZ (a b : Int) : Int := (iI a ||| iI b).toInt
def xorZ (a b : Int) : Int := (iI a ^^^ iI b).toInt
def shlZ (a b : Int) : Int := (iI a <<< (iI b &&& 31)).toInt
def shrZ (a b : Int) : Int := (iI a >>> (iI b &&& 31)).toInt
def i2sZ (a : Int) : Int := (iI a).toInt16.toInt32.toInt
def d2iZ (x : UInt64) : Int := (FP.d2i x).toInt
def updZ (f : Int → Int) (z w : Int) : Int → Int := fun j => if j = z then w else f j
def updR (f : Int → Option Nat) (z : Int) (w : Option Nat) : Int → Option Nat := fun j => if j = z then w else f j

theorem ev_iand {a b : Int} (hd : decode cc pc = .ok (.iand, 1)) (k : Ev E own cc nL ret mn Q d kc ks (pc + 1) L (vI (andZ a b) :: st) h) : Ev E own cc nL ret mn Q d kc ks pc L (vI b :: vI a :: st) h := by
  intro p l e s m args below meth c H locs cells slots mc ms A ls hC
  refine lv_iand hC.1 hC.2.1 hd ?_
  have k2 := k p l e s m args below meth c H locs cells slots mc ms A ls hC
  dsimp only [andZ, vI] at k2
  rw [iI_of] at k2
  exact k2

theorem ev_ior {a b : Int} (hd : decode cc pc = .ok (.ior, 1)) (k : Ev E own cc nL ret mn Q d kc ks (pc + 1) L (vI (orZ a b) :: st) h) : Ev E own cc nL ret mn Q d kc ks pc L (vI b :: vI a :: st) h := by
  intro p l e s m args below meth c H locs cells slots mc ms A ls hC
  refine lv_ior hC.1 hC.2.1 hd ?_
  have k2 := k p l e s m args below meth c H locs cells slots mc ms A ls hC
  dsimp only [orZ, vI] at k2
  rw [iI_of] at k2
  exact k2

theorem ev_ixor {a b : Int} (hd : decode cc pc = .ok (.ixor, 1)) (k : Ev E own cc nL ret mn Q d kc ks (pc + 1) L (vI (xorZ a b) :: st) h) : Ev E own cc nL ret mn Q d kc ks pc L (vI b :: vI a :: st) h := by
  intro p l e s m args below meth c H locs cells slots mc ms A ls hC
  refine lv_ixor hC.1 hC.2.1 hd ?_
  have k2 := k p l e s m args below meth c H locs cells slots mc ms A ls hC
  dsimp only [xorZ, vI] at k2
  rw [iI_of] at k2
  exact k2

theorem ev_ishl {a b : Int} (hd : decode cc pc = .ok (.ishl, 1)) (k : Ev E own cc nL ret mn Q d kc ks (pc + 1) L (vI (shlZ a b) :: st) h) : Ev E own cc nL ret mn Q d kc ks pc L (vI b :: vI a :: st) h := by
  intro p l e s m args below meth c H locs cells slots mc ms A ls hC
  refine lv_ishl hC.1 hC.2.1 hd ?_
  have k2 := k p l e s m args below meth c H locs cells slots mc ms A ls hC
  dsimp only [shlZ, vI] at k2
  rw [iI_of] at k2
  exact k2

theorem ev_ishr {a b : Int} (hd : decode cc pc = .ok (.ishr, 1)) (k : Ev E own cc nL ret mn Q d kc ks (pc + 1) L (vI (shrZ a b) :: st) h) : Ev E own cc nL ret mn Q d kc ks pc L (vI b :: vI a :: st) h := by
  intro p l e s m args below meth c H locs cells slots mc ms A ls hC
  refine lv_ishr hC.1 hC.2.1 hd ?_
  have k2 := k p l e s m args below meth c H locs cells slots mc ms A ls hC
  dsimp only [shrZ, vI] at k2
  rw [iI_of] at k2
  exact k2

theorem ev_idiv {a b : Int} (hd : decode cc pc = .ok (.idiv, 1)) (ha : InR a) (hb : InR b) (h0 : b ≠ 0) (hr : InR (a.tdiv b)) (k : Ev E own cc nL ret mn Q d kc ks (pc + 1) L (vI (a.tdiv b) :: st) h) : Ev E own cc nL ret mn Q d kc ks pc L (vI b :: vI a :: st) h := by
  intro p l e s m args below meth c H locs cells slots mc ms A ls hC
  refine lv_idiv hC.1 hC.2.1 hd (fun z => h0 ((iI_eq hb (by decide)).mp z)) ?_
  rw [iI_div ha hb hr]
  exact k p l e s m args below meth c H locs cells slots mc ms A ls hC

theorem ev_ldiv {a b : Int} (hd : decode cc pc = .ok (.ldiv, 1)) (ha : InL a) (hb : InL b) (h0 : b ≠ 0) (hr : InL (a.tdiv b)) (k : Ev E own cc nL ret mn Q d kc ks (pc + 1) L (vL (a.tdiv b) :: st) h) : Ev E own cc nL ret mn Q d kc ks pc L (vL b :: vL a :: st) h := by
  intro p l e s m args below meth c H locs cells slots mc ms A ls hC
  refine lv_ldiv hC.1 hC.2.1 hd (fun z => h0 ((lI_eq hb (by decide)).mp z)) ?_
  rw [lI_div ha hb hr]
  exact k p l e s m args below meth c H locs cells slots mc ms A ls hC

theorem ev_irem {a b : Int} (hd : decode cc pc = .ok (.irem, 1)) (ha : InR a) (hb : InR b) (h0 : b ≠ 0) (hr : InR (a.tdiv b)) (k : Ev E own cc nL ret mn Q d kc ks (pc + 1) L (vI (a.tmod b) :: st) h) : Ev E own cc nL ret mn Q d kc ks pc L (vI b :: vI a :: st) h := by
  intro p l e s m args below meth c H locs cells slots mc ms A ls hC
  refine lv_irem hC.1 hC.2.1 hd (fun z => h0 ((iI_eq hb (by decide)).mp z)) ?_
  have e1 : a.tmod b = a - a.tdiv b * b := by have := Int.tdiv_mul_add_tmod a b; omega
  rw [iI_div ha hb hr, iI_mul, iI_sub, ← e1]
  exact k p l e s m args below meth c H locs cells slots mc ms A ls hC

theorem ev_i2l {a : Int} (hd : decode cc pc = .ok (.i2l, 1)) (ha : InR a) (k : Ev E own cc nL ret mn Q d kc ks (pc + 1) L (vL a :: st) h) : Ev E own cc nL ret mn Q d kc ks pc L (vI a :: st) h := by
  intro p l e s m args below meth c H locs cells slots mc ms A ls hC
  refine lv_i2l hC.1 hC.2.1 hd (iI_l ha) ?_
  exact k p l e s m args below meth c H locs cells slots mc ms A ls hC

theorem ev_l2i {a : Int} (hd : decode cc pc = .ok (.l2i, 1)) (k : Ev E own cc nL ret mn Q d kc ks (pc + 1) L (vI a :: st) h) : Ev E own cc nL ret mn Q d kc ks pc L (vL a :: st) h := by
  intro p l e s m args below meth c H locs cells slots mc ms A ls hC
  refine lv_l2i hC.1 hC.2.1 hd (lI_i a) ?_
  exact k p l e s m args below meth c H locs cells slots mc ms A ls hC

theorem ev_i2s {a : Int} (hd : decode cc pc = .ok (.i2s, 1)) (k : Ev E own cc nL ret mn Q d kc ks (pc + 1) L (vI (i2sZ a) :: st) h) : Ev E own cc nL ret mn Q d kc ks pc L (vI a :: st) h := by
  intro p l e s m args below meth c H locs cells slots mc ms A ls hC
  refine lv_i2s hC.1 hC.2.1 hd (iI_of _).symm ?_
  exact k p l e s m args below meth c H locs cells slots mc ms A ls hC

theorem ev_dadd {x y : UInt64} (hd : decode cc pc = .ok (.dadd, 1)) (hn : vf_n64 (FP.dadd x y)) (k : Ev E own cc nL ret mn Q d kc ks (pc + 1) L (.double (FP.dadd x y) :: st) h) : Ev E own cc nL ret mn Q d kc ks pc L (.double y :: .double x :: st) h := by
  intro p l e s m args below meth c H locs cells slots mc ms A ls hC
  refine lv_dadd hC.1 hC.2.1 hd hn ?_
  exact k p l e s m args below meth c H locs cells slots mc ms A ls hC

theorem ev_dsub {x y : UInt64} (hd : decode cc pc = .ok (.dsub, 1)) (hn : vf_n64 (FP.dsub x y)) (k : Ev E own cc nL ret mn Q d kc ks (pc + 1) L (.double (FP.dsub x y) :: st) h) : Ev E own cc nL ret mn Q d kc ks pc L (.double y :: .double x :: st) h := by
  intro p l e s m args below meth c H locs cells slots mc ms A ls hC
  refine lv_dsub hC.1 hC.2.1 hd hn ?_
  exact k p l e s m args below meth c H locs cells slots mc ms A ls hC

theorem ev_dmul {x y : UInt64} (hd : decode cc pc = .ok (.dmul, 1)) (hn : vf_n64 (FP.dmul x y)) (k : Ev E own cc nL ret mn Q d kc ks (pc + 1) L (.double (FP.dmul x y) :: st) h) : Ev E own cc nL ret mn Q d kc ks pc L (.double y :: .double x :: st) h := by
  intro p l e s m args below meth c H locs cells slots mc ms A ls hC
  refine lv_dmul hC.1 hC.2.1 hd hn ?_
  exact k p l e s m args below meth c H locs cells slots mc ms A ls hC

theorem ev_ddiv {x y : UInt64} (hd : decode cc pc = .ok (.ddiv, 1)) (hn : vf_n64 (FP.ddiv x y)) (k : Ev E own cc nL ret mn Q d kc ks (pc + 1) L (.double (FP.ddiv x y) :: st) h) : Ev E own cc nL ret mn Q d kc ks pc L (.double y :: .double x :: st) h := by
  intro p l e s m args below meth c H locs cells slots mc ms A ls hC
  refine lv_ddiv hC.1 hC.2.1 hd hn ?_
  exact k p l e s m args below meth c H locs cells slots mc ms A ls hC

theorem ev_i2d {a : Int} (hd : decode cc pc = .ok (.i2d, 1)) (k : Ev E own cc nL ret mn Q d kc ks (pc + 1) L (.double (FP.i2d (iI a)) :: st) h) : Ev E own cc nL ret mn Q d kc ks pc L (vI a :: st) h := by
  intro p l e s m args below meth c H locs cells slots mc ms A ls hC
  refine lv_i2d hC.1 hC.2.1 hd  ?_
  exact k p l e s m args below meth c H locs cells slots mc ms A ls hC

theorem ev_d2i {x : UInt64} (hd : decode cc pc = .ok (.d2i, 1)) (k : Ev E own cc nL ret mn Q d kc ks (pc + 1) L (vI (d2iZ x) :: st) h) : Ev E own cc nL ret mn Q d kc ks pc L (.double x :: st) h := by
  intro p l e s m args below meth c H locs cells slots mc ms A ls hC
  refine lv_d2i hC.1 hC.2.1 hd ?_
  have k2 := k p l e s m args below meth c H locs cells slots mc ms A ls hC
  dsimp only [d2iZ, vI] at k2
  rw [iI_of] at k2
  exact k2

theorem ev_dup {v : Value} (hd : decode cc pc = .ok (.dup, 1)) (hv : v.category = 1) (k : Ev E own cc nL ret mn Q d kc ks (pc + 1) L (v :: v :: st) h) : Ev E own cc nL ret mn Q d kc ks pc L (v :: st) h := by
  intro p l e s m args below meth c H locs cells slots mc ms A ls hC
  refine lv_dup hC.1 hC.2.1 hd hv ?_
  exact k p l e s m args below meth c H locs cells slots mc ms A ls hC

theorem ev_pop {v : Value} (hd : decode cc pc = .ok (.pop, 1)) (hv : v.category = 1) (k : Ev E own cc nL ret mn Q d kc ks (pc + 1) L (st) h) : Ev E own cc nL ret mn Q d kc ks pc L (v :: st) h := by
  intro p l e s m args below meth c H locs cells slots mc ms A ls hC
  refine lv_pop hC.1 hC.2.1 hd hv ?_
  exact k p l e s m args below meth c H locs cells slots mc ms A ls hC

theorem ev_dup2 {v w : Value} (hd : decode cc pc = .ok (.dup2, 1)) (hv : v.category = 1) (hw : w.category = 1) (k : Ev E own cc nL ret mn Q d kc ks (pc + 1) L (v :: w :: v :: w :: st) h) : Ev E own cc nL ret mn Q d kc ks pc L (v :: w :: st) h := by
  intro p l e s m args below meth c H locs cells slots mc ms A ls hC
  refine lv_dup2_11 hC.1 hC.2.1 hd hv hw ?_
  exact k p l e s m args below meth c H locs cells slots mc ms A ls hC

theorem ev_if_eq {off : Int} {tgt : Nat} {a : Int} (hd : decode cc pc = .ok (.ifCond .eq off, 3)) (ha : InR a) (ht : (pc : Int) + off = (tgt : Int)) (kt : a = 0 → Ev E own cc nL ret mn Q d kc ks tgt L st h) (kf : ¬ (a = 0) → Ev E own cc nL ret mn Q d kc ks (pc + 3) L st h) : Ev E own cc nL ret mn Q d kc ks pc L (vI a :: st) h := by
  intro p l e s m args below meth c H locs cells slots mc ms A ls hC
  have e1 := (iI_eq ha (by decide) : _ ↔ a = 0)
  exact lv_if_eq hC.1 hC.2.1 hd ht (fun z => kt (e1.mp z) p l e s m args below meth c H locs cells slots mc ms A ls hC) (fun z => kf (fun y => z (e1.mpr y)) p l e s m args below meth c H locs cells slots mc ms A ls hC)

theorem ev_if_ne {off : Int} {tgt : Nat} {a : Int} (hd : decode cc pc = .ok (.ifCond .ne off, 3)) (ha : InR a) (ht : (pc : Int) + off = (tgt : Int)) (kt : a ≠ 0 → Ev E own cc nL ret mn Q d kc ks tgt L st h) (kf : a = 0 → Ev E own cc nL ret mn Q d kc ks (pc + 3) L st h) : Ev E own cc nL ret mn Q d kc ks pc L (vI a :: st) h := by
  intro p l e s m args below meth c H locs cells slots mc ms A ls hC
  have e1 := (not_congr (iI_eq ha (by decide)) : _ ↔ a ≠ 0)
  exact lv_if_ne hC.1 hC.2.1 hd ht (fun z => kt (e1.mp z) p l e s m args below meth c H locs cells slots mc ms A ls hC) (fun z => kf ((iI_eq ha (by decide)).mp z) p l e s m args below meth c H locs cells slots mc ms A ls hC)

theorem ev_if_lt {off : Int} {tgt : Nat} {a : Int} (hd : decode cc pc = .ok (.ifCond .lt off, 3)) (ha : InR a) (ht : (pc : Int) + off = (tgt : Int)) (kt : a < 0 → Ev E own cc nL ret mn Q d kc ks tgt L st h) (kf : ¬ (a < 0) → Ev E own cc nL ret mn Q d kc ks (pc + 3) L st h) : Ev E own cc nL ret mn Q d kc ks pc L (vI a :: st) h := by
  intro p l e s m args below meth c H locs cells slots mc ms A ls hC
  have e1 := (iI_lt ha (by decide) : _ ↔ a < 0)
  exact lv_if_lt hC.1 hC.2.1 hd ht (fun z => kt (e1.mp z) p l e s m args below meth c H locs cells slots mc ms A ls hC) (fun z => kf (fun y => z (e1.mpr y)) p l e s m args below meth c H locs cells slots mc ms A ls hC)

theorem ev_if_ge {off : Int} {tgt : Nat} {a : Int} (hd : decode cc pc = .ok (.ifCond .ge off, 3)) (ha : InR a) (ht : (pc : Int) + off = (tgt : Int)) (kt : 0 ≤ a → Ev E own cc nL ret mn Q d kc ks tgt L st h) (kf : ¬ (0 ≤ a) → Ev E own cc nL ret mn Q d kc ks (pc + 3) L st h) : Ev E own cc nL ret mn Q d kc ks pc L (vI a :: st) h := by
  intro p l e s m args below meth c H locs cells slots mc ms A ls hC
  have e1 := (iI_le (by decide) ha : _ ↔ 0 ≤ a)
  exact lv_if_ge hC.1 hC.2.1 hd ht (fun z => kt (e1.mp z) p l e s m args below meth c H locs cells slots mc ms A ls hC) (fun z => kf (fun y => z (e1.mpr y)) p l e s m args below meth c H locs cells slots mc ms A ls hC)

theorem ev_if_gt {off : Int} {tgt : Nat} {a : Int} (hd : decode cc pc = .ok (.ifCond .gt off, 3)) (ha : InR a) (ht : (pc : Int) + off = (tgt : Int)) (kt : 0 < a → Ev E own cc nL ret mn Q d kc ks tgt L st h) (kf : ¬ (0 < a) → Ev E own cc nL ret mn Q d kc ks (pc + 3) L st h) : Ev E own cc nL ret mn Q d kc ks pc L (vI a :: st) h := by
  intro p l e s m args below meth c H locs cells slots mc ms A ls hC
  have e1 := (iI_lt (by decide) ha : _ ↔ 0 < a)
  exact lv_if_gt hC.1 hC.2.1 hd ht (fun z => kt (e1.mp z) p l e s m args below meth c H locs cells slots mc ms A ls hC) (fun z => kf (fun y => z (e1.mpr y)) p l e s m args below meth c H locs cells slots mc ms A ls hC)

theorem ev_if_le {off : Int} {tgt : Nat} {a : Int} (hd : decode cc pc = .ok (.ifCond .le off, 3)) (ha : InR a) (ht : (pc : Int) + off = (tgt : Int)) (kt : a ≤ 0 → Ev E own cc nL ret mn Q d kc ks tgt L st h) (kf : ¬ (a ≤ 0) → Ev E own cc nL ret mn Q d kc ks (pc + 3) L st h) : Ev E own cc nL ret mn Q d kc ks pc L (vI a :: st) h := by
  intro p l e s m args below meth c H locs cells slots mc ms A ls hC
  have e1 := (iI_le ha (by decide) : _ ↔ a ≤ 0)
  exact lv_if_le hC.1 hC.2.1 hd ht (fun z => kt (e1.mp z) p l e s m args below meth c H locs cells slots mc ms A ls hC) (fun z => kf (fun y => z (e1.mpr y)) p l e s m args below meth c H locs cells slots mc ms A ls hC)

theorem ev_icmp_eq {off : Int} {tgt : Nat} {a b : Int} (hd : decode cc pc = .ok (.if_icmp .eq off, 3)) (ha : InR a) (hb : InR b) (ht : (pc : Int) + off = (tgt : Int)) (kt : a = b → Ev E own cc nL ret mn Q d kc ks tgt L st h) (kf : ¬ (a = b) → Ev E own cc nL ret mn Q d kc ks (pc + 3) L st h) : Ev E own cc nL ret mn Q d kc ks pc L (vI b :: vI a :: st) h := by
  intro p l e s m args below meth c H locs cells slots mc ms A ls hC
  have e1 := (iI_eq ha hb : _ ↔ a = b)
  exact lv_icmp_eq hC.1 hC.2.1 hd ht (fun z => kt (e1.mp z) p l e s m args below meth c H locs cells slots mc ms A ls hC) (fun z => kf (fun y => z (e1.mpr y)) p l e s m args below meth c H locs cells slots mc ms A ls hC)

theorem ev_icmp_ne {off : Int} {tgt : Nat} {a b : Int} (hd : decode cc pc = .ok (.if_icmp .ne off, 3)) (ha : InR a) (hb : InR b) (ht : (pc : Int) + off = (tgt : Int)) (kt : a ≠ b → Ev E own cc nL ret mn Q d kc ks tgt L st h) (kf : a = b → Ev E own cc nL ret mn Q d kc ks (pc + 3) L st h) : Ev E own cc nL ret mn Q d kc ks pc L (vI b :: vI a :: st) h := by
  intro p l e s m args below meth c H locs cells slots mc ms A ls hC
  have e1 := (not_congr (iI_eq ha hb) : _ ↔ a ≠ b)
  exact lv_icmp_ne hC.1 hC.2.1 hd ht (fun z => kt (e1.mp z) p l e s m args below meth c H locs cells slots mc ms A ls hC) (fun z => kf ((iI_eq ha hb).mp z) p l e s m args below meth c H locs cells slots mc ms A ls hC)

theorem ev_icmp_lt {off : Int} {tgt : Nat} {a b : Int} (hd : decode cc pc = .ok (.if_icmp .lt off, 3)) (ha : InR a) (hb : InR b) (ht : (pc : Int) + off = (tgt : Int)) (kt : a < b → Ev E own cc nL ret mn Q d kc ks tgt L st h) (kf : ¬ (a < b) → Ev E own cc nL ret mn Q d kc ks (pc + 3) L st h) : Ev E own cc nL ret mn Q d kc ks pc L (vI b :: vI a :: st) h := by
  intro p l e s m args below meth c H locs cells slots mc ms A ls hC
  have e1 := (iI_lt ha hb : _ ↔ a < b)
  exact lv_icmp_lt hC.1 hC.2.1 hd ht (fun z => kt (e1.mp z) p l e s m args below meth c H locs cells slots mc ms A ls hC) (fun z => kf (fun y => z (e1.mpr y)) p l e s m args below meth c H locs cells slots mc ms A ls hC)

theorem ev_icmp_ge {off : Int} {tgt : Nat} {a b : Int} (hd : decode cc pc = .ok (.if_icmp .ge off, 3)) (ha : InR a) (hb : InR b) (ht : (pc : Int) + off = (tgt : Int)) (kt : b ≤ a → Ev E own cc nL ret mn Q d kc ks tgt L st h) (kf : ¬ (b ≤ a) → Ev E own cc nL ret mn Q d kc ks (pc + 3) L st h) : Ev E own cc nL ret mn Q d kc ks pc L (vI b :: vI a :: st) h := by
  intro p l e s m args below meth c H locs cells slots mc ms A ls hC
  have e1 := (iI_le hb ha : _ ↔ b ≤ a)
  exact lv_icmp_ge hC.1 hC.2.1 hd ht (fun z => kt (e1.mp z) p l e s m args below meth c H locs cells slots mc ms A ls hC) (fun z => kf (fun y => z (e1.mpr y)) p l e s m args below meth c H locs cells slots mc ms A ls hC)

theorem ev_icmp_gt {off : Int} {tgt : Nat} {a b : Int} (hd : decode cc pc = .ok (.if_icmp .gt off, 3)) (ha : InR a) (hb : InR b) (ht : (pc : Int) + off = (tgt : Int)) (kt : b < a → Ev E own cc nL ret mn Q d kc ks tgt L st h) (kf : ¬ (b < a) → Ev E own cc nL ret mn Q d kc ks (pc + 3) L st h) : Ev E own cc nL ret mn Q d kc ks pc L (vI b :: vI a :: st) h := by
  intro p l e s m args below meth c H locs cells slots mc ms A ls hC
  have e1 := (iI_lt hb ha : _ ↔ b < a)
  exact lv_icmp_gt hC.1 hC.2.1 hd ht (fun z => kt (e1.mp z) p l e s m args below meth c H locs cells slots mc ms A ls hC) (fun z => kf (fun y => z (e1.mpr y)) p l e s m args below meth c H locs cells slots mc ms A ls hC)

theorem ev_icmp_le {off : Int} {tgt : Nat} {a b : Int} (hd : decode cc pc = .ok (.if_icmp .le off, 3)) (ha : InR a) (hb : InR b) (ht : (pc : Int) + off = (tgt : Int)) (kt : a ≤ b → Ev E own cc nL ret mn Q d kc ks tgt L st h) (kf : ¬ (a ≤ b) → Ev E own cc nL ret mn Q d kc ks (pc + 3) L st h) : Ev E own cc nL ret mn Q d kc ks pc L (vI b :: vI a :: st) h := by
  intro p l e s m args below meth c H locs cells slots mc ms A ls hC
  have e1 := (iI_le ha hb : _ ↔ a ≤ b)
  exact lv_icmp_le hC.1 hC.2.1 hd ht (fun z => kt (e1.mp z) p l e s m args below meth c H locs cells slots mc ms A ls hC) (fun z => kf (fun y => z (e1.mpr y)) p l e s m args below meth c H locs cells slots mc ms A ls hC)

theorem ev_goto {off : Int} {tgt : Nat} (hd : decode cc pc = .ok (.goto off, 3)) (ht : (pc : Int) + off = (tgt : Int)) (k : Ev E own cc nL ret mn Q d kc ks tgt L st h) : Ev E own cc nL ret mn Q d kc ks pc L st h := by
  intro p l e s m args below meth c H locs cells slots mc ms A ls hC
  exact lv_goto hC.1 hC.2.1 hd ht (k p l e s m args below meth c H locs cells slots mc ms A ls hC)
theorem ev_ifnull {off : Int} {x : Nat} (hd : decode cc pc = .ok (.ifnull off, 3)) (k : Ev E own cc nL ret mn Q d kc ks (pc + 3) L st h) : Ev E own cc nL ret mn Q d kc ks pc L (.ref x :: st) h := by
  intro p l e s m args below meth c H locs cells slots mc ms A ls hC
  exact lv_ifnull hC.1 hC.2.1 hd (k p l e s m args below meth c H locs cells slots mc ms A ls hC)
theorem ev_ifnullN {off : Int} {tgt : Nat} (hd : decode cc pc = .ok (.ifnull off, 3)) (ht : (pc : Int) + off = (tgt : Int)) (k : Ev E own cc nL ret mn Q d kc ks tgt L st h) : Ev E own cc nL ret mn Q d kc ks pc L (.null :: st) h := by
  intro p l e s m args below meth c H locs cells slots mc ms A ls hC
  exact lv_ifnullN hC.1 hC.2.1 hd ht (k p l e s m args below meth c H locs cells slots mc ms A ls hC)
theorem ev_ifnonnull {off : Int} {tgt x : Nat} (hd : decode cc pc = .ok (.ifnonnull off, 3)) (ht : (pc : Int) + off = (tgt : Int)) (k : Ev E own cc nL ret mn Q d kc ks tgt L st h) : Ev E own cc nL ret mn Q d kc ks pc L (.ref x :: st) h := by
  intro p l e s m args below meth c H locs cells slots mc ms A ls hC
  exact lv_ifnonnull hC.1 hC.2.1 hd ht (k p l e s m args below meth c H locs cells slots mc ms A ls hC)
theorem ev_ifnonnullN {off : Int} (hd : decode cc pc = .ok (.ifnonnull off, 3)) (k : Ev E own cc nL ret mn Q d kc ks (pc + 3) L st h) : Ev E own cc nL ret mn Q d kc ks pc L (.null :: st) h := by
  intro p l e s m args below meth c H locs cells slots mc ms A ls hC
  exact lv_ifnonnullN hC.1 hC.2.1 hd (k p l e s m args below meth c H locs cells slots mc ms A ls hC)

theorem lcmp_val {a b : Int} (ha : InL a) (hb : InL b) : (lg_cmp (lI a) (lI b)).toInt = if a < b then -1 else if a = b then 0 else 1 := by
  have c2 := lI_lt hb ha
  have c3 := lI_eq ha hb
  unfold lg_cmp
  by_cases q1 : a < b
  · rw [if_neg (fun z => by have := c2.mp z; omega), if_neg (fun z => by have := c3.mp z; omega), if_pos q1]; rfl
  · by_cases q2 : a = b
    · rw [if_neg (fun z => by have := c2.mp z; omega), if_pos (c3.mpr q2), if_neg q1, if_pos q2]; rfl
    · rw [if_pos (c2.mpr (by omega)), if_neg q1, if_neg q2]; rfl

theorem ev_lcmp_eq {off : Int} {tgt : Nat} {a b : Int} (hd : decode cc pc = .ok (.lcmp, 1)) (hd2 : decode cc (pc + 1) = .ok (.ifCond .eq off, 3)) (ha : InL a) (hb : InL b) (ht : ((pc + 1 : Nat) : Int) + off = (tgt : Int)) (kt : a = b → Ev E own cc nL ret mn Q d kc ks tgt L st h) (kf : ¬ (a = b) → Ev E own cc nL ret mn Q d kc ks (pc + 4) L st h) : Ev E own cc nL ret mn Q d kc ks pc L (vL b :: vL a :: st) h := by
  intro p l e s m args below meth c H locs cells slots mc ms A ls hC
  refine W.lcmp hC.1 hC.2.1 hd ?_
  have e1 := lcmp_val ha hb
  have e2 := iI_of (lg_cmp (lI a) (lI b))
  rw [e1] at e2
  rw [← e2]
  refine (ev_if_eq (E := E) (own := own) (nL := nL) (ret := ret) (mn := mn) (Q := Q) (d := d) (kc := kc) (ks := ks) (L := L) (st := st) (h := h) hd2 ?_ ht (fun z => kt ?_) (fun z => kf ?_)) p l e s m args below meth c H locs cells slots mc ms A ls hC
  · unfold InR; split <;> first | omega | (split <;> omega)
  · revert z; split <;> first | omega | (split <;> omega)
  · revert z; split <;> first | omega | (split <;> omega)

theorem ev_lcmp_ne {off : Int} {tgt : Nat} {a b : Int} (hd : decode cc pc = .ok (.lcmp, 1)) (hd2 : decode cc (pc + 1) = .ok (.ifCond .ne off, 3)) (ha : InL a) (hb : InL b) (ht : ((pc + 1 : Nat) : Int) + off = (tgt : Int)) (kt : a ≠ b → Ev E own cc nL ret mn Q d kc ks tgt L st h) (kf : a = b → Ev E own cc nL ret mn Q d kc ks (pc + 4) L st h) : Ev E own cc nL ret mn Q d kc ks pc L (vL b :: vL a :: st) h := by
  intro p l e s m args below meth c H locs cells slots mc ms A ls hC
  refine W.lcmp hC.1 hC.2.1 hd ?_
  have e1 := lcmp_val ha hb
  have e2 := iI_of (lg_cmp (lI a) (lI b))
  rw [e1] at e2
  rw [← e2]
  refine (ev_if_ne (E := E) (own := own) (nL := nL) (ret := ret) (mn := mn) (Q := Q) (d := d) (kc := kc) (ks := ks) (L := L) (st := st) (h := h) hd2 ?_ ht (fun z => kt ?_) (fun z => kf ?_)) p l e s m args below meth c H locs cells slots mc ms A ls hC
  · unfold InR; split <;> first | omega | (split <;> omega)
  · revert z; split <;> first | omega | (split <;> omega)
  · revert z; split <;> first | omega | (split <;> omega)

theorem ev_lcmp_lt {off : Int} {tgt : Nat} {a b : Int} (hd : decode cc pc = .ok (.lcmp, 1)) (hd2 : decode cc (pc + 1) = .ok (.ifCond .lt off, 3)) (ha : InL a) (hb : InL b) (ht : ((pc + 1 : Nat) : Int) + off = (tgt : Int)) (kt : a < b → Ev E own cc nL ret mn Q d kc ks tgt L st h) (kf : ¬ (a < b) → Ev E own cc nL ret mn Q d kc ks (pc + 4) L st h) : Ev E own cc nL ret mn Q d kc ks pc L (vL b :: vL a :: st) h := by
  intro p l e s m args below meth c H locs cells slots mc ms A ls hC
  refine W.lcmp hC.1 hC.2.1 hd ?_
  have e1 := lcmp_val ha hb
  have e2 := iI_of (lg_cmp (lI a) (lI b))
  rw [e1] at e2
  rw [← e2]
  refine (ev_if_lt (E := E) (own := own) (nL := nL) (ret := ret) (mn := mn) (Q := Q) (d := d) (kc := kc) (ks := ks) (L := L) (st := st) (h := h) hd2 ?_ ht (fun z => kt ?_) (fun z => kf ?_)) p l e s m args below meth c H locs cells slots mc ms A ls hC
  · unfold InR; split <;> first | omega | (split <;> omega)
  · revert z; split <;> first | omega | (split <;> omega)
  · revert z; split <;> first | omega | (split <;> omega)

theorem ev_lcmp_ge {off : Int} {tgt : Nat} {a b : Int} (hd : decode cc pc = .ok (.lcmp, 1)) (hd2 : decode cc (pc + 1) = .ok (.ifCond .ge off, 3)) (ha : InL a) (hb : InL b) (ht : ((pc + 1 : Nat) : Int) + off = (tgt : Int)) (kt : b ≤ a → Ev E own cc nL ret mn Q d kc ks tgt L st h) (kf : ¬ (b ≤ a) → Ev E own cc nL ret mn Q d kc ks (pc + 4) L st h) : Ev E own cc nL ret mn Q d kc ks pc L (vL b :: vL a :: st) h := by
  intro p l e s m args below meth c H locs cells slots mc ms A ls hC
  refine W.lcmp hC.1 hC.2.1 hd ?_
  have e1 := lcmp_val ha hb
  have e2 := iI_of (lg_cmp (lI a) (lI b))
  rw [e1] at e2
  rw [← e2]
  refine (ev_if_ge (E := E) (own := own) (nL := nL) (ret := ret) (mn := mn) (Q := Q) (d := d) (kc := kc) (ks := ks) (L := L) (st := st) (h := h) hd2 ?_ ht (fun z => kt ?_) (fun z => kf ?_)) p l e s m args below meth c H locs cells slots mc ms A ls hC
  · unfold InR; split <;> first | omega | (split <;> omega)
  · revert z; split <;> first | omega | (split <;> omega)
  · revert z; split <;> first | omega | (split <;> omega)

theorem ev_lcmp_gt {off : Int} {tgt : Nat} {a b : Int} (hd : decode cc pc = .ok (.lcmp, 1)) (hd2 : decode cc (pc + 1) = .ok (.ifCond .gt off, 3)) (ha : InL a) (hb : InL b) (ht : ((pc + 1 : Nat) : Int) + off = (tgt : Int)) (kt : b < a → Ev E own cc nL ret mn Q d kc ks tgt L st h) (kf : ¬ (b < a) → Ev E own cc nL ret mn Q d kc ks (pc + 4) L st h) : Ev E own cc nL ret mn Q d kc ks pc L (vL b :: vL a :: st) h := by
  intro p l e s m args below meth c H locs cells slots mc ms A ls hC
  refine W.lcmp hC.1 hC.2.1 hd ?_
  have e1 := lcmp_val ha hb
  have e2 := iI_of (lg_cmp (lI a) (lI b))
  rw [e1] at e2
  rw [← e2]
  refine (ev_if_gt (E := E) (own := own) (nL := nL) (ret := ret) (mn := mn) (Q := Q) (d := d) (kc := kc) (ks := ks) (L := L) (st := st) (h := h) hd2 ?_ ht (fun z => kt ?_) (fun z => kf ?_)) p l e s m args below meth c H locs cells slots mc ms A ls hC
  · unfold InR; split <;> first | omega | (split <;> omega)
  · revert z; split <;> first | omega | (split <;> omega)
  · revert z; split <;> first | omega | (split <;> omega)

theorem ev_lcmp_le {off : Int} {tgt : Nat} {a b : Int} (hd : decode cc pc = .ok (.lcmp, 1)) (hd2 : decode cc (pc + 1) = .ok (.ifCond .le off, 3)) (ha : InL a) (hb : InL b) (ht : ((pc + 1 : Nat) : Int) + off = (tgt : Int)) (kt : a ≤ b → Ev E own cc nL ret mn Q d kc ks tgt L st h) (kf : ¬ (a ≤ b) → Ev E own cc nL ret mn Q d kc ks (pc + 4) L st h) : Ev E own cc nL ret mn Q d kc ks pc L (vL b :: vL a :: st) h := by
  intro p l e s m args below meth c H locs cells slots mc ms A ls hC
  refine W.lcmp hC.1 hC.2.1 hd ?_
  have e1 := lcmp_val ha hb
  have e2 := iI_of (lg_cmp (lI a) (lI b))
  rw [e1] at e2
  rw [← e2]
  refine (ev_if_le (E := E) (own := own) (nL := nL) (ret := ret) (mn := mn) (Q := Q) (d := d) (kc := kc) (ks := ks) (L := L) (st := st) (h := h) hd2 ?_ ht (fun z => kt ?_) (fun z => kf ?_)) p l e s m args below meth c H locs cells slots mc ms A ls hC
  · unfold InR; split <;> first | omega | (split <;> omega)
  · revert z; split <;> first | omega | (split <;> omega)
  · revert z; split <;> first | omega | (split <;> omega)

theorem ev_tableOut {dflt lo hi a : Int} {offs : Array Int} {len tgt : Nat} (hd : decode cc pc = .ok (.tableswitch dflt lo hi offs, len)) (ha : InR a) (hx : a < lo ∨ hi < a) (ht : (pc : Int) + dflt = (tgt : Int)) (k : Ev E own cc nL ret mn Q d kc ks tgt L st h) : Ev E own cc nL ret mn Q d kc ks pc L (vI a :: st) h := by
  intro p l e s m args below meth c H locs cells slots mc ms A ls hC
  exact lv_tableOut hC.1 hC.2.1 hd (by rw [iI_toInt ha]; exact hx) ht (k p l e s m args below meth c H locs cells slots mc ms A ls hC)
theorem ev_tableIn {dflt lo hi a : Int} {offs : Array Int} {len tgt : Nat} {off : Int} (hd : decode cc pc = .ok (.tableswitch dflt lo hi offs, len)) (ha : InR a) (h1 : ¬ a < lo) (h2 : ¬ hi < a) (ho : offs[(a - lo).toNat]? = some off) (ht : (pc : Int) + off = (tgt : Int)) (k : Ev E own cc nL ret mn Q d kc ks tgt L st h) : Ev E own cc nL ret mn Q d kc ks pc L (vI a :: st) h := by
  intro p l e s m args below meth c H locs cells slots mc ms A ls hC
  exact lv_tableIn hC.1 hC.2.1 hd (by rw [iI_toInt ha]; exact h1) (by rw [iI_toInt ha]; exact h2) (by rw [iI_toInt ha]; exact ho) ht (k p l e s m args below meth c H locs cells slots mc ms A ls hC)

end RULES
end
section
section HEAP
variable {E : EV} {own : String} {cc : ByteArray} {nL : Nat} {ret : Option FieldType} {mn : String} {Q : Option Value → AH → Prop} {d kc ks pc : Nat} {L : List (Nat × Value)} {st : List Value} {h : AH}
abbrev arI (E : EV) (n : Nat) (f : Int → Int) : va_E := .inl (E.2.1 0, n, .inl (fun j => iI (f (j : Int))))
abbrev arR (E : EV) (t n : Nat) (f : Int → Option Nat) : va_E := .inl (E.2.1 t, n, .inr (.inr (.inr (.inr (fun j => f (j : Int))))))
abbrev ob (ci : Nat) (fs : List Value) : va_E := .inr (ci, fs)
theorem tysA_get {E : EV} {t : Nat} {ty : FieldType} (h : (tysA E.2.1)[t]? = some (E.2.1 t, ty)) : (tysA E.2.1)[t]? = some (E.2.1 t, ty) := h

theorem ev_get {q ci N idx k : Nat} {C : String} {T : u_T} {fs : List Value} {v : Value} (hin : ∀ w ∈ u_ws C T N, w ∈ TB) (hc : vwCl[ci]? = some (C, T, N)) (hk : k < N) (hlink : Cond.fieldLink own idx (T k).1 (T k).2.1 (T k).2.2.1 ∈ TB) (hd : decode cc pc = .ok (.getfield idx, 3)) (hq : h q = some (ob ci fs)) (hv : fs[k]? = some v) (kk : Ev E own cc nL ret mn Q d kc ks (pc + 3) L (v :: st) h) : Ev E own cc nL ret mn Q d kc ks pc L (.ref q :: st) h := by
  intro p l e s m args below meth c H locs cells slots mc ms A ls hC
  have hC0 := hC
  obtain ⟨hx, hb, hr, hml, hown, hnm, hlk, hts, hK, hG, hA, hH, hS, hl, hc1, hc2⟩ := hC
  obtain ⟨ws, hP, hD, hh⟩ := hH
  obtain ⟨k0, hk0⟩ := (hh q _).mp hq
  exact va_get hx hb hts hin hown hK hP k0 hk0 hc k hk (hts _ hlink) (fun _ h9 => h9) hv hd (kk p l e s m args below meth c H locs cells slots mc ms A ls hC0)

theorem ev_getS {q ci N idx k : Nat} {C : String} {T : u_T} {fs : List Value} {v : Value} {ref : String} (hin : ∀ w ∈ u_ws C T N, w ∈ TB) (hc : vwCl[ci]? = some (C, T, N)) (hk : k < N) (hlink : Cond.fieldLink own idx ref (T k).2.1 (T k).2.2.1 ∈ TB) (hsm : Cond.sameField ref (T k).1 (T k).2.1 (T k).2.2.1 ∈ TB) (hd : decode cc pc = .ok (.getfield idx, 3)) (hq : h q = some (ob ci fs)) (hv : fs[k]? = some v) (kk : Ev E own cc nL ret mn Q d kc ks (pc + 3) L (v :: st) h) : Ev E own cc nL ret mn Q d kc ks pc L (.ref q :: st) h := by
  intro p l e s m args below meth c H locs cells slots mc ms A ls hC
  have hC0 := hC
  obtain ⟨hx, hb, hr, hml, hown, hnm, hlk, hts, hK, hG, hA, hH, hS, hl, hc1, hc2⟩ := hC
  obtain ⟨ws, hP, hD, hh⟩ := hH
  obtain ⟨k0, hk0⟩ := (hh q _).mp hq
  exact va_get hx hb hts hin hown hK hP k0 hk0 hc k hk (hts _ hlink) (fun x9 h9 => u_same (hts _ hsm) x9 h9) hv hd (kk p l e s m args below meth c H locs cells slots mc ms A ls hC0)

theorem ev_put {q ci N idx k : Nat} {C : String} {T : u_T} {fs : List Value} {v : Value} (hin : ∀ w ∈ u_ws C T N, w ∈ TB) (hc : vwCl[ci]? = some (C, T, N)) (hk : k < N) (ty0 : Nat → FieldType) (hty : ∀ k, k < N → parseFieldDescriptor (T k).2.2.1 = some (ty0 k)) (hnm0 : ∀ a, a < N → ∀ b, b < N → a ≠ b → (T a).2.1 ≠ (T b).2.1) (hlink : Cond.fieldLink own idx (T k).1 (T k).2.1 (T k).2.2.1 ∈ TB) (hfin : (T k).2.2.2 = false) (hn : narrow (ty0 k) v = v) (hfit : fits (ty0 k) v = true) (hd : decode cc pc = .ok (.putfield idx, 3)) (hq : h q = some (ob ci fs)) (hl0 : k < fs.length) (kk : Ev E own cc nL ret mn Q d kc ks (pc + 3) L st (ah_up h q (ob ci (fs.set k v)))) : Ev E own cc nL ret mn Q d kc ks pc L (v :: .ref q :: st) h := by
  intro p l e s m args below meth c H locs cells slots mc ms A ls hC
  have hC0 := hC
  obtain ⟨hx, hb, hr, hml, hown, hnm, hlk, hts, hK, hG, hA, hH, hS, hl, hc1, hc2⟩ := hC
  obtain ⟨ws, hP, hD, hh⟩ := hH
  obtain ⟨k0, hk0⟩ := (hh q _).mp hq
  exact va_put hx hb hts hin ty0 hty hnm0 hown hK hP hD hS k0 hk0 hc k hk (hts _ hlink) (fun _ h9 => h9) hfin (hty k hk) hn hfit hl0 hd (fun H1 locs1 hP1 hD1 hS1 => kk p l e s m args below meth c H1 locs1 cells slots mc ms A ls (hC0.heap' ⟨_, hP1, hD1, Hold.set (D := E.1) hD hh hk0⟩ hS1))

theorem ev_putF {q ci N idx k : Nat} {C : String} {T : u_T} {fs : List Value} {v : Value} (hin : ∀ w ∈ u_ws C T N, w ∈ TB) (hc : vwCl[ci]? = some (C, T, N)) (hk : k < N) (ty0 : Nat → FieldType) (hty : ∀ k, k < N → parseFieldDescriptor (T k).2.2.1 = some (ty0 k)) (hnm0 : ∀ a, a < N → ∀ b, b < N → a ≠ b → (T a).2.1 ≠ (T b).2.1) (hlink : Cond.fieldLink own idx (T k).1 (T k).2.1 (T k).2.2.1 ∈ TB) (hfin : (T k).2.2.2 = true) (hmn : mn = "<init>") (hown0 : (T k).1 = own) (hn : narrow (ty0 k) v = v) (hfit : fits (ty0 k) v = true) (hd : decode cc pc = .ok (.putfield idx, 3)) (hq : h q = some (ob ci fs)) (hl0 : k < fs.length) (kk : Ev E own cc nL ret mn Q d kc ks (pc + 3) L st (ah_up h q (ob ci (fs.set k v)))) : Ev E own cc nL ret mn Q d kc ks pc L (v :: .ref q :: st) h := by
  intro p l e s m args below meth c H locs cells slots mc ms A ls hC
  have hC0 := hC
  obtain ⟨hx, hb, hr, hml, hown, hnm, hlk, hts, hK, hG, hA, hH, hS, hl, hc1, hc2⟩ := hC
  obtain ⟨ws, hP, hD, hh⟩ := hH
  obtain ⟨k0, hk0⟩ := (hh q _).mp hq
  exact va_putF hx hb hts hin ty0 hty hnm0 hown hK hP hD hS k0 hk0 hc k hk (hts _ hlink) (fun _ h9 => h9) hfin (hnm.trans hmn) hown0 (hty k hk) hn hfit hl0 hd (fun H1 locs1 hP1 hD1 hS1 => kk p l e s m args below meth c H1 locs1 cells slots mc ms A ls (hC0.heap' ⟨_, hP1, hD1, Hold.set (D := E.1) hD hh hk0⟩ hS1))

theorem ev_iaload {q n : Nat} {f : Int → Int} {z : Int} (hd : decode cc pc = .ok (.iaload, 1)) (hq : h q = some (arI E n f)) (hn : n < 2 ^ 31) (h0 : 0 ≤ z) (h1 : z < n) (kk : Ev E own cc nL ret mn Q d kc ks (pc + 1) L (vI (f z) :: st) h) : Ev E own cc nL ret mn Q d kc ks pc L (vI z :: .ref q :: st) h := by
  intro p l e s m args below meth c H locs cells slots mc ms A ls hC
  have hC0 := hC
  obtain ⟨hx, hb, hr, hml, hown, hnm, hlk, hts, hK, hG, hA, hH, hS, hl, hc1, hc2⟩ := hC
  obtain ⟨ws, hP, hD, hh⟩ := hH
  obtain ⟨k0, hk0⟩ := (hh q _).mp hq
  have hz : InR z := by unfold InR; omega
  refine va_iald hx hb hK hP k0 0 hk0 rfl (vp_in_iI h0 h1 hn) hd ?_
  rw [iI_nat h0 hz, Int.toNat_of_nonneg h0]
  exact kk p l e s m args below meth c H locs cells slots mc ms A ls hC0

theorem ev_iastore {q n : Nat} {f : Int → Int} {z w : Int} (hd : decode cc pc = .ok (.iastore, 1)) (hq : h q = some (arI E n f)) (hn : n < 2 ^ 31) (h0 : 0 ≤ z) (h1 : z < n) (kk : Ev E own cc nL ret mn Q d kc ks (pc + 1) L st (ah_up h q (arI E n (updZ f z w)))) : Ev E own cc nL ret mn Q d kc ks pc L (vI w :: vI z :: .ref q :: st) h := by
  intro p l e s m args below meth c H locs cells slots mc ms A ls hC
  have hC0 := hC
  obtain ⟨hx, hb, hr, hml, hown, hnm, hlk, hts, hK, hG, hA, hH, hS, hl, hc1, hc2⟩ := hC
  obtain ⟨ws, hP, hD, hh⟩ := hH
  obtain ⟨k0, hk0⟩ := (hh q _).mp hq
  have hz : InR z := by unfold InR; omega
  have e1 : upd (fun j => iI (f (j : Int))) (iI z).toNatClampNeg (iI w) = fun j : Nat => iI (updZ f z w (j : Int)) := by
    funext j
    unfold upd updZ
    rw [iI_nat h0 hz]
    by_cases hj : j = z.toNat
    · rw [if_pos hj, if_pos (by omega)]
    · rw [if_neg hj, if_neg (by omega)]
  refine va_iast hx hb hK hP hD hS k0 0 hk0 rfl (vp_in_iI h0 h1 hn) hd (fun H1 locs1 hP1 hD1 hS1 => ?_)
  rw [e1] at hP1 hD1
  exact kk p l e s m args below meth c H1 locs1 cells slots mc ms A ls (hC0.heap' ⟨_, hP1, hD1, Hold.set (D := E.1) hD hh hk0⟩ hS1)

theorem ev_aaload {q n t : Nat} {C : String} {f : Int → Option Nat} {z : Int} (ht : (tysA E.2.1)[t]? = some (E.2.1 t, .object C)) (hd : decode cc pc = .ok (.aaload, 1)) (hq : h q = some (arR E t n f)) (hn : n < 2 ^ 31) (h0 : 0 ≤ z) (h1 : z < n) (kk : Ev E own cc nL ret mn Q d kc ks (pc + 1) L (va_rf (f z) :: st) h) : Ev E own cc nL ret mn Q d kc ks pc L (vI z :: .ref q :: st) h := by
  intro p l e s m args below meth c H locs cells slots mc ms A ls hC
  have hC0 := hC
  obtain ⟨hx, hb, hr, hml, hown, hnm, hlk, hts, hK, hG, hA, hH, hS, hl, hc1, hc2⟩ := hC
  obtain ⟨ws, hP, hD, hh⟩ := hH
  obtain ⟨k0, hk0⟩ := (hh q _).mp hq
  have hz : InR z := by unfold InR; omega
  refine va_aldq hx hb hK hP k0 t hk0 ht (vp_in_iI h0 h1 hn) hd ?_
  rw [iI_nat h0 hz, Int.toNat_of_nonneg h0]
  exact kk p l e s m args below meth c H locs cells slots mc ms A ls hC0

theorem ev_aastoreN {q n t : Nat} {C : String} {f : Int → Option Nat} {z : Int} (ht : (tysA E.2.1)[t]? = some (E.2.1 t, .object C)) (hd : decode cc pc = .ok (.aastore, 1)) (hq : h q = some (arR E t n f)) (hn : n < 2 ^ 31) (h0 : 0 ≤ z) (h1 : z < n) (kk : Ev E own cc nL ret mn Q d kc ks (pc + 1) L st (ah_up h q (arR E t n (updR f z none)))) : Ev E own cc nL ret mn Q d kc ks pc L (.null :: vI z :: .ref q :: st) h := by
  intro p l e s m args below meth c H locs cells slots mc ms A ls hC
  have hC0 := hC
  obtain ⟨hx, hb, hr, hml, hown, hnm, hlk, hts, hK, hG, hA, hH, hS, hl, hc1, hc2⟩ := hC
  obtain ⟨ws, hP, hD, hh⟩ := hH
  obtain ⟨k0, hk0⟩ := (hh q _).mp hq
  have hz : InR z := by unfold InR; omega
  have e1 : va_up (fun j : Nat => f (j : Int)) (iI z).toNatClampNeg none = fun j : Nat => updR f z none (j : Int) := by
    funext j
    unfold va_up updR
    rw [iI_nat h0 hz]
    by_cases hj : j = z.toNat
    · rw [if_pos hj, if_pos (by omega)]
    · rw [if_neg hj, if_neg (by omega)]
  refine va_astqN hx hb hK hP hD hS k0 t hk0 ht (vp_in_iI h0 h1 hn) hd (fun H1 locs1 hP1 hD1 hS1 => ?_)
  rw [e1] at hP1 hD1
  exact kk p l e s m args below meth c H1 locs1 cells slots mc ms A ls (hC0.heap' ⟨_, hP1, hD1, Hold.set (D := E.1) hD hh hk0⟩ hS1)

theorem ev_aastore {q n t v ci : Nat} {r : vw_C} {vs : List Value} {f : Int → Option Nat} {z : Int} (hc : vwCl[ci]? = some r) (ht : (tysA E.2.1)[t]? = some (E.2.1 t, .object r.1)) (hd : decode cc pc = .ok (.aastore, 1)) (hq : h q = some (arR E t n f)) (hv : h v = some (ob ci vs)) (hn : n < 2 ^ 31) (h0 : 0 ≤ z) (h1 : z < n) (kk : Ev E own cc nL ret mn Q d kc ks (pc + 1) L st (ah_up h q (arR E t n (updR f z (some v))))) : Ev E own cc nL ret mn Q d kc ks pc L (.ref v :: vI z :: .ref q :: st) h := by
  intro p l e s m args below meth c H locs cells slots mc ms A ls hC
  have hC0 := hC
  obtain ⟨hx, hb, hr, hml, hown, hnm, hlk, hts, hK, hG, hA, hH, hS, hl, hc1, hc2⟩ := hC
  obtain ⟨ws, hP, hD, hh⟩ := hH
  obtain ⟨k0, hk0⟩ := (hh q _).mp hq
  have hz : InR z := by unfold InR; omega
  have e1 : va_up (fun j : Nat => f (j : Int)) (iI z).toNatClampNeg (some v) = fun j : Nat => updR f z (some v) (j : Int) := by
    funext j
    unfold va_up updR
    rw [iI_nat h0 hz]
    by_cases hj : j = z.toNat
    · rw [if_pos hj, if_pos (by omega)]
    · rw [if_neg hj, if_neg (by omega)]
  obtain ⟨k1, hk1⟩ := (hh v _).mp hv
  refine va_astq hx hb hK hP hD hS k0 t k1 ci hk0 ht hk1 hc (vp_in_iI h0 h1 hn) hd (fun H1 locs1 hP1 hD1 hS1 => ?_)
  rw [e1] at hP1 hD1
  exact kk p l e s m args below meth c H1 locs1 cells slots mc ms A ls (hC0.heap' ⟨_, hP1, hD1, Hold.set (D := E.1) hD hh hk0⟩ hS1)

theorem ev_aastoreO {q n t v ci : Nat} {r : vw_C} {C : String} {vs : List Value} {f : Int → Option Nat} {z : Int} (hc : vwCl[ci]? = some r) (hca : (r.1, C) ∈ glC) (ht : (tysA E.2.1)[t]? = some (E.2.1 t, .object C)) (hd : decode cc pc = .ok (.aastore, 1)) (hq : h q = some (arR E t n f)) (hv : h v = some (ob ci vs)) (hn : n < 2 ^ 31) (h0 : 0 ≤ z) (h1 : z < n) (kk : Ev E own cc nL ret mn Q d kc ks (pc + 1) L st (ah_up h q (arR E t n (updR f z (some v))))) : Ev E own cc nL ret mn Q d kc ks pc L (.ref v :: vI z :: .ref q :: st) h := by
  intro p l e s m args below meth c H locs cells slots mc ms A ls hC
  have hC0 := hC
  obtain ⟨hx, hb, hr, hml, hown, hnm, hlk, hts, hK, hG, hA, hH, hS, hl, hc1, hc2⟩ := hC
  obtain ⟨ws, hP, hD, hh⟩ := hH
  obtain ⟨k0, hk0⟩ := (hh q _).mp hq
  have hz : InR z := by unfold InR; omega
  have e1 : va_up (fun j : Nat => f (j : Int)) (iI z).toNatClampNeg (some v) = fun j : Nat => updR f z (some v) (j : Int) := by
    funext j
    unfold va_up updR
    rw [iI_nat h0 hz]
    by_cases hj : j = z.toNat
    · rw [if_pos hj, if_pos (by omega)]
    · rw [if_neg hj, if_neg (by omega)]
  obtain ⟨k1, hk1⟩ := (hh v _).mp hv
  refine va_astqO hx hb hK hP hD hS k0 t k1 ci hk0 ht (hG.2.1 _ hca) hk1 hc (vp_in_iI h0 h1 hn) hd (fun H1 locs1 hP1 hD1 hS1 => ?_)
  rw [e1] at hP1 hD1
  exact kk p l e s m args below meth c H1 locs1 cells slots mc ms A ls (hC0.heap' ⟨_, hP1, hD1, Hold.set (D := E.1) hD hh hk0⟩ hS1)

theorem ev_alen {q n : Nat} {f : Int → Int} (hd : decode cc pc = .ok (.arraylength, 1)) (hq : h q = some (arI E n f)) (kk : Ev E own cc nL ret mn Q d kc ks (pc + 1) L (vI (n : Int) :: st) h) : Ev E own cc nL ret mn Q d kc ks pc L (.ref q :: st) h := by
  intro p l e s m args below meth c H locs cells slots mc ms A ls hC
  have hC0 := hC
  obtain ⟨hx, hb, hr, hml, hown, hnm, hlk, hts, hK, hG, hA, hH, hS, hl, hc1, hc2⟩ := hC
  obtain ⟨ws, hP, hD, hh⟩ := hH
  obtain ⟨k0, hk0⟩ := (hh q _).mp hq
  exact va_alen hx hb hK hP k0 0 hk0 rfl (v := iI (n : Int)) (Int32.ofInt_eq_ofNat).symm hd (kk p l e s m args below meth c H locs cells slots mc ms A ls hC0)

theorem ev_gets {C n : String} {a idx : Nat} (hlink : Cond.fieldLink own idx C n "[I" ∈ TB) (hd : decode cc pc = .ok (.getstatic idx, 3)) (hz : ∀ A U H, Gl E A U H → va_Z C n "[I" (.ref a) A U H) (kk : Ev E own cc nL ret mn Q d kc ks (pc + 3) L (.ref a :: st) h) : Ev E own cc nL ret mn Q d kc ks pc L st h := by
  intro p l e s m args below meth c H locs cells slots mc ms A ls hC
  have hC0 := hC
  obtain ⟨hx, hb, hr, hml, hown, hnm, hlk, hts, hK, hG, hA, hH, hS, hl, hc1, hc2⟩ := hC
  exact va_gets hx hb (hz _ _ _ hG) hS hown (hts _ hlink) (fun _ h9 => h9) hd (kk p l e s m args below meth c H locs cells slots mc ms A ls hC0)

theorem ev_tload {t n : Nat} {f : Int → Int} {z : Int} (hd : decode cc pc = .ok (.iaload, 1)) (hT : ∀ A U H, Gl E A U H → va_T .int t n (fun j => vI (f (j : Int))) A U H) (hn : n < 2 ^ 31) (h0 : 0 ≤ z) (h1 : z < n) (kk : Ev E own cc nL ret mn Q d kc ks (pc + 1) L (vI (f z) :: st) h) : Ev E own cc nL ret mn Q d kc ks pc L (vI z :: .ref t :: st) h := by
  intro p l e s m args below meth c H locs cells slots mc ms A ls hC
  have hC0 := hC
  obtain ⟨hx, hb, hr, hml, hown, hnm, hlk, hts, hK, hG, hA, hH, hS, hl, hc1, hc2⟩ := hC
  have hz : InR z := by unfold InR; omega
  exact va_ti hx hb (hT _ _ _ hG) hS (vp_in_iI h0 h1 hn) (by rw [iI_nat h0 hz, Int.toNat_of_nonneg h0]) hd (kk p l e s m args below meth c H locs cells slots mc ms A ls hC0)

theorem ev_new {ci N idx : Nat} {C : String} {T : u_T} {fs : List Value} (hin : ∀ w ∈ u_ws C T N, w ∈ TB) (ty0 : Nat → FieldType) (hty : ∀ k, k < N → parseFieldDescriptor (T k).2.2.1 = some (ty0 k)) (hcl : Cond.classLink own idx C ∈ TB) (hinst : Cond.instantiable C N ∈ TB) (hini : Cond.initialized C ∈ TB) (hc : vwCl[ci]? = some (C, T, N)) (hfs : ∀ j, j < N → defaultValue (ty0 j) = vp_V fs j) (hd : decode cc pc = .ok (.new idx, 3)) (kk : ∀ q, h q = none → Ev E own cc nL ret mn Q d kc ks (pc + 3) L (.ref q :: st) (ah_up h q (ob ci fs))) : Ev E own cc nL ret mn Q d (kc + 1) (ks + N) pc L st h := by
  intro p l e s m args below meth c H locs cells slots mc ms A ls hC
  have hC0 := hC
  obtain ⟨hx, hb, hr, hml, hown, hnm, hlk, hts, hK, hG, hA, hH, hS, hl, hc1, hc2⟩ := hC
  obtain ⟨ws, hP, hD, hh⟩ := hH
  refine va_new hx hb hts hin ty0 hty hown (hts _ hcl) (hts _ hinst) (hts _ hini) hK hP hD hS hA hc hfs (by show cells + 1 ≤ mc; omega) (by show slots + N ≤ ms; omega) hd (fun q H1 hP1 hD1 hS1 => ?_)
  obtain ⟨e1, e2⟩ := Hold.push (D := E.1) hD1 hh
  exact kk q e1 p l e s m args below meth c H1 locs (cells + 1) (slots + N) mc ms A ls (hC0.grow' rfl rfl ⟨_, hP1, hD1, e2⟩ hS1)

theorem va_K.cls {D : va_G} {cl : List vw_C} {G : Nat → ClassId} {s : State} {cA : ClassId} (hK : va_K D cl (tysA G) s) {tys' : List (ClassId × FieldType)} (hK2 : va_K D cl (tys' ++ [(cA, .int)]) s) : cA = G 0 := by
  have h1 := (hK.2 0 _ rfl).2
  have h2 := (hK2.2 tys'.length (cA, .int) (by simp)).2
  have h3 : s.vm.findClass ("[" ++ FieldType.int.toString) = some (G 0) := h1
  have h4 : s.vm.findClass ("[" ++ FieldType.int.toString) = some cA := h2
  rw [h3] at h4
  cases h4
  rfl
theorem va_K.clsO {D : va_G} {cl : List vw_C} {G : Nat → ClassId} {s : State} {cA : ClassId} {t : Nat} {C : String} (hK : va_K D cl (tysA G) s) (ht : (tysA G)[t]? = some (G t, .object C)) {tys' : List (ClassId × FieldType)} (hK2 : va_K D cl (tys' ++ [(cA, .object C)]) s) : cA = G t := by
  obtain ⟨_, _, _, _, _, h3⟩ := (hK.2 t _ ht).2
  obtain ⟨_, _, _, _, _, h4⟩ := (hK2.2 tys'.length (cA, .object C) (by simp)).2
  rw [h3] at h4
  cases h4
  rfl

theorem ev_newI {n : Nat} (ha : Cond.arrayClass .int ∈ TB) (hn : n < 65536) (hd : decode cc pc = .ok (.newarray .int, 2)) (kk : ∀ q, h q = none → Ev E own cc nL ret mn Q d kc ks (pc + 2) L (.ref q :: st) (ah_up h q (arI E n (fun _ => 0)))) : Ev E own cc nL ret mn Q d (kc + 1) (ks + n) pc L (vI (n : Int) :: st) h := by
  intro p l e s m args below meth c H locs cells slots mc ms A ls hC
  have hC0 := hC
  obtain ⟨hx, hb, hr, hml, hown, hnm, hlk, hts, hK, hG, hA, hH, hS, hl, hc1, hc2⟩ := hC
  obtain ⟨ws, hP, hD, hh⟩ := hH
  have hz : InR (n : Int) := by unfold InR; omega
  have hnn : ¬ iI (n : Int) < 0 := fun z => by have := (iI_lt hz (by decide : InR 0)).mp z; omega
  refine va_newa (atype := .int) (N' := n) (a0 := (n, .inl (fun _ => iI 0))) hx hb (hts _ ha) rfl hK hP hD hS hA (fun cA => rfl) hnn (by rw [iI_nat (by omega) hz]; exact Int.toNat_natCast n) (by have e4 : componentBytes (newarray.typeOf ArrayType.int) = 4 := rfl; rw [e4]; omega) (by show cells + 1 ≤ mc; omega) (by show slots + n ≤ ms; omega) hd (fun q cA H1 hK1 hP1 hD1 hS1 => ?_)
  have e0 := hK.cls hK1
  subst e0
  obtain ⟨e1, e2⟩ := Hold.push (D := E.1) hD1 hh
  exact kk q e1 p l e s m args below meth c H1 locs (cells + 1) (slots + n) mc ms A ls (hC0.grow' rfl rfl ⟨_, hP1, hD1, e2⟩ hS1)

theorem ev_newR {n t idx : Nat} {C : String} (ht : (tysA E.2.1)[t]? = some (E.2.1 t, .object C)) (hcl : Cond.classLink own idx C ∈ TB) (ho : C ∈ glO) (hn : n < 65536) (hd : decode cc pc = .ok (.anewarray idx, 3)) (kk : ∀ q, h q = none → Ev E own cc nL ret mn Q d kc ks (pc + 3) L (.ref q :: st) (ah_up h q (arR E t n (fun _ => none)))) : Ev E own cc nL ret mn Q d (kc + 1) (ks + n) pc L (vI (n : Int) :: st) h := by
  intro p l e s m args below meth c H locs cells slots mc ms A ls hC
  have hC0 := hC
  obtain ⟨hx, hb, hr, hml, hown, hnm, hlk, hts, hK, hG, hA, hH, hS, hl, hc1, hc2⟩ := hC
  obtain ⟨ws, hP, hD, hh⟩ := hH
  have hz : InR (n : Int) := by unfold InR; omega
  have hnn : ¬ iI (n : Int) < 0 := fun z => by have := (iI_lt hz (by decide : InR 0)).mp z; omega
  refine va_newq (N' := n) hx hb hown (hts _ hcl) (hG.2.2.2.1 _ ho) hK hP hD hS hA hnn (by rw [iI_nat (by omega) hz]; exact Int.toNat_natCast n) (by omega) (by show cells + 1 ≤ mc; omega) (by show slots + n ≤ ms; omega) hd (fun q cA H1 hK1 hP1 hD1 hS1 => ?_)
  have e0 := hK.clsO ht hK1
  subst e0
  obtain ⟨e1, e2⟩ := Hold.push (D := E.1) hD1 hh
  exact kk q e1 p l e s m args below meth c H1 locs (cells + 1) (slots + n) mc ms A ls (hC0.grow' rfl rfl ⟨_, hP1, hD1, e2⟩ hS1)

theorem ev_instY {q ci idx : Nat} {r : vw_C} {C : String} {fs : List Value} (hc : vwCl[ci]? = some r) (hca : (r.1, C) ∈ glC) (hcl : Cond.classLink own idx C ∈ TB) (hd : decode cc pc = .ok (.instanceof idx, 3)) (hq : h q = some (ob ci fs)) (kk : Ev E own cc nL ret mn Q d kc ks (pc + 3) L (vI 1 :: st) h) : Ev E own cc nL ret mn Q d kc ks pc L (.ref q :: st) h := by
  intro p l e s m args below meth c H locs cells slots mc ms A ls hC
  have hC0 := hC
  obtain ⟨hx, hb, hr, hml, hown, hnm, hlk, hts, hK, hG, hA, hH, hS, hl, hc1, hc2⟩ := hC
  obtain ⟨ws, hP, hD, hh⟩ := hH
  obtain ⟨k0, hk0⟩ := (hh q _).mp hq
  have hrv := va_recv hK hP hc hk0
  exact va_instY hx hb hown (hts _ hcl) (hG.2.1 _ hca) hrv hd (kk p l e s m args below meth c H locs cells slots mc ms A ls hC0)

theorem ev_instNo {q ci idx : Nat} {r : vw_C} {C : String} {fs : List Value} (hc : vwCl[ci]? = some r) (hca : (r.1, C) ∈ glN) (hcl : Cond.classLink own idx C ∈ TB) (hd : decode cc pc = .ok (.instanceof idx, 3)) (hq : h q = some (ob ci fs)) (kk : Ev E own cc nL ret mn Q d kc ks (pc + 3) L (vI 0 :: st) h) : Ev E own cc nL ret mn Q d kc ks pc L (.ref q :: st) h := by
  intro p l e s m args below meth c H locs cells slots mc ms A ls hC
  have hC0 := hC
  obtain ⟨hx, hb, hr, hml, hown, hnm, hlk, hts, hK, hG, hA, hH, hS, hl, hc1, hc2⟩ := hC
  obtain ⟨ws, hP, hD, hh⟩ := hH
  obtain ⟨k0, hk0⟩ := (hh q _).mp hq
  have hrv := va_recv hK hP hc hk0
  exact va_instNo hx hb hown (hts _ hcl) (hG.2.2.1 _ hca) hrv hd (kk p l e s m args below meth c H locs cells slots mc ms A ls hC0)

theorem ev_castY {q ci idx : Nat} {r : vw_C} {C : String} {fs : List Value} (hc : vwCl[ci]? = some r) (hca : (r.1, C) ∈ glC) (hcl : Cond.classLink own idx C ∈ TB) (hd : decode cc pc = .ok (.checkcast idx, 3)) (hq : h q = some (ob ci fs)) (kk : Ev E own cc nL ret mn Q d kc ks (pc + 3) L (.ref q :: st) h) : Ev E own cc nL ret mn Q d kc ks pc L (.ref q :: st) h := by
  intro p l e s m args below meth c H locs cells slots mc ms A ls hC
  have hC0 := hC
  obtain ⟨hx, hb, hr, hml, hown, hnm, hlk, hts, hK, hG, hA, hH, hS, hl, hc1, hc2⟩ := hC
  obtain ⟨ws, hP, hD, hh⟩ := hH
  obtain ⟨k0, hk0⟩ := (hh q _).mp hq
  have hrv := va_recv hK hP hc hk0
  exact va_castY hx hb hown (hts _ hcl) (hG.2.1 _ hca) hrv hd (kk p l e s m args below meth c H locs cells slots mc ms A ls hC0)

theorem ev_instS {q ci idx : Nat} {r : vw_C} {fs : List Value} (hc : vwCl[ci]? = some r) (hcl : Cond.classLink own idx r.1 ∈ TB) (hd : decode cc pc = .ok (.instanceof idx, 3)) (hq : h q = some (ob ci fs)) (kk : Ev E own cc nL ret mn Q d kc ks (pc + 3) L (vI 1 :: st) h) : Ev E own cc nL ret mn Q d kc ks pc L (.ref q :: st) h := by
  intro p l e s m args below meth c H locs cells slots mc ms A ls hC
  have hC0 := hC
  obtain ⟨hx, hb, hr, hml, hown, hnm, hlk, hts, hK, hG, hA, hH, hS, hl, hc1, hc2⟩ := hC
  obtain ⟨ws, hP, hD, hh⟩ := hH
  obtain ⟨k0, hk0⟩ := (hh q _).mp hq
  have hrv := va_recv hK hP hc hk0
  exact va_instS hx hb hown (hts _ hcl) (hK.1 ci _ hc).2 hrv hd (kk p l e s m args below meth c H locs cells slots mc ms A ls hC0)

theorem ev_castS {q ci idx : Nat} {r : vw_C} {fs : List Value} (hc : vwCl[ci]? = some r) (hcl : Cond.classLink own idx r.1 ∈ TB) (hd : decode cc pc = .ok (.checkcast idx, 3)) (hq : h q = some (ob ci fs)) (kk : Ev E own cc nL ret mn Q d kc ks (pc + 3) L (.ref q :: st) h) : Ev E own cc nL ret mn Q d kc ks pc L (.ref q :: st) h := by
  intro p l e s m args below meth c H locs cells slots mc ms A ls hC
  have hC0 := hC
  obtain ⟨hx, hb, hr, hml, hown, hnm, hlk, hts, hK, hG, hA, hH, hS, hl, hc1, hc2⟩ := hC
  obtain ⟨ws, hP, hD, hh⟩ := hH
  obtain ⟨k0, hk0⟩ := (hh q _).mp hq
  have hrv := va_recv hK hP hc hk0
  exact va_castS hx hb hown (hts _ hcl) (hK.1 ci _ hc).2 hrv hd (kk p l e s m args below meth c H locs cells slots mc ms A ls hC0)

theorem ev_ireturn {z : Int} (hd : decode cc pc = .ok (.ireturn, 1)) (hq : Q (some (vI z)) h) : Ev E own cc nL (some .int) mn Q d kc ks pc L [vI z] h := by
  intro p l e s m args below meth c H locs cells slots mc ms A ls hC
  have hC0 := hC
  obtain ⟨hx, hb, hr, hml, hown, hnm, hlk, hts, hK, hG, hA, hH, hS, hl, hc1, hc2⟩ := hC
  refine W.widen (k := mc) (n := ms) (by omega) (by omega) ?_
  exact W.iret hx hb hr (fun t ht hW => ⟨⟨_, h, rfl, hq, by rw [ht]; exact hH, va_K.moved hW.alike hK⟩, hS.F ht⟩) hS.2.2 hd

theorem ev_lreturn {z : Int} (hd : decode cc pc = .ok (.lreturn, 1)) (hq : Q (some (vL z)) h) : Ev E own cc nL (some .long) mn Q d kc ks pc L [vL z] h := by
  intro p l e s m args below meth c H locs cells slots mc ms A ls hC
  have hC0 := hC
  obtain ⟨hx, hb, hr, hml, hown, hnm, hlk, hts, hK, hG, hA, hH, hS, hl, hc1, hc2⟩ := hC
  refine W.widen (k := mc) (n := ms) (by omega) (by omega) ?_
  exact W.lret hx hb hr (fun t ht hW => ⟨⟨_, h, rfl, hq, by rw [ht]; exact hH, va_K.moved hW.alike hK⟩, hS.F ht⟩) hS.2.2 hd

theorem ev_dreturn {x : UInt64} (hd : decode cc pc = .ok (.dreturn, 1)) (hq : Q (some (.double x)) h) : Ev E own cc nL (some .double) mn Q d kc ks pc L [.double x] h := by
  intro p l e s m args below meth c H locs cells slots mc ms A ls hC
  have hC0 := hC
  obtain ⟨hx, hb, hr, hml, hown, hnm, hlk, hts, hK, hG, hA, hH, hS, hl, hc1, hc2⟩ := hC
  refine W.widen (k := mc) (n := ms) (by omega) (by omega) ?_
  exact W.dret hx hb hr (fun t ht hW => ⟨⟨_, h, rfl, hq, by rw [ht]; exact hH, va_K.moved hW.alike hK⟩, hS.F ht⟩) hS.2.2 hd

theorem ev_return  (hd : decode cc pc = .ok (.return_, 1)) (hq : Q (none) h) : Ev E own cc nL (none) mn Q d kc ks pc L [] h := by
  intro p l e s m args below meth c H locs cells slots mc ms A ls hC
  have hC0 := hC
  obtain ⟨hx, hb, hr, hml, hown, hnm, hlk, hts, hK, hG, hA, hH, hS, hl, hc1, hc2⟩ := hC
  refine W.widen (k := mc) (n := ms) (by omega) (by omega) ?_
  exact W.vret hx hb hr (fun t ht hW => ⟨⟨_, h, rfl, hq, by rw [ht]; exact hH, va_K.moved hW.alike hK⟩, hS.F ht⟩) hS.2.2 hd

theorem ev_zreturn {z : Int} (hz : z = 0 ∨ z = 1) (hd : decode cc pc = .ok (.ireturn, 1)) (hq : Q (some (vI z)) h) : Ev E own cc nL (some .boolean) mn Q d kc ks pc L [vI z] h := by
  intro p l e s m args below meth c H locs cells slots mc ms A ls hC
  have hC0 := hC
  obtain ⟨hx, hb, hr, hml, hown, hnm, hlk, hts, hK, hG, hA, hH, hS, hl, hc1, hc2⟩ := hC
  refine W.widen (k := mc) (n := ms) (by omega) (by omega) ?_
  have hnw : narrow .boolean (.int (iI z)) = .int (iI z) := by rcases hz with rfl | rfl <;> rfl
  exact W.zret hx hb hr hnw (fun t ht hW => ⟨⟨_, h, rfl, hq, by rw [ht]; exact hH, va_K.moved hW.alike hK⟩, hS.F ht⟩) hS.2.2 hd

theorem ev_areturn {v : Value} {rt : FieldType} (hrt : (∃ n, rt = .object n) ∨ ∃ t, rt = .array t) (hv : v = .null ∨ ∃ a, v = .ref a) (hd : decode cc pc = .ok (.areturn, 1)) (hq : Q (some v) h) : Ev E own cc nL (some rt) mn Q d kc ks pc L [v] h := by
  intro p l e s m args below meth c H locs cells slots mc ms A ls hC
  have hC0 := hC
  obtain ⟨hx, hb, hr, hml, hown, hnm, hlk, hts, hK, hG, hA, hH, hS, hl, hc1, hc2⟩ := hC
  refine W.widen (k := mc) (n := ms) (by omega) (by omega) ?_
  exact W.aret hx hb hr hrt hv (fun t ht hW => ⟨⟨_, h, rfl, hq, by rw [ht]; exact hH, va_K.moved hW.alike hK⟩, hS.F ht⟩) hS.2.2 hd

theorem ev_objInit {q idx : Nat} (hlink : Cond.methodLink own idx objectInit ∈ TB) (hinst : Cond.instanceMethod objectInit ∈ TB) (hcode : Cond.code objectInit ⟨#[0xb1]⟩ 1 none ∈ TB) (hd : decode cc pc = .ok (.invokespecial idx, 3)) (h1 : 1 ≤ d) (hst : (st.map fun v => v.category).sum ≤ 8) (kk : Ev E own cc nL ret mn Q d kc ks (pc + 3) L st h) : Ev E own cc nL ret mn Q d kc ks pc L (.ref q :: st) h := by
  intro p l e s m args below meth c H locs cells slots mc ms A ls hC
  have hC0 := hC
  obtain ⟨hx, hb, hr, hml, hown, hnm, hlk, hts, hK, hG, hA, hH, hS, hl, hc1, hc2⟩ := hC
  refine W.objInit (g := F0 m pc ls (.ref q :: st)) hx hb hown (hts _ hlink) (hts _ hinst) (hts _ hcode) rfl (by rw [hml]; exact hl.1) rfl hd h1 (by have := lv_room (m := m) (pc := pc) (ls := ls) (rest := .ref q :: st) hst; show _ ≤ 64 * d; omega) ?_
  exact kk p l e s m args below meth c H locs cells slots mc ms A ls hC0

theorem Cx.pre {E : EV} {own : String} {cc : ByteArray} {nL : Nat} {ret : Option FieldType} {mn : String} {kc ks : Nat} {L : List (Nat × Value)} {h : AH} {p : Program} {s : State} {m : MethodId} {args : Array Value} {meth : Method} {c : Code} {H : Heap} {locs : List Loc} {cells slots mc ms : Nat} {A : Nat → Prop} {ls : Array Slot} (hC : Cx E own cc nL ret mn kc ks L h p s m args meth c H locs cells slots mc ms A ls) (av : List Value) : PreS s H (va_Pc av (fun U => U.heap.size = H.size ∧ va_K E.1 vwCl (tysA E.2.1) U ∧ Gl E (Fr h H.size) U U.heap ∧ Hold E.1 (Fr h H.size) h U.heap)) av := by
  obtain ⟨hx, hb, hr, hml, hown, hnm, hlk, hts, hK, hG, hA, hH, hS, hl, hc1, hc2⟩ := hC
  refine ⟨fun a U g mk q => ?_, fun U hU hW => ?_⟩
  · obtain ⟨q0, q1, qK, qG, qH⟩ := q
    exact ⟨q0, q1, va_K.moved (u := U) (U := U.calling g mk a) (Vm.Alike.refl U.vm) qK, Gl.same (s := U) (U := U.calling g mk a) rfl qG, qH⟩
  · refine ⟨rfl, by rw [hU], va_K.moved hW.alike hK, ?_, ?_⟩
    · rw [hU]
      refine Gl.warm hW (Gl.kept (A := A) (fun a h1 h2 => hS.2.1 a h1 h2) (fun q hq => ?_) hG)
      rcases hq with hq | hq
      · exact (hH.dom hq).1
      · exact hA q (Nat.le_trans hS.1 hq)
    · rw [hU]
      exact hH.weaken (fun q h1 _ => Or.inl h1)
theorem ev_back {E : EV} {own : String} {cc : ByteArray} {nL : Nat} {ret : Option FieldType} {mn : String} {Q Q1 : Option Value → AH → Prop} {d kc ks kc' ks' kc0 ks0 pc : Nat} {L : List (Nat × Value)} {st0 rest : List Value} {h : AH} {p : Program} {l : Launch} {e : Env} {s : State} {m : MethodId} {args a : Array Value} {below : List Frame} {meth : Method} {c : Code} {H : Heap} {locs : List Loc} {cells slots mc ms : Nat} {A : Nat → Prop} {ls : Array Slot} (hC : Cx E own cc nL ret mn kc0 ks0 L h p s m args meth c H locs cells slots mc ms A ls) (h1 : kc + kc' = kc0) (h2 : ks + ks' = ks0)
    (hr : va_Run p l e (rmD d mc ms) s m args below meth c H locs cells slots kc' ks' (F0 m pc ls st0) rest (QC E (Fr h H.size) Q1 a) (Fr h H.size)) (kk : ∀ r h', Q1 r h' → Ev E own cc nL ret mn Q d kc ks (pc + 3) L (r.toList ++ rest) h') : W p l e (rmD d mc ms) s m args below meth c H locs cells slots (MQ below (QC E A Q) args s mc ms A) (F0 m pc ls st0) := by
  have hC0 := hC
  obtain ⟨hx, hb, hr0, hml, hown, hnm, hlk, hts, hK, hG, hA, hH, hS, hl, hc1, hc2⟩ := hC
  have hF : ∀ q, Fr h H.size q → A q := fun q hq => by
    rcases hq with hq | hq
    · exact (hH.dom hq).1
    · exact hA q (Nat.le_trans hS.1 hq)
  intro T hT X
  obtain ⟨v, st₀, t, T', L', h0, X', hL, e1, e2, ⟨⟨r, h', hv, hq, hH', hK'⟩, hz, hk⟩, stp⟩ := hr T hT X
  cases hv
  rw [h0] at hz hk
  obtain ⟨t2, a1, b1⟩ := kk v h' hq p l e s m args below meth c T'.heap (locs ++ L') (cells + kc') (slots + ks') mc ms A ls (hC0.grow' h1 h2 (by rw [e1]; exact hH'.weaken (fun q _ h3 => hF q h3))
    ⟨Nat.le_trans hS.1 (by rw [e1]; exact hz), fun q g1 g2 => by rw [e1, hk q (Nat.lt_of_lt_of_le g1 hS.1) (fun z => g2 (hF q z))]; exact hS.2.1 q g1 g2, fun q hq => by
      rcases List.mem_append.mp hq with g | g
      · exact hS.2.2 q g
      · exact hF _ (hL q g)⟩) T' rfl X'
  exact ⟨t2, stp t2 a1, b1⟩

theorem ev_callS {y : MethodName} {bc : ByteArray} {maxL n idx kc' ks' d' : Nat} {rt : Option FieldType} {Q1 : Option Value → AH → Prop} {As rest : List Value} {st0 : List Value} (hM : CM E y bc maxL rt d' kc' ks' As h Q1) (hcode : Cond.code y bc maxL rt ∈ TB) (hini : Cond.initialized y.cls ∈ TB) (hlink : Cond.methodLink own idx y ∈ TB) (hstc : Cond.static y ∈ TB) (hdec : y.cls ≠ "java/lang/invoke/MethodHandle" ∧ y.cls ≠ "java/lang/invoke/VarHandle" ∧ (parseMethodDescriptor y.desc).map (fun d => d.parameters.length) = some n) (hlen : As.length = n) (hst : st0 = As.reverse ++ rest) (hrm : (rest.map fun v => v.category).sum ≤ 8) (hd1 : d' + 1 ≤ d) (hmx : maxL ≤ 45) (hd : decode cc pc = .ok (.invokestatic idx, 3)) (kk : ∀ r h', Q1 r h' → Ev E own cc nL ret mn Q d kc ks (pc + 3) L (r.toList ++ rest) h') : Ev E own cc nL ret mn Q d (kc + kc') (ks + ks') pc L st0 h := by
  intro p l e s m args below meth c H locs cells slots mc ms A ls hC
  have hC0 := hC
  obtain ⟨hx, hb, hr, hml, hown, hnm, hlk, hts, hK, hG, hA, hH, hS, hl, hc1, hc2⟩ := hC
  exact ev_back hC0 rfl rfl (va_runS (Ts := TB) (As := As) (rest := rest) ⟨hx, hb, hml, hown, hts⟩ (hM l H.size) ⟨callB_of n hts (TB_good hcode) rfl rfl rfl (hts _ hini) (hts _ hlink) hdec ⟨by show d' + 1 ≤ d; exact hd1, by show 8 + (maxL + 11) + 64 * d' ≤ 64 * d; omega⟩, hts _ hstc⟩ (hC0.pre As) rfl hlen hl.1 hst (lv_room hrm) hd ⟨by show cells + kc' ≤ mc; omega, by show slots + ks' ≤ ms; omega⟩) kk

theorem ev_callSN {y : MethodName} {bc : ByteArray} {maxL n idx kc' ks' d' : Nat} {rt : Option FieldType} {Q1 : Option Value → AH → Prop} {As rest : List Value} {st0 : List Value} (hM : CM E y bc maxL rt d' kc' ks' As h Q1) (hcode : Cond.code y bc maxL rt ∈ TB) (hini : Cond.initialized y.cls ∈ TB) (hlink : (own, idx, y) ∈ glM) (hstc : Cond.static y ∈ TB) (hdec : y.cls ≠ "java/lang/invoke/MethodHandle" ∧ y.cls ≠ "java/lang/invoke/VarHandle" ∧ (parseMethodDescriptor y.desc).map (fun d => d.parameters.length) = some n) (hlen : As.length = n) (hst : st0 = As.reverse ++ rest) (hrm : (rest.map fun v => v.category).sum ≤ 8) (hd1 : d' + 1 ≤ d) (hmx : maxL ≤ 45) (hd : decode cc pc = .ok (.invokestatic idx, 3)) (kk : ∀ r h', Q1 r h' → Ev E own cc nL ret mn Q d kc ks (pc + 3) L (r.toList ++ rest) h') : Ev E own cc nL ret mn Q d (kc + kc') (ks + ks') pc L st0 h := by
  intro p l e s m args below meth c H locs cells slots mc ms A ls hC
  have hC0 := hC
  obtain ⟨hx, hb, hr, hml, hown, hnm, hlk, hts, hK, hG, hA, hH, hS, hl, hc1, hc2⟩ := hC
  exact ev_back hC0 rfl rfl (va_runSN (Ts := TB) (As := As) (rest := rest) ⟨hx, hb, hml, hown, hts⟩ (hM l H.size) ⟨va_cnB (own := own) (index := idx) n hts (TB_good hcode) rfl rfl rfl (hG.1 (own, idx, y) hlink) (hts _ hini) hdec ⟨by show d' + 1 ≤ d; exact hd1, by show 8 + (maxL + 11) + 64 * d' ≤ 64 * d; omega⟩, hts _ hstc, trivial⟩ (hC0.pre As) rfl hlen hl.1 hst (lv_room hrm) hd ⟨by show cells + kc' ≤ mc; omega, by show slots + ks' ≤ ms; omega⟩) kk

theorem ev_callI {y : MethodName} {bc : ByteArray} {maxL n idx kc' ks' d' : Nat} {rt : Option FieldType} {Q1 : Option Value → AH → Prop} {b : Nat} {As rest : List Value} {st0 : List Value} (hM : CM E y bc maxL none d' kc' ks' (.ref b :: As) h Q1) (hcode : Cond.code y bc maxL none ∈ TB) (hini : Cond.initialized y.cls ∈ TB) (hlink : Cond.methodLink own idx y ∈ TB) (hinst : Cond.instanceMethod y ∈ TB) (hyn : y.name = "<init>") (hdec : y.cls ≠ "java/lang/invoke/MethodHandle" ∧ y.cls ≠ "java/lang/invoke/VarHandle" ∧ (parseMethodDescriptor y.desc).map (fun d => d.parameters.length) = some n) (hlen : As.length = n) (hst : st0 = As.reverse ++ .ref b :: rest) (hrm : (rest.map fun v => v.category).sum ≤ 8) (hd1 : d' + 1 ≤ d) (hmx : maxL ≤ 45) (hd : decode cc pc = .ok (.invokespecial idx, 3)) (kk : ∀ r h', Q1 r h' → Ev E own cc nL ret mn Q d kc ks (pc + 3) L (r.toList ++ rest) h') : Ev E own cc nL ret mn Q d (kc + kc') (ks + ks') pc L st0 h := by
  intro p l e s m args below meth c H locs cells slots mc ms A ls hC
  have hC0 := hC
  obtain ⟨hx, hb, hr, hml, hown, hnm, hlk, hts, hK, hG, hA, hH, hS, hl, hc1, hc2⟩ := hC
  exact ev_back hC0 rfl rfl (va_runI (Ts := TB) (As := As) (rest := rest) ⟨hx, hb, hml, hown, hts⟩ (hM l H.size) ⟨callB_of n hts (TB_good hcode) rfl rfl rfl (hts _ hini) (hts _ hlink) hdec ⟨by show d' + 1 ≤ d; exact hd1, by show 8 + (maxL + 11) + 64 * d' ≤ 64 * d; omega⟩, hyn, hts _ hinst⟩ (hC0.pre (.ref b :: As)) rfl hlen hl.1 hst (lv_room hrm) hd ⟨by show cells + kc' ≤ mc; omega, by show slots + ks' ≤ ms; omega⟩) kk

theorem ev_callIN {y : MethodName} {bc : ByteArray} {maxL n idx kc' ks' d' : Nat} {rt : Option FieldType} {Q1 : Option Value → AH → Prop} {b : Nat} {As rest : List Value} {st0 : List Value} (hM : CM E y bc maxL none d' kc' ks' (.ref b :: As) h Q1) (hcode : Cond.code y bc maxL none ∈ TB) (hini : Cond.initialized y.cls ∈ TB) (hlink : (own, idx, y) ∈ glM) (hinst : Cond.instanceMethod y ∈ TB) (hyn : y.name = "<init>") (hdec : y.cls ≠ "java/lang/invoke/MethodHandle" ∧ y.cls ≠ "java/lang/invoke/VarHandle" ∧ (parseMethodDescriptor y.desc).map (fun d => d.parameters.length) = some n) (hlen : As.length = n) (hst : st0 = As.reverse ++ .ref b :: rest) (hrm : (rest.map fun v => v.category).sum ≤ 8) (hd1 : d' + 1 ≤ d) (hmx : maxL ≤ 45) (hd : decode cc pc = .ok (.invokespecial idx, 3)) (kk : ∀ r h', Q1 r h' → Ev E own cc nL ret mn Q d kc ks (pc + 3) L (r.toList ++ rest) h') : Ev E own cc nL ret mn Q d (kc + kc') (ks + ks') pc L st0 h := by
  intro p l e s m args below meth c H locs cells slots mc ms A ls hC
  have hC0 := hC
  obtain ⟨hx, hb, hr, hml, hown, hnm, hlk, hts, hK, hG, hA, hH, hS, hl, hc1, hc2⟩ := hC
  exact ev_back hC0 rfl rfl (va_runIN (Ts := TB) (As := As) (rest := rest) ⟨hx, hb, hml, hown, hts⟩ (hM l H.size) ⟨va_cnB (own := own) (index := idx) n hts (TB_good hcode) rfl rfl rfl (hG.1 (own, idx, y) hlink) (hts _ hini) hdec ⟨by show d' + 1 ≤ d; exact hd1, by show 8 + (maxL + 11) + 64 * d' ≤ 64 * d; omega⟩, hyn, hts _ hinst⟩ (hC0.pre (.ref b :: As)) rfl hlen hl.1 hst (lv_room hrm) hd ⟨by show cells + kc' ≤ mc; omega, by show slots + ks' ≤ ms; omega⟩) kk

theorem ev_callV {y : MethodName} {bc : ByteArray} {maxL n idx kc' ks' d' : Nat} {rt : Option FieldType} {Q1 : Option Value → AH → Prop} {b ci : Nat} {r : vw_C} {fs : List Value} {As rest : List Value} {st0 : List Value} (hM : CM E y bc maxL rt d' kc' ks' (.ref b :: As) h Q1) (hc : vwCl[ci]? = some r) (hq : h b = some (ob ci fs)) (hcode : Cond.code y bc maxL rt ∈ TB) (hini : Cond.initialized y.cls ∈ TB) (hlink : Cond.methodLink own idx y ∈ TB) (hinst : Cond.instanceMethod y ∈ TB) (hsel : Cond.selects r.1 y y ∈ TB) (hdec : y.cls ≠ "java/lang/invoke/MethodHandle" ∧ y.cls ≠ "java/lang/invoke/VarHandle" ∧ (parseMethodDescriptor y.desc).map (fun d => d.parameters.length) = some n) (hlen : As.length = n) (hst : st0 = As.reverse ++ .ref b :: rest) (hrm : (rest.map fun v => v.category).sum ≤ 8) (hd1 : d' + 1 ≤ d) (hmx : maxL ≤ 45) (hd : decode cc pc = .ok (.invokevirtual idx, 3)) (kk : ∀ r h', Q1 r h' → Ev E own cc nL ret mn Q d kc ks (pc + 3) L (r.toList ++ rest) h') : Ev E own cc nL ret mn Q d (kc + kc') (ks + ks') pc L st0 h := by
  intro p l e s m args below meth c H locs cells slots mc ms A ls hC
  have hC0 := hC
  obtain ⟨hx, hb, hr, hml, hown, hnm, hlk, hts, hK, hG, hA, hH, hS, hl, hc1, hc2⟩ := hC
  obtain ⟨ws, hP, hD, hh⟩ := hH
  obtain ⟨k0, hk0⟩ := (hh b _).mp hq
  have hrv := va_recv hK hP hc hk0
  have hpre := hC0.pre (.ref b :: As)
  exact ev_back hC0 rfl rfl (va_runV (Ts := TB) (C := r.1) (As := As) (rest := rest) ⟨hx, hb, hml, hown, hts⟩ (hM l H.size) ⟨callB_of n hts (TB_good hcode) rfl rfl rfl (hts _ hini) (hts _ hlink) hdec ⟨by show d' + 1 ≤ d; exact hd1, by show 8 + (maxL + 11) + 64 * d' ≤ 64 * d; omega⟩, hts _ hinst, hts _ hsel⟩ ⟨hpre.1, hrv, hpre.2⟩ rfl hlen hl.1 hst (lv_room hrm) hd ⟨by show cells + kc' ≤ mc; omega, by show slots + ks' ≤ ms; omega⟩) kk

theorem ev_callU {y : MethodName} {bc : ByteArray} {maxL n idx kc' ks' d' : Nat} {rt : Option FieldType} {Q1 : Option Value → AH → Prop} {x : MethodName} {owner : String} {b0 : ByteArray} {m0 : Nat} {r0 : Option FieldType} {b ci : Nat} {r : vw_C} {fs : List Value} {As rest : List Value} {st0 : List Value} (hM : CM E y bc maxL rt d' kc' ks' (.ref b :: As) h Q1) (hc : vwCl[ci]? = some r) (hq : h b = some (ob ci fs)) (hcode : Cond.code y bc maxL rt ∈ TB) (hini : Cond.initialized y.cls ∈ TB) (hlink : Cond.methodLink own idx x ∈ TB) (hsame : Cond.sameMethod x.cls owner x.name x.desc ∈ TB) (hinst : Cond.instanceMethod y ∈ TB) (hsel : Cond.selects r.1 x y ∈ TB) (hdi : Cond.instanceMethod ⟨owner, x.name, x.desc⟩ ∈ TB) (hdc : Cond.code ⟨owner, x.name, x.desc⟩ b0 m0 r0 ∈ TB) (hdec : owner ≠ "java/lang/invoke/MethodHandle" ∧ owner ≠ "java/lang/invoke/VarHandle" ∧ (parseMethodDescriptor x.desc).map (fun d => d.parameters.length) = some n) (hlen : As.length = n) (hst : st0 = As.reverse ++ .ref b :: rest) (hrm : (rest.map fun v => v.category).sum ≤ 8) (hd1 : d' + 1 ≤ d) (hmx : maxL ≤ 45) (hd : decode cc pc = .ok (.invokevirtual idx, 3)) (kk : ∀ r h', Q1 r h' → Ev E own cc nL ret mn Q d kc ks (pc + 3) L (r.toList ++ rest) h') : Ev E own cc nL ret mn Q d (kc + kc') (ks + ks') pc L st0 h := by
  intro p l e s m args below meth c H locs cells slots mc ms A ls hC
  have hC0 := hC
  obtain ⟨hx, hb, hr, hml, hown, hnm, hlk, hts, hK, hG, hA, hH, hS, hl, hc1, hc2⟩ := hC
  obtain ⟨ws, hP, hD, hh⟩ := hH
  obtain ⟨k0, hk0⟩ := (hh b _).mp hq
  have hrv := va_recv hK hP hc hk0
  have hpre := hC0.pre (.ref b :: As)
  have hlen2 : ∀ sig, parseMethodDescriptor x.desc = some sig → n = sig.parameters.length := fun sig hs => by
    have h2 := hdec.2.2
    rw [hs] at h2
    exact (Option.some.inj h2).symm
  have hcu : va_CU (rmD d mc ms) s args own r.1 owner idx x y bc maxL rt (Cond.code y bc maxL rt :: TB) (rmD d' kc' ks') kc' ks' n := ⟨⟨rfl, rfl, by show d' + 1 ≤ d; exact hd1, by show 8 + (maxL + 11) + 64 * d' ≤ 64 * d; omega, pay_in hts (TB_good hcode), List.mem_cons_self⟩, hts _ hcode, hts _ hini, ⟨hdec.1, hdec.2.1⟩, hlen2, hts _ hlink, hts _ hsame, va_Decl.of (hts _ hdi) (hts _ hdc), hts _ hsel, hts _ hinst⟩
  exact ev_back hC0 rfl rfl (va_runU (Ts := TB) (C := r.1) (As := As) (rest := rest) ⟨hx, hb, hml, hown, hts⟩ (hM l H.size) hcu ⟨hpre.1, hrv, hpre.2⟩ rfl hlen hl.1 hst (lv_room hrm) hd ⟨by show cells + kc' ≤ mc; omega, by show slots + ks' ≤ ms; omega⟩) kk

end HEAP
end
