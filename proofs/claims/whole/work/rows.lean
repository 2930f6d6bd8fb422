section
-- ===== PART A: goes FIRST, ahead of the names: the tables' words, and 'selects' of the private methods out of them =====
/-- a private method of a class that the tables say can be made, by its rows of tables_1 -/
def lw_okq (q : MethodName × Nat) : Prop := (q.1.cls ≠ "java/lang/invoke/MethodHandle" ∧ q.1.cls ≠ "java/lang/invoke/VarHandle") ∧ Cond.instantiable q.1.cls q.2 ∈ tables_1 ∧ Cond.privateMethod q.1 ∈ tables_1 ∧ Cond.instanceMethod q.1 ∈ tables_1
theorem lw_p0 : lw_okq (⟨"NorthCurtains", "stationAt", "(I)LNorthCurtains$Station;"⟩, 17) := ⟨⟨by decide +kernel, by decide +kernel⟩, List.mem_of_getElem? (i := 14) (by decide +kernel), List.mem_of_getElem? (i := 212) (by decide +kernel), List.mem_of_getElem? (i := 213) (by decide +kernel)⟩
theorem lw_p1 : lw_okq (⟨"NorthCurtains", "keep", "(LNorthCurtains$Glow;)I"⟩, 17) := ⟨⟨by decide +kernel, by decide +kernel⟩, List.mem_of_getElem? (i := 14) (by decide +kernel), List.mem_of_getElem? (i := 261) (by decide +kernel), List.mem_of_getElem? (i := 262) (by decide +kernel)⟩
theorem lw_p2 : lw_okq (⟨"NorthCurtains", "isSeenNight", "(I)Z"⟩, 17) := ⟨⟨by decide +kernel, by decide +kernel⟩, List.mem_of_getElem? (i := 14) (by decide +kernel), List.mem_of_getElem? (i := 265) (by decide +kernel), List.mem_of_getElem? (i := 266) (by decide +kernel)⟩
theorem lw_p3 : lw_okq (⟨"NorthCurtains", "sightingAt", "(I)LNorthCurtains$Glow;"⟩, 17) := ⟨⟨by decide +kernel, by decide +kernel⟩, List.mem_of_getElem? (i := 14) (by decide +kernel), List.mem_of_getElem? (i := 317) (by decide +kernel), List.mem_of_getElem? (i := 318) (by decide +kernel)⟩
theorem lw_p4 : lw_okq (⟨"NorthCurtains$Crossing", "findHeights", "(LNorthCurtains$Arc;LNorthCurtains$Arc;I)Z"⟩, 1) := ⟨⟨by decide +kernel, by decide +kernel⟩, List.mem_of_getElem? (i := 30) (by decide +kernel), List.mem_of_getElem? (i := 398) (by decide +kernel), List.mem_of_getElem? (i := 399) (by decide +kernel)⟩
theorem lw_p5 : lw_okq (⟨"NorthCurtains", "lookAt", "(I)I"⟩, 17) := ⟨⟨by decide +kernel, by decide +kernel⟩, List.mem_of_getElem? (i := 14) (by decide +kernel), List.mem_of_getElem? (i := 438) (by decide +kernel), List.mem_of_getElem? (i := 439) (by decide +kernel)⟩
theorem lw_p6 : lw_okq (⟨"NorthCurtains$Sky", "findMeetings", "(LNorthCurtains$Crossing;I)V"⟩, 9) := ⟨⟨by decide +kernel, by decide +kernel⟩, List.mem_of_getElem? (i := 43) (by decide +kernel), List.mem_of_getElem? (i := 450) (by decide +kernel), List.mem_of_getElem? (i := 451) (by decide +kernel)⟩
theorem lw_p7 : lw_okq (⟨"NorthCurtains$Sky", "partFrom", "(III)Z"⟩, 9) := ⟨⟨by decide +kernel, by decide +kernel⟩, List.mem_of_getElem? (i := 43) (by decide +kernel), List.mem_of_getElem? (i := 456) (by decide +kernel), List.mem_of_getElem? (i := 457) (by decide +kernel)⟩
theorem lw_p8 : lw_okq (⟨"NorthCurtains$Sky", "tellCurtain", "(ILNorthCurtains$Crossing;I)V"⟩, 9) := ⟨⟨by decide +kernel, by decide +kernel⟩, List.mem_of_getElem? (i := 43) (by decide +kernel), List.mem_of_getElem? (i := 461) (by decide +kernel), List.mem_of_getElem? (i := 462) (by decide +kernel)⟩
theorem lw_p9 : lw_okq (⟨"NorthCurtains$Sky", "findFollowers", "(I)I"⟩, 9) := ⟨⟨by decide +kernel, by decide +kernel⟩, List.mem_of_getElem? (i := 43) (by decide +kernel), List.mem_of_getElem? (i := 521) (by decide +kernel), List.mem_of_getElem? (i := 522) (by decide +kernel)⟩
theorem lw_p10 : lw_okq (⟨"NorthCurtains$Sky", "mostLinks", "(II)I"⟩, 9) := ⟨⟨by decide +kernel, by decide +kernel⟩, List.mem_of_getElem? (i := 43) (by decide +kernel), List.mem_of_getElem? (i := 534) (by decide +kernel), List.mem_of_getElem? (i := 535) (by decide +kernel)⟩
theorem lw_p11 : lw_okq (⟨"NorthCurtains$Sky", "firstFollower", "(III)I"⟩, 9) := ⟨⟨by decide +kernel, by decide +kernel⟩, List.mem_of_getElem? (i := 43) (by decide +kernel), List.mem_of_getElem? (i := 538) (by decide +kernel), List.mem_of_getElem? (i := 539) (by decide +kernel)⟩
theorem lw_p12 : lw_okq (⟨"NorthCurtains", "watchOf", "(LNorthCurtains$Station;I)LNorthCurtains$Watch;"⟩, 17) := ⟨⟨by decide +kernel, by decide +kernel⟩, List.mem_of_getElem? (i := 14) (by decide +kernel), List.mem_of_getElem? (i := 559) (by decide +kernel), List.mem_of_getElem? (i := 560) (by decide +kernel)⟩
theorem lw_p13 : lw_okq (⟨"NorthCurtains", "saw", "(LNorthCurtains$Station;I)Z"⟩, 17) := ⟨⟨by decide +kernel, by decide +kernel⟩, List.mem_of_getElem? (i := 14) (by decide +kernel), List.mem_of_getElem? (i := 589) (by decide +kernel), List.mem_of_getElem? (i := 590) (by decide +kernel)⟩
theorem lw_p14 : lw_okq (⟨"NorthCurtains", "roundOf", "(I)I"⟩, 17) := ⟨⟨by decide +kernel, by decide +kernel⟩, List.mem_of_getElem? (i := 14) (by decide +kernel), List.mem_of_getElem? (i := 601) (by decide +kernel), List.mem_of_getElem? (i := 602) (by decide +kernel)⟩
theorem lw_p15 : lw_okq (⟨"NorthCurtains", "areShared", "(II)Z"⟩, 17) := ⟨⟨by decide +kernel, by decide +kernel⟩, List.mem_of_getElem? (i := 14) (by decide +kernel), List.mem_of_getElem? (i := 613) (by decide +kernel), List.mem_of_getElem? (i := 614) (by decide +kernel)⟩
def lw_privs_1 : List (MethodName × Nat) := [(⟨"NorthCurtains", "stationAt", "(I)LNorthCurtains$Station;"⟩, 17), (⟨"NorthCurtains", "keep", "(LNorthCurtains$Glow;)I"⟩, 17), (⟨"NorthCurtains", "isSeenNight", "(I)Z"⟩, 17), (⟨"NorthCurtains", "sightingAt", "(I)LNorthCurtains$Glow;"⟩, 17), (⟨"NorthCurtains$Crossing", "findHeights", "(LNorthCurtains$Arc;LNorthCurtains$Arc;I)Z"⟩, 1), (⟨"NorthCurtains", "lookAt", "(I)I"⟩, 17), (⟨"NorthCurtains$Sky", "findMeetings", "(LNorthCurtains$Crossing;I)V"⟩, 9), (⟨"NorthCurtains$Sky", "partFrom", "(III)Z"⟩, 9), (⟨"NorthCurtains$Sky", "tellCurtain", "(ILNorthCurtains$Crossing;I)V"⟩, 9), (⟨"NorthCurtains$Sky", "findFollowers", "(I)I"⟩, 9), (⟨"NorthCurtains$Sky", "mostLinks", "(II)I"⟩, 9), (⟨"NorthCurtains$Sky", "firstFollower", "(III)I"⟩, 9), (⟨"NorthCurtains", "watchOf", "(LNorthCurtains$Station;I)LNorthCurtains$Watch;"⟩, 17), (⟨"NorthCurtains", "saw", "(LNorthCurtains$Station;I)Z"⟩, 17), (⟨"NorthCurtains", "roundOf", "(I)I"⟩, 17), (⟨"NorthCurtains", "areShared", "(II)Z"⟩, 17)]
theorem lw_r1 : ∀ q ∈ lw_privs_1, lw_okq q := List.forall_mem_cons.mpr ⟨lw_p0, List.forall_mem_cons.mpr ⟨lw_p1, List.forall_mem_cons.mpr ⟨lw_p2, List.forall_mem_cons.mpr ⟨lw_p3, List.forall_mem_cons.mpr ⟨lw_p4, List.forall_mem_cons.mpr ⟨lw_p5, List.forall_mem_cons.mpr ⟨lw_p6, List.forall_mem_cons.mpr ⟨lw_p7, List.forall_mem_cons.mpr ⟨lw_p8, List.forall_mem_cons.mpr ⟨lw_p9, List.forall_mem_cons.mpr ⟨lw_p10, List.forall_mem_cons.mpr ⟨lw_p11, List.forall_mem_cons.mpr ⟨lw_p12, List.forall_mem_cons.mpr ⟨lw_p13, List.forall_mem_cons.mpr ⟨lw_p14, List.forall_mem_cons.mpr ⟨lw_p15, fun _ h => absurd h List.not_mem_nil⟩⟩⟩⟩⟩⟩⟩⟩⟩⟩⟩⟩⟩⟩⟩⟩
theorem lw_p16 : lw_okq (⟨"NorthCurtains", "keepArcs", "([III)I"⟩, 17) := ⟨⟨by decide +kernel, by decide +kernel⟩, List.mem_of_getElem? (i := 14) (by decide +kernel), List.mem_of_getElem? (i := 671) (by decide +kernel), List.mem_of_getElem? (i := 672) (by decide +kernel)⟩
theorem lw_p17 : lw_okq (⟨"NorthCurtains", "isArcAt", "([II)Z"⟩, 17) := ⟨⟨by decide +kernel, by decide +kernel⟩, List.mem_of_getElem? (i := 14) (by decide +kernel), List.mem_of_getElem? (i := 675) (by decide +kernel), List.mem_of_getElem? (i := 676) (by decide +kernel)⟩
theorem lw_p18 : lw_okq (⟨"NorthCurtains", "keepArcAt", "([II)V"⟩, 17) := ⟨⟨by decide +kernel, by decide +kernel⟩, List.mem_of_getElem? (i := 14) (by decide +kernel), List.mem_of_getElem? (i := 679) (by decide +kernel), List.mem_of_getElem? (i := 680) (by decide +kernel)⟩
theorem lw_p19 : lw_okq (⟨"NorthCurtainsModel", "sinOf", "(I)I"⟩, 46) := ⟨⟨by decide +kernel, by decide +kernel⟩, List.mem_of_getElem? (i := 683) (by decide +kernel), List.mem_of_getElem? (i := 846) (by decide +kernel), List.mem_of_getElem? (i := 847) (by decide +kernel)⟩
theorem lw_p20 : lw_okq (⟨"NorthCurtainsModel", "cosOf", "(I)I"⟩, 46) := ⟨⟨by decide +kernel, by decide +kernel⟩, List.mem_of_getElem? (i := 683) (by decide +kernel), List.mem_of_getElem? (i := 850) (by decide +kernel), List.mem_of_getElem? (i := 851) (by decide +kernel)⟩
theorem lw_p21 : lw_okq (⟨"NorthCurtainsModel", "isStation", "(I)Z"⟩, 46) := ⟨⟨by decide +kernel, by decide +kernel⟩, List.mem_of_getElem? (i := 683) (by decide +kernel), List.mem_of_getElem? (i := 863) (by decide +kernel), List.mem_of_getElem? (i := 864) (by decide +kernel)⟩
theorem lw_p22 : lw_okq (⟨"NorthCurtainsModel", "isTold", "(IIIII)Z"⟩, 46) := ⟨⟨by decide +kernel, by decide +kernel⟩, List.mem_of_getElem? (i := 683) (by decide +kernel), List.mem_of_getElem? (i := 873) (by decide +kernel), List.mem_of_getElem? (i := 874) (by decide +kernel)⟩
theorem lw_p23 : lw_okq (⟨"NorthCurtainsModel", "add", "(IIIIIIII)I"⟩, 46) := ⟨⟨by decide +kernel, by decide +kernel⟩, List.mem_of_getElem? (i := 683) (by decide +kernel), List.mem_of_getElem? (i := 883) (by decide +kernel), List.mem_of_getElem? (i := 884) (by decide +kernel)⟩
theorem lw_p24 : lw_okq (⟨"NorthCurtainsModel", "isSighting", "(I)Z"⟩, 46) := ⟨⟨by decide +kernel, by decide +kernel⟩, List.mem_of_getElem? (i := 683) (by decide +kernel), List.mem_of_getElem? (i := 902) (by decide +kernel), List.mem_of_getElem? (i := 903) (by decide +kernel)⟩
theorem lw_p25 : lw_okq (⟨"NorthCurtainsModel", "firstOf", "(I)I"⟩, 46) := ⟨⟨by decide +kernel, by decide +kernel⟩, List.mem_of_getElem? (i := 683) (by decide +kernel), List.mem_of_getElem? (i := 906) (by decide +kernel), List.mem_of_getElem? (i := 907) (by decide +kernel)⟩
theorem lw_p26 : lw_okq (⟨"NorthCurtainsModel", "lastOf", "(I)I"⟩, 46) := ⟨⟨by decide +kernel, by decide +kernel⟩, List.mem_of_getElem? (i := 683) (by decide +kernel), List.mem_of_getElem? (i := 910) (by decide +kernel), List.mem_of_getElem? (i := 911) (by decide +kernel)⟩
theorem lw_p27 : lw_okq (⟨"NorthCurtainsModel", "areMet", "(II)Z"⟩, 46) := ⟨⟨by decide +kernel, by decide +kernel⟩, List.mem_of_getElem? (i := 683) (by decide +kernel), List.mem_of_getElem? (i := 931) (by decide +kernel), List.mem_of_getElem? (i := 932) (by decide +kernel)⟩
theorem lw_p28 : lw_okq (⟨"NorthCurtainsModel", "crosses", "(II)Z"⟩, 46) := ⟨⟨by decide +kernel, by decide +kernel⟩, List.mem_of_getElem? (i := 683) (by decide +kernel), List.mem_of_getElem? (i := 935) (by decide +kernel), List.mem_of_getElem? (i := 936) (by decide +kernel)⟩
theorem lw_p29 : lw_okq (⟨"NorthCurtainsModel", "rise", "(II)I"⟩, 46) := ⟨⟨by decide +kernel, by decide +kernel⟩, List.mem_of_getElem? (i := 683) (by decide +kernel), List.mem_of_getElem? (i := 943) (by decide +kernel), List.mem_of_getElem? (i := 944) (by decide +kernel)⟩
theorem lw_p30 : lw_okq (⟨"NorthCurtainsModel", "crossPart", "(III)I"⟩, 46) := ⟨⟨by decide +kernel, by decide +kernel⟩, List.mem_of_getElem? (i := 683) (by decide +kernel), List.mem_of_getElem? (i := 954) (by decide +kernel), List.mem_of_getElem? (i := 955) (by decide +kernel)⟩
theorem lw_p31 : lw_okq (⟨"NorthCurtainsModel", "findCurtains", "(I)I"⟩, 46) := ⟨⟨by decide +kernel, by decide +kernel⟩, List.mem_of_getElem? (i := 683) (by decide +kernel), List.mem_of_getElem? (i := 962) (by decide +kernel), List.mem_of_getElem? (i := 963) (by decide +kernel)⟩
def lw_privs_2 : List (MethodName × Nat) := [(⟨"NorthCurtains", "keepArcs", "([III)I"⟩, 17), (⟨"NorthCurtains", "isArcAt", "([II)Z"⟩, 17), (⟨"NorthCurtains", "keepArcAt", "([II)V"⟩, 17), (⟨"NorthCurtainsModel", "sinOf", "(I)I"⟩, 46), (⟨"NorthCurtainsModel", "cosOf", "(I)I"⟩, 46), (⟨"NorthCurtainsModel", "isStation", "(I)Z"⟩, 46), (⟨"NorthCurtainsModel", "isTold", "(IIIII)Z"⟩, 46), (⟨"NorthCurtainsModel", "add", "(IIIIIIII)I"⟩, 46), (⟨"NorthCurtainsModel", "isSighting", "(I)Z"⟩, 46), (⟨"NorthCurtainsModel", "firstOf", "(I)I"⟩, 46), (⟨"NorthCurtainsModel", "lastOf", "(I)I"⟩, 46), (⟨"NorthCurtainsModel", "areMet", "(II)Z"⟩, 46), (⟨"NorthCurtainsModel", "crosses", "(II)Z"⟩, 46), (⟨"NorthCurtainsModel", "rise", "(II)I"⟩, 46), (⟨"NorthCurtainsModel", "crossPart", "(III)I"⟩, 46), (⟨"NorthCurtainsModel", "findCurtains", "(I)I"⟩, 46)]
theorem lw_r2 : ∀ q ∈ lw_privs_2, lw_okq q := List.forall_mem_cons.mpr ⟨lw_p16, List.forall_mem_cons.mpr ⟨lw_p17, List.forall_mem_cons.mpr ⟨lw_p18, List.forall_mem_cons.mpr ⟨lw_p19, List.forall_mem_cons.mpr ⟨lw_p20, List.forall_mem_cons.mpr ⟨lw_p21, List.forall_mem_cons.mpr ⟨lw_p22, List.forall_mem_cons.mpr ⟨lw_p23, List.forall_mem_cons.mpr ⟨lw_p24, List.forall_mem_cons.mpr ⟨lw_p25, List.forall_mem_cons.mpr ⟨lw_p26, List.forall_mem_cons.mpr ⟨lw_p27, List.forall_mem_cons.mpr ⟨lw_p28, List.forall_mem_cons.mpr ⟨lw_p29, List.forall_mem_cons.mpr ⟨lw_p30, List.forall_mem_cons.mpr ⟨lw_p31, fun _ h => absurd h List.not_mem_nil⟩⟩⟩⟩⟩⟩⟩⟩⟩⟩⟩⟩⟩⟩⟩⟩
theorem lw_p32 : lw_okq (⟨"NorthCurtainsModel", "listNight", "(I)V"⟩, 46) := ⟨⟨by decide +kernel, by decide +kernel⟩, List.mem_of_getElem? (i := 683) (by decide +kernel), List.mem_of_getElem? (i := 966) (by decide +kernel), List.mem_of_getElem? (i := 967) (by decide +kernel)⟩
theorem lw_p33 : lw_okq (⟨"NorthCurtainsModel", "part", "(I)Z"⟩, 46) := ⟨⟨by decide +kernel, by decide +kernel⟩, List.mem_of_getElem? (i := 683) (by decide +kernel), List.mem_of_getElem? (i := 970) (by decide +kernel), List.mem_of_getElem? (i := 971) (by decide +kernel)⟩
theorem lw_p34 : lw_okq (⟨"NorthCurtainsModel", "setsAhead", "(I)I"⟩, 46) := ⟨⟨by decide +kernel, by decide +kernel⟩, List.mem_of_getElem? (i := 683) (by decide +kernel), List.mem_of_getElem? (i := 974) (by decide +kernel), List.mem_of_getElem? (i := 975) (by decide +kernel)⟩
theorem lw_p35 : lw_okq (⟨"NorthCurtainsModel", "canBeIn", "(II)Z"⟩, 46) := ⟨⟨by decide +kernel, by decide +kernel⟩, List.mem_of_getElem? (i := 683) (by decide +kernel), List.mem_of_getElem? (i := 978) (by decide +kernel), List.mem_of_getElem? (i := 979) (by decide +kernel)⟩
theorem lw_p36 : lw_okq (⟨"NorthCurtainsModel", "findPlace", "(I)V"⟩, 46) := ⟨⟨by decide +kernel, by decide +kernel⟩, List.mem_of_getElem? (i := 683) (by decide +kernel), List.mem_of_getElem? (i := 982) (by decide +kernel), List.mem_of_getElem? (i := 983) (by decide +kernel)⟩
theorem lw_p37 : lw_okq (⟨"NorthCurtainsModel", "findWays", "()I"⟩, 46) := ⟨⟨by decide +kernel, by decide +kernel⟩, List.mem_of_getElem? (i := 683) (by decide +kernel), List.mem_of_getElem? (i := 1004) (by decide +kernel), List.mem_of_getElem? (i := 1005) (by decide +kernel)⟩
theorem lw_p38 : lw_okq (⟨"NorthCurtainsModel", "canFollow", "(II)Z"⟩, 46) := ⟨⟨by decide +kernel, by decide +kernel⟩, List.mem_of_getElem? (i := 683) (by decide +kernel), List.mem_of_getElem? (i := 1008) (by decide +kernel), List.mem_of_getElem? (i := 1009) (by decide +kernel)⟩
theorem lw_p39 : lw_okq (⟨"NorthCurtainsModel", "nextOf", "(II)I"⟩, 46) := ⟨⟨by decide +kernel, by decide +kernel⟩, List.mem_of_getElem? (i := 683) (by decide +kernel), List.mem_of_getElem? (i := 1016) (by decide +kernel), List.mem_of_getElem? (i := 1017) (by decide +kernel)⟩
theorem lw_p40 : lw_okq (⟨"NorthCurtainsModel", "watchOf", "(II)I"⟩, 46) := ⟨⟨by decide +kernel, by decide +kernel⟩, List.mem_of_getElem? (i := 683) (by decide +kernel), List.mem_of_getElem? (i := 1030) (by decide +kernel), List.mem_of_getElem? (i := 1031) (by decide +kernel)⟩
theorem lw_p41 : lw_okq (⟨"NorthCurtainsModel", "isSeen", "(II)Z"⟩, 46) := ⟨⟨by decide +kernel, by decide +kernel⟩, List.mem_of_getElem? (i := 683) (by decide +kernel), List.mem_of_getElem? (i := 1038) (by decide +kernel), List.mem_of_getElem? (i := 1039) (by decide +kernel)⟩
theorem lw_p42 : lw_okq (⟨"NorthCurtainsModel", "roundOf", "(I)I"⟩, 46) := ⟨⟨by decide +kernel, by decide +kernel⟩, List.mem_of_getElem? (i := 683) (by decide +kernel), List.mem_of_getElem? (i := 1053) (by decide +kernel), List.mem_of_getElem? (i := 1054) (by decide +kernel)⟩
theorem lw_p43 : lw_okq (⟨"NorthCurtainsModel", "nightsSeen", "()I"⟩, 46) := ⟨⟨by decide +kernel, by decide +kernel⟩, List.mem_of_getElem? (i := 683) (by decide +kernel), List.mem_of_getElem? (i := 1061) (by decide +kernel), List.mem_of_getElem? (i := 1062) (by decide +kernel)⟩
def lw_privs_3 : List (MethodName × Nat) := [(⟨"NorthCurtainsModel", "listNight", "(I)V"⟩, 46), (⟨"NorthCurtainsModel", "part", "(I)Z"⟩, 46), (⟨"NorthCurtainsModel", "setsAhead", "(I)I"⟩, 46), (⟨"NorthCurtainsModel", "canBeIn", "(II)Z"⟩, 46), (⟨"NorthCurtainsModel", "findPlace", "(I)V"⟩, 46), (⟨"NorthCurtainsModel", "findWays", "()I"⟩, 46), (⟨"NorthCurtainsModel", "canFollow", "(II)Z"⟩, 46), (⟨"NorthCurtainsModel", "nextOf", "(II)I"⟩, 46), (⟨"NorthCurtainsModel", "watchOf", "(II)I"⟩, 46), (⟨"NorthCurtainsModel", "isSeen", "(II)Z"⟩, 46), (⟨"NorthCurtainsModel", "roundOf", "(I)I"⟩, 46), (⟨"NorthCurtainsModel", "nightsSeen", "()I"⟩, 46)]
theorem lw_r3 : ∀ q ∈ lw_privs_3, lw_okq q := List.forall_mem_cons.mpr ⟨lw_p32, List.forall_mem_cons.mpr ⟨lw_p33, List.forall_mem_cons.mpr ⟨lw_p34, List.forall_mem_cons.mpr ⟨lw_p35, List.forall_mem_cons.mpr ⟨lw_p36, List.forall_mem_cons.mpr ⟨lw_p37, List.forall_mem_cons.mpr ⟨lw_p38, List.forall_mem_cons.mpr ⟨lw_p39, List.forall_mem_cons.mpr ⟨lw_p40, List.forall_mem_cons.mpr ⟨lw_p41, List.forall_mem_cons.mpr ⟨lw_p42, List.forall_mem_cons.mpr ⟨lw_p43, fun _ h => absurd h List.not_mem_nil⟩⟩⟩⟩⟩⟩⟩⟩⟩⟩⟩⟩
def lw_privs : List (MethodName × Nat) := lw_privs_1 ++ (lw_privs_2 ++ (lw_privs_3))
def lw_tbl : List Cond := k2_sels lw_privs ++ tables_1
theorem lw_privs_ok : ∀ q ∈ lw_privs, lw_okq q := by
  show ∀ q ∈ lw_privs_1 ++ (lw_privs_2 ++ (lw_privs_3)), lw_okq q
  exact List.forall_mem_append.mpr ⟨lw_r1, List.forall_mem_append.mpr ⟨lw_r2, lw_r3⟩⟩
/-- the streams that the claim lets the run draw from -/
abbrev lw_cs : List Choice := [Jvm.Choice.named "NaN.bits"]
theorem lw_bits : nanBits ∈ lw_cs := by first | decide | exact List.mem_cons_self | simp [lw_cs, nanBits]

def RX0 : String := "NorthCurtains$Arc"
def TX0 : u_T := fun k => match k with
  | 0 => ("NorthCurtains$Glow", "at", "LNorthCurtains$Station;", true)
  | 1 => ("NorthCurtains$Glow", "night", "I", true)
  | 2 => ("NorthCurtains$Glow", "minute", "I", true)
  | 3 => ("NorthCurtains$Glow", "bearing", "I", true)
  | 4 => ("NorthCurtains$Glow", "height", "I", true)
  | _ => ("NorthCurtains$Arc", "hue", "I", true)
def tyX0 : Nat → FieldType := fun k => match k with
  | 0 => .object "NorthCurtains$Station"
  | 1 => .int
  | 2 => .int
  | 3 => .int
  | 4 => .int
  | _ => .int
theorem nmX0 : ∀ a, a < 6 → ∀ b, b < 6 → a ≠ b → (TX0 a).2.1 ≠ (TX0 b).2.1 := by decide +kernel
theorem tyX0_ok : ∀ k, k < 6 → parseFieldDescriptor (TX0 k).2.2.1 = some (tyX0 k) := by decide +kernel
abbrev cX0_init : ByteArray := prog_2_method_1_code
def yX0_init : MethodName := ⟨RX0, "<init>", "(LNorthCurtains$Station;IIIII)V"⟩
abbrev cX0_kind : ByteArray := prog_2_method_2_code
def yX0_kind : MethodName := ⟨RX0, "kind", "()I"⟩
abbrev cX0_mayBeAtOnceWith : ByteArray := prog_2_method_3_code
def yX0_mayBeAtOnceWith : MethodName := ⟨RX0, "mayBeAtOnceWith", "(LNorthCurtains$Arc;)Z"⟩
def RX1 : String := "NorthCurtains$Crossing"
def TX1 : u_T := fun k => match k with
  | _ => ("NorthCurtains$Crossing", "values", "[I", true)
def tyX1 : Nat → FieldType := fun k => match k with
  | _ => .array .int
theorem nmX1 : ∀ a, a < 1 → ∀ b, b < 1 → a ≠ b → (TX1 a).2.1 ≠ (TX1 b).2.1 := by decide +kernel
theorem tyX1_ok : ∀ k, k < 1 → parseFieldDescriptor (TX1 k).2.2.1 = some (tyX1 k) := by decide +kernel
abbrev cX1_init : ByteArray := prog_3_method_1_code
def yX1_init : MethodName := ⟨RX1, "<init>", "()V"⟩
abbrev cX1_find : ByteArray := prog_3_method_2_code
def yX1_find : MethodName := ⟨RX1, "find", "(LNorthCurtains$Arc;LNorthCurtains$Arc;I)Z"⟩
abbrev cX1_across : ByteArray := prog_3_method_3_code
def yX1_across : MethodName := ⟨RX1, "across", "(LNorthCurtains$Arc;LNorthCurtains$Arc;I)J"⟩
abbrev cX1_findHeights : ByteArray := prog_3_method_4_code
def yX1_findHeights : MethodName := ⟨RX1, "findHeights", "(LNorthCurtains$Arc;LNorthCurtains$Arc;I)Z"⟩
abbrev cX1_rise : ByteArray := prog_3_method_5_code
def yX1_rise : MethodName := ⟨RX1, "rise", "(II)I"⟩
def RX2 : String := "NorthCurtains$Curtain"
def TX2 : u_T := fun k => match k with
  | 0 => ("NorthCurtains$Curtain", "size", "I", false)
  | 1 => ("NorthCurtains$Curtain", "time", "I", false)
  | 2 => ("NorthCurtains$Curtain", "x", "I", false)
  | 3 => ("NorthCurtains$Curtain", "y", "I", false)
  | 4 => ("NorthCurtains$Curtain", "height", "I", false)
  | 5 => ("NorthCurtains$Curtain", "firstSighting", "I", false)
  | 6 => ("NorthCurtains$Curtain", "follower", "I", false)
  | 7 => ("NorthCurtains$Curtain", "latestBeginning", "I", false)
  | 8 => ("NorthCurtains$Curtain", "earliestEnd", "I", false)
  | _ => ("NorthCurtains$Curtain", "pairs", "I", false)
def tyX2 : Nat → FieldType := fun k => match k with
  | 0 => .int
  | 1 => .int
  | 2 => .int
  | 3 => .int
  | 4 => .int
  | 5 => .int
  | 6 => .int
  | 7 => .int
  | 8 => .int
  | _ => .int
theorem nmX2 : ∀ a, a < 10 → ∀ b, b < 10 → a ≠ b → (TX2 a).2.1 ≠ (TX2 b).2.1 := by decide +kernel
theorem tyX2_ok : ∀ k, k < 10 → parseFieldDescriptor (TX2 k).2.2.1 = some (tyX2 k) := by decide +kernel
abbrev cX2_init : ByteArray := prog_4_method_1_code
def yX2_init : MethodName := ⟨RX2, "<init>", "()V"⟩
abbrev cX2_clear : ByteArray := prog_4_method_2_code
def yX2_clear : MethodName := ⟨RX2, "clear", "()V"⟩
abbrev cX2_take : ByteArray := prog_4_method_3_code
def yX2_take : MethodName := ⟨RX2, "take", "(ILNorthCurtains$Arc;)V"⟩
abbrev cX2_takePair : ByteArray := prog_4_method_4_code
def yX2_takePair : MethodName := ⟨RX2, "takePair", "([I)V"⟩
abbrev cX2_finish : ByteArray := prog_4_method_5_code
def yX2_finish : MethodName := ⟨RX2, "finish", "()V"⟩
abbrev cX2_hasPlace : ByteArray := prog_4_method_6_code
def yX2_hasPlace : MethodName := ⟨RX2, "hasPlace", "()Z"⟩
abbrev cX2_answer : ByteArray := prog_4_method_7_code
def yX2_answer : MethodName := ⟨RX2, "answer", "(I)I"⟩
abbrev cX2_canBeFollowedBy : ByteArray := prog_4_method_8_code
def yX2_canBeFollowedBy : MethodName := ⟨RX2, "canBeFollowedBy", "(LNorthCurtains$Curtain;I)Z"⟩
abbrev cX2_nearestMinute : ByteArray := prog_4_method_9_code
def yX2_nearestMinute : MethodName := ⟨RX2, "nearestMinute", "(LNorthCurtains$Curtain;LNorthCurtains$Station;)I"⟩
abbrev cX2_squareOfFar : ByteArray := prog_4_method_10_code
def yX2_squareOfFar : MethodName := ⟨RX2, "squareOfFar", "(II)J"⟩
def RX3 : String := "NorthCurtains$Glow"
def TX3 : u_T := fun k => match k with
  | 0 => ("NorthCurtains$Glow", "at", "LNorthCurtains$Station;", true)
  | 1 => ("NorthCurtains$Glow", "night", "I", true)
  | 2 => ("NorthCurtains$Glow", "minute", "I", true)
  | 3 => ("NorthCurtains$Glow", "bearing", "I", true)
  | _ => ("NorthCurtains$Glow", "height", "I", true)
def tyX3 : Nat → FieldType := fun k => match k with
  | 0 => .object "NorthCurtains$Station"
  | 1 => .int
  | 2 => .int
  | 3 => .int
  | _ => .int
theorem nmX3 : ∀ a, a < 5 → ∀ b, b < 5 → a ≠ b → (TX3 a).2.1 ≠ (TX3 b).2.1 := by decide +kernel
theorem tyX3_ok : ∀ k, k < 5 → parseFieldDescriptor (TX3 k).2.2.1 = some (tyX3 k) := by decide +kernel
abbrev cX3_init : ByteArray := prog_5_method_1_code
def yX3_init : MethodName := ⟨RX3, "<init>", "(LNorthCurtains$Station;IIII)V"⟩
abbrev cX3_kind : ByteArray := prog_5_method_2_code
def yX3_kind : MethodName := ⟨RX3, "kind", "()I"⟩
abbrev cX3_earliest : ByteArray := prog_5_method_3_code
def yX3_earliest : MethodName := ⟨RX3, "earliest", "()I"⟩
abbrev cX3_latest : ByteArray := prog_5_method_4_code
def yX3_latest : MethodName := ⟨RX3, "latest", "()I"⟩
def RX4 : String := "NorthCurtains$Ray"
def TX4 : u_T := fun k => match k with
  | 0 => ("NorthCurtains$Arc", "hue", "I", true)
  | 1 => ("NorthCurtains$Glow", "at", "LNorthCurtains$Station;", true)
  | 2 => ("NorthCurtains$Glow", "night", "I", true)
  | 3 => ("NorthCurtains$Glow", "minute", "I", true)
  | 4 => ("NorthCurtains$Glow", "bearing", "I", true)
  | 5 => ("NorthCurtains$Glow", "height", "I", true)
  | _ => ("NorthCurtains$Ray", "slant", "I", true)
def tyX4 : Nat → FieldType := fun k => match k with
  | 0 => .int
  | 1 => .object "NorthCurtains$Station"
  | 2 => .int
  | 3 => .int
  | 4 => .int
  | 5 => .int
  | _ => .int
theorem nmX4 : ∀ a, a < 7 → ∀ b, b < 7 → a ≠ b → (TX4 a).2.1 ≠ (TX4 b).2.1 := by decide +kernel
theorem tyX4_ok : ∀ k, k < 7 → parseFieldDescriptor (TX4 k).2.2.1 = some (tyX4 k) := by decide +kernel
abbrev cX4_init : ByteArray := prog_6_method_1_code
def yX4_init : MethodName := ⟨RX4, "<init>", "(LNorthCurtains$Station;IIIIII)V"⟩
abbrev cX4_kind : ByteArray := prog_6_method_2_code
def yX4_kind : MethodName := ⟨RX4, "kind", "()I"⟩
def RX5 : String := "NorthCurtains$Row"
def TX5 : u_T := fun k => match k with
  | 0 => ("NorthCurtains$Row", "lane", "I", true)
  | _ => ("NorthCurtains$Row", "items", "[I", true)
def tyX5 : Nat → FieldType := fun k => match k with
  | 0 => .int
  | _ => .array .int
theorem nmX5 : ∀ a, a < 2 → ∀ b, b < 2 → a ≠ b → (TX5 a).2.1 ≠ (TX5 b).2.1 := by decide +kernel
theorem tyX5_ok : ∀ k, k < 2 → parseFieldDescriptor (TX5 k).2.2.1 = some (tyX5 k) := by decide +kernel
abbrev cX5_init : ByteArray := prog_7_method_1_code
def yX5_init : MethodName := ⟨RX5, "<init>", "(II)V"⟩
abbrev cX5_holds : ByteArray := prog_7_method_2_code
def yX5_holds : MethodName := ⟨RX5, "holds", "(II)Z"⟩
def RX6 : String := "NorthCurtains$Sky"
def TX6 : u_T := fun k => match k with
  | 0 => ("NorthCurtains$Sky", "curtains", "[LNorthCurtains$Curtain;", true)
  | 1 => ("NorthCurtains$Sky", "arcs", "[LNorthCurtains$Arc;", true)
  | 2 => ("NorthCurtains$Sky", "numbers", "[I", true)
  | 3 => ("NorthCurtains$Sky", "meeting", "[I", true)
  | 4 => ("NorthCurtains$Sky", "members", "[I", true)
  | 5 => ("NorthCurtains$Sky", "followers", "[I", true)
  | 6 => ("NorthCurtains$Sky", "setOf", "[I", true)
  | 7 => ("NorthCurtains$Sky", "arcCount", "I", false)
  | _ => ("NorthCurtains$Sky", "curtainCount", "I", false)
def tyX6 : Nat → FieldType := fun k => match k with
  | 0 => .array (.object "NorthCurtains$Curtain")
  | 1 => .array (.object "NorthCurtains$Arc")
  | 2 => .array .int
  | 3 => .array .int
  | 4 => .array .int
  | 5 => .array .int
  | 6 => .array .int
  | 7 => .int
  | _ => .int
theorem nmX6 : ∀ a, a < 9 → ∀ b, b < 9 → a ≠ b → (TX6 a).2.1 ≠ (TX6 b).2.1 := by decide +kernel
theorem tyX6_ok : ∀ k, k < 9 → parseFieldDescriptor (TX6 k).2.2.1 = some (tyX6 k) := by decide +kernel
abbrev cX6_init : ByteArray := prog_8_method_1_code
def yX6_init : MethodName := ⟨RX6, "<init>", "()V"⟩
abbrev cX6_gather : ByteArray := prog_8_method_2_code
def yX6_gather : MethodName := ⟨RX6, "gather", "([LNorthCurtains$Glow;II)Z"⟩
abbrev cX6_partCurtains : ByteArray := prog_8_method_3_code
def yX6_partCurtains : MethodName := ⟨RX6, "partCurtains", "(LNorthCurtains$Crossing;I)I"⟩
abbrev cX6_setOfSighting : ByteArray := prog_8_method_4_code
def yX6_setOfSighting : MethodName := ⟨RX6, "setOfSighting", "(I)I"⟩
abbrev cX6_joinWays : ByteArray := prog_8_method_5_code
def yX6_joinWays : MethodName := ⟨RX6, "joinWays", "(I)I"⟩
abbrev cX6_findMeetings : ByteArray := prog_8_method_6_code
def yX6_findMeetings : MethodName := ⟨RX6, "findMeetings", "(LNorthCurtains$Crossing;I)V"⟩
abbrev cX6_partFrom : ByteArray := prog_8_method_7_code
def yX6_partFrom : MethodName := ⟨RX6, "partFrom", "(III)Z"⟩
abbrev cX6_tellCurtain : ByteArray := prog_8_method_8_code
def yX6_tellCurtain : MethodName := ⟨RX6, "tellCurtain", "(ILNorthCurtains$Crossing;I)V"⟩
abbrev cX6_findFollowers : ByteArray := prog_8_method_9_code
def yX6_findFollowers : MethodName := ⟨RX6, "findFollowers", "(I)I"⟩
abbrev cX6_mostLinks : ByteArray := prog_8_method_10_code
def yX6_mostLinks : MethodName := ⟨RX6, "mostLinks", "(II)I"⟩
abbrev cX6_firstFollower : ByteArray := prog_8_method_11_code
def yX6_firstFollower : MethodName := ⟨RX6, "firstFollower", "(III)I"⟩
def RX7 : String := "NorthCurtains$Station"
def TX7 : u_T := fun k => match k with
  | 0 => ("NorthCurtains$Station", "number", "I", true)
  | 1 => ("NorthCurtains$Station", "x", "I", true)
  | 2 => ("NorthCurtains$Station", "y", "I", true)
  | 3 => ("NorthCurtains$Station", "low", "I", false)
  | _ => ("NorthCurtains$Station", "high", "I", false)
def tyX7 : Nat → FieldType := fun k => match k with
  | 0 => .int
  | 1 => .int
  | 2 => .int
  | 3 => .int
  | _ => .int
theorem nmX7 : ∀ a, a < 5 → ∀ b, b < 5 → a ≠ b → (TX7 a).2.1 ≠ (TX7 b).2.1 := by decide +kernel
theorem tyX7_ok : ∀ k, k < 5 → parseFieldDescriptor (TX7 k).2.2.1 = some (tyX7 k) := by decide +kernel
abbrev cX7_init : ByteArray := prog_9_method_1_code
def yX7_init : MethodName := ⟨RX7, "<init>", "(III)V"⟩
def RX8 : String := "NorthCurtains$Watch"
def TX8 : u_T := fun k => match k with
  | 0 => ("NorthCurtains$Watch", "at", "LNorthCurtains$Station;", true)
  | 1 => ("NorthCurtains$Watch", "night", "I", true)
  | 2 => ("NorthCurtains$Watch", "clear", "I", true)
  | _ => ("NorthCurtains$Watch", "dark", "I", true)
def tyX8 : Nat → FieldType := fun k => match k with
  | 0 => .object "NorthCurtains$Station"
  | 1 => .int
  | 2 => .int
  | _ => .int
theorem nmX8 : ∀ a, a < 4 → ∀ b, b < 4 → a ≠ b → (TX8 a).2.1 ≠ (TX8 b).2.1 := by decide +kernel
theorem tyX8_ok : ∀ k, k < 4 → parseFieldDescriptor (TX8 k).2.2.1 = some (tyX8 k) := by decide +kernel
abbrev cX8_init : ByteArray := prog_10_method_1_code
def yX8_init : MethodName := ⟨RX8, "<init>", "(LNorthCurtains$Station;III)V"⟩
def RX9 : String := "NorthCurtains"
def TX9 : u_T := fun k => match k with
  | 0 => ("NorthCurtains", "stations", "[LNorthCurtains$Station;", true)
  | 1 => ("NorthCurtains", "sightings", "[LNorthCurtains$Glow;", true)
  | 2 => ("NorthCurtains", "watches", "[LNorthCurtains$Watch;", true)
  | 3 => ("NorthCurtains", "sharedFirst", "[I", true)
  | 4 => ("NorthCurtains", "sharedSecond", "[I", true)
  | 5 => ("NorthCurtains", "nightsSeen", "[I", true)
  | 6 => ("NorthCurtains", "rests", "[I", true)
  | 7 => ("NorthCurtains", "rows", "[LNorthCurtains$Row;", true)
  | 8 => ("NorthCurtains", "crossing", "LNorthCurtains$Crossing;", true)
  | 9 => ("NorthCurtains", "sky", "LNorthCurtains$Sky;", true)
  | 10 => ("NorthCurtains", "stationCount", "I", false)
  | 11 => ("NorthCurtains", "sightingCount", "I", false)
  | 12 => ("NorthCurtains", "watchCount", "I", false)
  | 13 => ("NorthCurtains", "sharedCount", "I", false)
  | 14 => ("NorthCurtains", "nightsSeenCount", "I", false)
  | 15 => ("NorthCurtains", "thickness", "I", false)
  | _ => ("NorthCurtains", "pace", "I", false)
def tyX9 : Nat → FieldType := fun k => match k with
  | 0 => .array (.object "NorthCurtains$Station")
  | 1 => .array (.object "NorthCurtains$Glow")
  | 2 => .array (.object "NorthCurtains$Watch")
  | 3 => .array .int
  | 4 => .array .int
  | 5 => .array .int
  | 6 => .array .int
  | 7 => .array (.object "NorthCurtains$Row")
  | 8 => .object "NorthCurtains$Crossing"
  | 9 => .object "NorthCurtains$Sky"
  | 10 => .int
  | 11 => .int
  | 12 => .int
  | 13 => .int
  | 14 => .int
  | 15 => .int
  | _ => .int
theorem nmX9 : ∀ a, a < 17 → ∀ b, b < 17 → a ≠ b → (TX9 a).2.1 ≠ (TX9 b).2.1 := by decide +kernel
theorem tyX9_ok : ∀ k, k < 17 → parseFieldDescriptor (TX9 k).2.2.1 = some (tyX9 k) := by decide +kernel
abbrev cX9_init : ByteArray := prog_1_method_1_code
def yX9_init : MethodName := ⟨RX9, "<init>", "()V"⟩
abbrev cX9_station : ByteArray := prog_1_method_2_code
def yX9_station : MethodName := ⟨RX9, "station", "(II)I"⟩
abbrev cX9_clock : ByteArray := prog_1_method_3_code
def yX9_clock : MethodName := ⟨RX9, "clock", "(III)I"⟩
abbrev cX9_glow : ByteArray := prog_1_method_4_code
def yX9_glow : MethodName := ⟨RX9, "glow", "(IIIII)I"⟩
abbrev cX9_arc : ByteArray := prog_1_method_5_code
def yX9_arc : MethodName := ⟨RX9, "arc", "(IIIIII)I"⟩
abbrev cX9_ray : ByteArray := prog_1_method_6_code
def yX9_ray : MethodName := ⟨RX9, "ray", "(IIIIIII)I"⟩
abbrev cX9_told : ByteArray := prog_1_method_7_code
def yX9_told : MethodName := ⟨RX9, "told", "(II)I"⟩
abbrev cX9_colour : ByteArray := prog_1_method_8_code
def yX9_colour : MethodName := ⟨RX9, "colour", "(I)I"⟩
abbrev cX9_lean : ByteArray := prog_1_method_9_code
def yX9_lean : MethodName := ⟨RX9, "lean", "(I)I"⟩
abbrev cX9_table : ByteArray := prog_1_method_10_code
def yX9_table : MethodName := ⟨RX9, "table", "(II)I"⟩
abbrev cX9_thick : ByteArray := prog_1_method_11_code
def yX9_thick : MethodName := ⟨RX9, "thick", "(I)I"⟩
abbrev cX9_meets : ByteArray := prog_1_method_12_code
def yX9_meets : MethodName := ⟨RX9, "meets", "(II)I"⟩
abbrev cX9_cross : ByteArray := prog_1_method_13_code
def yX9_cross : MethodName := ⟨RX9, "cross", "(III)I"⟩
abbrev cX9_curtains : ByteArray := prog_1_method_14_code
def yX9_curtains : MethodName := ⟨RX9, "curtains", "(I)I"⟩
abbrev cX9_curtain : ByteArray := prog_1_method_15_code
def yX9_curtain : MethodName := ⟨RX9, "curtain", "(III)I"⟩
abbrev cX9_curtainOf : ByteArray := prog_1_method_16_code
def yX9_curtainOf : MethodName := ⟨RX9, "curtainOf", "(I)I"⟩
abbrev cX9_speed : ByteArray := prog_1_method_17_code
def yX9_speed : MethodName := ⟨RX9, "speed", "(I)I"⟩
abbrev cX9_ways : ByteArray := prog_1_method_18_code
def yX9_ways : MethodName := ⟨RX9, "ways", "(I)I"⟩
abbrev cX9_next : ByteArray := prog_1_method_19_code
def yX9_next : MethodName := ⟨RX9, "next", "(II)I"⟩
abbrev cX9_overhead : ByteArray := prog_1_method_20_code
def yX9_overhead : MethodName := ⟨RX9, "overhead", "(III)I"⟩
abbrev cX9_watch : ByteArray := prog_1_method_21_code
def yX9_watch : MethodName := ⟨RX9, "watch", "(IIIII)I"⟩
abbrev cX9_seen : ByteArray := prog_1_method_22_code
def yX9_seen : MethodName := ⟨RX9, "seen", "(II)I"⟩
abbrev cX9_rate : ByteArray := prog_1_method_23_code
def yX9_rate : MethodName := ⟨RX9, "rate", "(IIII)I"⟩
abbrev cX9_round : ByteArray := prog_1_method_24_code
def yX9_round : MethodName := ⟨RX9, "round", "(I)I"⟩
abbrev cX9_best : ByteArray := prog_1_method_25_code
def yX9_best : MethodName := ⟨RX9, "best", "()I"⟩
abbrev cX9_share : ByteArray := prog_1_method_26_code
def yX9_share : MethodName := ⟨RX9, "share", "(II)I"⟩
abbrev cX9_mended : ByteArray := prog_1_method_27_code
def yX9_mended : MethodName := ⟨RX9, "mended", "(II)I"⟩
abbrev cX9_moved : ByteArray := prog_1_method_28_code
def yX9_moved : MethodName := ⟨RX9, "moved", "(I)I"⟩
abbrev cX9_count : ByteArray := prog_1_method_29_code
def yX9_count : MethodName := ⟨RX9, "count", "(I)I"⟩
abbrev cX9_sheet : ByteArray := prog_1_method_30_code
def yX9_sheet : MethodName := ⟨RX9, "sheet", "(III)I"⟩
abbrev cX9_drop : ByteArray := prog_1_method_31_code
def yX9_drop : MethodName := ⟨RX9, "drop", "(I)I"⟩
abbrev cX9_item : ByteArray := prog_1_method_32_code
def yX9_item : MethodName := ⟨RX9, "item", "(IIII)I"⟩
abbrev cX9_arcs : ByteArray := prog_1_method_33_code
def yX9_arcs : MethodName := ⟨RX9, "arcs", "(IIII)I"⟩
abbrev cX9_isWithin : ByteArray := prog_1_method_34_code
def yX9_isWithin : MethodName := ⟨RX9, "isWithin", "(III)Z"⟩
abbrev cX9_isNight : ByteArray := prog_1_method_35_code
def yX9_isNight : MethodName := ⟨RX9, "isNight", "(I)Z"⟩
abbrev cX9_isInSky : ByteArray := prog_1_method_36_code
def yX9_isInSky : MethodName := ⟨RX9, "isInSky", "(IIII)Z"⟩
abbrev cX9_isColour : ByteArray := prog_1_method_37_code
def yX9_isColour : MethodName := ⟨RX9, "isColour", "(I)Z"⟩
abbrev cX9_isSheet : ByteArray := prog_1_method_38_code
def yX9_isSheet : MethodName := ⟨RX9, "isSheet", "(I)Z"⟩
abbrev cX9_isLane : ByteArray := prog_1_method_39_code
def yX9_isLane : MethodName := ⟨RX9, "isLane", "(I)Z"⟩
abbrev cX9_sine : ByteArray := prog_1_method_40_code
def yX9_sine : MethodName := ⟨RX9, "sine", "(I)I"⟩
abbrev cX9_cosine : ByteArray := prog_1_method_41_code
def yX9_cosine : MethodName := ⟨RX9, "cosine", "(I)I"⟩
abbrev cX9_tangent : ByteArray := prog_1_method_42_code
def yX9_tangent : MethodName := ⟨RX9, "tangent", "(I)I"⟩
abbrev cX9_stationAt : ByteArray := prog_1_method_43_code
def yX9_stationAt : MethodName := ⟨RX9, "stationAt", "(I)LNorthCurtains$Station;"⟩
abbrev cX9_sightingAt : ByteArray := prog_1_method_44_code
def yX9_sightingAt : MethodName := ⟨RX9, "sightingAt", "(I)LNorthCurtains$Glow;"⟩
abbrev cX9_keep : ByteArray := prog_1_method_45_code
def yX9_keep : MethodName := ⟨RX9, "keep", "(LNorthCurtains$Glow;)I"⟩
abbrev cX9_isSeenNight : ByteArray := prog_1_method_46_code
def yX9_isSeenNight : MethodName := ⟨RX9, "isSeenNight", "(I)Z"⟩
abbrev cX9_keepArcs : ByteArray := prog_1_method_47_code
def yX9_keepArcs : MethodName := ⟨RX9, "keepArcs", "([III)I"⟩
abbrev cX9_isArcAt : ByteArray := prog_1_method_48_code
def yX9_isArcAt : MethodName := ⟨RX9, "isArcAt", "([II)Z"⟩
abbrev cX9_keepArcAt : ByteArray := prog_1_method_49_code
def yX9_keepArcAt : MethodName := ⟨RX9, "keepArcAt", "([II)V"⟩
abbrev cX9_lookAt : ByteArray := prog_1_method_50_code
def yX9_lookAt : MethodName := ⟨RX9, "lookAt", "(I)I"⟩
abbrev cX9_watchOf : ByteArray := prog_1_method_51_code
def yX9_watchOf : MethodName := ⟨RX9, "watchOf", "(LNorthCurtains$Station;I)LNorthCurtains$Watch;"⟩
abbrev cX9_saw : ByteArray := prog_1_method_52_code
def yX9_saw : MethodName := ⟨RX9, "saw", "(LNorthCurtains$Station;I)Z"⟩
abbrev cX9_roundOf : ByteArray := prog_1_method_53_code
def yX9_roundOf : MethodName := ⟨RX9, "roundOf", "(I)I"⟩
abbrev cX9_areShared : ByteArray := prog_1_method_54_code
def yX9_areShared : MethodName := ⟨RX9, "areShared", "(II)Z"⟩
def RX10 : String := "NorthCurtainsModel"
def TX10 : u_T := fun k => match k with
  | 0 => ("NorthCurtainsModel", "sines", "[I", true)
  | 1 => ("NorthCurtainsModel", "tangents", "[I", true)
  | 2 => ("NorthCurtainsModel", "stations", "I", false)
  | 3 => ("NorthCurtainsModel", "xs", "[I", true)
  | 4 => ("NorthCurtainsModel", "ys", "[I", true)
  | 5 => ("NorthCurtainsModel", "lows", "[I", true)
  | 6 => ("NorthCurtainsModel", "highs", "[I", true)
  | 7 => ("NorthCurtainsModel", "sightings", "I", false)
  | 8 => ("NorthCurtainsModel", "kinds", "[I", true)
  | 9 => ("NorthCurtainsModel", "at", "[I", true)
  | 10 => ("NorthCurtainsModel", "nights", "[I", true)
  | 11 => ("NorthCurtainsModel", "minutes", "[I", true)
  | 12 => ("NorthCurtainsModel", "bearings", "[I", true)
  | 13 => ("NorthCurtainsModel", "heights", "[I", true)
  | 14 => ("NorthCurtainsModel", "colours", "[I", true)
  | 15 => ("NorthCurtainsModel", "leans", "[I", true)
  | 16 => ("NorthCurtainsModel", "thick", "I", false)
  | 17 => ("NorthCurtainsModel", "\x72", "I", false)
  | 18 => ("NorthCurtainsModel", "s", "I", false)
  | 19 => ("NorthCurtainsModel", "listed", "I", false)
  | 20 => ("NorthCurtainsModel", "list", "[I", true)
  | 21 => ("NorthCurtainsModel", "curtains", "I", false)
  | 22 => ("NorthCurtainsModel", "curtainIs", "[I", true)
  | 23 => ("NorthCurtainsModel", "meetBits", "[I", true)
  | 24 => ("NorthCurtainsModel", "sets", "[I", true)
  | 25 => ("NorthCurtainsModel", "members", "[I", true)
  | 26 => ("NorthCurtainsModel", "times", "[I", true)
  | 27 => ("NorthCurtainsModel", "placeX", "[I", true)
  | 28 => ("NorthCurtainsModel", "placeY", "[I", true)
  | 29 => ("NorthCurtainsModel", "placeHeight", "[I", true)
  | 30 => ("NorthCurtainsModel", "firsts", "[I", true)
  | 31 => ("NorthCurtainsModel", "speed", "I", false)
  | 32 => ("NorthCurtainsModel", "follows", "[I", true)
  | 33 => ("NorthCurtainsModel", "nexts", "[I", true)
  | 34 => ("NorthCurtainsModel", "watches", "I", false)
  | 35 => ("NorthCurtainsModel", "watchers", "[I", true)
  | 36 => ("NorthCurtainsModel", "watchNights", "[I", true)
  | 37 => ("NorthCurtainsModel", "clears", "[I", true)
  | 38 => ("NorthCurtainsModel", "darks", "[I", true)
  | 39 => ("NorthCurtainsModel", "rests", "[I", true)
  | 40 => ("NorthCurtainsModel", "shares", "I", false)
  | 41 => ("NorthCurtainsModel", "shareOne", "[I", true)
  | 42 => ("NorthCurtainsModel", "shareOther", "[I", true)
  | 43 => ("NorthCurtainsModel", "lanes", "[I", true)
  | 44 => ("NorthCurtainsModel", "sizes", "[I", true)
  | _ => ("NorthCurtainsModel", "items", "[I", true)
def tyX10 : Nat → FieldType := fun k => match k with
  | 0 => .array .int
  | 1 => .array .int
  | 2 => .int
  | 3 => .array .int
  | 4 => .array .int
  | 5 => .array .int
  | 6 => .array .int
  | 7 => .int
  | 8 => .array .int
  | 9 => .array .int
  | 10 => .array .int
  | 11 => .array .int
  | 12 => .array .int
  | 13 => .array .int
  | 14 => .array .int
  | 15 => .array .int
  | 16 => .int
  | 17 => .int
  | 18 => .int
  | 19 => .int
  | 20 => .array .int
  | 21 => .int
  | 22 => .array .int
  | 23 => .array .int
  | 24 => .array .int
  | 25 => .array .int
  | 26 => .array .int
  | 27 => .array .int
  | 28 => .array .int
  | 29 => .array .int
  | 30 => .array .int
  | 31 => .int
  | 32 => .array .int
  | 33 => .array .int
  | 34 => .int
  | 35 => .array .int
  | 36 => .array .int
  | 37 => .array .int
  | 38 => .array .int
  | 39 => .array .int
  | 40 => .int
  | 41 => .array .int
  | 42 => .array .int
  | 43 => .array .int
  | 44 => .array .int
  | _ => .array .int
theorem nmX10 : ∀ a, a < 46 → ∀ b, b < 46 → a ≠ b → (TX10 a).2.1 ≠ (TX10 b).2.1 := by decide +kernel
theorem tyX10_ok : ∀ k, k < 46 → parseFieldDescriptor (TX10 k).2.2.1 = some (tyX10 k) := by decide +kernel
abbrev cX10_in : ByteArray := prog_12_method_1_code
def yX10_in : MethodName := ⟨RX10, "in", "(JJJ)Z"⟩
abbrev cX10_init : ByteArray := prog_12_method_2_code
def yX10_init : MethodName := ⟨RX10, "<init>", "()V"⟩
abbrev cX10_sineOf : ByteArray := prog_12_method_3_code
def yX10_sineOf : MethodName := ⟨RX10, "sineOf", "(I)D"⟩
abbrev cX10_sinOf : ByteArray := prog_12_method_4_code
def yX10_sinOf : MethodName := ⟨RX10, "sinOf", "(I)I"⟩
abbrev cX10_cosOf : ByteArray := prog_12_method_5_code
def yX10_cosOf : MethodName := ⟨RX10, "cosOf", "(I)I"⟩
abbrev cX10_table : ByteArray := prog_12_method_6_code
def yX10_table : MethodName := ⟨RX10, "table", "(II)I"⟩
abbrev cX10_isStation : ByteArray := prog_12_method_7_code
def yX10_isStation : MethodName := ⟨RX10, "isStation", "(I)Z"⟩
abbrev cX10_station : ByteArray := prog_12_method_8_code
def yX10_station : MethodName := ⟨RX10, "station", "(II)I"⟩
abbrev cX10_clock : ByteArray := prog_12_method_9_code
def yX10_clock : MethodName := ⟨RX10, "clock", "(III)I"⟩
abbrev cX10_isNight : ByteArray := prog_12_method_10_code
def yX10_isNight : MethodName := ⟨RX10, "isNight", "(I)Z"⟩
abbrev cX10_isTold : ByteArray := prog_12_method_11_code
def yX10_isTold : MethodName := ⟨RX10, "isTold", "(IIIII)Z"⟩
abbrev cX10_add : ByteArray := prog_12_method_12_code
def yX10_add : MethodName := ⟨RX10, "add", "(IIIIIIII)I"⟩
abbrev cX10_glow : ByteArray := prog_12_method_13_code
def yX10_glow : MethodName := ⟨RX10, "glow", "(IIIII)I"⟩
abbrev cX10_arc : ByteArray := prog_12_method_14_code
def yX10_arc : MethodName := ⟨RX10, "arc", "(IIIIII)I"⟩
abbrev cX10_ray : ByteArray := prog_12_method_15_code
def yX10_ray : MethodName := ⟨RX10, "ray", "(IIIIIII)I"⟩
abbrev cX10_isSighting : ByteArray := prog_12_method_16_code
def yX10_isSighting : MethodName := ⟨RX10, "isSighting", "(I)Z"⟩
abbrev cX10_firstOf : ByteArray := prog_12_method_17_code
def yX10_firstOf : MethodName := ⟨RX10, "firstOf", "(I)I"⟩
abbrev cX10_lastOf : ByteArray := prog_12_method_18_code
def yX10_lastOf : MethodName := ⟨RX10, "lastOf", "(I)I"⟩
abbrev cX10_told : ByteArray := prog_12_method_19_code
def yX10_told : MethodName := ⟨RX10, "told", "(II)I"⟩
abbrev cX10_colour : ByteArray := prog_12_method_20_code
def yX10_colour : MethodName := ⟨RX10, "colour", "(I)I"⟩
abbrev cX10_lean : ByteArray := prog_12_method_21_code
def yX10_lean : MethodName := ⟨RX10, "lean", "(I)I"⟩
abbrev cX10_thick : ByteArray := prog_12_method_22_code
def yX10_thick : MethodName := ⟨RX10, "thick", "(I)I"⟩
abbrev cX10_crosses : ByteArray := prog_12_method_23_code
def yX10_crosses : MethodName := ⟨RX10, "crosses", "(II)Z"⟩
abbrev cX10_rise : ByteArray := prog_12_method_24_code
def yX10_rise : MethodName := ⟨RX10, "rise", "(II)I"⟩
abbrev cX10_areMet : ByteArray := prog_12_method_25_code
def yX10_areMet : MethodName := ⟨RX10, "areMet", "(II)Z"⟩
abbrev cX10_meets : ByteArray := prog_12_method_26_code
def yX10_meets : MethodName := ⟨RX10, "meets", "(II)I"⟩
abbrev cX10_crossPart : ByteArray := prog_12_method_27_code
def yX10_crossPart : MethodName := ⟨RX10, "crossPart", "(III)I"⟩
abbrev cX10_cross : ByteArray := prog_12_method_28_code
def yX10_cross : MethodName := ⟨RX10, "cross", "(III)I"⟩
abbrev cX10_listNight : ByteArray := prog_12_method_29_code
def yX10_listNight : MethodName := ⟨RX10, "listNight", "(I)V"⟩
abbrev cX10_canBeIn : ByteArray := prog_12_method_30_code
def yX10_canBeIn : MethodName := ⟨RX10, "canBeIn", "(II)Z"⟩
abbrev cX10_setsAhead : ByteArray := prog_12_method_31_code
def yX10_setsAhead : MethodName := ⟨RX10, "setsAhead", "(I)I"⟩
abbrev cX10_part : ByteArray := prog_12_method_32_code
def yX10_part : MethodName := ⟨RX10, "part", "(I)Z"⟩
abbrev cX10_findCurtains : ByteArray := prog_12_method_33_code
def yX10_findCurtains : MethodName := ⟨RX10, "findCurtains", "(I)I"⟩
abbrev cX10_curtains : ByteArray := prog_12_method_34_code
def yX10_curtains : MethodName := ⟨RX10, "curtains", "(I)I"⟩
abbrev cX10_findPlace : ByteArray := prog_12_method_35_code
def yX10_findPlace : MethodName := ⟨RX10, "findPlace", "(I)V"⟩
abbrev cX10_curtain : ByteArray := prog_12_method_36_code
def yX10_curtain : MethodName := ⟨RX10, "curtain", "(III)I"⟩
abbrev cX10_curtainOf : ByteArray := prog_12_method_37_code
def yX10_curtainOf : MethodName := ⟨RX10, "curtainOf", "(I)I"⟩
abbrev cX10_speed : ByteArray := prog_12_method_38_code
def yX10_speed : MethodName := ⟨RX10, "speed", "(I)I"⟩
abbrev cX10_canFollow : ByteArray := prog_12_method_39_code
def yX10_canFollow : MethodName := ⟨RX10, "canFollow", "(II)Z"⟩
abbrev cX10_findWays : ByteArray := prog_12_method_40_code
def yX10_findWays : MethodName := ⟨RX10, "findWays", "()I"⟩
abbrev cX10_ways : ByteArray := prog_12_method_41_code
def yX10_ways : MethodName := ⟨RX10, "ways", "(I)I"⟩
abbrev cX10_nextOf : ByteArray := prog_12_method_42_code
def yX10_nextOf : MethodName := ⟨RX10, "nextOf", "(II)I"⟩
abbrev cX10_next : ByteArray := prog_12_method_43_code
def yX10_next : MethodName := ⟨RX10, "next", "(II)I"⟩
abbrev cX10_overhead : ByteArray := prog_12_method_44_code
def yX10_overhead : MethodName := ⟨RX10, "overhead", "(III)I"⟩
abbrev cX10_watchOf : ByteArray := prog_12_method_45_code
def yX10_watchOf : MethodName := ⟨RX10, "watchOf", "(II)I"⟩
abbrev cX10_watch : ByteArray := prog_12_method_46_code
def yX10_watch : MethodName := ⟨RX10, "watch", "(IIIII)I"⟩
abbrev cX10_isSeen : ByteArray := prog_12_method_47_code
def yX10_isSeen : MethodName := ⟨RX10, "isSeen", "(II)Z"⟩
abbrev cX10_seen : ByteArray := prog_12_method_48_code
def yX10_seen : MethodName := ⟨RX10, "seen", "(II)I"⟩
abbrev cX10_rate : ByteArray := prog_12_method_49_code
def yX10_rate : MethodName := ⟨RX10, "rate", "(IIII)I"⟩
abbrev cX10_roundOf : ByteArray := prog_12_method_50_code
def yX10_roundOf : MethodName := ⟨RX10, "roundOf", "(I)I"⟩
abbrev cX10_nightsSeen : ByteArray := prog_12_method_51_code
def yX10_nightsSeen : MethodName := ⟨RX10, "nightsSeen", "()I"⟩
abbrev cX10_round : ByteArray := prog_12_method_52_code
def yX10_round : MethodName := ⟨RX10, "round", "(I)I"⟩
abbrev cX10_best : ByteArray := prog_12_method_53_code
def yX10_best : MethodName := ⟨RX10, "best", "()I"⟩
abbrev cX10_share : ByteArray := prog_12_method_54_code
def yX10_share : MethodName := ⟨RX10, "share", "(II)I"⟩
abbrev cX10_mended : ByteArray := prog_12_method_55_code
def yX10_mended : MethodName := ⟨RX10, "mended", "(II)I"⟩
abbrev cX10_moved : ByteArray := prog_12_method_56_code
def yX10_moved : MethodName := ⟨RX10, "moved", "(I)I"⟩
abbrev cX10_count : ByteArray := prog_12_method_57_code
def yX10_count : MethodName := ⟨RX10, "count", "(I)I"⟩
abbrev cX10_isSheet : ByteArray := prog_12_method_58_code
def yX10_isSheet : MethodName := ⟨RX10, "isSheet", "(II)Z"⟩
abbrev cX10_sheet : ByteArray := prog_12_method_59_code
def yX10_sheet : MethodName := ⟨RX10, "sheet", "(III)I"⟩
abbrev cX10_drop : ByteArray := prog_12_method_60_code
def yX10_drop : MethodName := ⟨RX10, "drop", "(I)I"⟩
abbrev cX10_item : ByteArray := prog_12_method_61_code
def yX10_item : MethodName := ⟨RX10, "item", "(IIII)I"⟩
abbrev cX10_arcs : ByteArray := prog_12_method_62_code
def yX10_arcs : MethodName := ⟨RX10, "arcs", "(IIII)I"⟩
def RJ9 : String := "java/lang/Math"
def TJ9 : u_T := fun k => match k with
  | _ => ("", "", "", false)
def tyJ9 : Nat → FieldType := fun k => match k with
  | _ => .int
theorem nmJ9 : ∀ a, a < 0 → ∀ b, b < 0 → a ≠ b → (TJ9 a).2.1 ≠ (TJ9 b).2.1 := by decide +kernel
theorem tyJ9_ok : ∀ k, k < 0 → parseFieldDescriptor (TJ9 k).2.2.1 = some (tyJ9 k) := by decide +kernel
abbrev cJ9_floorDiv_7cf53 : ByteArray := prog_13_method_47_code
def yJ9_floorDiv_7cf53 : MethodName := ⟨RJ9, "floorDiv", "(II)I"⟩
abbrev cJ9_floorMod_7cf53 : ByteArray := prog_13_method_50_code
def yJ9_floorMod_7cf53 : MethodName := ⟨RJ9, "floorMod", "(II)I"⟩
abbrev cJ9_abs_0f7a4 : ByteArray := prog_13_method_59_code
def yJ9_abs_0f7a4 : MethodName := ⟨RJ9, "abs", "(I)I"⟩
abbrev cJ9_max_7cf53 : ByteArray := prog_13_method_65_code
def yJ9_max_7cf53 : MethodName := ⟨RJ9, "max", "(II)I"⟩
abbrev cJ9_min_7cf53 : ByteArray := prog_13_method_69_code
def yJ9_min_7cf53 : MethodName := ⟨RJ9, "min", "(II)I"⟩
def RL : String := "NorthCurtainsLaw"
abbrev cL_law : ByteArray := code
def yL_law : MethodName := ⟨RL, "law", "([I)Z"⟩
abbrev vwCl : List vw_C := [(RX0, TX0, 6), (RX1, TX1, 1), (RX2, TX2, 10), (RX3, TX3, 5), (RX4, TX4, 7), (RX5, TX5, 2), (RX6, TX6, 9), (RX7, TX7, 5), (RX8, TX8, 4), (RX9, TX9, 17), (RX10, TX10, 46)]
end
section
/-! the tables' words that a call keeps -/
def TB : List Cond := lw_tbl.filter goodWord
theorem TB_in {w : Cond} (h : w ∈ TB) : w ∈ lw_tbl := (List.mem_filter.mp h).1
theorem TB_good {y : MethodName} {cc : ByteArray} {n : Nat} {ret : Option FieldType} (h : Cond.code y cc n ret ∈ TB) : GoodIn TB (Cond.code y cc n ret :: TB) := by
  intro w hw
  have hm : w ∈ TB := (List.mem_cons.mp hw).elim (fun e => e ▸ h) id
  exact ⟨hm, good_of_word (List.mem_filter.mp hm).2⟩
theorem aI_ok : Cond.arrayClass .int ∈ TB := List.mem_filter.mpr ⟨List.mem_of_getElem? (i := 85) (by decide +kernel), by decide +kernel⟩
theorem inX0 : ∀ w ∈ u_ws RX0 TX0 6, w ∈ TB := fun w h => List.mem_filter.mpr ⟨(by decide +kernel : ∀ w ∈ u_ws RX0 TX0 6, w ∈ lw_tbl) w h, (by decide +kernel : ∀ w ∈ u_ws RX0 TX0 6, goodWord w = true) w h⟩
theorem inX1 : ∀ w ∈ u_ws RX1 TX1 1, w ∈ TB := fun w h => List.mem_filter.mpr ⟨(by decide +kernel : ∀ w ∈ u_ws RX1 TX1 1, w ∈ lw_tbl) w h, (by decide +kernel : ∀ w ∈ u_ws RX1 TX1 1, goodWord w = true) w h⟩
theorem inX2 : ∀ w ∈ u_ws RX2 TX2 10, w ∈ TB := fun w h => List.mem_filter.mpr ⟨(by decide +kernel : ∀ w ∈ u_ws RX2 TX2 10, w ∈ lw_tbl) w h, (by decide +kernel : ∀ w ∈ u_ws RX2 TX2 10, goodWord w = true) w h⟩
theorem inX3 : ∀ w ∈ u_ws RX3 TX3 5, w ∈ TB := fun w h => List.mem_filter.mpr ⟨(by decide +kernel : ∀ w ∈ u_ws RX3 TX3 5, w ∈ lw_tbl) w h, (by decide +kernel : ∀ w ∈ u_ws RX3 TX3 5, goodWord w = true) w h⟩
theorem inX4 : ∀ w ∈ u_ws RX4 TX4 7, w ∈ TB := fun w h => List.mem_filter.mpr ⟨(by decide +kernel : ∀ w ∈ u_ws RX4 TX4 7, w ∈ lw_tbl) w h, (by decide +kernel : ∀ w ∈ u_ws RX4 TX4 7, goodWord w = true) w h⟩
theorem inX5 : ∀ w ∈ u_ws RX5 TX5 2, w ∈ TB := fun w h => List.mem_filter.mpr ⟨(by decide +kernel : ∀ w ∈ u_ws RX5 TX5 2, w ∈ lw_tbl) w h, (by decide +kernel : ∀ w ∈ u_ws RX5 TX5 2, goodWord w = true) w h⟩
theorem inX6 : ∀ w ∈ u_ws RX6 TX6 9, w ∈ TB := fun w h => List.mem_filter.mpr ⟨(by decide +kernel : ∀ w ∈ u_ws RX6 TX6 9, w ∈ lw_tbl) w h, (by decide +kernel : ∀ w ∈ u_ws RX6 TX6 9, goodWord w = true) w h⟩
theorem inX7 : ∀ w ∈ u_ws RX7 TX7 5, w ∈ TB := fun w h => List.mem_filter.mpr ⟨(by decide +kernel : ∀ w ∈ u_ws RX7 TX7 5, w ∈ lw_tbl) w h, (by decide +kernel : ∀ w ∈ u_ws RX7 TX7 5, goodWord w = true) w h⟩
theorem inX8 : ∀ w ∈ u_ws RX8 TX8 4, w ∈ TB := fun w h => List.mem_filter.mpr ⟨(by decide +kernel : ∀ w ∈ u_ws RX8 TX8 4, w ∈ lw_tbl) w h, (by decide +kernel : ∀ w ∈ u_ws RX8 TX8 4, goodWord w = true) w h⟩
theorem inX9 : ∀ w ∈ u_ws RX9 TX9 17, w ∈ TB := fun w h => List.mem_filter.mpr ⟨(by decide +kernel : ∀ w ∈ u_ws RX9 TX9 17, w ∈ lw_tbl) w h, (by decide +kernel : ∀ w ∈ u_ws RX9 TX9 17, goodWord w = true) w h⟩
theorem inX10 : ∀ w ∈ u_ws RX10 TX10 46, w ∈ TB := fun w h => List.mem_filter.mpr ⟨(by decide +kernel : ∀ w ∈ u_ws RX10 TX10 46, w ∈ lw_tbl) w h, (by decide +kernel : ∀ w ∈ u_ws RX10 TX10 46, goodWord w = true) w h⟩
theorem sel_X9_stationAt : Cond.selects RX9 yX9_stationAt yX9_stationAt ∈ TB := List.mem_filter.mpr ⟨List.mem_of_getElem? (i := 0) (by decide +kernel), by decide +kernel⟩
theorem sel_X9_keep : Cond.selects RX9 yX9_keep yX9_keep ∈ TB := List.mem_filter.mpr ⟨List.mem_of_getElem? (i := 1) (by decide +kernel), by decide +kernel⟩
theorem sel_X9_isSeenNight : Cond.selects RX9 yX9_isSeenNight yX9_isSeenNight ∈ TB := List.mem_filter.mpr ⟨List.mem_of_getElem? (i := 2) (by decide +kernel), by decide +kernel⟩
theorem sel_X9_sightingAt : Cond.selects RX9 yX9_sightingAt yX9_sightingAt ∈ TB := List.mem_filter.mpr ⟨List.mem_of_getElem? (i := 3) (by decide +kernel), by decide +kernel⟩
theorem sel_X1_findHeights : Cond.selects RX1 yX1_findHeights yX1_findHeights ∈ TB := List.mem_filter.mpr ⟨List.mem_of_getElem? (i := 4) (by decide +kernel), by decide +kernel⟩
theorem sel_X9_lookAt : Cond.selects RX9 yX9_lookAt yX9_lookAt ∈ TB := List.mem_filter.mpr ⟨List.mem_of_getElem? (i := 5) (by decide +kernel), by decide +kernel⟩
theorem sel_X6_findMeetings : Cond.selects RX6 yX6_findMeetings yX6_findMeetings ∈ TB := List.mem_filter.mpr ⟨List.mem_of_getElem? (i := 6) (by decide +kernel), by decide +kernel⟩
theorem sel_X6_partFrom : Cond.selects RX6 yX6_partFrom yX6_partFrom ∈ TB := List.mem_filter.mpr ⟨List.mem_of_getElem? (i := 7) (by decide +kernel), by decide +kernel⟩
theorem sel_X6_tellCurtain : Cond.selects RX6 yX6_tellCurtain yX6_tellCurtain ∈ TB := List.mem_filter.mpr ⟨List.mem_of_getElem? (i := 8) (by decide +kernel), by decide +kernel⟩
theorem sel_X6_findFollowers : Cond.selects RX6 yX6_findFollowers yX6_findFollowers ∈ TB := List.mem_filter.mpr ⟨List.mem_of_getElem? (i := 9) (by decide +kernel), by decide +kernel⟩
theorem sel_X6_mostLinks : Cond.selects RX6 yX6_mostLinks yX6_mostLinks ∈ TB := List.mem_filter.mpr ⟨List.mem_of_getElem? (i := 10) (by decide +kernel), by decide +kernel⟩
theorem sel_X6_firstFollower : Cond.selects RX6 yX6_firstFollower yX6_firstFollower ∈ TB := List.mem_filter.mpr ⟨List.mem_of_getElem? (i := 11) (by decide +kernel), by decide +kernel⟩
theorem sel_X9_watchOf : Cond.selects RX9 yX9_watchOf yX9_watchOf ∈ TB := List.mem_filter.mpr ⟨List.mem_of_getElem? (i := 12) (by decide +kernel), by decide +kernel⟩
theorem sel_X9_saw : Cond.selects RX9 yX9_saw yX9_saw ∈ TB := List.mem_filter.mpr ⟨List.mem_of_getElem? (i := 13) (by decide +kernel), by decide +kernel⟩
theorem sel_X9_roundOf : Cond.selects RX9 yX9_roundOf yX9_roundOf ∈ TB := List.mem_filter.mpr ⟨List.mem_of_getElem? (i := 14) (by decide +kernel), by decide +kernel⟩
theorem sel_X9_areShared : Cond.selects RX9 yX9_areShared yX9_areShared ∈ TB := List.mem_filter.mpr ⟨List.mem_of_getElem? (i := 15) (by decide +kernel), by decide +kernel⟩
theorem sel_X9_keepArcs : Cond.selects RX9 yX9_keepArcs yX9_keepArcs ∈ TB := List.mem_filter.mpr ⟨List.mem_of_getElem? (i := 16) (by decide +kernel), by decide +kernel⟩
theorem sel_X9_isArcAt : Cond.selects RX9 yX9_isArcAt yX9_isArcAt ∈ TB := List.mem_filter.mpr ⟨List.mem_of_getElem? (i := 17) (by decide +kernel), by decide +kernel⟩
theorem sel_X9_keepArcAt : Cond.selects RX9 yX9_keepArcAt yX9_keepArcAt ∈ TB := List.mem_filter.mpr ⟨List.mem_of_getElem? (i := 18) (by decide +kernel), by decide +kernel⟩
theorem sel_X10_sinOf : Cond.selects RX10 yX10_sinOf yX10_sinOf ∈ TB := List.mem_filter.mpr ⟨List.mem_of_getElem? (i := 19) (by decide +kernel), by decide +kernel⟩
theorem sel_X10_cosOf : Cond.selects RX10 yX10_cosOf yX10_cosOf ∈ TB := List.mem_filter.mpr ⟨List.mem_of_getElem? (i := 20) (by decide +kernel), by decide +kernel⟩
theorem sel_X10_isStation : Cond.selects RX10 yX10_isStation yX10_isStation ∈ TB := List.mem_filter.mpr ⟨List.mem_of_getElem? (i := 21) (by decide +kernel), by decide +kernel⟩
theorem sel_X10_isTold : Cond.selects RX10 yX10_isTold yX10_isTold ∈ TB := List.mem_filter.mpr ⟨List.mem_of_getElem? (i := 22) (by decide +kernel), by decide +kernel⟩
theorem sel_X10_add : Cond.selects RX10 yX10_add yX10_add ∈ TB := List.mem_filter.mpr ⟨List.mem_of_getElem? (i := 23) (by decide +kernel), by decide +kernel⟩
theorem sel_X10_isSighting : Cond.selects RX10 yX10_isSighting yX10_isSighting ∈ TB := List.mem_filter.mpr ⟨List.mem_of_getElem? (i := 24) (by decide +kernel), by decide +kernel⟩
theorem sel_X10_firstOf : Cond.selects RX10 yX10_firstOf yX10_firstOf ∈ TB := List.mem_filter.mpr ⟨List.mem_of_getElem? (i := 25) (by decide +kernel), by decide +kernel⟩
theorem sel_X10_lastOf : Cond.selects RX10 yX10_lastOf yX10_lastOf ∈ TB := List.mem_filter.mpr ⟨List.mem_of_getElem? (i := 26) (by decide +kernel), by decide +kernel⟩
theorem sel_X10_areMet : Cond.selects RX10 yX10_areMet yX10_areMet ∈ TB := List.mem_filter.mpr ⟨List.mem_of_getElem? (i := 27) (by decide +kernel), by decide +kernel⟩
theorem sel_X10_crosses : Cond.selects RX10 yX10_crosses yX10_crosses ∈ TB := List.mem_filter.mpr ⟨List.mem_of_getElem? (i := 28) (by decide +kernel), by decide +kernel⟩
theorem sel_X10_rise : Cond.selects RX10 yX10_rise yX10_rise ∈ TB := List.mem_filter.mpr ⟨List.mem_of_getElem? (i := 29) (by decide +kernel), by decide +kernel⟩
theorem sel_X10_crossPart : Cond.selects RX10 yX10_crossPart yX10_crossPart ∈ TB := List.mem_filter.mpr ⟨List.mem_of_getElem? (i := 30) (by decide +kernel), by decide +kernel⟩
theorem sel_X10_findCurtains : Cond.selects RX10 yX10_findCurtains yX10_findCurtains ∈ TB := List.mem_filter.mpr ⟨List.mem_of_getElem? (i := 31) (by decide +kernel), by decide +kernel⟩
theorem sel_X10_listNight : Cond.selects RX10 yX10_listNight yX10_listNight ∈ TB := List.mem_filter.mpr ⟨List.mem_of_getElem? (i := 32) (by decide +kernel), by decide +kernel⟩
theorem sel_X10_part : Cond.selects RX10 yX10_part yX10_part ∈ TB := List.mem_filter.mpr ⟨List.mem_of_getElem? (i := 33) (by decide +kernel), by decide +kernel⟩
theorem sel_X10_setsAhead : Cond.selects RX10 yX10_setsAhead yX10_setsAhead ∈ TB := List.mem_filter.mpr ⟨List.mem_of_getElem? (i := 34) (by decide +kernel), by decide +kernel⟩
theorem sel_X10_canBeIn : Cond.selects RX10 yX10_canBeIn yX10_canBeIn ∈ TB := List.mem_filter.mpr ⟨List.mem_of_getElem? (i := 35) (by decide +kernel), by decide +kernel⟩
theorem sel_X10_findPlace : Cond.selects RX10 yX10_findPlace yX10_findPlace ∈ TB := List.mem_filter.mpr ⟨List.mem_of_getElem? (i := 36) (by decide +kernel), by decide +kernel⟩
theorem sel_X10_findWays : Cond.selects RX10 yX10_findWays yX10_findWays ∈ TB := List.mem_filter.mpr ⟨List.mem_of_getElem? (i := 37) (by decide +kernel), by decide +kernel⟩
theorem sel_X10_canFollow : Cond.selects RX10 yX10_canFollow yX10_canFollow ∈ TB := List.mem_filter.mpr ⟨List.mem_of_getElem? (i := 38) (by decide +kernel), by decide +kernel⟩
theorem sel_X10_nextOf : Cond.selects RX10 yX10_nextOf yX10_nextOf ∈ TB := List.mem_filter.mpr ⟨List.mem_of_getElem? (i := 39) (by decide +kernel), by decide +kernel⟩
theorem sel_X10_watchOf : Cond.selects RX10 yX10_watchOf yX10_watchOf ∈ TB := List.mem_filter.mpr ⟨List.mem_of_getElem? (i := 40) (by decide +kernel), by decide +kernel⟩
theorem sel_X10_isSeen : Cond.selects RX10 yX10_isSeen yX10_isSeen ∈ TB := List.mem_filter.mpr ⟨List.mem_of_getElem? (i := 41) (by decide +kernel), by decide +kernel⟩
theorem sel_X10_roundOf : Cond.selects RX10 yX10_roundOf yX10_roundOf ∈ TB := List.mem_filter.mpr ⟨List.mem_of_getElem? (i := 42) (by decide +kernel), by decide +kernel⟩
theorem sel_X10_nightsSeen : Cond.selects RX10 yX10_nightsSeen yX10_nightsSeen ∈ TB := List.mem_filter.mpr ⟨List.mem_of_getElem? (i := 43) (by decide +kernel), by decide +kernel⟩
theorem ini_L : Cond.initialized RL ∈ TB := List.mem_filter.mpr ⟨List.mem_of_getElem? (i := 44) (by decide +kernel), by decide +kernel⟩
theorem ini_X9 : Cond.initialized RX9 ∈ TB := List.mem_filter.mpr ⟨List.mem_of_getElem? (i := 45) (by decide +kernel), by decide +kernel⟩
theorem ini_X1 : Cond.initialized RX1 ∈ TB := List.mem_filter.mpr ⟨List.mem_of_getElem? (i := 46) (by decide +kernel), by decide +kernel⟩
theorem ini_X6 : Cond.initialized RX6 ∈ TB := List.mem_filter.mpr ⟨List.mem_of_getElem? (i := 47) (by decide +kernel), by decide +kernel⟩
theorem ini_X2 : Cond.initialized RX2 ∈ TB := List.mem_filter.mpr ⟨List.mem_of_getElem? (i := 48) (by decide +kernel), by decide +kernel⟩
theorem ini_X10 : Cond.initialized RX10 ∈ TB := List.mem_filter.mpr ⟨List.mem_of_getElem? (i := 49) (by decide +kernel), by decide +kernel⟩
theorem ini_X7 : Cond.initialized RX7 ∈ TB := List.mem_filter.mpr ⟨List.mem_of_getElem? (i := 50) (by decide +kernel), by decide +kernel⟩
theorem ini_X3 : Cond.initialized RX3 ∈ TB := List.mem_filter.mpr ⟨List.mem_of_getElem? (i := 51) (by decide +kernel), by decide +kernel⟩
theorem ini_X0 : Cond.initialized RX0 ∈ TB := List.mem_filter.mpr ⟨List.mem_of_getElem? (i := 52) (by decide +kernel), by decide +kernel⟩
theorem ini_X4 : Cond.initialized RX4 ∈ TB := List.mem_filter.mpr ⟨List.mem_of_getElem? (i := 53) (by decide +kernel), by decide +kernel⟩
theorem ini_J9 : Cond.initialized RJ9 ∈ TB := List.mem_filter.mpr ⟨List.mem_of_getElem? (i := 54) (by decide +kernel), by decide +kernel⟩
theorem ini_X8 : Cond.initialized RX8 ∈ TB := List.mem_filter.mpr ⟨List.mem_of_getElem? (i := 55) (by decide +kernel), by decide +kernel⟩
theorem ini_X5 : Cond.initialized RX5 ∈ TB := List.mem_filter.mpr ⟨List.mem_of_getElem? (i := 56) (by decide +kernel), by decide +kernel⟩
theorem inst_X9 : Cond.instantiable RX9 17 ∈ TB := List.mem_filter.mpr ⟨List.mem_of_getElem? (i := 58) (by decide +kernel), by decide +kernel⟩
theorem im_X9_init : Cond.instanceMethod yX9_init ∈ TB := List.mem_filter.mpr ⟨List.mem_of_getElem? (i := 60) (by decide +kernel), by decide +kernel⟩
theorem cod_X9_init : Cond.code yX9_init cX9_init 1 none ∈ TB := List.mem_filter.mpr ⟨List.mem_of_getElem? (i := 61) (by decide +kernel), by decide +kernel⟩
theorem im_object : Cond.instanceMethod objectInit ∈ TB := List.mem_filter.mpr ⟨List.mem_of_getElem? (i := 63) (by decide +kernel), by decide +kernel⟩
theorem inst_X1 : Cond.instantiable RX1 1 ∈ TB := List.mem_filter.mpr ⟨List.mem_of_getElem? (i := 74) (by decide +kernel), by decide +kernel⟩
theorem im_X1_init : Cond.instanceMethod yX1_init ∈ TB := List.mem_filter.mpr ⟨List.mem_of_getElem? (i := 76) (by decide +kernel), by decide +kernel⟩
theorem cod_X1_init : Cond.code yX1_init cX1_init 1 none ∈ TB := List.mem_filter.mpr ⟨List.mem_of_getElem? (i := 77) (by decide +kernel), by decide +kernel⟩
theorem inst_X6 : Cond.instantiable RX6 9 ∈ TB := List.mem_filter.mpr ⟨List.mem_of_getElem? (i := 87) (by decide +kernel), by decide +kernel⟩
theorem im_X6_init : Cond.instanceMethod yX6_init ∈ TB := List.mem_filter.mpr ⟨List.mem_of_getElem? (i := 89) (by decide +kernel), by decide +kernel⟩
theorem cod_X6_init : Cond.code yX6_init cX6_init 2 none ∈ TB := List.mem_filter.mpr ⟨List.mem_of_getElem? (i := 90) (by decide +kernel), by decide +kernel⟩
theorem inst_X2 : Cond.instantiable RX2 10 ∈ TB := List.mem_filter.mpr ⟨List.mem_of_getElem? (i := 96) (by decide +kernel), by decide +kernel⟩
theorem im_X2_init : Cond.instanceMethod yX2_init ∈ TB := List.mem_filter.mpr ⟨List.mem_of_getElem? (i := 98) (by decide +kernel), by decide +kernel⟩
theorem cod_X2_init : Cond.code yX2_init cX2_init 1 none ∈ TB := List.mem_filter.mpr ⟨List.mem_of_getElem? (i := 99) (by decide +kernel), by decide +kernel⟩
theorem im_X9_station : Cond.instanceMethod yX9_station ∈ TB := List.mem_filter.mpr ⟨List.mem_of_getElem? (i := 216) (by decide +kernel), by decide +kernel⟩
theorem sel_X9_station : Cond.selects RX9 yX9_station yX9_station ∈ TB := List.mem_filter.mpr ⟨List.mem_of_getElem? (i := 217) (by decide +kernel), by decide +kernel⟩
theorem cod_X9_station : Cond.code yX9_station cX9_station 4 (some .int) ∈ TB := List.mem_filter.mpr ⟨List.mem_of_getElem? (i := 218) (by decide +kernel), by decide +kernel⟩
theorem sta_X9_isWithin : Cond.static yX9_isWithin ∈ TB := List.mem_filter.mpr ⟨List.mem_of_getElem? (i := 220) (by decide +kernel), by decide +kernel⟩
theorem cod_X9_isWithin : Cond.code yX9_isWithin cX9_isWithin 3 (some .boolean) ∈ TB := List.mem_filter.mpr ⟨List.mem_of_getElem? (i := 221) (by decide +kernel), by decide +kernel⟩
theorem inst_X7 : Cond.instantiable RX7 5 ∈ TB := List.mem_filter.mpr ⟨List.mem_of_getElem? (i := 222) (by decide +kernel), by decide +kernel⟩
theorem im_X7_init : Cond.instanceMethod yX7_init ∈ TB := List.mem_filter.mpr ⟨List.mem_of_getElem? (i := 224) (by decide +kernel), by decide +kernel⟩
theorem cod_X7_init : Cond.code yX7_init cX7_init 4 none ∈ TB := List.mem_filter.mpr ⟨List.mem_of_getElem? (i := 225) (by decide +kernel), by decide +kernel⟩
theorem im_X9_clock : Cond.instanceMethod yX9_clock ∈ TB := List.mem_filter.mpr ⟨List.mem_of_getElem? (i := 252) (by decide +kernel), by decide +kernel⟩
theorem sel_X9_clock : Cond.selects RX9 yX9_clock yX9_clock ∈ TB := List.mem_filter.mpr ⟨List.mem_of_getElem? (i := 253) (by decide +kernel), by decide +kernel⟩
theorem cod_X9_clock : Cond.code yX9_clock cX9_clock 5 (some .int) ∈ TB := List.mem_filter.mpr ⟨List.mem_of_getElem? (i := 254) (by decide +kernel), by decide +kernel⟩
theorem im_X9_stationAt : Cond.instanceMethod yX9_stationAt ∈ TB := List.mem_filter.mpr ⟨List.mem_of_getElem? (i := 257) (by decide +kernel), by decide +kernel⟩
theorem im_X9_glow : Cond.instanceMethod yX9_glow ∈ TB := List.mem_filter.mpr ⟨List.mem_of_getElem? (i := 260) (by decide +kernel), by decide +kernel⟩
theorem sel_X9_glow : Cond.selects RX9 yX9_glow yX9_glow ∈ TB := List.mem_filter.mpr ⟨List.mem_of_getElem? (i := 261) (by decide +kernel), by decide +kernel⟩
theorem cod_X9_glow : Cond.code yX9_glow cX9_glow 7 (some .int) ∈ TB := List.mem_filter.mpr ⟨List.mem_of_getElem? (i := 262) (by decide +kernel), by decide +kernel⟩
theorem sta_X9_isInSky : Cond.static yX9_isInSky ∈ TB := List.mem_filter.mpr ⟨List.mem_of_getElem? (i := 264) (by decide +kernel), by decide +kernel⟩
theorem cod_X9_isInSky : Cond.code yX9_isInSky cX9_isInSky 4 (some .boolean) ∈ TB := List.mem_filter.mpr ⟨List.mem_of_getElem? (i := 265) (by decide +kernel), by decide +kernel⟩
theorem sta_X9_isNight : Cond.static yX9_isNight ∈ TB := List.mem_filter.mpr ⟨List.mem_of_getElem? (i := 267) (by decide +kernel), by decide +kernel⟩
theorem cod_X9_isNight : Cond.code yX9_isNight cX9_isNight 1 (some .boolean) ∈ TB := List.mem_filter.mpr ⟨List.mem_of_getElem? (i := 268) (by decide +kernel), by decide +kernel⟩
theorem inst_X3 : Cond.instantiable RX3 5 ∈ TB := List.mem_filter.mpr ⟨List.mem_of_getElem? (i := 269) (by decide +kernel), by decide +kernel⟩
theorem im_X3_init : Cond.instanceMethod yX3_init ∈ TB := List.mem_filter.mpr ⟨List.mem_of_getElem? (i := 271) (by decide +kernel), by decide +kernel⟩
theorem cod_X3_init : Cond.code yX3_init cX3_init 6 none ∈ TB := List.mem_filter.mpr ⟨List.mem_of_getElem? (i := 272) (by decide +kernel), by decide +kernel⟩
theorem im_X9_keep : Cond.instanceMethod yX9_keep ∈ TB := List.mem_filter.mpr ⟨List.mem_of_getElem? (i := 306) (by decide +kernel), by decide +kernel⟩
theorem cod_X9_keep : Cond.code yX9_keep cX9_keep 3 (some .int) ∈ TB := List.mem_filter.mpr ⟨List.mem_of_getElem? (i := 307) (by decide +kernel), by decide +kernel⟩
theorem im_X9_isSeenNight : Cond.instanceMethod yX9_isSeenNight ∈ TB := List.mem_filter.mpr ⟨List.mem_of_getElem? (i := 310) (by decide +kernel), by decide +kernel⟩
theorem cod_X9_isSeenNight : Cond.code yX9_isSeenNight cX9_isSeenNight 3 (some .boolean) ∈ TB := List.mem_filter.mpr ⟨List.mem_of_getElem? (i := 311) (by decide +kernel), by decide +kernel⟩
theorem im_X9_arc : Cond.instanceMethod yX9_arc ∈ TB := List.mem_filter.mpr ⟨List.mem_of_getElem? (i := 313) (by decide +kernel), by decide +kernel⟩
theorem sel_X9_arc : Cond.selects RX9 yX9_arc yX9_arc ∈ TB := List.mem_filter.mpr ⟨List.mem_of_getElem? (i := 314) (by decide +kernel), by decide +kernel⟩
theorem cod_X9_arc : Cond.code yX9_arc cX9_arc 8 (some .int) ∈ TB := List.mem_filter.mpr ⟨List.mem_of_getElem? (i := 315) (by decide +kernel), by decide +kernel⟩
theorem sta_X9_isColour : Cond.static yX9_isColour ∈ TB := List.mem_filter.mpr ⟨List.mem_of_getElem? (i := 317) (by decide +kernel), by decide +kernel⟩
theorem cod_X9_isColour : Cond.code yX9_isColour cX9_isColour 1 (some .boolean) ∈ TB := List.mem_filter.mpr ⟨List.mem_of_getElem? (i := 318) (by decide +kernel), by decide +kernel⟩
theorem inst_X0 : Cond.instantiable RX0 6 ∈ TB := List.mem_filter.mpr ⟨List.mem_of_getElem? (i := 320) (by decide +kernel), by decide +kernel⟩
theorem im_X0_init : Cond.instanceMethod yX0_init ∈ TB := List.mem_filter.mpr ⟨List.mem_of_getElem? (i := 322) (by decide +kernel), by decide +kernel⟩
theorem cod_X0_init : Cond.code yX0_init cX0_init 7 none ∈ TB := List.mem_filter.mpr ⟨List.mem_of_getElem? (i := 323) (by decide +kernel), by decide +kernel⟩
theorem im_X9_ray : Cond.instanceMethod yX9_ray ∈ TB := List.mem_filter.mpr ⟨List.mem_of_getElem? (i := 336) (by decide +kernel), by decide +kernel⟩
theorem sel_X9_ray : Cond.selects RX9 yX9_ray yX9_ray ∈ TB := List.mem_filter.mpr ⟨List.mem_of_getElem? (i := 337) (by decide +kernel), by decide +kernel⟩
theorem cod_X9_ray : Cond.code yX9_ray cX9_ray 9 (some .int) ∈ TB := List.mem_filter.mpr ⟨List.mem_of_getElem? (i := 338) (by decide +kernel), by decide +kernel⟩
theorem inst_X4 : Cond.instantiable RX4 7 ∈ TB := List.mem_filter.mpr ⟨List.mem_of_getElem? (i := 340) (by decide +kernel), by decide +kernel⟩
theorem im_X4_init : Cond.instanceMethod yX4_init ∈ TB := List.mem_filter.mpr ⟨List.mem_of_getElem? (i := 342) (by decide +kernel), by decide +kernel⟩
theorem cod_X4_init : Cond.code yX4_init cX4_init 8 none ∈ TB := List.mem_filter.mpr ⟨List.mem_of_getElem? (i := 343) (by decide +kernel), by decide +kernel⟩
theorem im_X9_told : Cond.instanceMethod yX9_told ∈ TB := List.mem_filter.mpr ⟨List.mem_of_getElem? (i := 357) (by decide +kernel), by decide +kernel⟩
theorem sel_X9_told : Cond.selects RX9 yX9_told yX9_told ∈ TB := List.mem_filter.mpr ⟨List.mem_of_getElem? (i := 358) (by decide +kernel), by decide +kernel⟩
theorem cod_X9_told : Cond.code yX9_told cX9_told 4 (some .int) ∈ TB := List.mem_filter.mpr ⟨List.mem_of_getElem? (i := 359) (by decide +kernel), by decide +kernel⟩
theorem im_X9_sightingAt : Cond.instanceMethod yX9_sightingAt ∈ TB := List.mem_filter.mpr ⟨List.mem_of_getElem? (i := 362) (by decide +kernel), by decide +kernel⟩
theorem im_X3_kind : Cond.instanceMethod yX3_kind ∈ TB := List.mem_filter.mpr ⟨List.mem_of_getElem? (i := 365) (by decide +kernel), by decide +kernel⟩
theorem sel_X3_kind : Cond.selects RX3 yX3_kind yX3_kind ∈ TB := List.mem_filter.mpr ⟨List.mem_of_getElem? (i := 366) (by decide +kernel), by decide +kernel⟩
theorem im_X0_kind : Cond.instanceMethod yX0_kind ∈ TB := List.mem_filter.mpr ⟨List.mem_of_getElem? (i := 369) (by decide +kernel), by decide +kernel⟩
theorem cod_X0_kind : Cond.code yX0_kind cX0_kind 1 (some .int) ∈ TB := List.mem_filter.mpr ⟨List.mem_of_getElem? (i := 370) (by decide +kernel), by decide +kernel⟩
theorem im_X4_kind : Cond.instanceMethod yX4_kind ∈ TB := List.mem_filter.mpr ⟨List.mem_of_getElem? (i := 372) (by decide +kernel), by decide +kernel⟩
theorem cod_X4_kind : Cond.code yX4_kind cX4_kind 1 (some .int) ∈ TB := List.mem_filter.mpr ⟨List.mem_of_getElem? (i := 373) (by decide +kernel), by decide +kernel⟩
theorem cod_X3_kind : Cond.code yX3_kind cX3_kind 1 (some .int) ∈ TB := List.mem_filter.mpr ⟨List.mem_of_getElem? (i := 374) (by decide +kernel), by decide +kernel⟩
theorem im_X3_earliest : Cond.instanceMethod yX3_earliest ∈ TB := List.mem_filter.mpr ⟨List.mem_of_getElem? (i := 376) (by decide +kernel), by decide +kernel⟩
theorem sel_X3_earliest : Cond.selects RX3 yX3_earliest yX3_earliest ∈ TB := List.mem_filter.mpr ⟨List.mem_of_getElem? (i := 377) (by decide +kernel), by decide +kernel⟩
theorem cod_X3_earliest : Cond.code yX3_earliest cX3_earliest 1 (some .int) ∈ TB := List.mem_filter.mpr ⟨List.mem_of_getElem? (i := 381) (by decide +kernel), by decide +kernel⟩
theorem im_X3_latest : Cond.instanceMethod yX3_latest ∈ TB := List.mem_filter.mpr ⟨List.mem_of_getElem? (i := 383) (by decide +kernel), by decide +kernel⟩
theorem sel_X3_latest : Cond.selects RX3 yX3_latest yX3_latest ∈ TB := List.mem_filter.mpr ⟨List.mem_of_getElem? (i := 384) (by decide +kernel), by decide +kernel⟩
theorem cod_X3_latest : Cond.code yX3_latest cX3_latest 1 (some .int) ∈ TB := List.mem_filter.mpr ⟨List.mem_of_getElem? (i := 388) (by decide +kernel), by decide +kernel⟩
theorem im_X9_colour : Cond.instanceMethod yX9_colour ∈ TB := List.mem_filter.mpr ⟨List.mem_of_getElem? (i := 390) (by decide +kernel), by decide +kernel⟩
theorem sel_X9_colour : Cond.selects RX9 yX9_colour yX9_colour ∈ TB := List.mem_filter.mpr ⟨List.mem_of_getElem? (i := 391) (by decide +kernel), by decide +kernel⟩
theorem cod_X9_colour : Cond.code yX9_colour cX9_colour 4 (some .int) ∈ TB := List.mem_filter.mpr ⟨List.mem_of_getElem? (i := 392) (by decide +kernel), by decide +kernel⟩
theorem im_X9_lean : Cond.instanceMethod yX9_lean ∈ TB := List.mem_filter.mpr ⟨List.mem_of_getElem? (i := 394) (by decide +kernel), by decide +kernel⟩
theorem sel_X9_lean : Cond.selects RX9 yX9_lean yX9_lean ∈ TB := List.mem_filter.mpr ⟨List.mem_of_getElem? (i := 395) (by decide +kernel), by decide +kernel⟩
theorem cod_X9_lean : Cond.code yX9_lean cX9_lean 4 (some .int) ∈ TB := List.mem_filter.mpr ⟨List.mem_of_getElem? (i := 396) (by decide +kernel), by decide +kernel⟩
theorem im_X9_table : Cond.instanceMethod yX9_table ∈ TB := List.mem_filter.mpr ⟨List.mem_of_getElem? (i := 398) (by decide +kernel), by decide +kernel⟩
theorem sel_X9_table : Cond.selects RX9 yX9_table yX9_table ∈ TB := List.mem_filter.mpr ⟨List.mem_of_getElem? (i := 399) (by decide +kernel), by decide +kernel⟩
theorem cod_X9_table : Cond.code yX9_table cX9_table 3 (some .int) ∈ TB := List.mem_filter.mpr ⟨List.mem_of_getElem? (i := 400) (by decide +kernel), by decide +kernel⟩
theorem sta_X9_sine : Cond.static yX9_sine ∈ TB := List.mem_filter.mpr ⟨List.mem_of_getElem? (i := 402) (by decide +kernel), by decide +kernel⟩
theorem cod_X9_sine : Cond.code yX9_sine cX9_sine 4 (some .int) ∈ TB := List.mem_filter.mpr ⟨List.mem_of_getElem? (i := 403) (by decide +kernel), by decide +kernel⟩
theorem sta_J9_floorMod_7cf53 : Cond.static yJ9_floorMod_7cf53 ∈ TB := List.mem_filter.mpr ⟨List.mem_of_getElem? (i := 405) (by decide +kernel), by decide +kernel⟩
theorem cod_J9_floorMod_7cf53 : Cond.code yJ9_floorMod_7cf53 cJ9_floorMod_7cf53 3 (some .int) ∈ TB := List.mem_filter.mpr ⟨List.mem_of_getElem? (i := 406) (by decide +kernel), by decide +kernel⟩
theorem sta_X9_cosine : Cond.static yX9_cosine ∈ TB := List.mem_filter.mpr ⟨List.mem_of_getElem? (i := 410) (by decide +kernel), by decide +kernel⟩
theorem cod_X9_cosine : Cond.code yX9_cosine cX9_cosine 1 (some .int) ∈ TB := List.mem_filter.mpr ⟨List.mem_of_getElem? (i := 411) (by decide +kernel), by decide +kernel⟩
theorem sta_X9_tangent : Cond.static yX9_tangent ∈ TB := List.mem_filter.mpr ⟨List.mem_of_getElem? (i := 413) (by decide +kernel), by decide +kernel⟩
theorem cod_X9_tangent : Cond.code yX9_tangent cX9_tangent 1 (some .int) ∈ TB := List.mem_filter.mpr ⟨List.mem_of_getElem? (i := 414) (by decide +kernel), by decide +kernel⟩
theorem k_X9_164 : Cond.constant RX9 164 (-100001) ∈ TB := List.mem_filter.mpr ⟨List.mem_of_getElem? (i := 417) (by decide +kernel), by decide +kernel⟩
theorem im_X9_thick : Cond.instanceMethod yX9_thick ∈ TB := List.mem_filter.mpr ⟨List.mem_of_getElem? (i := 419) (by decide +kernel), by decide +kernel⟩
theorem sel_X9_thick : Cond.selects RX9 yX9_thick yX9_thick ∈ TB := List.mem_filter.mpr ⟨List.mem_of_getElem? (i := 420) (by decide +kernel), by decide +kernel⟩
theorem cod_X9_thick : Cond.code yX9_thick cX9_thick 3 (some .int) ∈ TB := List.mem_filter.mpr ⟨List.mem_of_getElem? (i := 421) (by decide +kernel), by decide +kernel⟩
theorem im_X9_meets : Cond.instanceMethod yX9_meets ∈ TB := List.mem_filter.mpr ⟨List.mem_of_getElem? (i := 423) (by decide +kernel), by decide +kernel⟩
theorem sel_X9_meets : Cond.selects RX9 yX9_meets yX9_meets ∈ TB := List.mem_filter.mpr ⟨List.mem_of_getElem? (i := 424) (by decide +kernel), by decide +kernel⟩
theorem cod_X9_meets : Cond.code yX9_meets cX9_meets 7 (some .int) ∈ TB := List.mem_filter.mpr ⟨List.mem_of_getElem? (i := 425) (by decide +kernel), by decide +kernel⟩
theorem im_X1_find : Cond.instanceMethod yX1_find ∈ TB := List.mem_filter.mpr ⟨List.mem_of_getElem? (i := 427) (by decide +kernel), by decide +kernel⟩
theorem sel_X1_find : Cond.selects RX1 yX1_find yX1_find ∈ TB := List.mem_filter.mpr ⟨List.mem_of_getElem? (i := 428) (by decide +kernel), by decide +kernel⟩
theorem cod_X1_find : Cond.code yX1_find cX1_find 9 (some .boolean) ∈ TB := List.mem_filter.mpr ⟨List.mem_of_getElem? (i := 429) (by decide +kernel), by decide +kernel⟩
theorem sta_J9_abs_0f7a4 : Cond.static yJ9_abs_0f7a4 ∈ TB := List.mem_filter.mpr ⟨List.mem_of_getElem? (i := 433) (by decide +kernel), by decide +kernel⟩
theorem cod_J9_abs_0f7a4 : Cond.code yJ9_abs_0f7a4 cJ9_abs_0f7a4 1 (some .int) ∈ TB := List.mem_filter.mpr ⟨List.mem_of_getElem? (i := 434) (by decide +kernel), by decide +kernel⟩
theorem k_X1_42 : Cond.constant RX1 42 (50000) ∈ TB := List.mem_filter.mpr ⟨List.mem_of_getElem? (i := 435) (by decide +kernel), by decide +kernel⟩
theorem k_X1_43 : Cond.constantLong RX1 43 (1000) ∈ TB := List.mem_filter.mpr ⟨List.mem_of_getElem? (i := 436) (by decide +kernel), by decide +kernel⟩
theorem sta_X1_across : Cond.static yX1_across ∈ TB := List.mem_filter.mpr ⟨List.mem_of_getElem? (i := 438) (by decide +kernel), by decide +kernel⟩
theorem cod_X1_across : Cond.code yX1_across cX1_across 3 (some .long) ∈ TB := List.mem_filter.mpr ⟨List.mem_of_getElem? (i := 439) (by decide +kernel), by decide +kernel⟩
theorem k_X1_49 : Cond.constantLong RX1 49 (1500) ∈ TB := List.mem_filter.mpr ⟨List.mem_of_getElem? (i := 440) (by decide +kernel), by decide +kernel⟩
theorem im_X1_findHeights : Cond.instanceMethod yX1_findHeights ∈ TB := List.mem_filter.mpr ⟨List.mem_of_getElem? (i := 443) (by decide +kernel), by decide +kernel⟩
theorem cod_X1_findHeights : Cond.code yX1_findHeights cX1_findHeights 8 (some .boolean) ∈ TB := List.mem_filter.mpr ⟨List.mem_of_getElem? (i := 444) (by decide +kernel), by decide +kernel⟩
theorem sta_X1_rise : Cond.static yX1_rise ∈ TB := List.mem_filter.mpr ⟨List.mem_of_getElem? (i := 446) (by decide +kernel), by decide +kernel⟩
theorem cod_X1_rise : Cond.code yX1_rise cX1_rise 2 (some .int) ∈ TB := List.mem_filter.mpr ⟨List.mem_of_getElem? (i := 447) (by decide +kernel), by decide +kernel⟩
theorem sta_J9_max_7cf53 : Cond.static yJ9_max_7cf53 ∈ TB := List.mem_filter.mpr ⟨List.mem_of_getElem? (i := 450) (by decide +kernel), by decide +kernel⟩
theorem cod_J9_max_7cf53 : Cond.code yJ9_max_7cf53 cJ9_max_7cf53 2 (some .int) ∈ TB := List.mem_filter.mpr ⟨List.mem_of_getElem? (i := 451) (by decide +kernel), by decide +kernel⟩
theorem sta_J9_min_7cf53 : Cond.static yJ9_min_7cf53 ∈ TB := List.mem_filter.mpr ⟨List.mem_of_getElem? (i := 453) (by decide +kernel), by decide +kernel⟩
theorem cod_J9_min_7cf53 : Cond.code yJ9_min_7cf53 cJ9_min_7cf53 2 (some .int) ∈ TB := List.mem_filter.mpr ⟨List.mem_of_getElem? (i := 454) (by decide +kernel), by decide +kernel⟩
theorem im_X0_mayBeAtOnceWith : Cond.instanceMethod yX0_mayBeAtOnceWith ∈ TB := List.mem_filter.mpr ⟨List.mem_of_getElem? (i := 456) (by decide +kernel), by decide +kernel⟩
theorem sel_X0_mayBeAtOnceWith : Cond.selects RX0 yX0_mayBeAtOnceWith yX0_mayBeAtOnceWith ∈ TB := List.mem_filter.mpr ⟨List.mem_of_getElem? (i := 457) (by decide +kernel), by decide +kernel⟩
theorem cod_X0_mayBeAtOnceWith : Cond.code yX0_mayBeAtOnceWith cX0_mayBeAtOnceWith 2 (some .boolean) ∈ TB := List.mem_filter.mpr ⟨List.mem_of_getElem? (i := 460) (by decide +kernel), by decide +kernel⟩
theorem im_X9_cross : Cond.instanceMethod yX9_cross ∈ TB := List.mem_filter.mpr ⟨List.mem_of_getElem? (i := 472) (by decide +kernel), by decide +kernel⟩
theorem sel_X9_cross : Cond.selects RX9 yX9_cross yX9_cross ∈ TB := List.mem_filter.mpr ⟨List.mem_of_getElem? (i := 473) (by decide +kernel), by decide +kernel⟩
theorem cod_X9_cross : Cond.code yX9_cross cX9_cross 8 (some .int) ∈ TB := List.mem_filter.mpr ⟨List.mem_of_getElem? (i := 474) (by decide +kernel), by decide +kernel⟩
theorem k_X9_176 : Cond.constant RX9 176 (-100004) ∈ TB := List.mem_filter.mpr ⟨List.mem_of_getElem? (i := 475) (by decide +kernel), by decide +kernel⟩
theorem k_X9_177 : Cond.constant RX9 177 (-100012) ∈ TB := List.mem_filter.mpr ⟨List.mem_of_getElem? (i := 476) (by decide +kernel), by decide +kernel⟩
theorem im_X9_curtains : Cond.instanceMethod yX9_curtains ∈ TB := List.mem_filter.mpr ⟨List.mem_of_getElem? (i := 478) (by decide +kernel), by decide +kernel⟩
theorem sel_X9_curtains : Cond.selects RX9 yX9_curtains yX9_curtains ∈ TB := List.mem_filter.mpr ⟨List.mem_of_getElem? (i := 479) (by decide +kernel), by decide +kernel⟩
theorem cod_X9_curtains : Cond.code yX9_curtains cX9_curtains 2 (some .int) ∈ TB := List.mem_filter.mpr ⟨List.mem_of_getElem? (i := 480) (by decide +kernel), by decide +kernel⟩
theorem im_X9_lookAt : Cond.instanceMethod yX9_lookAt ∈ TB := List.mem_filter.mpr ⟨List.mem_of_getElem? (i := 483) (by decide +kernel), by decide +kernel⟩
theorem cod_X9_lookAt : Cond.code yX9_lookAt cX9_lookAt 2 (some .int) ∈ TB := List.mem_filter.mpr ⟨List.mem_of_getElem? (i := 484) (by decide +kernel), by decide +kernel⟩
theorem im_X6_gather : Cond.instanceMethod yX6_gather ∈ TB := List.mem_filter.mpr ⟨List.mem_of_getElem? (i := 486) (by decide +kernel), by decide +kernel⟩
theorem sel_X6_gather : Cond.selects RX6 yX6_gather yX6_gather ∈ TB := List.mem_filter.mpr ⟨List.mem_of_getElem? (i := 487) (by decide +kernel), by decide +kernel⟩
theorem cod_X6_gather : Cond.code yX6_gather cX6_gather 7 (some .boolean) ∈ TB := List.mem_filter.mpr ⟨List.mem_of_getElem? (i := 488) (by decide +kernel), by decide +kernel⟩
theorem im_X6_partCurtains : Cond.instanceMethod yX6_partCurtains ∈ TB := List.mem_filter.mpr ⟨List.mem_of_getElem? (i := 490) (by decide +kernel), by decide +kernel⟩
theorem sel_X6_partCurtains : Cond.selects RX6 yX6_partCurtains yX6_partCurtains ∈ TB := List.mem_filter.mpr ⟨List.mem_of_getElem? (i := 491) (by decide +kernel), by decide +kernel⟩
theorem cod_X6_partCurtains : Cond.code yX6_partCurtains cX6_partCurtains 5 (some .int) ∈ TB := List.mem_filter.mpr ⟨List.mem_of_getElem? (i := 492) (by decide +kernel), by decide +kernel⟩
theorem im_X6_findMeetings : Cond.instanceMethod yX6_findMeetings ∈ TB := List.mem_filter.mpr ⟨List.mem_of_getElem? (i := 495) (by decide +kernel), by decide +kernel⟩
theorem cod_X6_findMeetings : Cond.code yX6_findMeetings cX6_findMeetings 5 none ∈ TB := List.mem_filter.mpr ⟨List.mem_of_getElem? (i := 496) (by decide +kernel), by decide +kernel⟩
theorem im_X6_partFrom : Cond.instanceMethod yX6_partFrom ∈ TB := List.mem_filter.mpr ⟨List.mem_of_getElem? (i := 501) (by decide +kernel), by decide +kernel⟩
theorem cod_X6_partFrom : Cond.code yX6_partFrom cX6_partFrom 6 (some .boolean) ∈ TB := List.mem_filter.mpr ⟨List.mem_of_getElem? (i := 502) (by decide +kernel), by decide +kernel⟩
theorem im_X6_tellCurtain : Cond.instanceMethod yX6_tellCurtain ∈ TB := List.mem_filter.mpr ⟨List.mem_of_getElem? (i := 506) (by decide +kernel), by decide +kernel⟩
theorem cod_X6_tellCurtain : Cond.code yX6_tellCurtain cX6_tellCurtain 7 none ∈ TB := List.mem_filter.mpr ⟨List.mem_of_getElem? (i := 507) (by decide +kernel), by decide +kernel⟩
theorem im_X2_clear : Cond.instanceMethod yX2_clear ∈ TB := List.mem_filter.mpr ⟨List.mem_of_getElem? (i := 509) (by decide +kernel), by decide +kernel⟩
theorem sel_X2_clear : Cond.selects RX2 yX2_clear yX2_clear ∈ TB := List.mem_filter.mpr ⟨List.mem_of_getElem? (i := 510) (by decide +kernel), by decide +kernel⟩
theorem cod_X2_clear : Cond.code yX2_clear cX2_clear 1 none ∈ TB := List.mem_filter.mpr ⟨List.mem_of_getElem? (i := 511) (by decide +kernel), by decide +kernel⟩
theorem im_X2_take : Cond.instanceMethod yX2_take ∈ TB := List.mem_filter.mpr ⟨List.mem_of_getElem? (i := 513) (by decide +kernel), by decide +kernel⟩
theorem sel_X2_take : Cond.selects RX2 yX2_take yX2_take ∈ TB := List.mem_filter.mpr ⟨List.mem_of_getElem? (i := 514) (by decide +kernel), by decide +kernel⟩
theorem cod_X2_take : Cond.code yX2_take cX2_take 4 none ∈ TB := List.mem_filter.mpr ⟨List.mem_of_getElem? (i := 515) (by decide +kernel), by decide +kernel⟩
theorem im_X2_takePair : Cond.instanceMethod yX2_takePair ∈ TB := List.mem_filter.mpr ⟨List.mem_of_getElem? (i := 521) (by decide +kernel), by decide +kernel⟩
theorem sel_X2_takePair : Cond.selects RX2 yX2_takePair yX2_takePair ∈ TB := List.mem_filter.mpr ⟨List.mem_of_getElem? (i := 522) (by decide +kernel), by decide +kernel⟩
theorem cod_X2_takePair : Cond.code yX2_takePair cX2_takePair 2 none ∈ TB := List.mem_filter.mpr ⟨List.mem_of_getElem? (i := 523) (by decide +kernel), by decide +kernel⟩
theorem im_X2_finish : Cond.instanceMethod yX2_finish ∈ TB := List.mem_filter.mpr ⟨List.mem_of_getElem? (i := 525) (by decide +kernel), by decide +kernel⟩
theorem sel_X2_finish : Cond.selects RX2 yX2_finish yX2_finish ∈ TB := List.mem_filter.mpr ⟨List.mem_of_getElem? (i := 526) (by decide +kernel), by decide +kernel⟩
theorem cod_X2_finish : Cond.code yX2_finish cX2_finish 1 none ∈ TB := List.mem_filter.mpr ⟨List.mem_of_getElem? (i := 527) (by decide +kernel), by decide +kernel⟩
theorem sta_J9_floorDiv_7cf53 : Cond.static yJ9_floorDiv_7cf53 ∈ TB := List.mem_filter.mpr ⟨List.mem_of_getElem? (i := 529) (by decide +kernel), by decide +kernel⟩
theorem cod_J9_floorDiv_7cf53 : Cond.code yJ9_floorDiv_7cf53 cJ9_floorDiv_7cf53 3 (some .int) ∈ TB := List.mem_filter.mpr ⟨List.mem_of_getElem? (i := 530) (by decide +kernel), by decide +kernel⟩
theorem im_X9_curtain : Cond.instanceMethod yX9_curtain ∈ TB := List.mem_filter.mpr ⟨List.mem_of_getElem? (i := 532) (by decide +kernel), by decide +kernel⟩
theorem sel_X9_curtain : Cond.selects RX9 yX9_curtain yX9_curtain ∈ TB := List.mem_filter.mpr ⟨List.mem_of_getElem? (i := 533) (by decide +kernel), by decide +kernel⟩
theorem cod_X9_curtain : Cond.code yX9_curtain cX9_curtain 6 (some .int) ∈ TB := List.mem_filter.mpr ⟨List.mem_of_getElem? (i := 534) (by decide +kernel), by decide +kernel⟩
theorem k_X9_184 : Cond.constant RX9 184 (-100003) ∈ TB := List.mem_filter.mpr ⟨List.mem_of_getElem? (i := 535) (by decide +kernel), by decide +kernel⟩
theorem im_X2_hasPlace : Cond.instanceMethod yX2_hasPlace ∈ TB := List.mem_filter.mpr ⟨List.mem_of_getElem? (i := 537) (by decide +kernel), by decide +kernel⟩
theorem sel_X2_hasPlace : Cond.selects RX2 yX2_hasPlace yX2_hasPlace ∈ TB := List.mem_filter.mpr ⟨List.mem_of_getElem? (i := 538) (by decide +kernel), by decide +kernel⟩
theorem cod_X2_hasPlace : Cond.code yX2_hasPlace cX2_hasPlace 1 (some .boolean) ∈ TB := List.mem_filter.mpr ⟨List.mem_of_getElem? (i := 539) (by decide +kernel), by decide +kernel⟩
theorem im_X2_answer : Cond.instanceMethod yX2_answer ∈ TB := List.mem_filter.mpr ⟨List.mem_of_getElem? (i := 541) (by decide +kernel), by decide +kernel⟩
theorem sel_X2_answer : Cond.selects RX2 yX2_answer yX2_answer ∈ TB := List.mem_filter.mpr ⟨List.mem_of_getElem? (i := 542) (by decide +kernel), by decide +kernel⟩
theorem cod_X2_answer : Cond.code yX2_answer cX2_answer 2 (some .int) ∈ TB := List.mem_filter.mpr ⟨List.mem_of_getElem? (i := 543) (by decide +kernel), by decide +kernel⟩
theorem im_X9_curtainOf : Cond.instanceMethod yX9_curtainOf ∈ TB := List.mem_filter.mpr ⟨List.mem_of_getElem? (i := 545) (by decide +kernel), by decide +kernel⟩
theorem sel_X9_curtainOf : Cond.selects RX9 yX9_curtainOf yX9_curtainOf ∈ TB := List.mem_filter.mpr ⟨List.mem_of_getElem? (i := 546) (by decide +kernel), by decide +kernel⟩
theorem cod_X9_curtainOf : Cond.code yX9_curtainOf cX9_curtainOf 3 (some .int) ∈ TB := List.mem_filter.mpr ⟨List.mem_of_getElem? (i := 547) (by decide +kernel), by decide +kernel⟩
theorem im_X6_setOfSighting : Cond.instanceMethod yX6_setOfSighting ∈ TB := List.mem_filter.mpr ⟨List.mem_of_getElem? (i := 549) (by decide +kernel), by decide +kernel⟩
theorem sel_X6_setOfSighting : Cond.selects RX6 yX6_setOfSighting yX6_setOfSighting ∈ TB := List.mem_filter.mpr ⟨List.mem_of_getElem? (i := 550) (by decide +kernel), by decide +kernel⟩
theorem cod_X6_setOfSighting : Cond.code yX6_setOfSighting cX6_setOfSighting 3 (some .int) ∈ TB := List.mem_filter.mpr ⟨List.mem_of_getElem? (i := 551) (by decide +kernel), by decide +kernel⟩
theorem im_X9_speed : Cond.instanceMethod yX9_speed ∈ TB := List.mem_filter.mpr ⟨List.mem_of_getElem? (i := 553) (by decide +kernel), by decide +kernel⟩
theorem sel_X9_speed : Cond.selects RX9 yX9_speed yX9_speed ∈ TB := List.mem_filter.mpr ⟨List.mem_of_getElem? (i := 554) (by decide +kernel), by decide +kernel⟩
theorem cod_X9_speed : Cond.code yX9_speed cX9_speed 3 (some .int) ∈ TB := List.mem_filter.mpr ⟨List.mem_of_getElem? (i := 555) (by decide +kernel), by decide +kernel⟩
theorem im_X9_ways : Cond.instanceMethod yX9_ways ∈ TB := List.mem_filter.mpr ⟨List.mem_of_getElem? (i := 557) (by decide +kernel), by decide +kernel⟩
theorem sel_X9_ways : Cond.selects RX9 yX9_ways yX9_ways ∈ TB := List.mem_filter.mpr ⟨List.mem_of_getElem? (i := 558) (by decide +kernel), by decide +kernel⟩
theorem cod_X9_ways : Cond.code yX9_ways cX9_ways 2 (some .int) ∈ TB := List.mem_filter.mpr ⟨List.mem_of_getElem? (i := 559) (by decide +kernel), by decide +kernel⟩
theorem im_X6_joinWays : Cond.instanceMethod yX6_joinWays ∈ TB := List.mem_filter.mpr ⟨List.mem_of_getElem? (i := 561) (by decide +kernel), by decide +kernel⟩
theorem sel_X6_joinWays : Cond.selects RX6 yX6_joinWays yX6_joinWays ∈ TB := List.mem_filter.mpr ⟨List.mem_of_getElem? (i := 562) (by decide +kernel), by decide +kernel⟩
theorem cod_X6_joinWays : Cond.code yX6_joinWays cX6_joinWays 8 (some .int) ∈ TB := List.mem_filter.mpr ⟨List.mem_of_getElem? (i := 563) (by decide +kernel), by decide +kernel⟩
theorem im_X6_findFollowers : Cond.instanceMethod yX6_findFollowers ∈ TB := List.mem_filter.mpr ⟨List.mem_of_getElem? (i := 566) (by decide +kernel), by decide +kernel⟩
theorem cod_X6_findFollowers : Cond.code yX6_findFollowers cX6_findFollowers 5 (some .int) ∈ TB := List.mem_filter.mpr ⟨List.mem_of_getElem? (i := 567) (by decide +kernel), by decide +kernel⟩
theorem im_X2_canBeFollowedBy : Cond.instanceMethod yX2_canBeFollowedBy ∈ TB := List.mem_filter.mpr ⟨List.mem_of_getElem? (i := 570) (by decide +kernel), by decide +kernel⟩
theorem sel_X2_canBeFollowedBy : Cond.selects RX2 yX2_canBeFollowedBy yX2_canBeFollowedBy ∈ TB := List.mem_filter.mpr ⟨List.mem_of_getElem? (i := 571) (by decide +kernel), by decide +kernel⟩
theorem cod_X2_canBeFollowedBy : Cond.code yX2_canBeFollowedBy cX2_canBeFollowedBy 5 (some .boolean) ∈ TB := List.mem_filter.mpr ⟨List.mem_of_getElem? (i := 572) (by decide +kernel), by decide +kernel⟩
theorem sta_X2_squareOfFar : Cond.static yX2_squareOfFar ∈ TB := List.mem_filter.mpr ⟨List.mem_of_getElem? (i := 575) (by decide +kernel), by decide +kernel⟩
theorem cod_X2_squareOfFar : Cond.code yX2_squareOfFar cX2_squareOfFar 2 (some .long) ∈ TB := List.mem_filter.mpr ⟨List.mem_of_getElem? (i := 576) (by decide +kernel), by decide +kernel⟩
theorem im_X6_mostLinks : Cond.instanceMethod yX6_mostLinks ∈ TB := List.mem_filter.mpr ⟨List.mem_of_getElem? (i := 579) (by decide +kernel), by decide +kernel⟩
theorem cod_X6_mostLinks : Cond.code yX6_mostLinks cX6_mostLinks 5 (some .int) ∈ TB := List.mem_filter.mpr ⟨List.mem_of_getElem? (i := 580) (by decide +kernel), by decide +kernel⟩
theorem im_X6_firstFollower : Cond.instanceMethod yX6_firstFollower ∈ TB := List.mem_filter.mpr ⟨List.mem_of_getElem? (i := 583) (by decide +kernel), by decide +kernel⟩
theorem cod_X6_firstFollower : Cond.code yX6_firstFollower cX6_firstFollower 6 (some .int) ∈ TB := List.mem_filter.mpr ⟨List.mem_of_getElem? (i := 584) (by decide +kernel), by decide +kernel⟩
theorem im_X9_next : Cond.instanceMethod yX9_next ∈ TB := List.mem_filter.mpr ⟨List.mem_of_getElem? (i := 586) (by decide +kernel), by decide +kernel⟩
theorem sel_X9_next : Cond.selects RX9 yX9_next yX9_next ∈ TB := List.mem_filter.mpr ⟨List.mem_of_getElem? (i := 587) (by decide +kernel), by decide +kernel⟩
theorem cod_X9_next : Cond.code yX9_next cX9_next 4 (some .int) ∈ TB := List.mem_filter.mpr ⟨List.mem_of_getElem? (i := 588) (by decide +kernel), by decide +kernel⟩
theorem im_X9_overhead : Cond.instanceMethod yX9_overhead ∈ TB := List.mem_filter.mpr ⟨List.mem_of_getElem? (i := 590) (by decide +kernel), by decide +kernel⟩
theorem sel_X9_overhead : Cond.selects RX9 yX9_overhead yX9_overhead ∈ TB := List.mem_filter.mpr ⟨List.mem_of_getElem? (i := 591) (by decide +kernel), by decide +kernel⟩
theorem cod_X9_overhead : Cond.code yX9_overhead cX9_overhead 6 (some .int) ∈ TB := List.mem_filter.mpr ⟨List.mem_of_getElem? (i := 592) (by decide +kernel), by decide +kernel⟩
theorem im_X2_nearestMinute : Cond.instanceMethod yX2_nearestMinute ∈ TB := List.mem_filter.mpr ⟨List.mem_of_getElem? (i := 595) (by decide +kernel), by decide +kernel⟩
theorem sel_X2_nearestMinute : Cond.selects RX2 yX2_nearestMinute yX2_nearestMinute ∈ TB := List.mem_filter.mpr ⟨List.mem_of_getElem? (i := 596) (by decide +kernel), by decide +kernel⟩
theorem cod_X2_nearestMinute : Cond.code yX2_nearestMinute cX2_nearestMinute 12 (some .int) ∈ TB := List.mem_filter.mpr ⟨List.mem_of_getElem? (i := 597) (by decide +kernel), by decide +kernel⟩
theorem im_X9_watch : Cond.instanceMethod yX9_watch ∈ TB := List.mem_filter.mpr ⟨List.mem_of_getElem? (i := 599) (by decide +kernel), by decide +kernel⟩
theorem sel_X9_watch : Cond.selects RX9 yX9_watch yX9_watch ∈ TB := List.mem_filter.mpr ⟨List.mem_of_getElem? (i := 600) (by decide +kernel), by decide +kernel⟩
theorem cod_X9_watch : Cond.code yX9_watch cX9_watch 8 (some .int) ∈ TB := List.mem_filter.mpr ⟨List.mem_of_getElem? (i := 601) (by decide +kernel), by decide +kernel⟩
theorem im_X9_watchOf : Cond.instanceMethod yX9_watchOf ∈ TB := List.mem_filter.mpr ⟨List.mem_of_getElem? (i := 604) (by decide +kernel), by decide +kernel⟩
theorem inst_X8 : Cond.instantiable RX8 4 ∈ TB := List.mem_filter.mpr ⟨List.mem_of_getElem? (i := 606) (by decide +kernel), by decide +kernel⟩
theorem im_X8_init : Cond.instanceMethod yX8_init ∈ TB := List.mem_filter.mpr ⟨List.mem_of_getElem? (i := 608) (by decide +kernel), by decide +kernel⟩
theorem cod_X8_init : Cond.code yX8_init cX8_init 5 none ∈ TB := List.mem_filter.mpr ⟨List.mem_of_getElem? (i := 609) (by decide +kernel), by decide +kernel⟩
theorem im_X9_seen : Cond.instanceMethod yX9_seen ∈ TB := List.mem_filter.mpr ⟨List.mem_of_getElem? (i := 629) (by decide +kernel), by decide +kernel⟩
theorem sel_X9_seen : Cond.selects RX9 yX9_seen yX9_seen ∈ TB := List.mem_filter.mpr ⟨List.mem_of_getElem? (i := 630) (by decide +kernel), by decide +kernel⟩
theorem cod_X9_seen : Cond.code yX9_seen cX9_seen 5 (some .int) ∈ TB := List.mem_filter.mpr ⟨List.mem_of_getElem? (i := 631) (by decide +kernel), by decide +kernel⟩
theorem im_X9_saw : Cond.instanceMethod yX9_saw ∈ TB := List.mem_filter.mpr ⟨List.mem_of_getElem? (i := 634) (by decide +kernel), by decide +kernel⟩
theorem cod_X9_saw : Cond.code yX9_saw cX9_saw 5 (some .boolean) ∈ TB := List.mem_filter.mpr ⟨List.mem_of_getElem? (i := 635) (by decide +kernel), by decide +kernel⟩
theorem im_X9_rate : Cond.instanceMethod yX9_rate ∈ TB := List.mem_filter.mpr ⟨List.mem_of_getElem? (i := 637) (by decide +kernel), by decide +kernel⟩
theorem sel_X9_rate : Cond.selects RX9 yX9_rate yX9_rate ∈ TB := List.mem_filter.mpr ⟨List.mem_of_getElem? (i := 638) (by decide +kernel), by decide +kernel⟩
theorem cod_X9_rate : Cond.code yX9_rate cX9_rate 11 (some .int) ∈ TB := List.mem_filter.mpr ⟨List.mem_of_getElem? (i := 639) (by decide +kernel), by decide +kernel⟩
theorem im_X9_round : Cond.instanceMethod yX9_round ∈ TB := List.mem_filter.mpr ⟨List.mem_of_getElem? (i := 641) (by decide +kernel), by decide +kernel⟩
theorem sel_X9_round : Cond.selects RX9 yX9_round yX9_round ∈ TB := List.mem_filter.mpr ⟨List.mem_of_getElem? (i := 642) (by decide +kernel), by decide +kernel⟩
theorem cod_X9_round : Cond.code yX9_round cX9_round 2 (some .int) ∈ TB := List.mem_filter.mpr ⟨List.mem_of_getElem? (i := 643) (by decide +kernel), by decide +kernel⟩
theorem im_X9_roundOf : Cond.instanceMethod yX9_roundOf ∈ TB := List.mem_filter.mpr ⟨List.mem_of_getElem? (i := 646) (by decide +kernel), by decide +kernel⟩
theorem cod_X9_roundOf : Cond.code yX9_roundOf cX9_roundOf 4 (some .int) ∈ TB := List.mem_filter.mpr ⟨List.mem_of_getElem? (i := 647) (by decide +kernel), by decide +kernel⟩
theorem im_X9_best : Cond.instanceMethod yX9_best ∈ TB := List.mem_filter.mpr ⟨List.mem_of_getElem? (i := 649) (by decide +kernel), by decide +kernel⟩
theorem sel_X9_best : Cond.selects RX9 yX9_best yX9_best ∈ TB := List.mem_filter.mpr ⟨List.mem_of_getElem? (i := 650) (by decide +kernel), by decide +kernel⟩
theorem cod_X9_best : Cond.code yX9_best cX9_best 5 (some .int) ∈ TB := List.mem_filter.mpr ⟨List.mem_of_getElem? (i := 651) (by decide +kernel), by decide +kernel⟩
theorem im_X9_share : Cond.instanceMethod yX9_share ∈ TB := List.mem_filter.mpr ⟨List.mem_of_getElem? (i := 653) (by decide +kernel), by decide +kernel⟩
theorem sel_X9_share : Cond.selects RX9 yX9_share yX9_share ∈ TB := List.mem_filter.mpr ⟨List.mem_of_getElem? (i := 654) (by decide +kernel), by decide +kernel⟩
theorem cod_X9_share : Cond.code yX9_share cX9_share 5 (some .int) ∈ TB := List.mem_filter.mpr ⟨List.mem_of_getElem? (i := 655) (by decide +kernel), by decide +kernel⟩
theorem im_X9_areShared : Cond.instanceMethod yX9_areShared ∈ TB := List.mem_filter.mpr ⟨List.mem_of_getElem? (i := 658) (by decide +kernel), by decide +kernel⟩
theorem cod_X9_areShared : Cond.code yX9_areShared cX9_areShared 6 (some .boolean) ∈ TB := List.mem_filter.mpr ⟨List.mem_of_getElem? (i := 659) (by decide +kernel), by decide +kernel⟩
theorem im_X9_mended : Cond.instanceMethod yX9_mended ∈ TB := List.mem_filter.mpr ⟨List.mem_of_getElem? (i := 661) (by decide +kernel), by decide +kernel⟩
theorem sel_X9_mended : Cond.selects RX9 yX9_mended yX9_mended ∈ TB := List.mem_filter.mpr ⟨List.mem_of_getElem? (i := 662) (by decide +kernel), by decide +kernel⟩
theorem cod_X9_mended : Cond.code yX9_mended cX9_mended 12 (some .int) ∈ TB := List.mem_filter.mpr ⟨List.mem_of_getElem? (i := 663) (by decide +kernel), by decide +kernel⟩
theorem im_X9_moved : Cond.instanceMethod yX9_moved ∈ TB := List.mem_filter.mpr ⟨List.mem_of_getElem? (i := 667) (by decide +kernel), by decide +kernel⟩
theorem sel_X9_moved : Cond.selects RX9 yX9_moved yX9_moved ∈ TB := List.mem_filter.mpr ⟨List.mem_of_getElem? (i := 668) (by decide +kernel), by decide +kernel⟩
theorem cod_X9_moved : Cond.code yX9_moved cX9_moved 10 (some .int) ∈ TB := List.mem_filter.mpr ⟨List.mem_of_getElem? (i := 669) (by decide +kernel), by decide +kernel⟩
theorem im_X9_count : Cond.instanceMethod yX9_count ∈ TB := List.mem_filter.mpr ⟨List.mem_of_getElem? (i := 671) (by decide +kernel), by decide +kernel⟩
theorem sel_X9_count : Cond.selects RX9 yX9_count yX9_count ∈ TB := List.mem_filter.mpr ⟨List.mem_of_getElem? (i := 672) (by decide +kernel), by decide +kernel⟩
theorem cod_X9_count : Cond.code yX9_count cX9_count 2 (some .int) ∈ TB := List.mem_filter.mpr ⟨List.mem_of_getElem? (i := 673) (by decide +kernel), by decide +kernel⟩
theorem im_X9_sheet : Cond.instanceMethod yX9_sheet ∈ TB := List.mem_filter.mpr ⟨List.mem_of_getElem? (i := 675) (by decide +kernel), by decide +kernel⟩
theorem sel_X9_sheet : Cond.selects RX9 yX9_sheet yX9_sheet ∈ TB := List.mem_filter.mpr ⟨List.mem_of_getElem? (i := 676) (by decide +kernel), by decide +kernel⟩
theorem cod_X9_sheet : Cond.code yX9_sheet cX9_sheet 4 (some .int) ∈ TB := List.mem_filter.mpr ⟨List.mem_of_getElem? (i := 677) (by decide +kernel), by decide +kernel⟩
theorem sta_X9_isSheet : Cond.static yX9_isSheet ∈ TB := List.mem_filter.mpr ⟨List.mem_of_getElem? (i := 679) (by decide +kernel), by decide +kernel⟩
theorem cod_X9_isSheet : Cond.code yX9_isSheet cX9_isSheet 1 (some .boolean) ∈ TB := List.mem_filter.mpr ⟨List.mem_of_getElem? (i := 680) (by decide +kernel), by decide +kernel⟩
theorem sta_X9_isLane : Cond.static yX9_isLane ∈ TB := List.mem_filter.mpr ⟨List.mem_of_getElem? (i := 682) (by decide +kernel), by decide +kernel⟩
theorem cod_X9_isLane : Cond.code yX9_isLane cX9_isLane 1 (some .boolean) ∈ TB := List.mem_filter.mpr ⟨List.mem_of_getElem? (i := 683) (by decide +kernel), by decide +kernel⟩
theorem inst_X5 : Cond.instantiable RX5 2 ∈ TB := List.mem_filter.mpr ⟨List.mem_of_getElem? (i := 684) (by decide +kernel), by decide +kernel⟩
theorem im_X5_init : Cond.instanceMethod yX5_init ∈ TB := List.mem_filter.mpr ⟨List.mem_of_getElem? (i := 686) (by decide +kernel), by decide +kernel⟩
theorem cod_X5_init : Cond.code yX5_init cX5_init 3 none ∈ TB := List.mem_filter.mpr ⟨List.mem_of_getElem? (i := 687) (by decide +kernel), by decide +kernel⟩
theorem im_X9_drop : Cond.instanceMethod yX9_drop ∈ TB := List.mem_filter.mpr ⟨List.mem_of_getElem? (i := 699) (by decide +kernel), by decide +kernel⟩
theorem sel_X9_drop : Cond.selects RX9 yX9_drop yX9_drop ∈ TB := List.mem_filter.mpr ⟨List.mem_of_getElem? (i := 700) (by decide +kernel), by decide +kernel⟩
theorem cod_X9_drop : Cond.code yX9_drop cX9_drop 3 (some .int) ∈ TB := List.mem_filter.mpr ⟨List.mem_of_getElem? (i := 701) (by decide +kernel), by decide +kernel⟩
theorem im_X9_item : Cond.instanceMethod yX9_item ∈ TB := List.mem_filter.mpr ⟨List.mem_of_getElem? (i := 703) (by decide +kernel), by decide +kernel⟩
theorem sel_X9_item : Cond.selects RX9 yX9_item yX9_item ∈ TB := List.mem_filter.mpr ⟨List.mem_of_getElem? (i := 704) (by decide +kernel), by decide +kernel⟩
theorem cod_X9_item : Cond.code yX9_item cX9_item 6 (some .int) ∈ TB := List.mem_filter.mpr ⟨List.mem_of_getElem? (i := 705) (by decide +kernel), by decide +kernel⟩
theorem im_X5_holds : Cond.instanceMethod yX5_holds ∈ TB := List.mem_filter.mpr ⟨List.mem_of_getElem? (i := 707) (by decide +kernel), by decide +kernel⟩
theorem sel_X5_holds : Cond.selects RX5 yX5_holds yX5_holds ∈ TB := List.mem_filter.mpr ⟨List.mem_of_getElem? (i := 708) (by decide +kernel), by decide +kernel⟩
theorem cod_X5_holds : Cond.code yX5_holds cX5_holds 3 (some .boolean) ∈ TB := List.mem_filter.mpr ⟨List.mem_of_getElem? (i := 709) (by decide +kernel), by decide +kernel⟩
theorem im_X9_arcs : Cond.instanceMethod yX9_arcs ∈ TB := List.mem_filter.mpr ⟨List.mem_of_getElem? (i := 711) (by decide +kernel), by decide +kernel⟩
theorem sel_X9_arcs : Cond.selects RX9 yX9_arcs yX9_arcs ∈ TB := List.mem_filter.mpr ⟨List.mem_of_getElem? (i := 712) (by decide +kernel), by decide +kernel⟩
theorem cod_X9_arcs : Cond.code yX9_arcs cX9_arcs 6 (some .int) ∈ TB := List.mem_filter.mpr ⟨List.mem_of_getElem? (i := 713) (by decide +kernel), by decide +kernel⟩
theorem im_X9_keepArcs : Cond.instanceMethod yX9_keepArcs ∈ TB := List.mem_filter.mpr ⟨List.mem_of_getElem? (i := 716) (by decide +kernel), by decide +kernel⟩
theorem cod_X9_keepArcs : Cond.code yX9_keepArcs cX9_keepArcs 5 (some .int) ∈ TB := List.mem_filter.mpr ⟨List.mem_of_getElem? (i := 717) (by decide +kernel), by decide +kernel⟩
theorem im_X9_isArcAt : Cond.instanceMethod yX9_isArcAt ∈ TB := List.mem_filter.mpr ⟨List.mem_of_getElem? (i := 720) (by decide +kernel), by decide +kernel⟩
theorem cod_X9_isArcAt : Cond.code yX9_isArcAt cX9_isArcAt 3 (some .boolean) ∈ TB := List.mem_filter.mpr ⟨List.mem_of_getElem? (i := 721) (by decide +kernel), by decide +kernel⟩
theorem im_X9_keepArcAt : Cond.instanceMethod yX9_keepArcAt ∈ TB := List.mem_filter.mpr ⟨List.mem_of_getElem? (i := 724) (by decide +kernel), by decide +kernel⟩
theorem cod_X9_keepArcAt : Cond.code yX9_keepArcAt cX9_keepArcAt 4 none ∈ TB := List.mem_filter.mpr ⟨List.mem_of_getElem? (i := 725) (by decide +kernel), by decide +kernel⟩
theorem inst_X10 : Cond.instantiable RX10 46 ∈ TB := List.mem_filter.mpr ⟨List.mem_of_getElem? (i := 727) (by decide +kernel), by decide +kernel⟩
theorem im_X10_init : Cond.instanceMethod yX10_init ∈ TB := List.mem_filter.mpr ⟨List.mem_of_getElem? (i := 729) (by decide +kernel), by decide +kernel⟩
theorem cod_X10_init : Cond.code yX10_init cX10_init 2 none ∈ TB := List.mem_filter.mpr ⟨List.mem_of_getElem? (i := 730) (by decide +kernel), by decide +kernel⟩
theorem k_X10_125 : Cond.constantDouble RX10 125 (4652007308841189376) ∈ TB := List.mem_filter.mpr ⟨List.mem_of_getElem? (i := 732) (by decide +kernel), by decide +kernel⟩
theorem sta_X10_sineOf : Cond.static yX10_sineOf ∈ TB := List.mem_filter.mpr ⟨List.mem_of_getElem? (i := 734) (by decide +kernel), by decide +kernel⟩
theorem cod_X10_sineOf : Cond.code yX10_sineOf cX10_sineOf 6 (some .double) ∈ TB := List.mem_filter.mpr ⟨List.mem_of_getElem? (i := 735) (by decide +kernel), by decide +kernel⟩
theorem k_X10_133 : Cond.constantDouble RX10 133 (4614256656552045848) ∈ TB := List.mem_filter.mpr ⟨List.mem_of_getElem? (i := 736) (by decide +kernel), by decide +kernel⟩
theorem k_X10_135 : Cond.constantDouble RX10 135 (4640537203540230144) ∈ TB := List.mem_filter.mpr ⟨List.mem_of_getElem? (i := 737) (by decide +kernel), by decide +kernel⟩
theorem k_X10_131 : Cond.constantDouble RX10 131 (4602678819172646912) ∈ TB := List.mem_filter.mpr ⟨List.mem_of_getElem? (i := 738) (by decide +kernel), by decide +kernel⟩
theorem im_X10_table : Cond.instanceMethod yX10_table ∈ TB := List.mem_filter.mpr ⟨List.mem_of_getElem? (i := 879) (by decide +kernel), by decide +kernel⟩
theorem sel_X10_table : Cond.selects RX10 yX10_table yX10_table ∈ TB := List.mem_filter.mpr ⟨List.mem_of_getElem? (i := 880) (by decide +kernel), by decide +kernel⟩
theorem cod_X10_table : Cond.code yX10_table cX10_table 3 (some .int) ∈ TB := List.mem_filter.mpr ⟨List.mem_of_getElem? (i := 881) (by decide +kernel), by decide +kernel⟩
theorem k_X10_141 : Cond.constantLong RX10 141 (2) ∈ TB := List.mem_filter.mpr ⟨List.mem_of_getElem? (i := 882) (by decide +kernel), by decide +kernel⟩
theorem sta_X10_in : Cond.static yX10_in ∈ TB := List.mem_filter.mpr ⟨List.mem_of_getElem? (i := 884) (by decide +kernel), by decide +kernel⟩
theorem cod_X10_in : Cond.code yX10_in cX10_in 6 (some .boolean) ∈ TB := List.mem_filter.mpr ⟨List.mem_of_getElem? (i := 885) (by decide +kernel), by decide +kernel⟩
theorem k_X10_147 : Cond.constantLong RX10 147 (89) ∈ TB := List.mem_filter.mpr ⟨List.mem_of_getElem? (i := 886) (by decide +kernel), by decide +kernel⟩
theorem k_X10_149 : Cond.constantLong RX10 149 (359) ∈ TB := List.mem_filter.mpr ⟨List.mem_of_getElem? (i := 887) (by decide +kernel), by decide +kernel⟩
theorem k_X10_151 : Cond.constant RX10 151 (-100001) ∈ TB := List.mem_filter.mpr ⟨List.mem_of_getElem? (i := 888) (by decide +kernel), by decide +kernel⟩
theorem im_X10_sinOf : Cond.instanceMethod yX10_sinOf ∈ TB := List.mem_filter.mpr ⟨List.mem_of_getElem? (i := 891) (by decide +kernel), by decide +kernel⟩
theorem cod_X10_sinOf : Cond.code yX10_sinOf cX10_sinOf 2 (some .int) ∈ TB := List.mem_filter.mpr ⟨List.mem_of_getElem? (i := 892) (by decide +kernel), by decide +kernel⟩
theorem im_X10_cosOf : Cond.instanceMethod yX10_cosOf ∈ TB := List.mem_filter.mpr ⟨List.mem_of_getElem? (i := 895) (by decide +kernel), by decide +kernel⟩
theorem cod_X10_cosOf : Cond.code yX10_cosOf cX10_cosOf 2 (some .int) ∈ TB := List.mem_filter.mpr ⟨List.mem_of_getElem? (i := 896) (by decide +kernel), by decide +kernel⟩
theorem im_X10_station : Cond.instanceMethod yX10_station ∈ TB := List.mem_filter.mpr ⟨List.mem_of_getElem? (i := 898) (by decide +kernel), by decide +kernel⟩
theorem sel_X10_station : Cond.selects RX10 yX10_station yX10_station ∈ TB := List.mem_filter.mpr ⟨List.mem_of_getElem? (i := 899) (by decide +kernel), by decide +kernel⟩
theorem cod_X10_station : Cond.code yX10_station cX10_station 3 (some .int) ∈ TB := List.mem_filter.mpr ⟨List.mem_of_getElem? (i := 900) (by decide +kernel), by decide +kernel⟩
theorem k_X10_158 : Cond.constantLong RX10 158 (2000) ∈ TB := List.mem_filter.mpr ⟨List.mem_of_getElem? (i := 901) (by decide +kernel), by decide +kernel⟩
theorem im_X10_clock : Cond.instanceMethod yX10_clock ∈ TB := List.mem_filter.mpr ⟨List.mem_of_getElem? (i := 903) (by decide +kernel), by decide +kernel⟩
theorem sel_X10_clock : Cond.selects RX10 yX10_clock yX10_clock ∈ TB := List.mem_filter.mpr ⟨List.mem_of_getElem? (i := 904) (by decide +kernel), by decide +kernel⟩
theorem cod_X10_clock : Cond.code yX10_clock cX10_clock 4 (some .int) ∈ TB := List.mem_filter.mpr ⟨List.mem_of_getElem? (i := 905) (by decide +kernel), by decide +kernel⟩
theorem im_X10_isStation : Cond.instanceMethod yX10_isStation ∈ TB := List.mem_filter.mpr ⟨List.mem_of_getElem? (i := 908) (by decide +kernel), by decide +kernel⟩
theorem cod_X10_isStation : Cond.code yX10_isStation cX10_isStation 2 (some .boolean) ∈ TB := List.mem_filter.mpr ⟨List.mem_of_getElem? (i := 909) (by decide +kernel), by decide +kernel⟩
theorem k_X10_164 : Cond.constantLong RX10 164 (-60) ∈ TB := List.mem_filter.mpr ⟨List.mem_of_getElem? (i := 910) (by decide +kernel), by decide +kernel⟩
theorem k_X10_166 : Cond.constantLong RX10 166 (60) ∈ TB := List.mem_filter.mpr ⟨List.mem_of_getElem? (i := 911) (by decide +kernel), by decide +kernel⟩
theorem im_X10_glow : Cond.instanceMethod yX10_glow ∈ TB := List.mem_filter.mpr ⟨List.mem_of_getElem? (i := 913) (by decide +kernel), by decide +kernel⟩
theorem sel_X10_glow : Cond.selects RX10 yX10_glow yX10_glow ∈ TB := List.mem_filter.mpr ⟨List.mem_of_getElem? (i := 914) (by decide +kernel), by decide +kernel⟩
theorem cod_X10_glow : Cond.code yX10_glow cX10_glow 6 (some .int) ∈ TB := List.mem_filter.mpr ⟨List.mem_of_getElem? (i := 915) (by decide +kernel), by decide +kernel⟩
theorem im_X10_isTold : Cond.instanceMethod yX10_isTold ∈ TB := List.mem_filter.mpr ⟨List.mem_of_getElem? (i := 918) (by decide +kernel), by decide +kernel⟩
theorem cod_X10_isTold : Cond.code yX10_isTold cX10_isTold 6 (some .boolean) ∈ TB := List.mem_filter.mpr ⟨List.mem_of_getElem? (i := 919) (by decide +kernel), by decide +kernel⟩
theorem sta_X10_isNight : Cond.static yX10_isNight ∈ TB := List.mem_filter.mpr ⟨List.mem_of_getElem? (i := 921) (by decide +kernel), by decide +kernel⟩
theorem cod_X10_isNight : Cond.code yX10_isNight cX10_isNight 1 (some .boolean) ∈ TB := List.mem_filter.mpr ⟨List.mem_of_getElem? (i := 922) (by decide +kernel), by decide +kernel⟩
theorem k_X10_168 : Cond.constantLong RX10 168 (399) ∈ TB := List.mem_filter.mpr ⟨List.mem_of_getElem? (i := 923) (by decide +kernel), by decide +kernel⟩
theorem k_X10_173 : Cond.constantLong RX10 173 (1439) ∈ TB := List.mem_filter.mpr ⟨List.mem_of_getElem? (i := 924) (by decide +kernel), by decide +kernel⟩
theorem k_X10_175 : Cond.constantLong RX10 175 (88) ∈ TB := List.mem_filter.mpr ⟨List.mem_of_getElem? (i := 925) (by decide +kernel), by decide +kernel⟩
theorem im_X10_add : Cond.instanceMethod yX10_add ∈ TB := List.mem_filter.mpr ⟨List.mem_of_getElem? (i := 928) (by decide +kernel), by decide +kernel⟩
theorem cod_X10_add : Cond.code yX10_add cX10_add 9 (some .int) ∈ TB := List.mem_filter.mpr ⟨List.mem_of_getElem? (i := 929) (by decide +kernel), by decide +kernel⟩
theorem im_X10_arc : Cond.instanceMethod yX10_arc ∈ TB := List.mem_filter.mpr ⟨List.mem_of_getElem? (i := 931) (by decide +kernel), by decide +kernel⟩
theorem sel_X10_arc : Cond.selects RX10 yX10_arc yX10_arc ∈ TB := List.mem_filter.mpr ⟨List.mem_of_getElem? (i := 932) (by decide +kernel), by decide +kernel⟩
theorem cod_X10_arc : Cond.code yX10_arc cX10_arc 8 (some .int) ∈ TB := List.mem_filter.mpr ⟨List.mem_of_getElem? (i := 933) (by decide +kernel), by decide +kernel⟩
theorem k_X10_188 : Cond.constantLong RX10 188 (4) ∈ TB := List.mem_filter.mpr ⟨List.mem_of_getElem? (i := 934) (by decide +kernel), by decide +kernel⟩
theorem im_X10_ray : Cond.instanceMethod yX10_ray ∈ TB := List.mem_filter.mpr ⟨List.mem_of_getElem? (i := 936) (by decide +kernel), by decide +kernel⟩
theorem sel_X10_ray : Cond.selects RX10 yX10_ray yX10_ray ∈ TB := List.mem_filter.mpr ⟨List.mem_of_getElem? (i := 937) (by decide +kernel), by decide +kernel⟩
theorem cod_X10_ray : Cond.code yX10_ray cX10_ray 9 (some .int) ∈ TB := List.mem_filter.mpr ⟨List.mem_of_getElem? (i := 938) (by decide +kernel), by decide +kernel⟩
theorem k_X10_190 : Cond.constantLong RX10 190 (-45) ∈ TB := List.mem_filter.mpr ⟨List.mem_of_getElem? (i := 939) (by decide +kernel), by decide +kernel⟩
theorem k_X10_192 : Cond.constantLong RX10 192 (45) ∈ TB := List.mem_filter.mpr ⟨List.mem_of_getElem? (i := 940) (by decide +kernel), by decide +kernel⟩
theorem im_X10_told : Cond.instanceMethod yX10_told ∈ TB := List.mem_filter.mpr ⟨List.mem_of_getElem? (i := 942) (by decide +kernel), by decide +kernel⟩
theorem sel_X10_told : Cond.selects RX10 yX10_told yX10_told ∈ TB := List.mem_filter.mpr ⟨List.mem_of_getElem? (i := 943) (by decide +kernel), by decide +kernel⟩
theorem cod_X10_told : Cond.code yX10_told cX10_told 3 (some .int) ∈ TB := List.mem_filter.mpr ⟨List.mem_of_getElem? (i := 944) (by decide +kernel), by decide +kernel⟩
theorem im_X10_isSighting : Cond.instanceMethod yX10_isSighting ∈ TB := List.mem_filter.mpr ⟨List.mem_of_getElem? (i := 947) (by decide +kernel), by decide +kernel⟩
theorem cod_X10_isSighting : Cond.code yX10_isSighting cX10_isSighting 2 (some .boolean) ∈ TB := List.mem_filter.mpr ⟨List.mem_of_getElem? (i := 948) (by decide +kernel), by decide +kernel⟩
theorem im_X10_firstOf : Cond.instanceMethod yX10_firstOf ∈ TB := List.mem_filter.mpr ⟨List.mem_of_getElem? (i := 951) (by decide +kernel), by decide +kernel⟩
theorem cod_X10_firstOf : Cond.code yX10_firstOf cX10_firstOf 2 (some .int) ∈ TB := List.mem_filter.mpr ⟨List.mem_of_getElem? (i := 952) (by decide +kernel), by decide +kernel⟩
theorem im_X10_lastOf : Cond.instanceMethod yX10_lastOf ∈ TB := List.mem_filter.mpr ⟨List.mem_of_getElem? (i := 955) (by decide +kernel), by decide +kernel⟩
theorem cod_X10_lastOf : Cond.code yX10_lastOf cX10_lastOf 2 (some .int) ∈ TB := List.mem_filter.mpr ⟨List.mem_of_getElem? (i := 956) (by decide +kernel), by decide +kernel⟩
theorem im_X10_colour : Cond.instanceMethod yX10_colour ∈ TB := List.mem_filter.mpr ⟨List.mem_of_getElem? (i := 958) (by decide +kernel), by decide +kernel⟩
theorem sel_X10_colour : Cond.selects RX10 yX10_colour yX10_colour ∈ TB := List.mem_filter.mpr ⟨List.mem_of_getElem? (i := 959) (by decide +kernel), by decide +kernel⟩
theorem cod_X10_colour : Cond.code yX10_colour cX10_colour 2 (some .int) ∈ TB := List.mem_filter.mpr ⟨List.mem_of_getElem? (i := 960) (by decide +kernel), by decide +kernel⟩
theorem im_X10_lean : Cond.instanceMethod yX10_lean ∈ TB := List.mem_filter.mpr ⟨List.mem_of_getElem? (i := 962) (by decide +kernel), by decide +kernel⟩
theorem sel_X10_lean : Cond.selects RX10 yX10_lean yX10_lean ∈ TB := List.mem_filter.mpr ⟨List.mem_of_getElem? (i := 963) (by decide +kernel), by decide +kernel⟩
theorem cod_X10_lean : Cond.code yX10_lean cX10_lean 2 (some .int) ∈ TB := List.mem_filter.mpr ⟨List.mem_of_getElem? (i := 964) (by decide +kernel), by decide +kernel⟩
theorem im_X10_thick : Cond.instanceMethod yX10_thick ∈ TB := List.mem_filter.mpr ⟨List.mem_of_getElem? (i := 966) (by decide +kernel), by decide +kernel⟩
theorem sel_X10_thick : Cond.selects RX10 yX10_thick yX10_thick ∈ TB := List.mem_filter.mpr ⟨List.mem_of_getElem? (i := 967) (by decide +kernel), by decide +kernel⟩
theorem cod_X10_thick : Cond.code yX10_thick cX10_thick 3 (some .int) ∈ TB := List.mem_filter.mpr ⟨List.mem_of_getElem? (i := 968) (by decide +kernel), by decide +kernel⟩
theorem k_X10_203 : Cond.constantLong RX10 203 (200) ∈ TB := List.mem_filter.mpr ⟨List.mem_of_getElem? (i := 969) (by decide +kernel), by decide +kernel⟩
theorem im_X10_meets : Cond.instanceMethod yX10_meets ∈ TB := List.mem_filter.mpr ⟨List.mem_of_getElem? (i := 971) (by decide +kernel), by decide +kernel⟩
theorem sel_X10_meets : Cond.selects RX10 yX10_meets yX10_meets ∈ TB := List.mem_filter.mpr ⟨List.mem_of_getElem? (i := 972) (by decide +kernel), by decide +kernel⟩
theorem cod_X10_meets : Cond.code yX10_meets cX10_meets 3 (some .int) ∈ TB := List.mem_filter.mpr ⟨List.mem_of_getElem? (i := 973) (by decide +kernel), by decide +kernel⟩
theorem im_X10_areMet : Cond.instanceMethod yX10_areMet ∈ TB := List.mem_filter.mpr ⟨List.mem_of_getElem? (i := 976) (by decide +kernel), by decide +kernel⟩
theorem cod_X10_areMet : Cond.code yX10_areMet cX10_areMet 3 (some .boolean) ∈ TB := List.mem_filter.mpr ⟨List.mem_of_getElem? (i := 977) (by decide +kernel), by decide +kernel⟩
theorem im_X10_crosses : Cond.instanceMethod yX10_crosses ∈ TB := List.mem_filter.mpr ⟨List.mem_of_getElem? (i := 980) (by decide +kernel), by decide +kernel⟩
theorem cod_X10_crosses : Cond.code yX10_crosses cX10_crosses 14 (some .boolean) ∈ TB := List.mem_filter.mpr ⟨List.mem_of_getElem? (i := 981) (by decide +kernel), by decide +kernel⟩
theorem k_X10_205 : Cond.constantLong RX10 205 (-49999) ∈ TB := List.mem_filter.mpr ⟨List.mem_of_getElem? (i := 982) (by decide +kernel), by decide +kernel⟩
theorem k_X10_207 : Cond.constantLong RX10 207 (49999) ∈ TB := List.mem_filter.mpr ⟨List.mem_of_getElem? (i := 983) (by decide +kernel), by decide +kernel⟩
theorem k_X10_209 : Cond.constantLong RX10 209 (1000) ∈ TB := List.mem_filter.mpr ⟨List.mem_of_getElem? (i := 984) (by decide +kernel), by decide +kernel⟩
theorem k_X10_211 : Cond.constantLong RX10 211 (1500) ∈ TB := List.mem_filter.mpr ⟨List.mem_of_getElem? (i := 985) (by decide +kernel), by decide +kernel⟩
theorem im_X10_rise : Cond.instanceMethod yX10_rise ∈ TB := List.mem_filter.mpr ⟨List.mem_of_getElem? (i := 988) (by decide +kernel), by decide +kernel⟩
theorem cod_X10_rise : Cond.code yX10_rise cX10_rise 3 (some .int) ∈ TB := List.mem_filter.mpr ⟨List.mem_of_getElem? (i := 989) (by decide +kernel), by decide +kernel⟩
theorem im_X10_cross : Cond.instanceMethod yX10_cross ∈ TB := List.mem_filter.mpr ⟨List.mem_of_getElem? (i := 991) (by decide +kernel), by decide +kernel⟩
theorem sel_X10_cross : Cond.selects RX10 yX10_cross yX10_cross ∈ TB := List.mem_filter.mpr ⟨List.mem_of_getElem? (i := 992) (by decide +kernel), by decide +kernel⟩
theorem cod_X10_cross : Cond.code yX10_cross cX10_cross 6 (some .int) ∈ TB := List.mem_filter.mpr ⟨List.mem_of_getElem? (i := 993) (by decide +kernel), by decide +kernel⟩
theorem k_X10_230 : Cond.constantLong RX10 230 (6) ∈ TB := List.mem_filter.mpr ⟨List.mem_of_getElem? (i := 994) (by decide +kernel), by decide +kernel⟩
theorem k_X10_232 : Cond.constant RX10 232 (-100012) ∈ TB := List.mem_filter.mpr ⟨List.mem_of_getElem? (i := 995) (by decide +kernel), by decide +kernel⟩
theorem k_X10_233 : Cond.constant RX10 233 (-100004) ∈ TB := List.mem_filter.mpr ⟨List.mem_of_getElem? (i := 996) (by decide +kernel), by decide +kernel⟩
theorem im_X10_crossPart : Cond.instanceMethod yX10_crossPart ∈ TB := List.mem_filter.mpr ⟨List.mem_of_getElem? (i := 999) (by decide +kernel), by decide +kernel⟩
theorem cod_X10_crossPart : Cond.code yX10_crossPart cX10_crossPart 7 (some .int) ∈ TB := List.mem_filter.mpr ⟨List.mem_of_getElem? (i := 1000) (by decide +kernel), by decide +kernel⟩
theorem im_X10_curtains : Cond.instanceMethod yX10_curtains ∈ TB := List.mem_filter.mpr ⟨List.mem_of_getElem? (i := 1002) (by decide +kernel), by decide +kernel⟩
theorem sel_X10_curtains : Cond.selects RX10 yX10_curtains yX10_curtains ∈ TB := List.mem_filter.mpr ⟨List.mem_of_getElem? (i := 1003) (by decide +kernel), by decide +kernel⟩
theorem cod_X10_curtains : Cond.code yX10_curtains cX10_curtains 2 (some .int) ∈ TB := List.mem_filter.mpr ⟨List.mem_of_getElem? (i := 1004) (by decide +kernel), by decide +kernel⟩
theorem im_X10_findCurtains : Cond.instanceMethod yX10_findCurtains ∈ TB := List.mem_filter.mpr ⟨List.mem_of_getElem? (i := 1007) (by decide +kernel), by decide +kernel⟩
theorem cod_X10_findCurtains : Cond.code yX10_findCurtains cX10_findCurtains 4 (some .int) ∈ TB := List.mem_filter.mpr ⟨List.mem_of_getElem? (i := 1008) (by decide +kernel), by decide +kernel⟩
theorem im_X10_listNight : Cond.instanceMethod yX10_listNight ∈ TB := List.mem_filter.mpr ⟨List.mem_of_getElem? (i := 1011) (by decide +kernel), by decide +kernel⟩
theorem cod_X10_listNight : Cond.code yX10_listNight cX10_listNight 3 none ∈ TB := List.mem_filter.mpr ⟨List.mem_of_getElem? (i := 1012) (by decide +kernel), by decide +kernel⟩
theorem im_X10_part : Cond.instanceMethod yX10_part ∈ TB := List.mem_filter.mpr ⟨List.mem_of_getElem? (i := 1015) (by decide +kernel), by decide +kernel⟩
theorem cod_X10_part : Cond.code yX10_part cX10_part 5 (some .boolean) ∈ TB := List.mem_filter.mpr ⟨List.mem_of_getElem? (i := 1016) (by decide +kernel), by decide +kernel⟩
theorem im_X10_setsAhead : Cond.instanceMethod yX10_setsAhead ∈ TB := List.mem_filter.mpr ⟨List.mem_of_getElem? (i := 1019) (by decide +kernel), by decide +kernel⟩
theorem cod_X10_setsAhead : Cond.code yX10_setsAhead cX10_setsAhead 4 (some .int) ∈ TB := List.mem_filter.mpr ⟨List.mem_of_getElem? (i := 1020) (by decide +kernel), by decide +kernel⟩
theorem im_X10_canBeIn : Cond.instanceMethod yX10_canBeIn ∈ TB := List.mem_filter.mpr ⟨List.mem_of_getElem? (i := 1023) (by decide +kernel), by decide +kernel⟩
theorem cod_X10_canBeIn : Cond.code yX10_canBeIn cX10_canBeIn 4 (some .boolean) ∈ TB := List.mem_filter.mpr ⟨List.mem_of_getElem? (i := 1024) (by decide +kernel), by decide +kernel⟩
theorem im_X10_findPlace : Cond.instanceMethod yX10_findPlace ∈ TB := List.mem_filter.mpr ⟨List.mem_of_getElem? (i := 1027) (by decide +kernel), by decide +kernel⟩
theorem cod_X10_findPlace : Cond.code yX10_findPlace cX10_findPlace 11 none ∈ TB := List.mem_filter.mpr ⟨List.mem_of_getElem? (i := 1028) (by decide +kernel), by decide +kernel⟩
theorem im_X10_curtain : Cond.instanceMethod yX10_curtain ∈ TB := List.mem_filter.mpr ⟨List.mem_of_getElem? (i := 1030) (by decide +kernel), by decide +kernel⟩
theorem sel_X10_curtain : Cond.selects RX10 yX10_curtain yX10_curtain ∈ TB := List.mem_filter.mpr ⟨List.mem_of_getElem? (i := 1031) (by decide +kernel), by decide +kernel⟩
theorem cod_X10_curtain : Cond.code yX10_curtain cX10_curtain 5 (some .int) ∈ TB := List.mem_filter.mpr ⟨List.mem_of_getElem? (i := 1032) (by decide +kernel), by decide +kernel⟩
theorem k_X10_263 : Cond.constantLong RX10 263 (5) ∈ TB := List.mem_filter.mpr ⟨List.mem_of_getElem? (i := 1033) (by decide +kernel), by decide +kernel⟩
theorem k_X10_265 : Cond.constant RX10 265 (100000) ∈ TB := List.mem_filter.mpr ⟨List.mem_of_getElem? (i := 1034) (by decide +kernel), by decide +kernel⟩
theorem im_X10_curtainOf : Cond.instanceMethod yX10_curtainOf ∈ TB := List.mem_filter.mpr ⟨List.mem_of_getElem? (i := 1036) (by decide +kernel), by decide +kernel⟩
theorem sel_X10_curtainOf : Cond.selects RX10 yX10_curtainOf yX10_curtainOf ∈ TB := List.mem_filter.mpr ⟨List.mem_of_getElem? (i := 1037) (by decide +kernel), by decide +kernel⟩
theorem cod_X10_curtainOf : Cond.code yX10_curtainOf cX10_curtainOf 4 (some .int) ∈ TB := List.mem_filter.mpr ⟨List.mem_of_getElem? (i := 1038) (by decide +kernel), by decide +kernel⟩
theorem im_X10_speed : Cond.instanceMethod yX10_speed ∈ TB := List.mem_filter.mpr ⟨List.mem_of_getElem? (i := 1040) (by decide +kernel), by decide +kernel⟩
theorem sel_X10_speed : Cond.selects RX10 yX10_speed yX10_speed ∈ TB := List.mem_filter.mpr ⟨List.mem_of_getElem? (i := 1041) (by decide +kernel), by decide +kernel⟩
theorem cod_X10_speed : Cond.code yX10_speed cX10_speed 3 (some .int) ∈ TB := List.mem_filter.mpr ⟨List.mem_of_getElem? (i := 1042) (by decide +kernel), by decide +kernel⟩
theorem im_X10_ways : Cond.instanceMethod yX10_ways ∈ TB := List.mem_filter.mpr ⟨List.mem_of_getElem? (i := 1044) (by decide +kernel), by decide +kernel⟩
theorem sel_X10_ways : Cond.selects RX10 yX10_ways yX10_ways ∈ TB := List.mem_filter.mpr ⟨List.mem_of_getElem? (i := 1045) (by decide +kernel), by decide +kernel⟩
theorem cod_X10_ways : Cond.code yX10_ways cX10_ways 3 (some .int) ∈ TB := List.mem_filter.mpr ⟨List.mem_of_getElem? (i := 1046) (by decide +kernel), by decide +kernel⟩
theorem im_X10_findWays : Cond.instanceMethod yX10_findWays ∈ TB := List.mem_filter.mpr ⟨List.mem_of_getElem? (i := 1049) (by decide +kernel), by decide +kernel⟩
theorem cod_X10_findWays : Cond.code yX10_findWays cX10_findWays 7 (some .int) ∈ TB := List.mem_filter.mpr ⟨List.mem_of_getElem? (i := 1050) (by decide +kernel), by decide +kernel⟩
theorem im_X10_canFollow : Cond.instanceMethod yX10_canFollow ∈ TB := List.mem_filter.mpr ⟨List.mem_of_getElem? (i := 1053) (by decide +kernel), by decide +kernel⟩
theorem cod_X10_canFollow : Cond.code yX10_canFollow cX10_canFollow 9 (some .boolean) ∈ TB := List.mem_filter.mpr ⟨List.mem_of_getElem? (i := 1054) (by decide +kernel), by decide +kernel⟩
theorem im_X10_next : Cond.instanceMethod yX10_next ∈ TB := List.mem_filter.mpr ⟨List.mem_of_getElem? (i := 1056) (by decide +kernel), by decide +kernel⟩
theorem sel_X10_next : Cond.selects RX10 yX10_next yX10_next ∈ TB := List.mem_filter.mpr ⟨List.mem_of_getElem? (i := 1057) (by decide +kernel), by decide +kernel⟩
theorem cod_X10_next : Cond.code yX10_next cX10_next 3 (some .int) ∈ TB := List.mem_filter.mpr ⟨List.mem_of_getElem? (i := 1058) (by decide +kernel), by decide +kernel⟩
theorem im_X10_nextOf : Cond.instanceMethod yX10_nextOf ∈ TB := List.mem_filter.mpr ⟨List.mem_of_getElem? (i := 1061) (by decide +kernel), by decide +kernel⟩
theorem cod_X10_nextOf : Cond.code yX10_nextOf cX10_nextOf 5 (some .int) ∈ TB := List.mem_filter.mpr ⟨List.mem_of_getElem? (i := 1062) (by decide +kernel), by decide +kernel⟩
theorem im_X10_overhead : Cond.instanceMethod yX10_overhead ∈ TB := List.mem_filter.mpr ⟨List.mem_of_getElem? (i := 1064) (by decide +kernel), by decide +kernel⟩
theorem sel_X10_overhead : Cond.selects RX10 yX10_overhead yX10_overhead ∈ TB := List.mem_filter.mpr ⟨List.mem_of_getElem? (i := 1065) (by decide +kernel), by decide +kernel⟩
theorem cod_X10_overhead : Cond.code yX10_overhead cX10_overhead 16 (some .int) ∈ TB := List.mem_filter.mpr ⟨List.mem_of_getElem? (i := 1066) (by decide +kernel), by decide +kernel⟩
theorem k_X10_276 : Cond.constantLong RX10 276 (-1) ∈ TB := List.mem_filter.mpr ⟨List.mem_of_getElem? (i := 1067) (by decide +kernel), by decide +kernel⟩
theorem im_X10_watch : Cond.instanceMethod yX10_watch ∈ TB := List.mem_filter.mpr ⟨List.mem_of_getElem? (i := 1069) (by decide +kernel), by decide +kernel⟩
theorem sel_X10_watch : Cond.selects RX10 yX10_watch yX10_watch ∈ TB := List.mem_filter.mpr ⟨List.mem_of_getElem? (i := 1070) (by decide +kernel), by decide +kernel⟩
theorem cod_X10_watch : Cond.code yX10_watch cX10_watch 6 (some .int) ∈ TB := List.mem_filter.mpr ⟨List.mem_of_getElem? (i := 1071) (by decide +kernel), by decide +kernel⟩
theorem k_X10_281 : Cond.constantLong RX10 281 (24) ∈ TB := List.mem_filter.mpr ⟨List.mem_of_getElem? (i := 1072) (by decide +kernel), by decide +kernel⟩
theorem im_X10_watchOf : Cond.instanceMethod yX10_watchOf ∈ TB := List.mem_filter.mpr ⟨List.mem_of_getElem? (i := 1075) (by decide +kernel), by decide +kernel⟩
theorem cod_X10_watchOf : Cond.code yX10_watchOf cX10_watchOf 4 (some .int) ∈ TB := List.mem_filter.mpr ⟨List.mem_of_getElem? (i := 1076) (by decide +kernel), by decide +kernel⟩
theorem im_X10_seen : Cond.instanceMethod yX10_seen ∈ TB := List.mem_filter.mpr ⟨List.mem_of_getElem? (i := 1078) (by decide +kernel), by decide +kernel⟩
theorem sel_X10_seen : Cond.selects RX10 yX10_seen yX10_seen ∈ TB := List.mem_filter.mpr ⟨List.mem_of_getElem? (i := 1079) (by decide +kernel), by decide +kernel⟩
theorem cod_X10_seen : Cond.code yX10_seen cX10_seen 4 (some .int) ∈ TB := List.mem_filter.mpr ⟨List.mem_of_getElem? (i := 1080) (by decide +kernel), by decide +kernel⟩
theorem im_X10_isSeen : Cond.instanceMethod yX10_isSeen ∈ TB := List.mem_filter.mpr ⟨List.mem_of_getElem? (i := 1083) (by decide +kernel), by decide +kernel⟩
theorem cod_X10_isSeen : Cond.code yX10_isSeen cX10_isSeen 4 (some .boolean) ∈ TB := List.mem_filter.mpr ⟨List.mem_of_getElem? (i := 1084) (by decide +kernel), by decide +kernel⟩
theorem im_X10_rate : Cond.instanceMethod yX10_rate ∈ TB := List.mem_filter.mpr ⟨List.mem_of_getElem? (i := 1086) (by decide +kernel), by decide +kernel⟩
theorem sel_X10_rate : Cond.selects RX10 yX10_rate yX10_rate ∈ TB := List.mem_filter.mpr ⟨List.mem_of_getElem? (i := 1087) (by decide +kernel), by decide +kernel⟩
theorem cod_X10_rate : Cond.code yX10_rate cX10_rate 9 (some .int) ∈ TB := List.mem_filter.mpr ⟨List.mem_of_getElem? (i := 1088) (by decide +kernel), by decide +kernel⟩
theorem k_X10_289 : Cond.constantLong RX10 289 (3) ∈ TB := List.mem_filter.mpr ⟨List.mem_of_getElem? (i := 1089) (by decide +kernel), by decide +kernel⟩
theorem im_X10_round : Cond.instanceMethod yX10_round ∈ TB := List.mem_filter.mpr ⟨List.mem_of_getElem? (i := 1091) (by decide +kernel), by decide +kernel⟩
theorem sel_X10_round : Cond.selects RX10 yX10_round yX10_round ∈ TB := List.mem_filter.mpr ⟨List.mem_of_getElem? (i := 1092) (by decide +kernel), by decide +kernel⟩
theorem cod_X10_round : Cond.code yX10_round cX10_round 2 (some .int) ∈ TB := List.mem_filter.mpr ⟨List.mem_of_getElem? (i := 1093) (by decide +kernel), by decide +kernel⟩
theorem k_X10_291 : Cond.constantLong RX10 291 (20) ∈ TB := List.mem_filter.mpr ⟨List.mem_of_getElem? (i := 1094) (by decide +kernel), by decide +kernel⟩
theorem k_X10_293 : Cond.constantLong RX10 293 (40) ∈ TB := List.mem_filter.mpr ⟨List.mem_of_getElem? (i := 1095) (by decide +kernel), by decide +kernel⟩
theorem im_X10_roundOf : Cond.instanceMethod yX10_roundOf ∈ TB := List.mem_filter.mpr ⟨List.mem_of_getElem? (i := 1098) (by decide +kernel), by decide +kernel⟩
theorem cod_X10_roundOf : Cond.code yX10_roundOf cX10_roundOf 4 (some .int) ∈ TB := List.mem_filter.mpr ⟨List.mem_of_getElem? (i := 1099) (by decide +kernel), by decide +kernel⟩
theorem im_X10_best : Cond.instanceMethod yX10_best ∈ TB := List.mem_filter.mpr ⟨List.mem_of_getElem? (i := 1101) (by decide +kernel), by decide +kernel⟩
theorem sel_X10_best : Cond.selects RX10 yX10_best yX10_best ∈ TB := List.mem_filter.mpr ⟨List.mem_of_getElem? (i := 1102) (by decide +kernel), by decide +kernel⟩
theorem cod_X10_best : Cond.code yX10_best cX10_best 3 (some .int) ∈ TB := List.mem_filter.mpr ⟨List.mem_of_getElem? (i := 1103) (by decide +kernel), by decide +kernel⟩
theorem im_X10_nightsSeen : Cond.instanceMethod yX10_nightsSeen ∈ TB := List.mem_filter.mpr ⟨List.mem_of_getElem? (i := 1106) (by decide +kernel), by decide +kernel⟩
theorem cod_X10_nightsSeen : Cond.code yX10_nightsSeen cX10_nightsSeen 3 (some .int) ∈ TB := List.mem_filter.mpr ⟨List.mem_of_getElem? (i := 1107) (by decide +kernel), by decide +kernel⟩
theorem im_X10_share : Cond.instanceMethod yX10_share ∈ TB := List.mem_filter.mpr ⟨List.mem_of_getElem? (i := 1109) (by decide +kernel), by decide +kernel⟩
theorem sel_X10_share : Cond.selects RX10 yX10_share yX10_share ∈ TB := List.mem_filter.mpr ⟨List.mem_of_getElem? (i := 1110) (by decide +kernel), by decide +kernel⟩
theorem cod_X10_share : Cond.code yX10_share cX10_share 4 (some .int) ∈ TB := List.mem_filter.mpr ⟨List.mem_of_getElem? (i := 1111) (by decide +kernel), by decide +kernel⟩
theorem im_X10_mended : Cond.instanceMethod yX10_mended ∈ TB := List.mem_filter.mpr ⟨List.mem_of_getElem? (i := 1113) (by decide +kernel), by decide +kernel⟩
theorem sel_X10_mended : Cond.selects RX10 yX10_mended yX10_mended ∈ TB := List.mem_filter.mpr ⟨List.mem_of_getElem? (i := 1114) (by decide +kernel), by decide +kernel⟩
theorem cod_X10_mended : Cond.code yX10_mended cX10_mended 9 (some .int) ∈ TB := List.mem_filter.mpr ⟨List.mem_of_getElem? (i := 1115) (by decide +kernel), by decide +kernel⟩
theorem im_X10_moved : Cond.instanceMethod yX10_moved ∈ TB := List.mem_filter.mpr ⟨List.mem_of_getElem? (i := 1117) (by decide +kernel), by decide +kernel⟩
theorem sel_X10_moved : Cond.selects RX10 yX10_moved yX10_moved ∈ TB := List.mem_filter.mpr ⟨List.mem_of_getElem? (i := 1118) (by decide +kernel), by decide +kernel⟩
theorem cod_X10_moved : Cond.code yX10_moved cX10_moved 7 (some .int) ∈ TB := List.mem_filter.mpr ⟨List.mem_of_getElem? (i := 1119) (by decide +kernel), by decide +kernel⟩
theorem im_X10_count : Cond.instanceMethod yX10_count ∈ TB := List.mem_filter.mpr ⟨List.mem_of_getElem? (i := 1121) (by decide +kernel), by decide +kernel⟩
theorem sel_X10_count : Cond.selects RX10 yX10_count yX10_count ∈ TB := List.mem_filter.mpr ⟨List.mem_of_getElem? (i := 1122) (by decide +kernel), by decide +kernel⟩
theorem cod_X10_count : Cond.code yX10_count cX10_count 2 (some .int) ∈ TB := List.mem_filter.mpr ⟨List.mem_of_getElem? (i := 1123) (by decide +kernel), by decide +kernel⟩
theorem im_X10_sheet : Cond.instanceMethod yX10_sheet ∈ TB := List.mem_filter.mpr ⟨List.mem_of_getElem? (i := 1125) (by decide +kernel), by decide +kernel⟩
theorem sel_X10_sheet : Cond.selects RX10 yX10_sheet yX10_sheet ∈ TB := List.mem_filter.mpr ⟨List.mem_of_getElem? (i := 1126) (by decide +kernel), by decide +kernel⟩
theorem cod_X10_sheet : Cond.code yX10_sheet cX10_sheet 5 (some .int) ∈ TB := List.mem_filter.mpr ⟨List.mem_of_getElem? (i := 1127) (by decide +kernel), by decide +kernel⟩
theorem sta_X10_isSheet : Cond.static yX10_isSheet ∈ TB := List.mem_filter.mpr ⟨List.mem_of_getElem? (i := 1129) (by decide +kernel), by decide +kernel⟩
theorem cod_X10_isSheet : Cond.code yX10_isSheet cX10_isSheet 2 (some .boolean) ∈ TB := List.mem_filter.mpr ⟨List.mem_of_getElem? (i := 1130) (by decide +kernel), by decide +kernel⟩
theorem im_X10_drop : Cond.instanceMethod yX10_drop ∈ TB := List.mem_filter.mpr ⟨List.mem_of_getElem? (i := 1132) (by decide +kernel), by decide +kernel⟩
theorem sel_X10_drop : Cond.selects RX10 yX10_drop yX10_drop ∈ TB := List.mem_filter.mpr ⟨List.mem_of_getElem? (i := 1133) (by decide +kernel), by decide +kernel⟩
theorem cod_X10_drop : Cond.code yX10_drop cX10_drop 2 (some .int) ∈ TB := List.mem_filter.mpr ⟨List.mem_of_getElem? (i := 1134) (by decide +kernel), by decide +kernel⟩
theorem im_X10_item : Cond.instanceMethod yX10_item ∈ TB := List.mem_filter.mpr ⟨List.mem_of_getElem? (i := 1136) (by decide +kernel), by decide +kernel⟩
theorem sel_X10_item : Cond.selects RX10 yX10_item yX10_item ∈ TB := List.mem_filter.mpr ⟨List.mem_of_getElem? (i := 1137) (by decide +kernel), by decide +kernel⟩
theorem cod_X10_item : Cond.code yX10_item cX10_item 5 (some .int) ∈ TB := List.mem_filter.mpr ⟨List.mem_of_getElem? (i := 1138) (by decide +kernel), by decide +kernel⟩
theorem im_X10_arcs : Cond.instanceMethod yX10_arcs ∈ TB := List.mem_filter.mpr ⟨List.mem_of_getElem? (i := 1140) (by decide +kernel), by decide +kernel⟩
theorem sel_X10_arcs : Cond.selects RX10 yX10_arcs yX10_arcs ∈ TB := List.mem_filter.mpr ⟨List.mem_of_getElem? (i := 1141) (by decide +kernel), by decide +kernel⟩
theorem cod_X10_arcs : Cond.code yX10_arcs cX10_arcs 8 (some .int) ∈ TB := List.mem_filter.mpr ⟨List.mem_of_getElem? (i := 1142) (by decide +kernel), by decide +kernel⟩
theorem cod_object : Cond.code objectInit ⟨#[0xb1]⟩ 1 none ∈ TB := List.mem_filter.mpr ⟨List.mem_of_getElem? (i := 64) (by decide +kernel), by decide +kernel⟩
end
section
/-! numbers: every int on the abstract stack is iI of a whole number, every long lI of one -/
def iI (z : Int) : Int32 := Int32.ofInt z
def lI (z : Int) : Int64 := Int64.ofInt z
abbrev vI (z : Int) : Value := .int (iI z)
abbrev vL (z : Int) : Value := .long (lI z)
abbrev InR (z : Int) : Prop := -2147483648 ≤ z ∧ z ≤ 2147483647
abbrev InL (z : Int) : Prop := -9223372036854775808 ≤ z ∧ z ≤ 9223372036854775807
theorem InR.l {z : Int} (h : InR z) : InL z := by unfold InR at h; unfold InL; omega
theorem iI_toInt {z : Int} (h : InR z) : (iI z).toInt = z := by
  unfold InR at h
  exact Int32.toInt_ofInt_of_le (by omega) (by omega)
theorem lI_toInt {z : Int} (h : InL z) : (lI z).toInt = z := by
  unfold InL at h
  exact Int64.toInt_ofInt_of_le (by omega) (by omega)
theorem iI_of (x : Int32) : iI x.toInt = x := Int32.ofInt_toInt x
theorem iI_in (x : Int32) : InR x.toInt := by
  have h1 := Int32.le_toInt x
  have h2 := Int32.toInt_lt x
  unfold InR
  omega
theorem iI_add (a b : Int) : iI a + iI b = iI (a + b) := (Int32.ofInt_add a b).symm
theorem iI_sub (a b : Int) : iI a - iI b = iI (a - b) := (Int32.ofInt_sub a b).symm
theorem iI_mul (a b : Int) : iI a * iI b = iI (a * b) := (Int32.ofInt_mul a b).symm
theorem iI_neg (a : Int) : - iI a = iI (-a) := (Int32.ofInt_neg a).symm
theorem lI_add (a b : Int) : lI a + lI b = lI (a + b) := (Int64.ofInt_add a b).symm
theorem lI_sub (a b : Int) : lI a - lI b = lI (a - b) := (Int64.ofInt_sub a b).symm
theorem lI_mul (a b : Int) : lI a * lI b = lI (a * b) := (Int64.ofInt_mul a b).symm
theorem iI_lt {a b : Int} (ha : InR a) (hb : InR b) : iI a < iI b ↔ a < b := by
  rw [Int32.lt_iff_toInt_lt, iI_toInt ha, iI_toInt hb]
theorem iI_le {a b : Int} (ha : InR a) (hb : InR b) : iI a ≤ iI b ↔ a ≤ b := by
  rw [Int32.le_iff_toInt_le, iI_toInt ha, iI_toInt hb]
theorem iI_eq {a b : Int} (ha : InR a) (hb : InR b) : iI a = iI b ↔ a = b := by
  rw [← Int32.toInt_inj, iI_toInt ha, iI_toInt hb]
theorem lI_lt {a b : Int} (ha : InL a) (hb : InL b) : lI a < lI b ↔ a < b := by
  rw [Int64.lt_iff_toInt_lt, lI_toInt ha, lI_toInt hb]
theorem lI_eq {a b : Int} (ha : InL a) (hb : InL b) : lI a = lI b ↔ a = b := by
  rw [← Int64.toInt_inj, lI_toInt ha, lI_toInt hb]
theorem iI_0 : iI 0 = 0 := rfl
theorem iI_l {a : Int} (ha : InR a) : (iI a).toInt64 = lI a := by
  rw [← Int64.toInt_inj, Int32.toInt_toInt64, iI_toInt ha, lI_toInt ha.l]
theorem lI_i (a : Int) : (lI a).toInt32 = iI a := Int64.toInt32_ofInt
theorem iI_div {a b : Int} (ha : InR a) (hb : InR b) (h : InR (a.tdiv b)) : iI a / iI b = iI (a.tdiv b) := by
  rw [← Int32.toInt_inj, Int32.toInt_div, iI_toInt ha, iI_toInt hb, iI_toInt h]
  unfold InR at h
  exact Int.bmod_eq_of_le (by omega) (by omega)
theorem lI_div {a b : Int} (ha : InL a) (hb : InL b) (h : InL (a.tdiv b)) : lI a / lI b = lI (a.tdiv b) := by
  rw [← Int64.toInt_inj, Int64.toInt_div, lI_toInt ha, lI_toInt hb, lI_toInt h]
  unfold InL at h
  exact Int.bmod_eq_of_le (by omega) (by omega)
theorem vp_in_iI {z : Int} {n : Nat} (h0 : 0 ≤ z) (h1 : z < n) (hn : n < 2 ^ 31) : vp_in (iI z) n := by
  rw [vp_in_iff, iI_toInt (by unfold InR; omega)]
  exact ⟨h0, h1⟩
theorem iI_nat {z : Int} (h0 : 0 ≤ z) (h : InR z) : (iI z).toNatClampNeg = z.toNat := by
  have h2 : (iI z).toNatClampNeg = (iI z).toInt.toNat := rfl
  rw [h2, iI_toInt h]

/-! the abstract heap: what is at an address -/
abbrev AH : Type := Nat → Option va_E
def ah_up (h : AH) (q : Nat) (e : va_E) : AH := fun x => if x = q then some e else h x
def Hold (D : va_G) (A : Nat → Prop) (h : AH) (H : Heap) : Prop := ∃ ws : va_W, va_P D vwCl ws H ∧ va_D A ws ∧ ∀ (q : Nat) (e : va_E), h q = some e ↔ ∃ k : Nat, ws[k]? = some (q, e)
theorem Hold.set {D : va_G} {A : Nat → Prop} {h : AH} {ws : va_W} (hD : va_D A ws) (hh : ∀ (q : Nat) (e : va_E), h q = some e ↔ ∃ k : Nat, ws[k]? = some (q, e)) {k a : Nat} {e0 e1 : va_E} (hk : ws[k]? = some (a, e0)) : ∀ (q : Nat) (e : va_E), ah_up h a e1 q = some e ↔ ∃ j : Nat, (ws.set k (a, e1))[j]? = some (q, e) := by
  have hlt : k < ws.length := (List.getElem?_eq_some_iff.mp hk).1
  intro q e
  unfold ah_up
  constructor
  · intro hq
    split at hq
    · next h1 =>
      subst h1
      cases hq
      exact ⟨k, by simp [List.getElem?_set, hlt]⟩
    · next h1 =>
      obtain ⟨j, hj⟩ := (hh q e).mp hq
      refine ⟨j, ?_⟩
      have hne : ¬ k = j := fun e2 => by
        subst e2
        rw [hk] at hj
        cases hj
        exact h1 rfl
      simp [List.getElem?_set, hne, hj]
  · intro ⟨j, hj⟩
    by_cases hjk : k = j
    · subst hjk
      simp [List.getElem?_set, hlt] at hj
      simp [hj.1.symm, hj.2]
    · have hj2 : ws[j]? = some (q, e) := by simpa [List.getElem?_set, hjk] using hj
      have hne : ¬ q = a := fun e2 => hjk (hD.1 k j _ _ hk hj2 e2.symm)
      rw [if_neg hne]
      exact (hh q e).mpr ⟨j, hj2⟩
theorem Hold.push {D : va_G} {A : Nat → Prop} {h : AH} {ws : va_W} {a : Nat} {e1 : va_E} (hD : va_D A (ws ++ [(a, e1)])) (hh : ∀ (q : Nat) (e : va_E), h q = some e ↔ ∃ k : Nat, ws[k]? = some (q, e)) : h a = none ∧ ∀ (q : Nat) (e : va_E), ah_up h a e1 q = some e ↔ ∃ j : Nat, (ws ++ [(a, e1)])[j]? = some (q, e) := by
  have hlast : (ws ++ [(a, e1)])[ws.length]? = some (a, e1) := by simp
  have key : ∀ (e : va_E) (k : Nat), ¬ ws[k]? = some (a, e) := fun e k hk => by
    have hlt : k < ws.length := (List.getElem?_eq_some_iff.mp hk).1
    have h2 : (ws ++ [(a, e1)])[k]? = some (a, e) := by rw [List.getElem?_append_left hlt]; exact hk
    have := hD.1 k ws.length _ _ h2 hlast rfl
    omega
  refine ⟨?_, fun q e => ?_⟩
  · cases hq : h a with
    | none => rfl
    | some e =>
      obtain ⟨k, hk⟩ := (hh a e).mp hq
      exact absurd hk (key e k)
  · unfold ah_up
    constructor
    · intro hq
      split at hq
      · next h1 =>
        subst h1
        cases hq
        exact ⟨ws.length, hlast⟩
      · obtain ⟨j, hj⟩ := (hh q e).mp hq
        exact ⟨j, by rw [List.getElem?_append_left (List.getElem?_eq_some_iff.mp hj).1]; exact hj⟩
    · intro ⟨j, hj⟩
      by_cases hl : j < ws.length
      · rw [List.getElem?_append_left hl] at hj
        have hne : ¬ q = a := fun e2 => key e j (e2 ▸ hj)
        rw [if_neg hne]
        exact (hh q e).mpr ⟨j, hj⟩
      · rw [List.getElem?_append_right (by omega)] at hj
        have hz : j - ws.length < 1 := (List.getElem?_eq_some_iff.mp hj).1
        rw [show j - ws.length = 0 by omega] at hj
        cases hj
        rw [if_pos rfl]
theorem Hold.weaken {D : va_G} {A B : Nat → Prop} {h : AH} {H : Heap} (x : Hold D A h H) (hAB : ∀ q, h q ≠ none → A q → B q) : Hold D B h H := by
  obtain ⟨ws, hP, hD, hh⟩ := x
  exact ⟨ws, hP, hD.weaken (fun k q hk ha => hAB q.1 (by rw [(hh q.1 q.2).mpr ⟨k, hk⟩]; exact fun z => by cases z) ha), hh⟩
theorem Hold.dom {D : va_G} {A : Nat → Prop} {h : AH} {H : Heap} (x : Hold D A h H) {q : Nat} (hq : h q ≠ none) : A q ∧ q < H.size := by
  obtain ⟨ws, hP, hD, hh⟩ := x
  cases he : h q with
  | none => exact absurd he hq
  | some e =>
    obtain ⟨k, hk⟩ := (hh q e).mp he
    exact ⟨hD.2 k _ hk, (hP k _ hk).lt⟩
/-- which cells a method that owns h may change -/
def Fr (h : AH) (sz : Nat) : Nat → Prop := fun q => h q ≠ none ∨ sz ≤ q
/-! what stands in every state: nest mates' links, castable pairs, arrays' classes, the two static rows -/
def tysA (G : Nat → ClassId) : List (ClassId × FieldType) := [(G 0, .int), (G 1, .object RX7), (G 2, .object RX3), (G 3, .object RX8), (G 4, .object RX5), (G 5, .object RX2), (G 6, .object RX0)]
def glO : List String := [RX7, RX3, RX8, RX5, RX2, RX0]
def glM : List (String × Nat × MethodName) := [(RX9, 48, yX1_init), (RX6, 39, yX2_init), (RX1, 28, yX9_sine), (RX1, 34, yX9_cosine), (RX1, 74, yX9_tangent)]
def glC : List (String × String) := [(RX0, RX3), (RX4, RX3), (RX4, RX0)]
def glN : List (String × String) := [(RX3, RX0), (RX3, RX4), (RX0, RX4)]
def tabS (z : Int) : Int := ([0, 17, 35, 52, 70, 87, 105, 122, 139, 156, 174, 191, 208, 225, 242, 259, 276, 292, 309, 326, 342, 358, 375, 391, 407, 423, 438, 454, 469, 485, 500, 515, 530, 545, 559, 574, 588, 602, 616, 629, 643, 656, 669, 682, 695, 707, 719, 731, 743, 755, 766, 777, 788, 799, 809, 819, 829, 839, 848, 857, 866, 875, 883, 891, 899, 906, 914, 921, 927, 934, 940, 946, 951, 956, 961, 966, 970, 974, 978, 982, 985, 988, 990, 993, 995, 996, 998, 999, 999, 1000, 1000] : List Int).getD z.toNat 0
def tabT (z : Int) : Int := ([0, 17, 35, 52, 70, 87, 105, 123, 141, 158, 176, 194, 213, 231, 249, 268, 287, 306, 325, 344, 364, 384, 404, 424, 445, 466, 488, 510, 532, 554, 577, 601, 625, 649, 675, 700, 727, 754, 781, 810, 839, 869, 900, 933, 966, 1000, 1036, 1072, 1111, 1150, 1192, 1235, 1280, 1327, 1376, 1428, 1483, 1540, 1600, 1664, 1732, 1804, 1881, 1963, 2050, 2145, 2246, 2356, 2475, 2605, 2747, 2904, 3078, 3271, 3487, 3732, 4011, 4331, 4705, 5145, 5671, 6314, 7115, 8144, 9514, 11430, 14301, 19081, 28636, 57290] : List Int).getD z.toNat 0
abbrev EV : Type := va_G × (Nat → ClassId) × Nat × Nat
def Gl (E : EV) (A : Nat → Prop) (U : State) (H : Heap) : Prop :=
  (∀ w ∈ glM, va_Nw (.methodLinkNest w.1 w.2.1 w.2.2 RX9) U) ∧ (∀ w ∈ glC, va_Nw (.castable w.1 w.2) U) ∧ (∀ w ∈ glN, va_Nc w.1 w.2 U) ∧ (∀ w ∈ glO, va_AO w U) ∧
  va_Z RX9 "SINES" "[I" (.ref E.2.2.1) A U H ∧ va_T .int E.2.2.1 91 (fun j => vI (tabS (j : Int))) A U H ∧ va_Z RX9 "TANGENTS" "[I" (.ref E.2.2.2) A U H ∧ va_T .int E.2.2.2 90 (fun j => vI (tabT (j : Int))) A U H
theorem Gl.warm {E : EV} {A : Nat → Prop} {s U : State} {H : Heap} (hW : s.WarmedH U.vm) (h : Gl E A s H) : Gl E A U H := by
  obtain ⟨h1, h2, h3, h4, h5, h6, h7, h8⟩ := h
  exact ⟨fun w hw => va_Nw.warmM hW (h1 w hw), fun w hw => va_Nw.warmC hW (h2 w hw), fun w hw => (h3 w hw).moved hW.alike, fun w hw => va_AO.moved hW.alike (h4 w hw), h5.moved hW.alike, h6.moved hW.alike, h7.moved hW.alike, h8.moved hW.alike⟩
theorem Gl.same {E : EV} {A : Nat → Prop} {s U : State} {H : Heap} (hv : s.vm = U.vm) (h : Gl E A s H) : Gl E A U H := by
  obtain ⟨h1, h2, h3, h4, h5, h6, h7, h8⟩ := h
  have ha : s.vm.Alike U.vm := hv ▸ Vm.Alike.refl s.vm
  exact ⟨fun w hw => va_Nw.same rfl hv (h1 w hw), fun w hw => va_Nw.same rfl hv (h2 w hw), fun w hw => (h3 w hw).moved ha, fun w hw => va_AO.moved ha (h4 w hw), h5.moved ha, h6.moved ha, h7.moved ha, h8.moved ha⟩
theorem Gl.kept {E : EV} {A B : Nat → Prop} {U : State} {H H1 : Heap} (hq : ∀ a : Nat, a < H.size → ¬ A a → H1[a]? = H[a]?) (hAB : ∀ q, B q → A q) (h : Gl E A U H) : Gl E B U H1 := by
  obtain ⟨h1, h2, h3, h4, h5, h6, h7, h8⟩ := h
  exact ⟨h1, h2, h3, h4, (h5.kept hq).narrow hAB, (h6.kept hq).narrow hAB, (h7.kept hq).narrow hAB, (h8.kept hq).narrow hAB⟩
/-! a method's end: the answer r, the heap h' -/
def QC (E : EV) (A : Nat → Prop) (Q : Option Value → AH → Prop) : Array Value → State → Outcome → State → Prop := fun _ st o t =>
  (∃ (r : Option Value) (h' : AH), o = .returned r ∧ Q r h' ∧ Hold E.1 A h' t.heap ∧ va_K E.1 vwCl (tysA E.2.1) t) ∧ va_F A st t
def rmD (d mc ms : Nat) : Room := { frames := d, cells := mc, slots := ms, locals := 64 * d }
/-- what is known within a method of class own, code cc, at the heap h -/
def Cx (E : EV) (own : String) (cc : ByteArray) (nL : Nat) (ret : Option FieldType) (mn : String) (kc ks : Nat) (L : List (Nat × Value)) (h : AH) (p : Program) (s : State) (m : MethodId) (args : Array Value) (meth : Method) (c : Code) (H : Heap) (locs : List Loc) (cells slots mc ms : Nat) (A : Nat → Prop) (ls : Array Slot) : Prop :=
  p.tables.exec = Jvm.exec ∧ c.code = cc ∧ meth.sig.returnType = ret ∧ c.maxLocals = nL ∧ s.vm.findClass own = some m.cls ∧ meth.name = mn ∧ meth.locks = false ∧ (∀ w ∈ TB, w.before args s = true) ∧ va_K E.1 vwCl (tysA E.2.1) s ∧ Gl E A s s.heap ∧ (∀ q : Nat, s.heap.size ≤ q → A q) ∧ Hold E.1 A h H ∧ va_S A s.heap H locs ∧ lv_has ls nL L ∧ cells + kc ≤ mc ∧ slots + ks ≤ ms
/-- from pc with locals L, stack st, heap h the method comes to its end with Q; kc cells and ks slots may yet be made, d frames opened -/
def Ev (E : EV) (own : String) (cc : ByteArray) (nL : Nat) (ret : Option FieldType) (mn : String) (Q : Option Value → AH → Prop) (d kc ks : Nat) (pc : Nat) (L : List (Nat × Value)) (st : List Value) (h : AH) : Prop :=
  ∀ (p : Program) (l : Launch) (e : Env) (s : State) (m : MethodId) (args : Array Value) (below : List Frame) (meth : Method) (c : Code) (H : Heap) (locs : List Loc) (cells slots mc ms : Nat) (A : Nat → Prop) (ls : Array Slot),
    Cx E own cc nL ret mn kc ks L h p s m args meth c H locs cells slots mc ms A ls → W p l e (rmD d mc ms) s m args below meth c H locs cells slots (MQ below (QC E A Q) args s mc ms A) (F0 m pc ls st)
/-- a method's contract -/
def CM (E : EV) (y : MethodName) (cc : ByteArray) (nL : Nat) (ret : Option FieldType) (d kc ks : Nat) (av : List Value) (h : AH) (Q : Option Value → AH → Prop) : Prop :=
  ∀ (l : Launch) (sz : Nat), Met l y (Cond.code y cc nL ret :: TB) (rmD d kc ks) (va_Pc av (fun U => U.heap.size = sz ∧ va_K E.1 vwCl (tysA E.2.1) U ∧ Gl E (Fr h sz) U U.heap ∧ Hold E.1 (Fr h sz) h U.heap)) (QC E (Fr h sz) Q) kc ks (Fr h sz)
theorem CM.of {E : EV} {y : MethodName} {cc : ByteArray} {nL : Nat} {ret : Option FieldType} {d kc ks : Nat} {av : List Value} {h : AH} {Q : Option Value → AH → Prop} (hy : plainName y.cls = true) (hn : (lg_sl av).length ≤ nL) {L : List (Nat × Value)} (hL : lv_args 0 av = L)
    (k : Ev E y.cls cc nL ret y.name Q d kc ks 0 L [] h) : CM E y cc nL ret d kc ks av h Q := by
  intro l sz
  refine Met.ofW (cc := cc) (maxL := nL) (ret := ret) hy rfl ?_
  intro p e s m args below meth c s₁ B hml hv
  obtain ⟨rfl, hsz, hK, hG, hH⟩ := hv
  subst hsz
  subst hL
  have hl := lv_entry av (n := nL) hn
  rw [lg_entry_eq]
  generalize (lg_sl av ++ List.replicate (nL - (lg_sl av).length) Slot.unset).toArray = ls at hl ⊢
  exact k p l e s m _ below meth c s.heap [] 0 0 kc ks (Fr h s.heap.size) ls ⟨B.exec, B.bytes, B.returns, hml, findClass_of_methodNamed B.named, (name_of_methodNamed B.named B.method).1, B.notSynchronized, fun w hw => atoms_spec (ws := Cond.code y cc nL ret :: TB) B.pre w (List.mem_cons_of_mem _ hw), hK, hG, fun q hq => Or.inr hq, hH, va_S.rf, hl, by omega, by omega⟩
end
section
section RULES
variable {E : EV} {own : String} {cc : ByteArray} {nL : Nat} {ret : Option FieldType} {mn : String} {Q : Option Value → AH → Prop} {d kc ks pc : Nat} {L : List (Nat × Value)} {st : List Value} {h : AH}

theorem ev_iconst {n : Int} (hd : decode cc pc = .ok (.iconst n, 1)) (k : Ev E own cc nL ret mn Q d kc ks (pc + 1) L (vI n :: st) h) : Ev E own cc nL ret mn Q d kc ks pc L (st) h := by
  intro p l e s m args below meth c H locs cells slots mc ms A ls hC
  refine lv_iconst hC.1 hC.2.1 hd rfl ?_
  exact k p l e s m args below meth c H locs cells slots mc ms A ls hC

theorem ev_bipush {n : Int} (hd : decode cc pc = .ok (.bipush n, 2)) (hn : (Int8.ofInt n).toInt32 = iI n) (k : Ev E own cc nL ret mn Q d kc ks (pc + 2) L (vI n :: st) h) : Ev E own cc nL ret mn Q d kc ks pc L (st) h := by
  intro p l e s m args below meth c H locs cells slots mc ms A ls hC
  refine lv_bipush hC.1 hC.2.1 hd hn ?_
  exact k p l e s m args below meth c H locs cells slots mc ms A ls hC

theorem ev_sipush {n : Int} (hd : decode cc pc = .ok (.sipush n, 3)) (hn : (Int16.ofInt n).toInt32 = iI n) (k : Ev E own cc nL ret mn Q d kc ks (pc + 3) L (vI n :: st) h) : Ev E own cc nL ret mn Q d kc ks pc L (st) h := by
  intro p l e s m args below meth c H locs cells slots mc ms A ls hC
  refine lv_sipush hC.1 hC.2.1 hd hn ?_
  exact k p l e s m args below meth c H locs cells slots mc ms A ls hC

theorem ev_lconst {n : Fin 2} {z : Int} (hd : decode cc pc = .ok (.lconst n, 1)) (hn : Int64.ofNat (n : Nat) = lI z) (k : Ev E own cc nL ret mn Q d kc ks (pc + 1) L (vL z :: st) h) : Ev E own cc nL ret mn Q d kc ks pc L (st) h := by
  intro p l e s m args below meth c H locs cells slots mc ms A ls hC
  refine lv_lconst hC.1 hC.2.1 hd hn ?_
  exact k p l e s m args below meth c H locs cells slots mc ms A ls hC

theorem ev_dconst1  (hd : decode cc pc = .ok (.dconst 1, 1)) (k : Ev E own cc nL ret mn Q d kc ks (pc + 1) L (.double 0x3ff0000000000000 :: st) h) : Ev E own cc nL ret mn Q d kc ks pc L (st) h := by
  intro p l e s m args below meth c H locs cells slots mc ms A ls hC
  refine lv_dconst1 hC.1 hC.2.1 hd  ?_
  exact k p l e s m args below meth c H locs cells slots mc ms A ls hC

theorem ev_null  (hd : decode cc pc = .ok (.aconst_null, 1)) (k : Ev E own cc nL ret mn Q d kc ks (pc + 1) L (.null :: st) h) : Ev E own cc nL ret mn Q d kc ks pc L (st) h := by
  intro p l e s m args below meth c H locs cells slots mc ms A ls hC
  refine lv_null hC.1 hC.2.1 hd  ?_
  exact k p l e s m args below meth c H locs cells slots mc ms A ls hC

theorem ev_ldc {i : Nat} {v : Int32} {z : Int} (hd : decode cc pc = .ok (.ldc i, 2)) (hw : Cond.constant own i v ∈ TB) (hz : v = iI z) (k : Ev E own cc nL ret mn Q d kc ks (pc + 2) L (vI z :: st) h) : Ev E own cc nL ret mn Q d kc ks pc L (st) h := by
  intro p l e s m args below meth c H locs cells slots mc ms A ls hC
  refine lv_ldc hC.1 hC.2.1 hC.2.2.2.2.1 (hC.2.2.2.2.2.2.2.1 _ hw) hd ?_
  subst hz
  exact k p l e s m args below meth c H locs cells slots mc ms A ls hC

theorem ev_ldcw {i : Nat} {v : Int32} {z : Int} (hd : decode cc pc = .ok (.ldc_w i, 3)) (hw : Cond.constant own i v ∈ TB) (hz : v = iI z) (k : Ev E own cc nL ret mn Q d kc ks (pc + 3) L (vI z :: st) h) : Ev E own cc nL ret mn Q d kc ks pc L (st) h := by
  intro p l e s m args below meth c H locs cells slots mc ms A ls hC
  refine lv_ldcw hC.1 hC.2.1 hC.2.2.2.2.1 (hC.2.2.2.2.2.2.2.1 _ hw) hd ?_
  subst hz
  exact k p l e s m args below meth c H locs cells slots mc ms A ls hC

theorem ev_ldc2 {i : Nat} {v : Int64} {z : Int} (hd : decode cc pc = .ok (.ldc2_w i, 3)) (hw : Cond.constantLong own i v ∈ TB) (hz : v = lI z) (k : Ev E own cc nL ret mn Q d kc ks (pc + 3) L (vL z :: st) h) : Ev E own cc nL ret mn Q d kc ks pc L (st) h := by
  intro p l e s m args below meth c H locs cells slots mc ms A ls hC
  refine lv_ldc2 hC.1 hC.2.1 hC.2.2.2.2.1 (hC.2.2.2.2.2.2.2.1 _ hw) hd ?_
  subst hz
  exact k p l e s m args below meth c H locs cells slots mc ms A ls hC

theorem ev_ldc2d {i : Nat} {v : UInt64} (hd : decode cc pc = .ok (.ldc2_w i, 3)) (hw : Cond.constantDouble own i v ∈ TB) (k : Ev E own cc nL ret mn Q d kc ks (pc + 3) L (.double v :: st) h) : Ev E own cc nL ret mn Q d kc ks pc L (st) h := by
  intro p l e s m args below meth c H locs cells slots mc ms A ls hC
  refine lv_ldc2d hC.1 hC.2.1 hC.2.2.2.2.1 (hC.2.2.2.2.2.2.2.1 _ hw) hd ?_
  exact k p l e s m args below meth c H locs cells slots mc ms A ls hC

theorem ev_iload_n {f : Fin 4} {x : Int32} (j : Nat) (hj : L[j]? = some ((f : Nat), .int x)) (hd : decode cc pc = .ok (.iload_n f, 1)) (k : Ev E own cc nL ret mn Q d kc ks (pc + 1) L (.int x :: st) h) : Ev E own cc nL ret mn Q d kc ks pc L (st) h := by
  intro p l e s m args below meth c H locs cells slots mc ms A ls hC
  refine lv_iload_n hC.1 hC.2.1 hd rfl (lv_at hC.2.2.2.2.2.2.2.2.2.2.2.2.2.1 j hj) ?_
  exact k p l e s m args below meth c H locs cells slots mc ms A ls hC

theorem ev_iload {i : Nat} {x : Int32} (j : Nat) (hj : L[j]? = some (i, .int x)) (hd : decode cc pc = .ok (.iload i, 2)) (k : Ev E own cc nL ret mn Q d kc ks (pc + 2) L (.int x :: st) h) : Ev E own cc nL ret mn Q d kc ks pc L (st) h := by
  intro p l e s m args below meth c H locs cells slots mc ms A ls hC
  refine lv_iload hC.1 hC.2.1 hd (lv_at hC.2.2.2.2.2.2.2.2.2.2.2.2.2.1 j hj) ?_
  exact k p l e s m args below meth c H locs cells slots mc ms A ls hC

theorem ev_lload_n {f : Fin 4} {x : Int64} (j : Nat) (hj : L[j]? = some ((f : Nat), .long x)) (hd : decode cc pc = .ok (.lload_n f, 1)) (k : Ev E own cc nL ret mn Q d kc ks (pc + 1) L (.long x :: st) h) : Ev E own cc nL ret mn Q d kc ks pc L (st) h := by
  intro p l e s m args below meth c H locs cells slots mc ms A ls hC
  refine lv_lload_n hC.1 hC.2.1 hd rfl (lv_at hC.2.2.2.2.2.2.2.2.2.2.2.2.2.1 j hj) ?_
  exact k p l e s m args below meth c H locs cells slots mc ms A ls hC

theorem ev_lload {i : Nat} {x : Int64} (j : Nat) (hj : L[j]? = some (i, .long x)) (hd : decode cc pc = .ok (.lload i, 2)) (k : Ev E own cc nL ret mn Q d kc ks (pc + 2) L (.long x :: st) h) : Ev E own cc nL ret mn Q d kc ks pc L (st) h := by
  intro p l e s m args below meth c H locs cells slots mc ms A ls hC
  refine lv_lload hC.1 hC.2.1 hd (lv_at hC.2.2.2.2.2.2.2.2.2.2.2.2.2.1 j hj) ?_
  exact k p l e s m args below meth c H locs cells slots mc ms A ls hC

theorem ev_dload_n {f : Fin 4} {x : UInt64} (j : Nat) (hj : L[j]? = some ((f : Nat), .double x)) (hd : decode cc pc = .ok (.dload_n f, 1)) (k : Ev E own cc nL ret mn Q d kc ks (pc + 1) L (.double x :: st) h) : Ev E own cc nL ret mn Q d kc ks pc L (st) h := by
  intro p l e s m args below meth c H locs cells slots mc ms A ls hC
  refine lv_dload_n hC.1 hC.2.1 hd rfl (lv_at hC.2.2.2.2.2.2.2.2.2.2.2.2.2.1 j hj) ?_
  exact k p l e s m args below meth c H locs cells slots mc ms A ls hC

theorem ev_dload {i : Nat} {x : UInt64} (j : Nat) (hj : L[j]? = some (i, .double x)) (hd : decode cc pc = .ok (.dload i, 2)) (k : Ev E own cc nL ret mn Q d kc ks (pc + 2) L (.double x :: st) h) : Ev E own cc nL ret mn Q d kc ks pc L (st) h := by
  intro p l e s m args below meth c H locs cells slots mc ms A ls hC
  refine lv_dload hC.1 hC.2.1 hd (lv_at hC.2.2.2.2.2.2.2.2.2.2.2.2.2.1 j hj) ?_
  exact k p l e s m args below meth c H locs cells slots mc ms A ls hC

theorem ev_aload_n {f : Fin 4} {x : Nat} (j : Nat) (hj : L[j]? = some ((f : Nat), .ref x)) (hd : decode cc pc = .ok (.aload_n f, 1)) (k : Ev E own cc nL ret mn Q d kc ks (pc + 1) L (.ref x :: st) h) : Ev E own cc nL ret mn Q d kc ks pc L (st) h := by
  intro p l e s m args below meth c H locs cells slots mc ms A ls hC
  refine lv_aload_n hC.1 hC.2.1 hd rfl (lv_at hC.2.2.2.2.2.2.2.2.2.2.2.2.2.1 j hj) ?_
  exact k p l e s m args below meth c H locs cells slots mc ms A ls hC

theorem ev_aload {i : Nat} {x : Nat} (j : Nat) (hj : L[j]? = some (i, .ref x)) (hd : decode cc pc = .ok (.aload i, 2)) (k : Ev E own cc nL ret mn Q d kc ks (pc + 2) L (.ref x :: st) h) : Ev E own cc nL ret mn Q d kc ks pc L (st) h := by
  intro p l e s m args below meth c H locs cells slots mc ms A ls hC
  refine lv_aload hC.1 hC.2.1 hd (lv_at hC.2.2.2.2.2.2.2.2.2.2.2.2.2.1 j hj) ?_
  exact k p l e s m args below meth c H locs cells slots mc ms A ls hC

theorem ev_aload_nN {f : Fin 4} (j : Nat) (hj : L[j]? = some ((f : Nat), .null)) (hd : decode cc pc = .ok (.aload_n f, 1)) (k : Ev E own cc nL ret mn Q d kc ks (pc + 1) L (.null :: st) h) : Ev E own cc nL ret mn Q d kc ks pc L (st) h := by
  intro p l e s m args below meth c H locs cells slots mc ms A ls hC
  refine lv_aload_nN hC.1 hC.2.1 hd rfl (lv_at hC.2.2.2.2.2.2.2.2.2.2.2.2.2.1 j hj) ?_
  exact k p l e s m args below meth c H locs cells slots mc ms A ls hC

theorem ev_aloadN {i : Nat} (j : Nat) (hj : L[j]? = some (i, .null)) (hd : decode cc pc = .ok (.aload i, 2)) (k : Ev E own cc nL ret mn Q d kc ks (pc + 2) L (.null :: st) h) : Ev E own cc nL ret mn Q d kc ks pc L (st) h := by
  intro p l e s m args below meth c H locs cells slots mc ms A ls hC
  refine lv_aloadN hC.1 hC.2.1 hd (lv_at hC.2.2.2.2.2.2.2.2.2.2.2.2.2.1 j hj) ?_
  exact k p l e s m args below meth c H locs cells slots mc ms A ls hC

theorem Cx.locs' {L' : List (Nat × Value)} {p : Program} {s : State} {m : MethodId} {args : Array Value} {meth : Method} {c : Code} {H : Heap} {locs : List Loc} {cells slots mc ms : Nat} {A : Nat → Prop} {ls ls' : Array Slot} (hC : Cx E own cc nL ret mn kc ks L h p s m args meth c H locs cells slots mc ms A ls) (hl : lv_has ls' nL L') : Cx E own cc nL ret mn kc ks L' h p s m args meth c H locs cells slots mc ms A ls' := by
  obtain ⟨a1, a2, a3, a4, a5, a6, a7, a8, a9, a10, a11, a12, a13, a14, a15, a16⟩ := hC
  exact ⟨a1, a2, a3, a4, a5, a6, a7, a8, a9, a10, a11, a12, a13, hl, a15, a16⟩
theorem Cx.heap' {h' : AH} {p : Program} {s : State} {m : MethodId} {args : Array Value} {meth : Method} {c : Code} {H H' : Heap} {locs locs' : List Loc} {cells slots mc ms : Nat} {A : Nat → Prop} {ls : Array Slot} (hC : Cx E own cc nL ret mn kc ks L h p s m args meth c H locs cells slots mc ms A ls) (hH : Hold E.1 A h' H') (hS : va_S A s.heap H' locs') : Cx E own cc nL ret mn kc ks L h' p s m args meth c H' locs' cells slots mc ms A ls := by
  obtain ⟨a1, a2, a3, a4, a5, a6, a7, a8, a9, a10, a11, a12, a13, a14, a15, a16⟩ := hC
  exact ⟨a1, a2, a3, a4, a5, a6, a7, a8, a9, a10, a11, hH, hS, a14, a15, a16⟩
theorem Cx.grow' {kc' ks' kc0 ks0 : Nat} {h' : AH} {p : Program} {s : State} {m : MethodId} {args : Array Value} {meth : Method} {c : Code} {H H' : Heap} {locs locs' : List Loc} {cells slots mc ms : Nat} {A : Nat → Prop} {ls : Array Slot} (hC : Cx E own cc nL ret mn kc0 ks0 L h p s m args meth c H locs cells slots mc ms A ls) (h1 : kc + kc' = kc0) (h2 : ks + ks' = ks0) (hH : Hold E.1 A h' H') (hS : va_S A s.heap H' locs') : Cx E own cc nL ret mn kc ks L h' p s m args meth c H' locs' (cells + kc') (slots + ks') mc ms A ls := by
  obtain ⟨a1, a2, a3, a4, a5, a6, a7, a8, a9, a10, a11, a12, a13, a14, a15, a16⟩ := hC
  exact ⟨a1, a2, a3, a4, a5, a6, a7, a8, a9, a10, a11, hH, hS, a14, by omega, by omega⟩

theorem ev_istore_n {f : Fin 4} {x : Int32} {L' : List (Nat × Value)} (hd : decode cc pc = .ok (.istore_n f, 1)) (hn : (f : Nat) < nL) (hl : ((f : Nat), (.int x : Value)) :: L.filter (fun q => !(q.1 == (f : Nat)) && !(q.1 + 1 == (f : Nat) && q.2.category == 2)) = L') (k : Ev E own cc nL ret mn Q d kc ks (pc + 1) L' (st) h) : Ev E own cc nL ret mn Q d kc ks pc L (.int x :: st) h := by
  intro p l e s m args below meth c H locs cells slots mc ms A ls hC
  refine lv_istore_n hC.1 hC.2.1 hd rfl hC.2.2.2.2.2.2.2.2.2.2.2.2.2.1 hn hl (fun ls' hl' => ?_)
  exact k p l e s m args below meth c H locs cells slots mc ms A ls' (hC.locs' hl')

theorem ev_istore {i : Nat} {x : Int32} {L' : List (Nat × Value)} (hd : decode cc pc = .ok (.istore i, 2)) (hn : i < nL) (hl : (i, (.int x : Value)) :: L.filter (fun q => !(q.1 == i) && !(q.1 + 1 == i && q.2.category == 2)) = L') (k : Ev E own cc nL ret mn Q d kc ks (pc + 2) L' (st) h) : Ev E own cc nL ret mn Q d kc ks pc L (.int x :: st) h := by
  intro p l e s m args below meth c H locs cells slots mc ms A ls hC
  refine lv_istore hC.1 hC.2.1 hd hC.2.2.2.2.2.2.2.2.2.2.2.2.2.1 hn hl (fun ls' hl' => ?_)
  exact k p l e s m args below meth c H locs cells slots mc ms A ls' (hC.locs' hl')

theorem ev_lstore_n {f : Fin 4} {x : Int64} {L' : List (Nat × Value)} (hd : decode cc pc = .ok (.lstore_n f, 1)) (hn : (f : Nat) + 1 < nL) (hl : ((f : Nat), (.long x : Value)) :: L.filter (fun q => !(q.1 == (f : Nat)) && (!(q.1 == (f : Nat) + 1) && !(q.1 + 1 == (f : Nat) && q.2.category == 2))) = L') (k : Ev E own cc nL ret mn Q d kc ks (pc + 1) L' (st) h) : Ev E own cc nL ret mn Q d kc ks pc L (.long x :: st) h := by
  intro p l e s m args below meth c H locs cells slots mc ms A ls hC
  refine lv_lstore_n hC.1 hC.2.1 hd rfl hC.2.2.2.2.2.2.2.2.2.2.2.2.2.1 hn hl (fun ls' hl' => ?_)
  exact k p l e s m args below meth c H locs cells slots mc ms A ls' (hC.locs' hl')

theorem ev_lstore {i : Nat} {x : Int64} {L' : List (Nat × Value)} (hd : decode cc pc = .ok (.lstore i, 2)) (hn : i + 1 < nL) (hl : (i, (.long x : Value)) :: L.filter (fun q => !(q.1 == i) && (!(q.1 == i + 1) && !(q.1 + 1 == i && q.2.category == 2))) = L') (k : Ev E own cc nL ret mn Q d kc ks (pc + 2) L' (st) h) : Ev E own cc nL ret mn Q d kc ks pc L (.long x :: st) h := by
  intro p l e s m args below meth c H locs cells slots mc ms A ls hC
  refine lv_lstore hC.1 hC.2.1 hd hC.2.2.2.2.2.2.2.2.2.2.2.2.2.1 hn hl (fun ls' hl' => ?_)
  exact k p l e s m args below meth c H locs cells slots mc ms A ls' (hC.locs' hl')

theorem ev_dstore_n {f : Fin 4} {x : UInt64} {L' : List (Nat × Value)} (hd : decode cc pc = .ok (.dstore_n f, 1)) (hn : (f : Nat) + 1 < nL) (hl : ((f : Nat), (.double x : Value)) :: L.filter (fun q => !(q.1 == (f : Nat)) && (!(q.1 == (f : Nat) + 1) && !(q.1 + 1 == (f : Nat) && q.2.category == 2))) = L') (k : Ev E own cc nL ret mn Q d kc ks (pc + 1) L' (st) h) : Ev E own cc nL ret mn Q d kc ks pc L (.double x :: st) h := by
  intro p l e s m args below meth c H locs cells slots mc ms A ls hC
  refine lv_dstore_n hC.1 hC.2.1 hd rfl hC.2.2.2.2.2.2.2.2.2.2.2.2.2.1 hn hl (fun ls' hl' => ?_)
  exact k p l e s m args below meth c H locs cells slots mc ms A ls' (hC.locs' hl')

theorem ev_dstore {i : Nat} {x : UInt64} {L' : List (Nat × Value)} (hd : decode cc pc = .ok (.dstore i, 2)) (hn : i + 1 < nL) (hl : (i, (.double x : Value)) :: L.filter (fun q => !(q.1 == i) && (!(q.1 == i + 1) && !(q.1 + 1 == i && q.2.category == 2))) = L') (k : Ev E own cc nL ret mn Q d kc ks (pc + 2) L' (st) h) : Ev E own cc nL ret mn Q d kc ks pc L (.double x :: st) h := by
  intro p l e s m args below meth c H locs cells slots mc ms A ls hC
  refine lv_dstore hC.1 hC.2.1 hd hC.2.2.2.2.2.2.2.2.2.2.2.2.2.1 hn hl (fun ls' hl' => ?_)
  exact k p l e s m args below meth c H locs cells slots mc ms A ls' (hC.locs' hl')

theorem ev_astore_n {f : Fin 4} {x : Nat} {L' : List (Nat × Value)} (hd : decode cc pc = .ok (.astore_n f, 1)) (hn : (f : Nat) < nL) (hl : ((f : Nat), (.ref x : Value)) :: L.filter (fun q => !(q.1 == (f : Nat)) && !(q.1 + 1 == (f : Nat) && q.2.category == 2)) = L') (k : Ev E own cc nL ret mn Q d kc ks (pc + 1) L' (st) h) : Ev E own cc nL ret mn Q d kc ks pc L (.ref x :: st) h := by
  intro p l e s m args below meth c H locs cells slots mc ms A ls hC
  refine lv_astore_n hC.1 hC.2.1 hd rfl hC.2.2.2.2.2.2.2.2.2.2.2.2.2.1 hn hl (fun ls' hl' => ?_)
  exact k p l e s m args below meth c H locs cells slots mc ms A ls' (hC.locs' hl')

theorem ev_astore {i : Nat} {x : Nat} {L' : List (Nat × Value)} (hd : decode cc pc = .ok (.astore i, 2)) (hn : i < nL) (hl : (i, (.ref x : Value)) :: L.filter (fun q => !(q.1 == i) && !(q.1 + 1 == i && q.2.category == 2)) = L') (k : Ev E own cc nL ret mn Q d kc ks (pc + 2) L' (st) h) : Ev E own cc nL ret mn Q d kc ks pc L (.ref x :: st) h := by
  intro p l e s m args below meth c H locs cells slots mc ms A ls hC
  refine lv_astore hC.1 hC.2.1 hd hC.2.2.2.2.2.2.2.2.2.2.2.2.2.1 hn hl (fun ls' hl' => ?_)
  exact k p l e s m args below meth c H locs cells slots mc ms A ls' (hC.locs' hl')

theorem ev_astore_nN {f : Fin 4}  {L' : List (Nat × Value)} (hd : decode cc pc = .ok (.astore_n f, 1)) (hn : (f : Nat) < nL) (hl : ((f : Nat), (.null : Value)) :: L.filter (fun q => !(q.1 == (f : Nat)) && !(q.1 + 1 == (f : Nat) && q.2.category == 2)) = L') (k : Ev E own cc nL ret mn Q d kc ks (pc + 1) L' (st) h) : Ev E own cc nL ret mn Q d kc ks pc L (.null :: st) h := by
  intro p l e s m args below meth c H locs cells slots mc ms A ls hC
  refine lv_astore_nN hC.1 hC.2.1 hd rfl hC.2.2.2.2.2.2.2.2.2.2.2.2.2.1 hn hl (fun ls' hl' => ?_)
  exact k p l e s m args below meth c H locs cells slots mc ms A ls' (hC.locs' hl')

theorem ev_astoreN {i : Nat}  {L' : List (Nat × Value)} (hd : decode cc pc = .ok (.astore i, 2)) (hn : i < nL) (hl : (i, (.null : Value)) :: L.filter (fun q => !(q.1 == i) && !(q.1 + 1 == i && q.2.category == 2)) = L') (k : Ev E own cc nL ret mn Q d kc ks (pc + 2) L' (st) h) : Ev E own cc nL ret mn Q d kc ks pc L (.null :: st) h := by
  intro p l e s m args below meth c H locs cells slots mc ms A ls hC
  refine lv_astoreN hC.1 hC.2.1 hd hC.2.2.2.2.2.2.2.2.2.2.2.2.2.1 hn hl (fun ls' hl' => ?_)
  exact k p l e s m args below meth c H locs cells slots mc ms A ls' (hC.locs' hl')

theorem ev_iinc {i : Nat} {n a : Int} {L' : List (Nat × Value)} (j : Nat) (hj : L[j]? = some (i, vI a)) (hd : decode cc pc = .ok (.iinc i n, 3)) (hn : i < nL) (hl : (i, vI (a + n)) :: L.filter (fun q => !(q.1 == i) && !(q.1 + 1 == i && q.2.category == 2)) = L') (k : Ev E own cc nL ret mn Q d kc ks (pc + 3) L' (st) h) : Ev E own cc nL ret mn Q d kc ks pc L (st) h := by
  intro p l e s m args below meth c H locs cells slots mc ms A ls hC
  refine lv_iinc (v := iI (a + n)) hC.1 hC.2.1 hd hC.2.2.2.2.2.2.2.2.2.2.2.2.2.1 (k := j) hj (iI_add a n) hn hl (fun ls' hl' => ?_)
  exact k p l e s m args below meth c H locs cells slots mc ms A ls' (hC.locs' hl')

theorem ev_iadd {a b : Int} (hd : decode cc pc = .ok (.iadd, 1)) (k : Ev E own cc nL ret mn Q d kc ks (pc + 1) L (vI (a + b) :: st) h) : Ev E own cc nL ret mn Q d kc ks pc L (vI b :: vI a :: st) h := by
  intro p l e s m args below meth c H locs cells slots mc ms A ls hC
  refine lv_iadd hC.1 hC.2.1 hd  ?_
  rw [iI_add]
  exact k p l e s m args below meth c H locs cells slots mc ms A ls hC

theorem ev_isub {a b : Int} (hd : decode cc pc = .ok (.isub, 1)) (k : Ev E own cc nL ret mn Q d kc ks (pc + 1) L (vI (a - b) :: st) h) : Ev E own cc nL ret mn Q d kc ks pc L (vI b :: vI a :: st) h := by
  intro p l e s m args below meth c H locs cells slots mc ms A ls hC
  refine lv_isub hC.1 hC.2.1 hd  ?_
  rw [iI_sub]
  exact k p l e s m args below meth c H locs cells slots mc ms A ls hC

theorem ev_imul {a b : Int} (hd : decode cc pc = .ok (.imul, 1)) (k : Ev E own cc nL ret mn Q d kc ks (pc + 1) L (vI (a * b) :: st) h) : Ev E own cc nL ret mn Q d kc ks pc L (vI b :: vI a :: st) h := by
  intro p l e s m args below meth c H locs cells slots mc ms A ls hC
  refine lv_imul hC.1 hC.2.1 hd  ?_
  rw [iI_mul]
  exact k p l e s m args below meth c H locs cells slots mc ms A ls hC

theorem ev_ineg {a : Int} (hd : decode cc pc = .ok (.ineg, 1)) (k : Ev E own cc nL ret mn Q d kc ks (pc + 1) L (vI (-a) :: st) h) : Ev E own cc nL ret mn Q d kc ks pc L (vI a :: st) h := by
  intro p l e s m args below meth c H locs cells slots mc ms A ls hC
  refine lv_ineg hC.1 hC.2.1 hd  ?_
  rw [iI_neg]
  exact k p l e s m args below meth c H locs cells slots mc ms A ls hC

theorem ev_ladd {a b : Int} (hd : decode cc pc = .ok (.ladd, 1)) (k : Ev E own cc nL ret mn Q d kc ks (pc + 1) L (vL (a + b) :: st) h) : Ev E own cc nL ret mn Q d kc ks pc L (vL b :: vL a :: st) h := by
  intro p l e s m args below meth c H locs cells slots mc ms A ls hC
  refine lv_ladd hC.1 hC.2.1 hd  ?_
  rw [lI_add]
  exact k p l e s m args below meth c H locs cells slots mc ms A ls hC

theorem ev_lsub {a b : Int} (hd : decode cc pc = .ok (.lsub, 1)) (k : Ev E own cc nL ret mn Q d kc ks (pc + 1) L (vL (a - b) :: st) h) : Ev E own cc nL ret mn Q d kc ks pc L (vL b :: vL a :: st) h := by
  intro p l e s m args below meth c H locs cells slots mc ms A ls hC
  refine lv_lsub hC.1 hC.2.1 hd  ?_
  rw [lI_sub]
  exact k p l e s m args below meth c H locs cells slots mc ms A ls hC

theorem ev_lmul {a b : Int} (hd : decode cc pc = .ok (.lmul, 1)) (k : Ev E own cc nL ret mn Q d kc ks (pc + 1) L (vL (a * b) :: st) h) : Ev E own cc nL ret mn Q d kc ks pc L (vL b :: vL a :: st) h := by
  intro p l e s m args below meth c H locs cells slots mc ms A ls hC
  refine lv_lmul hC.1 hC.2.1 hd  ?_
  rw [lI_mul]
  exact k p l e s m args below meth c H locs cells slots mc ms A ls hC

def andZ (a b : Int) : Int := (iI a &&& iI b).toInt
def orZ (a b : Int) : Int := (iI a ||| iI b).toInt
def xorZ (a b : Int) : Int := (iI a ^^^ iI b).toInt
def shlZ (a b : Int) : Int := (iI a <<< (iI b &&& 31)).toInt
def shrZ (a b : Int) : Int := (iI a >>> (iI b &&& 31)).toInt
def i2sZ (a : Int) : Int := (iI a).toInt16.toInt32.toInt
def d2iZ (x : UInt64) : Int := (FP.d2i x).toInt
def updZ (f : Int → Int) (z w : Int) : Int → Int := fun j => if j = z then w else f j
def updR (f : Int → Option Nat) (z : Int) (w : Option Nat) : Int → Option Nat := fun j => if j = z then w else f j

theorem ev_iand {a b : Int} (hd : decode cc pc = .ok (.iand, 1)) (k : Ev E own cc nL ret mn Q d kc ks (pc + 1) L (vI (andZ a b) :: st) h) : Ev E own cc nL ret mn Q d kc ks pc L (vI b :: vI a :: st) h := by
  intro p l e s m args below meth c H locs cells slots mc ms A ls hC
  refine lv_iand hC.1 hC.2.1 hd ?_
  have k2 := k p l e s m args below meth c H locs cells slots mc ms A ls hC
  dsimp only [andZ, vI] at k2
  rw [iI_of] at k2
  exact k2

theorem ev_ior {a b : Int} (hd : decode cc pc = .ok (.ior, 1)) (k : Ev E own cc nL ret mn Q d kc ks (pc + 1) L (vI (orZ a b) :: st) h) : Ev E own cc nL ret mn Q d kc ks pc L (vI b :: vI a :: st) h := by
  intro p l e s m args below meth c H locs cells slots mc ms A ls hC
  refine lv_ior hC.1 hC.2.1 hd ?_
  have k2 := k p l e s m args below meth c H locs cells slots mc ms A ls hC
  dsimp only [orZ, vI] at k2
  rw [iI_of] at k2
  exact k2

theorem ev_ixor {a b : Int} (hd : decode cc pc = .ok (.ixor, 1)) (k : Ev E own cc nL ret mn Q d kc ks (pc + 1) L (vI (xorZ a b) :: st) h) : Ev E own cc nL ret mn Q d kc ks pc L (vI b :: vI a :: st) h := by
  intro p l e s m args below meth c H locs cells slots mc ms A ls hC
  refine lv_ixor hC.1 hC.2.1 hd ?_
  have k2 := k p l e s m args below meth c H locs cells slots mc ms A ls hC
  dsimp only [xorZ, vI] at k2
  rw [iI_of] at k2
  exact k2

theorem ev_ishl {a b : Int} (hd : decode cc pc = .ok (.ishl, 1)) (k : Ev E own cc nL ret mn Q d kc ks (pc + 1) L (vI (shlZ a b) :: st) h) : Ev E own cc nL ret mn Q d kc ks pc L (vI b :: vI a :: st) h := by
  intro p l e s m args below meth c H locs cells slots mc ms A ls hC
  refine lv_ishl hC.1 hC.2.1 hd ?_
  have k2 := k p l e s m args below meth c H locs cells slots mc ms A ls hC
  dsimp only [shlZ, vI] at k2
  rw [iI_of] at k2
  exact k2

theorem ev_ishr {a b : Int} (hd : decode cc pc = .ok (.ishr, 1)) (k : Ev E own cc nL ret mn Q d kc ks (pc + 1) L (vI (shrZ a b) :: st) h) : Ev E own cc nL ret mn Q d kc ks pc L (vI b :: vI a :: st) h := by
  intro p l e s m args below meth c H locs cells slots mc ms A ls hC
  refine lv_ishr hC.1 hC.2.1 hd ?_
  have k2 := k p l e s m args below meth c H locs cells slots mc ms A ls hC
  dsimp only [shrZ, vI] at k2
  rw [iI_of] at k2
  exact k2

theorem ev_idiv {a b : Int} (hd : decode cc pc = .ok (.idiv, 1)) (ha : InR a) (hb : InR b) (h0 : b ≠ 0) (hr : InR (a.tdiv b)) (k : Ev E own cc nL ret mn Q d kc ks (pc + 1) L (vI (a.tdiv b) :: st) h) : Ev E own cc nL ret mn Q d kc ks pc L (vI b :: vI a :: st) h := by
  intro p l e s m args below meth c H locs cells slots mc ms A ls hC
  refine lv_idiv hC.1 hC.2.1 hd (fun z => h0 ((iI_eq hb (by decide)).mp z)) ?_
  rw [iI_div ha hb hr]
  exact k p l e s m args below meth c H locs cells slots mc ms A ls hC

theorem ev_ldiv {a b : Int} (hd : decode cc pc = .ok (.ldiv, 1)) (ha : InL a) (hb : InL b) (h0 : b ≠ 0) (hr : InL (a.tdiv b)) (k : Ev E own cc nL ret mn Q d kc ks (pc + 1) L (vL (a.tdiv b) :: st) h) : Ev E own cc nL ret mn Q d kc ks pc L (vL b :: vL a :: st) h := by
  intro p l e s m args below meth c H locs cells slots mc ms A ls hC
  refine lv_ldiv hC.1 hC.2.1 hd (fun z => h0 ((lI_eq hb (by decide)).mp z)) ?_
  rw [lI_div ha hb hr]
  exact k p l e s m args below meth c H locs cells slots mc ms A ls hC

theorem ev_irem {a b : Int} (hd : decode cc pc = .ok (.irem, 1)) (ha : InR a) (hb : InR b) (h0 : b ≠ 0) (hr : InR (a.tdiv b)) (k : Ev E own cc nL ret mn Q d kc ks (pc + 1) L (vI (a.tmod b) :: st) h) : Ev E own cc nL ret mn Q d kc ks pc L (vI b :: vI a :: st) h := by
  intro p l e s m args below meth c H locs cells slots mc ms A ls hC
  refine lv_irem hC.1 hC.2.1 hd (fun z => h0 ((iI_eq hb (by decide)).mp z)) ?_
  have e1 : a.tmod b = a - a.tdiv b * b := by have := Int.tdiv_mul_add_tmod a b; omega
  rw [iI_div ha hb hr, iI_mul, iI_sub, ← e1]
  exact k p l e s m args below meth c H locs cells slots mc ms A ls hC

theorem ev_i2l {a : Int} (hd : decode cc pc = .ok (.i2l, 1)) (ha : InR a) (k : Ev E own cc nL ret mn Q d kc ks (pc + 1) L (vL a :: st) h) : Ev E own cc nL ret mn Q d kc ks pc L (vI a :: st) h := by
  intro p l e s m args below meth c H locs cells slots mc ms A ls hC
  refine lv_i2l hC.1 hC.2.1 hd (iI_l ha) ?_
  exact k p l e s m args below meth c H locs cells slots mc ms A ls hC

theorem ev_l2i {a : Int} (hd : decode cc pc = .ok (.l2i, 1)) (k : Ev E own cc nL ret mn Q d kc ks (pc + 1) L (vI a :: st) h) : Ev E own cc nL ret mn Q d kc ks pc L (vL a :: st) h := by
  intro p l e s m args below meth c H locs cells slots mc ms A ls hC
  refine lv_l2i hC.1 hC.2.1 hd (lI_i a) ?_
  exact k p l e s m args below meth c H locs cells slots mc ms A ls hC

theorem ev_i2s {a : Int} (hd : decode cc pc = .ok (.i2s, 1)) (k : Ev E own cc nL ret mn Q d kc ks (pc + 1) L (vI (i2sZ a) :: st) h) : Ev E own cc nL ret mn Q d kc ks pc L (vI a :: st) h := by
  intro p l e s m args below meth c H locs cells slots mc ms A ls hC
  refine lv_i2s hC.1 hC.2.1 hd (iI_of _).symm ?_
  exact k p l e s m args below meth c H locs cells slots mc ms A ls hC

theorem ev_dadd {x y : UInt64} (hd : decode cc pc = .ok (.dadd, 1)) (hn : vf_n64 (FP.dadd x y)) (k : Ev E own cc nL ret mn Q d kc ks (pc + 1) L (.double (FP.dadd x y) :: st) h) : Ev E own cc nL ret mn Q d kc ks pc L (.double y :: .double x :: st) h := by
  intro p l e s m args below meth c H locs cells slots mc ms A ls hC
  refine lv_dadd hC.1 hC.2.1 hd hn ?_
  exact k p l e s m args below meth c H locs cells slots mc ms A ls hC

theorem ev_dsub {x y : UInt64} (hd : decode cc pc = .ok (.dsub, 1)) (hn : vf_n64 (FP.dsub x y)) (k : Ev E own cc nL ret mn Q d kc ks (pc + 1) L (.double (FP.dsub x y) :: st) h) : Ev E own cc nL ret mn Q d kc ks pc L (.double y :: .double x :: st) h := by
  intro p l e s m args below meth c H locs cells slots mc ms A ls hC
  refine lv_dsub hC.1 hC.2.1 hd hn ?_
  exact k p l e s m args below meth c H locs cells slots mc ms A ls hC

theorem ev_dmul {x y : UInt64} (hd : decode cc pc = .ok (.dmul, 1)) (hn : vf_n64 (FP.dmul x y)) (k : Ev E own cc nL ret mn Q d kc ks (pc + 1) L (.double (FP.dmul x y) :: st) h) : Ev E own cc nL ret mn Q d kc ks pc L (.double y :: .double x :: st) h := by
  intro p l e s m args below meth c H locs cells slots mc ms A ls hC
  refine lv_dmul hC.1 hC.2.1 hd hn ?_
  exact k p l e s m args below meth c H locs cells slots mc ms A ls hC

theorem ev_ddiv {x y : UInt64} (hd : decode cc pc = .ok (.ddiv, 1)) (hn : vf_n64 (FP.ddiv x y)) (k : Ev E own cc nL ret mn Q d kc ks (pc + 1) L (.double (FP.ddiv x y) :: st) h) : Ev E own cc nL ret mn Q d kc ks pc L (.double y :: .double x :: st) h := by
  intro p l e s m args below meth c H locs cells slots mc ms A ls hC
  refine lv_ddiv hC.1 hC.2.1 hd hn ?_
  exact k p l e s m args below meth c H locs cells slots mc ms A ls hC

theorem ev_i2d {a : Int} (hd : decode cc pc = .ok (.i2d, 1)) (k : Ev E own cc nL ret mn Q d kc ks (pc + 1) L (.double (FP.i2d (iI a)) :: st) h) : Ev E own cc nL ret mn Q d kc ks pc L (vI a :: st) h := by
  intro p l e s m args below meth c H locs cells slots mc ms A ls hC
  refine lv_i2d hC.1 hC.2.1 hd  ?_
  exact k p l e s m args below meth c H locs cells slots mc ms A ls hC

theorem ev_d2i {x : UInt64} (hd : decode cc pc = .ok (.d2i, 1)) (k : Ev E own cc nL ret mn Q d kc ks (pc + 1) L (vI (d2iZ x) :: st) h) : Ev E own cc nL ret mn Q d kc ks pc L (.double x :: st) h := by
  intro p l e s m args below meth c H locs cells slots mc ms A ls hC
  refine lv_d2i hC.1 hC.2.1 hd ?_
  have k2 := k p l e s m args below meth c H locs cells slots mc ms A ls hC
  dsimp only [d2iZ, vI] at k2
  rw [iI_of] at k2
  exact k2

theorem ev_dup {v : Value} (hd : decode cc pc = .ok (.dup, 1)) (hv : v.category = 1) (k : Ev E own cc nL ret mn Q d kc ks (pc + 1) L (v :: v :: st) h) : Ev E own cc nL ret mn Q d kc ks pc L (v :: st) h := by
  intro p l e s m args below meth c H locs cells slots mc ms A ls hC
  refine lv_dup hC.1 hC.2.1 hd hv ?_
  exact k p l e s m args below meth c H locs cells slots mc ms A ls hC

theorem ev_pop {v : Value} (hd : decode cc pc = .ok (.pop, 1)) (hv : v.category = 1) (k : Ev E own cc nL ret mn Q d kc ks (pc + 1) L (st) h) : Ev E own cc nL ret mn Q d kc ks pc L (v :: st) h := by
  intro p l e s m args below meth c H locs cells slots mc ms A ls hC
  refine lv_pop hC.1 hC.2.1 hd hv ?_
  exact k p l e s m args below meth c H locs cells slots mc ms A ls hC

theorem ev_dup2 {v w : Value} (hd : decode cc pc = .ok (.dup2, 1)) (hv : v.category = 1) (hw : w.category = 1) (k : Ev E own cc nL ret mn Q d kc ks (pc + 1) L (v :: w :: v :: w :: st) h) : Ev E own cc nL ret mn Q d kc ks pc L (v :: w :: st) h := by
  intro p l e s m args below meth c H locs cells slots mc ms A ls hC
  refine lv_dup2_11 hC.1 hC.2.1 hd hv hw ?_
  exact k p l e s m args below meth c H locs cells slots mc ms A ls hC

theorem ev_if_eq {off : Int} {tgt : Nat} {a : Int} (hd : decode cc pc = .ok (.ifCond .eq off, 3)) (ha : InR a) (ht : (pc : Int) + off = (tgt : Int)) (kt : a = 0 → Ev E own cc nL ret mn Q d kc ks tgt L st h) (kf : ¬ (a = 0) → Ev E own cc nL ret mn Q d kc ks (pc + 3) L st h) : Ev E own cc nL ret mn Q d kc ks pc L (vI a :: st) h := by
  intro p l e s m args below meth c H locs cells slots mc ms A ls hC
  have e1 := (iI_eq ha (by decide) : _ ↔ a = 0)
  exact lv_if_eq hC.1 hC.2.1 hd ht (fun z => kt (e1.mp z) p l e s m args below meth c H locs cells slots mc ms A ls hC) (fun z => kf (fun y => z (e1.mpr y)) p l e s m args below meth c H locs cells slots mc ms A ls hC)

theorem ev_if_ne {off : Int} {tgt : Nat} {a : Int} (hd : decode cc pc = .ok (.ifCond .ne off, 3)) (ha : InR a) (ht : (pc : Int) + off = (tgt : Int)) (kt : a ≠ 0 → Ev E own cc nL ret mn Q d kc ks tgt L st h) (kf : a = 0 → Ev E own cc nL ret mn Q d kc ks (pc + 3) L st h) : Ev E own cc nL ret mn Q d kc ks pc L (vI a :: st) h := by
  intro p l e s m args below meth c H locs cells slots mc ms A ls hC
  have e1 := (not_congr (iI_eq ha (by decide)) : _ ↔ a ≠ 0)
  exact lv_if_ne hC.1 hC.2.1 hd ht (fun z => kt (e1.mp z) p l e s m args below meth c H locs cells slots mc ms A ls hC) (fun z => kf ((iI_eq ha (by decide)).mp z) p l e s m args below meth c H locs cells slots mc ms A ls hC)

theorem ev_if_lt {off : Int} {tgt : Nat} {a : Int} (hd : decode cc pc = .ok (.ifCond .lt off, 3)) (ha : InR a) (ht : (pc : Int) + off = (tgt : Int)) (kt : a < 0 → Ev E own cc nL ret mn Q d kc ks tgt L st h) (kf : ¬ (a < 0) → Ev E own cc nL ret mn Q d kc ks (pc + 3) L st h) : Ev E own cc nL ret mn Q d kc ks pc L (vI a :: st) h := by
  intro p l e s m args below meth c H locs cells slots mc ms A ls hC
  have e1 := (iI_lt ha (by decide) : _ ↔ a < 0)
  exact lv_if_lt hC.1 hC.2.1 hd ht (fun z => kt (e1.mp z) p l e s m args below meth c H locs cells slots mc ms A ls hC) (fun z => kf (fun y => z (e1.mpr y)) p l e s m args below meth c H locs cells slots mc ms A ls hC)

theorem ev_if_ge {off : Int} {tgt : Nat} {a : Int} (hd : decode cc pc = .ok (.ifCond .ge off, 3)) (ha : InR a) (ht : (pc : Int) + off = (tgt : Int)) (kt : 0 ≤ a → Ev E own cc nL ret mn Q d kc ks tgt L st h) (kf : ¬ (0 ≤ a) → Ev E own cc nL ret mn Q d kc ks (pc + 3) L st h) : Ev E own cc nL ret mn Q d kc ks pc L (vI a :: st) h := by
  intro p l e s m args below meth c H locs cells slots mc ms A ls hC
  have e1 := (iI_le (by decide) ha : _ ↔ 0 ≤ a)
  exact lv_if_ge hC.1 hC.2.1 hd ht (fun z => kt (e1.mp z) p l e s m args below meth c H locs cells slots mc ms A ls hC) (fun z => kf (fun y => z (e1.mpr y)) p l e s m args below meth c H locs cells slots mc ms A ls hC)

theorem ev_if_gt {off : Int} {tgt : Nat} {a : Int} (hd : decode cc pc = .ok (.ifCond .gt off, 3)) (ha : InR a) (ht : (pc : Int) + off = (tgt : Int)) (kt : 0 < a → Ev E own cc nL ret mn Q d kc ks tgt L st h) (kf : ¬ (0 < a) → Ev E own cc nL ret mn Q d kc ks (pc + 3) L st h) : Ev E own cc nL ret mn Q d kc ks pc L (vI a :: st) h := by
  intro p l e s m args below meth c H locs cells slots mc ms A ls hC
  have e1 := (iI_lt (by decide) ha : _ ↔ 0 < a)
  exact lv_if_gt hC.1 hC.2.1 hd ht (fun z => kt (e1.mp z) p l e s m args below meth c H locs cells slots mc ms A ls hC) (fun z => kf (fun y => z (e1.mpr y)) p l e s m args below meth c H locs cells slots mc ms A ls hC)

theorem ev_if_le {off : Int} {tgt : Nat} {a : Int} (hd : decode cc pc = .ok (.ifCond .le off, 3)) (ha : InR a) (ht : (pc : Int) + off = (tgt : Int)) (kt : a ≤ 0 → Ev E own cc nL ret mn Q d kc ks tgt L st h) (kf : ¬ (a ≤ 0) → Ev E own cc nL ret mn Q d kc ks (pc + 3) L st h) : Ev E own cc nL ret mn Q d kc ks pc L (vI a :: st) h := by
  intro p l e s m args below meth c H locs cells slots mc ms A ls hC
  have e1 := (iI_le ha (by decide) : _ ↔ a ≤ 0)
  exact lv_if_le hC.1 hC.2.1 hd ht (fun z => kt (e1.mp z) p l e s m args below meth c H locs cells slots mc ms A ls hC) (fun z => kf (fun y => z (e1.mpr y)) p l e s m args below meth c H locs cells slots mc ms A ls hC)

theorem ev_icmp_eq {off : Int} {tgt : Nat} {a b : Int} (hd : decode cc pc = .ok (.if_icmp .eq off, 3)) (ha : InR a) (hb : InR b) (ht : (pc : Int) + off = (tgt : Int)) (kt : a = b → Ev E own cc nL ret mn Q d kc ks tgt L st h) (kf : ¬ (a = b) → Ev E own cc nL ret mn Q d kc ks (pc + 3) L st h) : Ev E own cc nL ret mn Q d kc ks pc L (vI b :: vI a :: st) h := by
  intro p l e s m args below meth c H locs cells slots mc ms A ls hC
  have e1 := (iI_eq ha hb : _ ↔ a = b)
  exact lv_icmp_eq hC.1 hC.2.1 hd ht (fun z => kt (e1.mp z) p l e s m args below meth c H locs cells slots mc ms A ls hC) (fun z => kf (fun y => z (e1.mpr y)) p l e s m args below meth c H locs cells slots mc ms A ls hC)

theorem ev_icmp_ne {off : Int} {tgt : Nat} {a b : Int} (hd : decode cc pc = .ok (.if_icmp .ne off, 3)) (ha : InR a) (hb : InR b) (ht : (pc : Int) + off = (tgt : Int)) (kt : a ≠ b → Ev E own cc nL ret mn Q d kc ks tgt L st h) (kf : a = b → Ev E own cc nL ret mn Q d kc ks (pc + 3) L st h) : Ev E own cc nL ret mn Q d kc ks pc L (vI b :: vI a :: st) h := by
  intro p l e s m args below meth c H locs cells slots mc ms A ls hC
  have e1 := (not_congr (iI_eq ha hb) : _ ↔ a ≠ b)
  exact lv_icmp_ne hC.1 hC.2.1 hd ht (fun z => kt (e1.mp z) p l e s m args below meth c H locs cells slots mc ms A ls hC) (fun z => kf ((iI_eq ha hb).mp z) p l e s m args below meth c H locs cells slots mc ms A ls hC)

theorem ev_icmp_lt {off : Int} {tgt : Nat} {a b : Int} (hd : decode cc pc = .ok (.if_icmp .lt off, 3)) (ha : InR a) (hb : InR b) (ht : (pc : Int) + off = (tgt : Int)) (kt : a < b → Ev E own cc nL ret mn Q d kc ks tgt L st h) (kf : ¬ (a < b) → Ev E own cc nL ret mn Q d kc ks (pc + 3) L st h) : Ev E own cc nL ret mn Q d kc ks pc L (vI b :: vI a :: st) h := by
  intro p l e s m args below meth c H locs cells slots mc ms A ls hC
  have e1 := (iI_lt ha hb : _ ↔ a < b)
  exact lv_icmp_lt hC.1 hC.2.1 hd ht (fun z => kt (e1.mp z) p l e s m args below meth c H locs cells slots mc ms A ls hC) (fun z => kf (fun y => z (e1.mpr y)) p l e s m args below meth c H locs cells slots mc ms A ls hC)

theorem ev_icmp_ge {off : Int} {tgt : Nat} {a b : Int} (hd : decode cc pc = .ok (.if_icmp .ge off, 3)) (ha : InR a) (hb : InR b) (ht : (pc : Int) + off = (tgt : Int)) (kt : b ≤ a → Ev E own cc nL ret mn Q d kc ks tgt L st h) (kf : ¬ (b ≤ a) → Ev E own cc nL ret mn Q d kc ks (pc + 3) L st h) : Ev E own cc nL ret mn Q d kc ks pc L (vI b :: vI a :: st) h := by
  intro p l e s m args below meth c H locs cells slots mc ms A ls hC
  have e1 := (iI_le hb ha : _ ↔ b ≤ a)
  exact lv_icmp_ge hC.1 hC.2.1 hd ht (fun z => kt (e1.mp z) p l e s m args below meth c H locs cells slots mc ms A ls hC) (fun z => kf (fun y => z (e1.mpr y)) p l e s m args below meth c H locs cells slots mc ms A ls hC)

theorem ev_icmp_gt {off : Int} {tgt : Nat} {a b : Int} (hd : decode cc pc = .ok (.if_icmp .gt off, 3)) (ha : InR a) (hb : InR b) (ht : (pc : Int) + off = (tgt : Int)) (kt : b < a → Ev E own cc nL ret mn Q d kc ks tgt L st h) (kf : ¬ (b < a) → Ev E own cc nL ret mn Q d kc ks (pc + 3) L st h) : Ev E own cc nL ret mn Q d kc ks pc L (vI b :: vI a :: st) h := by
  intro p l e s m args below meth c H locs cells slots mc ms A ls hC
  have e1 := (iI_lt hb ha : _ ↔ b < a)
  exact lv_icmp_gt hC.1 hC.2.1 hd ht (fun z => kt (e1.mp z) p l e s m args below meth c H locs cells slots mc ms A ls hC) (fun z => kf (fun y => z (e1.mpr y)) p l e s m args below meth c H locs cells slots mc ms A ls hC)

theorem ev_icmp_le {off : Int} {tgt : Nat} {a b : Int} (hd : decode cc pc = .ok (.if_icmp .le off, 3)) (ha : InR a) (hb : InR b) (ht : (pc : Int) + off = (tgt : Int)) (kt : a ≤ b → Ev E own cc nL ret mn Q d kc ks tgt L st h) (kf : ¬ (a ≤ b) → Ev E own cc nL ret mn Q d kc ks (pc + 3) L st h) : Ev E own cc nL ret mn Q d kc ks pc L (vI b :: vI a :: st) h := by
  intro p l e s m args below meth c H locs cells slots mc ms A ls hC
  have e1 := (iI_le ha hb : _ ↔ a ≤ b)
  exact lv_icmp_le hC.1 hC.2.1 hd ht (fun z => kt (e1.mp z) p l e s m args below meth c H locs cells slots mc ms A ls hC) (fun z => kf (fun y => z (e1.mpr y)) p l e s m args below meth c H locs cells slots mc ms A ls hC)

theorem ev_goto {off : Int} {tgt : Nat} (hd : decode cc pc = .ok (.goto off, 3)) (ht : (pc : Int) + off = (tgt : Int)) (k : Ev E own cc nL ret mn Q d kc ks tgt L st h) : Ev E own cc nL ret mn Q d kc ks pc L st h := by
  intro p l e s m args below meth c H locs cells slots mc ms A ls hC
  exact lv_goto hC.1 hC.2.1 hd ht (k p l e s m args below meth c H locs cells slots mc ms A ls hC)
theorem ev_ifnull {off : Int} {x : Nat} (hd : decode cc pc = .ok (.ifnull off, 3)) (k : Ev E own cc nL ret mn Q d kc ks (pc + 3) L st h) : Ev E own cc nL ret mn Q d kc ks pc L (.ref x :: st) h := by
  intro p l e s m args below meth c H locs cells slots mc ms A ls hC
  exact lv_ifnull hC.1 hC.2.1 hd (k p l e s m args below meth c H locs cells slots mc ms A ls hC)
theorem ev_ifnullN {off : Int} {tgt : Nat} (hd : decode cc pc = .ok (.ifnull off, 3)) (ht : (pc : Int) + off = (tgt : Int)) (k : Ev E own cc nL ret mn Q d kc ks tgt L st h) : Ev E own cc nL ret mn Q d kc ks pc L (.null :: st) h := by
  intro p l e s m args below meth c H locs cells slots mc ms A ls hC
  exact lv_ifnullN hC.1 hC.2.1 hd ht (k p l e s m args below meth c H locs cells slots mc ms A ls hC)
theorem ev_ifnonnull {off : Int} {tgt x : Nat} (hd : decode cc pc = .ok (.ifnonnull off, 3)) (ht : (pc : Int) + off = (tgt : Int)) (k : Ev E own cc nL ret mn Q d kc ks tgt L st h) : Ev E own cc nL ret mn Q d kc ks pc L (.ref x :: st) h := by
  intro p l e s m args below meth c H locs cells slots mc ms A ls hC
  exact lv_ifnonnull hC.1 hC.2.1 hd ht (k p l e s m args below meth c H locs cells slots mc ms A ls hC)
theorem ev_ifnonnullN {off : Int} (hd : decode cc pc = .ok (.ifnonnull off, 3)) (k : Ev E own cc nL ret mn Q d kc ks (pc + 3) L st h) : Ev E own cc nL ret mn Q d kc ks pc L (.null :: st) h := by
  intro p l e s m args below meth c H locs cells slots mc ms A ls hC
  exact lv_ifnonnullN hC.1 hC.2.1 hd (k p l e s m args below meth c H locs cells slots mc ms A ls hC)

theorem lcmp_val {a b : Int} (ha : InL a) (hb : InL b) : (lg_cmp (lI a) (lI b)).toInt = if a < b then -1 else if a = b then 0 else 1 := by
  have c2 := lI_lt hb ha
  have c3 := lI_eq ha hb
  unfold lg_cmp
  by_cases q1 : a < b
  · rw [if_neg (fun z => by have := c2.mp z; omega), if_neg (fun z => by have := c3.mp z; omega), if_pos q1]; rfl
  · by_cases q2 : a = b
    · rw [if_neg (fun z => by have := c2.mp z; omega), if_pos (c3.mpr q2), if_neg q1, if_pos q2]; rfl
    · rw [if_pos (c2.mpr (by omega)), if_neg q1, if_neg q2]; rfl

theorem ev_lcmp_eq {off : Int} {tgt : Nat} {a b : Int} (hd : decode cc pc = .ok (.lcmp, 1)) (hd2 : decode cc (pc + 1) = .ok (.ifCond .eq off, 3)) (ha : InL a) (hb : InL b) (ht : ((pc + 1 : Nat) : Int) + off = (tgt : Int)) (kt : a = b → Ev E own cc nL ret mn Q d kc ks tgt L st h) (kf : ¬ (a = b) → Ev E own cc nL ret mn Q d kc ks (pc + 4) L st h) : Ev E own cc nL ret mn Q d kc ks pc L (vL b :: vL a :: st) h := by
  intro p l e s m args below meth c H locs cells slots mc ms A ls hC
  refine W.lcmp hC.1 hC.2.1 hd ?_
  have e1 := lcmp_val ha hb
  have e2 := iI_of (lg_cmp (lI a) (lI b))
  rw [e1] at e2
  rw [← e2]
  refine (ev_if_eq (E := E) (own := own) (nL := nL) (ret := ret) (mn := mn) (Q := Q) (d := d) (kc := kc) (ks := ks) (L := L) (st := st) (h := h) hd2 ?_ ht (fun z => kt ?_) (fun z => kf ?_)) p l e s m args below meth c H locs cells slots mc ms A ls hC
  · unfold InR; split <;> first | omega | (split <;> omega)
  · revert z; split <;> first | omega | (split <;> omega)
  · revert z; split <;> first | omega | (split <;> omega)

theorem ev_lcmp_ne {off : Int} {tgt : Nat} {a b : Int} (hd : decode cc pc = .ok (.lcmp, 1)) (hd2 : decode cc (pc + 1) = .ok (.ifCond .ne off, 3)) (ha : InL a) (hb : InL b) (ht : ((pc + 1 : Nat) : Int) + off = (tgt : Int)) (kt : a ≠ b → Ev E own cc nL ret mn Q d kc ks tgt L st h) (kf : a = b → Ev E own cc nL ret mn Q d kc ks (pc + 4) L st h) : Ev E own cc nL ret mn Q d kc ks pc L (vL b :: vL a :: st) h := by
  intro p l e s m args below meth c H locs cells slots mc ms A ls hC
  refine W.lcmp hC.1 hC.2.1 hd ?_
  have e1 := lcmp_val ha hb
  have e2 := iI_of (lg_cmp (lI a) (lI b))
  rw [e1] at e2
  rw [← e2]
  refine (ev_if_ne (E := E) (own := own) (nL := nL) (ret := ret) (mn := mn) (Q := Q) (d := d) (kc := kc) (ks := ks) (L := L) (st := st) (h := h) hd2 ?_ ht (fun z => kt ?_) (fun z => kf ?_)) p l e s m args below meth c H locs cells slots mc ms A ls hC
  · unfold InR; split <;> first | omega | (split <;> omega)
  · revert z; split <;> first | omega | (split <;> omega)
  · revert z; split <;> first | omega | (split <;> omega)

theorem ev_lcmp_lt {off : Int} {tgt : Nat} {a b : Int} (hd : decode cc pc = .ok (.lcmp, 1)) (hd2 : decode cc (pc + 1) = .ok (.ifCond .lt off, 3)) (ha : InL a) (hb : InL b) (ht : ((pc + 1 : Nat) : Int) + off = (tgt : Int)) (kt : a < b → Ev E own cc nL ret mn Q d kc ks tgt L st h) (kf : ¬ (a < b) → Ev E own cc nL ret mn Q d kc ks (pc + 4) L st h) : Ev E own cc nL ret mn Q d kc ks pc L (vL b :: vL a :: st) h := by
  intro p l e s m args below meth c H locs cells slots mc ms A ls hC
  refine W.lcmp hC.1 hC.2.1 hd ?_
  have e1 := lcmp_val ha hb
  have e2 := iI_of (lg_cmp (lI a) (lI b))
  rw [e1] at e2
  rw [← e2]
  refine (ev_if_lt (E := E) (own := own) (nL := nL) (ret := ret) (mn := mn) (Q := Q) (d := d) (kc := kc) (ks := ks) (L := L) (st := st) (h := h) hd2 ?_ ht (fun z => kt ?_) (fun z => kf ?_)) p l e s m args below meth c H locs cells slots mc ms A ls hC
  · unfold InR; split <;> first | omega | (split <;> omega)
  · revert z; split <;> first | omega | (split <;> omega)
  · revert z; split <;> first | omega | (split <;> omega)

theorem ev_lcmp_ge {off : Int} {tgt : Nat} {a b : Int} (hd : decode cc pc = .ok (.lcmp, 1)) (hd2 : decode cc (pc + 1) = .ok (.ifCond .ge off, 3)) (ha : InL a) (hb : InL b) (ht : ((pc + 1 : Nat) : Int) + off = (tgt : Int)) (kt : b ≤ a → Ev E own cc nL ret mn Q d kc ks tgt L st h) (kf : ¬ (b ≤ a) → Ev E own cc nL ret mn Q d kc ks (pc + 4) L st h) : Ev E own cc nL ret mn Q d kc ks pc L (vL b :: vL a :: st) h := by
  intro p l e s m args below meth c H locs cells slots mc ms A ls hC
  refine W.lcmp hC.1 hC.2.1 hd ?_
  have e1 := lcmp_val ha hb
  have e2 := iI_of (lg_cmp (lI a) (lI b))
  rw [e1] at e2
  rw [← e2]
  refine (ev_if_ge (E := E) (own := own) (nL := nL) (ret := ret) (mn := mn) (Q := Q) (d := d) (kc := kc) (ks := ks) (L := L) (st := st) (h := h) hd2 ?_ ht (fun z => kt ?_) (fun z => kf ?_)) p l e s m args below meth c H locs cells slots mc ms A ls hC
  · unfold InR; split <;> first | omega | (split <;> omega)
  · revert z; split <;> first | omega | (split <;> omega)
  · revert z; split <;> first | omega | (split <;> omega)

theorem ev_lcmp_gt {off : Int} {tgt : Nat} {a b : Int} (hd : decode cc pc = .ok (.lcmp, 1)) (hd2 : decode cc (pc + 1) = .ok (.ifCond .gt off, 3)) (ha : InL a) (hb : InL b) (ht : ((pc + 1 : Nat) : Int) + off = (tgt : Int)) (kt : b < a → Ev E own cc nL ret mn Q d kc ks tgt L st h) (kf : ¬ (b < a) → Ev E own cc nL ret mn Q d kc ks (pc + 4) L st h) : Ev E own cc nL ret mn Q d kc ks pc L (vL b :: vL a :: st) h := by
  intro p l e s m args below meth c H locs cells slots mc ms A ls hC
  refine W.lcmp hC.1 hC.2.1 hd ?_
  have e1 := lcmp_val ha hb
  have e2 := iI_of (lg_cmp (lI a) (lI b))
  rw [e1] at e2
  rw [← e2]
  refine (ev_if_gt (E := E) (own := own) (nL := nL) (ret := ret) (mn := mn) (Q := Q) (d := d) (kc := kc) (ks := ks) (L := L) (st := st) (h := h) hd2 ?_ ht (fun z => kt ?_) (fun z => kf ?_)) p l e s m args below meth c H locs cells slots mc ms A ls hC
  · unfold InR; split <;> first | omega | (split <;> omega)
  · revert z; split <;> first | omega | (split <;> omega)
  · revert z; split <;> first | omega | (split <;> omega)

theorem ev_lcmp_le {off : Int} {tgt : Nat} {a b : Int} (hd : decode cc pc = .ok (.lcmp, 1)) (hd2 : decode cc (pc + 1) = .ok (.ifCond .le off, 3)) (ha : InL a) (hb : InL b) (ht : ((pc + 1 : Nat) : Int) + off = (tgt : Int)) (kt : a ≤ b → Ev E own cc nL ret mn Q d kc ks tgt L st h) (kf : ¬ (a ≤ b) → Ev E own cc nL ret mn Q d kc ks (pc + 4) L st h) : Ev E own cc nL ret mn Q d kc ks pc L (vL b :: vL a :: st) h := by
  intro p l e s m args below meth c H locs cells slots mc ms A ls hC
  refine W.lcmp hC.1 hC.2.1 hd ?_
  have e1 := lcmp_val ha hb
  have e2 := iI_of (lg_cmp (lI a) (lI b))
  rw [e1] at e2
  rw [← e2]
  refine (ev_if_le (E := E) (own := own) (nL := nL) (ret := ret) (mn := mn) (Q := Q) (d := d) (kc := kc) (ks := ks) (L := L) (st := st) (h := h) hd2 ?_ ht (fun z => kt ?_) (fun z => kf ?_)) p l e s m args below meth c H locs cells slots mc ms A ls hC
  · unfold InR; split <;> first | omega | (split <;> omega)
  · revert z; split <;> first | omega | (split <;> omega)
  · revert z; split <;> first | omega | (split <;> omega)

theorem ev_tableOut {dflt lo hi a : Int} {offs : Array Int} {len tgt : Nat} (hd : decode cc pc = .ok (.tableswitch dflt lo hi offs, len)) (ha : InR a) (hx : a < lo ∨ hi < a) (ht : (pc : Int) + dflt = (tgt : Int)) (k : Ev E own cc nL ret mn Q d kc ks tgt L st h) : Ev E own cc nL ret mn Q d kc ks pc L (vI a :: st) h := by
  intro p l e s m args below meth c H locs cells slots mc ms A ls hC
  exact lv_tableOut hC.1 hC.2.1 hd (by rw [iI_toInt ha]; exact hx) ht (k p l e s m args below meth c H locs cells slots mc ms A ls hC)
theorem ev_tableIn {dflt lo hi a : Int} {offs : Array Int} {len tgt : Nat} {off : Int} (hd : decode cc pc = .ok (.tableswitch dflt lo hi offs, len)) (ha : InR a) (h1 : ¬ a < lo) (h2 : ¬ hi < a) (ho : offs[(a - lo).toNat]? = some off) (ht : (pc : Int) + off = (tgt : Int)) (k : Ev E own cc nL ret mn Q d kc ks tgt L st h) : Ev E own cc nL ret mn Q d kc ks pc L (vI a :: st) h := by
  intro p l e s m args below meth c H locs cells slots mc ms A ls hC
  exact lv_tableIn hC.1 hC.2.1 hd (by rw [iI_toInt ha]; exact h1) (by rw [iI_toInt ha]; exact h2) (by rw [iI_toInt ha]; exact ho) ht (k p l e s m args below meth c H locs cells slots mc ms A ls hC)

end RULES
end
section
section HEAP
variable {E : EV} {own : String} {cc : ByteArray} {nL : Nat} {ret : Option FieldType} {mn : String} {Q : Option Value → AH → Prop} {d kc ks pc : Nat} {L : List (Nat × Value)} {st : List Value} {h : AH}
abbrev arI (E : EV) (n : Nat) (f : Int → Int) : va_E := .inl (E.2.1 0, n, .inl (fun j => iI (f (j : Int))))
abbrev arR (E : EV) (t n : Nat) (f : Int → Option Nat) : va_E := .inl (E.2.1 t, n, .inr (.inr (.inr (.inr (fun j => f (j : Int))))))
abbrev ob (ci : Nat) (fs : List Value) : va_E := .inr (ci, fs)
theorem tysA_get {E : EV} {t : Nat} {ty : FieldType} (h : (tysA E.2.1)[t]? = some (E.2.1 t, ty)) : (tysA E.2.1)[t]? = some (E.2.1 t, ty) := h

theorem ev_get {q ci N idx k : Nat} {C : String} {T : u_T} {fs : List Value} {v : Value} (hin : ∀ w ∈ u_ws C T N, w ∈ TB) (hc : vwCl[ci]? = some (C, T, N)) (hk : k < N) (hlink : Cond.fieldLink own idx (T k).1 (T k).2.1 (T k).2.2.1 ∈ TB) (hd : decode cc pc = .ok (.getfield idx, 3)) (hq : h q = some (ob ci fs)) (hv : fs[k]? = some v) (kk : Ev E own cc nL ret mn Q d kc ks (pc + 3) L (v :: st) h) : Ev E own cc nL ret mn Q d kc ks pc L (.ref q :: st) h := by
  intro p l e s m args below meth c H locs cells slots mc ms A ls hC
  have hC0 := hC
  obtain ⟨hx, hb, hr, hml, hown, hnm, hlk, hts, hK, hG, hA, hH, hS, hl, hc1, hc2⟩ := hC
  obtain ⟨ws, hP, hD, hh⟩ := hH
  obtain ⟨k0, hk0⟩ := (hh q _).mp hq
  exact va_get hx hb hts hin hown hK hP k0 hk0 hc k hk (hts _ hlink) (fun _ h9 => h9) hv hd (kk p l e s m args below meth c H locs cells slots mc ms A ls hC0)

theorem ev_getS {q ci N idx k : Nat} {C : String} {T : u_T} {fs : List Value} {v : Value} {ref : String} (hin : ∀ w ∈ u_ws C T N, w ∈ TB) (hc : vwCl[ci]? = some (C, T, N)) (hk : k < N) (hlink : Cond.fieldLink own idx ref (T k).2.1 (T k).2.2.1 ∈ TB) (hsm : Cond.sameField ref (T k).1 (T k).2.1 (T k).2.2.1 ∈ TB) (hd : decode cc pc = .ok (.getfield idx, 3)) (hq : h q = some (ob ci fs)) (hv : fs[k]? = some v) (kk : Ev E own cc nL ret mn Q d kc ks (pc + 3) L (v :: st) h) : Ev E own cc nL ret mn Q d kc ks pc L (.ref q :: st) h := by
  intro p l e s m args below meth c H locs cells slots mc ms A ls hC
  have hC0 := hC
  obtain ⟨hx, hb, hr, hml, hown, hnm, hlk, hts, hK, hG, hA, hH, hS, hl, hc1, hc2⟩ := hC
  obtain ⟨ws, hP, hD, hh⟩ := hH
  obtain ⟨k0, hk0⟩ := (hh q _).mp hq
  exact va_get hx hb hts hin hown hK hP k0 hk0 hc k hk (hts _ hlink) (fun x9 h9 => u_same (hts _ hsm) x9 h9) hv hd (kk p l e s m args below meth c H locs cells slots mc ms A ls hC0)

theorem ev_put {q ci N idx k : Nat} {C : String} {T : u_T} {fs : List Value} {v : Value} (hin : ∀ w ∈ u_ws C T N, w ∈ TB) (hc : vwCl[ci]? = some (C, T, N)) (hk : k < N) (ty0 : Nat → FieldType) (hty : ∀ k, k < N → parseFieldDescriptor (T k).2.2.1 = some (ty0 k)) (hnm0 : ∀ a, a < N → ∀ b, b < N → a ≠ b → (T a).2.1 ≠ (T b).2.1) (hlink : Cond.fieldLink own idx (T k).1 (T k).2.1 (T k).2.2.1 ∈ TB) (hfin : (T k).2.2.2 = false) (hn : narrow (ty0 k) v = v) (hfit : fits (ty0 k) v = true) (hd : decode cc pc = .ok (.putfield idx, 3)) (hq : h q = some (ob ci fs)) (hl0 : k < fs.length) (kk : Ev E own cc nL ret mn Q d kc ks (pc + 3) L st (ah_up h q (ob ci (fs.set k v)))) : Ev E own cc nL ret mn Q d kc ks pc L (v :: .ref q :: st) h := by
  intro p l e s m args below meth c H locs cells slots mc ms A ls hC
  have hC0 := hC
  obtain ⟨hx, hb, hr, hml, hown, hnm, hlk, hts, hK, hG, hA, hH, hS, hl, hc1, hc2⟩ := hC
  obtain ⟨ws, hP, hD, hh⟩ := hH
  obtain ⟨k0, hk0⟩ := (hh q _).mp hq
  exact va_put hx hb hts hin ty0 hty hnm0 hown hK hP hD hS k0 hk0 hc k hk (hts _ hlink) (fun _ h9 => h9) hfin (hty k hk) hn hfit hl0 hd (fun H1 locs1 hP1 hD1 hS1 => kk p l e s m args below meth c H1 locs1 cells slots mc ms A ls (hC0.heap' ⟨_, hP1, hD1, Hold.set (D := E.1) hD hh hk0⟩ hS1))

theorem ev_putF {q ci N idx k : Nat} {C : String} {T : u_T} {fs : List Value} {v : Value} (hin : ∀ w ∈ u_ws C T N, w ∈ TB) (hc : vwCl[ci]? = some (C, T, N)) (hk : k < N) (ty0 : Nat → FieldType) (hty : ∀ k, k < N → parseFieldDescriptor (T k).2.2.1 = some (ty0 k)) (hnm0 : ∀ a, a < N → ∀ b, b < N → a ≠ b → (T a).2.1 ≠ (T b).2.1) (hlink : Cond.fieldLink own idx (T k).1 (T k).2.1 (T k).2.2.1 ∈ TB) (hfin : (T k).2.2.2 = true) (hmn : mn = "<init>") (hown0 : (T k).1 = own) (hn : narrow (ty0 k) v = v) (hfit : fits (ty0 k) v = true) (hd : decode cc pc = .ok (.putfield idx, 3)) (hq : h q = some (ob ci fs)) (hl0 : k < fs.length) (kk : Ev E own cc nL ret mn Q d kc ks (pc + 3) L st (ah_up h q (ob ci (fs.set k v)))) : Ev E own cc nL ret mn Q d kc ks pc L (v :: .ref q :: st) h := by
  intro p l e s m args below meth c H locs cells slots mc ms A ls hC
  have hC0 := hC
  obtain ⟨hx, hb, hr, hml, hown, hnm, hlk, hts, hK, hG, hA, hH, hS, hl, hc1, hc2⟩ := hC
  obtain ⟨ws, hP, hD, hh⟩ := hH
  obtain ⟨k0, hk0⟩ := (hh q _).mp hq
  exact va_putF hx hb hts hin ty0 hty hnm0 hown hK hP hD hS k0 hk0 hc k hk (hts _ hlink) (fun _ h9 => h9) hfin (hnm.trans hmn) hown0 (hty k hk) hn hfit hl0 hd (fun H1 locs1 hP1 hD1 hS1 => kk p l e s m args below meth c H1 locs1 cells slots mc ms A ls (hC0.heap' ⟨_, hP1, hD1, Hold.set (D := E.1) hD hh hk0⟩ hS1))

theorem ev_iaload {q n : Nat} {f : Int → Int} {z : Int} (hd : decode cc pc = .ok (.iaload, 1)) (hq : h q = some (arI E n f)) (hn : n < 2 ^ 31) (h0 : 0 ≤ z) (h1 : z < n) (kk : Ev E own cc nL ret mn Q d kc ks (pc + 1) L (vI (f z) :: st) h) : Ev E own cc nL ret mn Q d kc ks pc L (vI z :: .ref q :: st) h := by
  intro p l e s m args below meth c H locs cells slots mc ms A ls hC
  have hC0 := hC
  obtain ⟨hx, hb, hr, hml, hown, hnm, hlk, hts, hK, hG, hA, hH, hS, hl, hc1, hc2⟩ := hC
  obtain ⟨ws, hP, hD, hh⟩ := hH
  obtain ⟨k0, hk0⟩ := (hh q _).mp hq
  have hz : InR z := by unfold InR; omega
  refine va_iald hx hb hK hP k0 0 hk0 rfl (vp_in_iI h0 h1 hn) hd ?_
  rw [iI_nat h0 hz, Int.toNat_of_nonneg h0]
  exact kk p l e s m args below meth c H locs cells slots mc ms A ls hC0

theorem ev_iastore {q n : Nat} {f : Int → Int} {z w : Int} (hd : decode cc pc = .ok (.iastore, 1)) (hq : h q = some (arI E n f)) (hn : n < 2 ^ 31) (h0 : 0 ≤ z) (h1 : z < n) (kk : Ev E own cc nL ret mn Q d kc ks (pc + 1) L st (ah_up h q (arI E n (updZ f z w)))) : Ev E own cc nL ret mn Q d kc ks pc L (vI w :: vI z :: .ref q :: st) h := by
  intro p l e s m args below meth c H locs cells slots mc ms A ls hC
  have hC0 := hC
  obtain ⟨hx, hb, hr, hml, hown, hnm, hlk, hts, hK, hG, hA, hH, hS, hl, hc1, hc2⟩ := hC
  obtain ⟨ws, hP, hD, hh⟩ := hH
  obtain ⟨k0, hk0⟩ := (hh q _).mp hq
  have hz : InR z := by unfold InR; omega
  have e1 : upd (fun j => iI (f (j : Int))) (iI z).toNatClampNeg (iI w) = fun j : Nat => iI (updZ f z w (j : Int)) := by
    funext j
    unfold upd updZ
    rw [iI_nat h0 hz]
    by_cases hj : j = z.toNat
    · rw [if_pos hj, if_pos (by omega)]
    · rw [if_neg hj, if_neg (by omega)]
  refine va_iast hx hb hK hP hD hS k0 0 hk0 rfl (vp_in_iI h0 h1 hn) hd (fun H1 locs1 hP1 hD1 hS1 => ?_)
  rw [e1] at hP1 hD1
  exact kk p l e s m args below meth c H1 locs1 cells slots mc ms A ls (hC0.heap' ⟨_, hP1, hD1, Hold.set (D := E.1) hD hh hk0⟩ hS1)

theorem ev_aaload {q n t : Nat} {C : String} {f : Int → Option Nat} {z : Int} (ht : (tysA E.2.1)[t]? = some (E.2.1 t, .object C)) (hd : decode cc pc = .ok (.aaload, 1)) (hq : h q = some (arR E t n f)) (hn : n < 2 ^ 31) (h0 : 0 ≤ z) (h1 : z < n) (kk : Ev E own cc nL ret mn Q d kc ks (pc + 1) L (va_rf (f z) :: st) h) : Ev E own cc nL ret mn Q d kc ks pc L (vI z :: .ref q :: st) h := by
  intro p l e s m args below meth c H locs cells slots mc ms A ls hC
  have hC0 := hC
  obtain ⟨hx, hb, hr, hml, hown, hnm, hlk, hts, hK, hG, hA, hH, hS, hl, hc1, hc2⟩ := hC
  obtain ⟨ws, hP, hD, hh⟩ := hH
  obtain ⟨k0, hk0⟩ := (hh q _).mp hq
  have hz : InR z := by unfold InR; omega
  refine va_aldq hx hb hK hP k0 t hk0 ht (vp_in_iI h0 h1 hn) hd ?_
  rw [iI_nat h0 hz, Int.toNat_of_nonneg h0]
  exact kk p l e s m args below meth c H locs cells slots mc ms A ls hC0

theorem ev_aastoreN {q n t : Nat} {C : String} {f : Int → Option Nat} {z : Int} (ht : (tysA E.2.1)[t]? = some (E.2.1 t, .object C)) (hd : decode cc pc = .ok (.aastore, 1)) (hq : h q = some (arR E t n f)) (hn : n < 2 ^ 31) (h0 : 0 ≤ z) (h1 : z < n) (kk : Ev E own cc nL ret mn Q d kc ks (pc + 1) L st (ah_up h q (arR E t n (updR f z none)))) : Ev E own cc nL ret mn Q d kc ks pc L (.null :: vI z :: .ref q :: st) h := by
  intro p l e s m args below meth c H locs cells slots mc ms A ls hC
  have hC0 := hC
  obtain ⟨hx, hb, hr, hml, hown, hnm, hlk, hts, hK, hG, hA, hH, hS, hl, hc1, hc2⟩ := hC
  obtain ⟨ws, hP, hD, hh⟩ := hH
  obtain ⟨k0, hk0⟩ := (hh q _).mp hq
  have hz : InR z := by unfold InR; omega
  have e1 : va_up (fun j : Nat => f (j : Int)) (iI z).toNatClampNeg none = fun j : Nat => updR f z none (j : Int) := by
    funext j
    unfold va_up updR
    rw [iI_nat h0 hz]
    by_cases hj : j = z.toNat
    · rw [if_pos hj, if_pos (by omega)]
    · rw [if_neg hj, if_neg (by omega)]
  refine va_astqN hx hb hK hP hD hS k0 t hk0 ht (vp_in_iI h0 h1 hn) hd (fun H1 locs1 hP1 hD1 hS1 => ?_)
  rw [e1] at hP1 hD1
  exact kk p l e s m args below meth c H1 locs1 cells slots mc ms A ls (hC0.heap' ⟨_, hP1, hD1, Hold.set (D := E.1) hD hh hk0⟩ hS1)

theorem ev_aastore {q n t v ci : Nat} {r : vw_C} {vs : List Value} {f : Int → Option Nat} {z : Int} (hc : vwCl[ci]? = some r) (ht : (tysA E.2.1)[t]? = some (E.2.1 t, .object r.1)) (hd : decode cc pc = .ok (.aastore, 1)) (hq : h q = some (arR E t n f)) (hv : h v = some (ob ci vs)) (hn : n < 2 ^ 31) (h0 : 0 ≤ z) (h1 : z < n) (kk : Ev E own cc nL ret mn Q d kc ks (pc + 1) L st (ah_up h q (arR E t n (updR f z (some v))))) : Ev E own cc nL ret mn Q d kc ks pc L (.ref v :: vI z :: .ref q :: st) h := by
  intro p l e s m args below meth c H locs cells slots mc ms A ls hC
  have hC0 := hC
  obtain ⟨hx, hb, hr, hml, hown, hnm, hlk, hts, hK, hG, hA, hH, hS, hl, hc1, hc2⟩ := hC
  obtain ⟨ws, hP, hD, hh⟩ := hH
  obtain ⟨k0, hk0⟩ := (hh q _).mp hq
  have hz : InR z := by unfold InR; omega
  have e1 : va_up (fun j : Nat => f (j : Int)) (iI z).toNatClampNeg (some v) = fun j : Nat => updR f z (some v) (j : Int) := by
    funext j
    unfold va_up updR
    rw [iI_nat h0 hz]
    by_cases hj : j = z.toNat
    · rw [if_pos hj, if_pos (by omega)]
    · rw [if_neg hj, if_neg (by omega)]
  obtain ⟨k1, hk1⟩ := (hh v _).mp hv
  refine va_astq hx hb hK hP hD hS k0 t k1 ci hk0 ht hk1 hc (vp_in_iI h0 h1 hn) hd (fun H1 locs1 hP1 hD1 hS1 => ?_)
  rw [e1] at hP1 hD1
  exact kk p l e s m args below meth c H1 locs1 cells slots mc ms A ls (hC0.heap' ⟨_, hP1, hD1, Hold.set (D := E.1) hD hh hk0⟩ hS1)

theorem ev_aastoreO {q n t v ci : Nat} {r : vw_C} {C : String} {vs : List Value} {f : Int → Option Nat} {z : Int} (hc : vwCl[ci]? = some r) (hca : (r.1, C) ∈ glC) (ht : (tysA E.2.1)[t]? = some (E.2.1 t, .object C)) (hd : decode cc pc = .ok (.aastore, 1)) (hq : h q = some (arR E t n f)) (hv : h v = some (ob ci vs)) (hn : n < 2 ^ 31) (h0 : 0 ≤ z) (h1 : z < n) (kk : Ev E own cc nL ret mn Q d kc ks (pc + 1) L st (ah_up h q (arR E t n (updR f z (some v))))) : Ev E own cc nL ret mn Q d kc ks pc L (.ref v :: vI z :: .ref q :: st) h := by
  intro p l e s m args below meth c H locs cells slots mc ms A ls hC
  have hC0 := hC
  obtain ⟨hx, hb, hr, hml, hown, hnm, hlk, hts, hK, hG, hA, hH, hS, hl, hc1, hc2⟩ := hC
  obtain ⟨ws, hP, hD, hh⟩ := hH
  obtain ⟨k0, hk0⟩ := (hh q _).mp hq
  have hz : InR z := by unfold InR; omega
  have e1 : va_up (fun j : Nat => f (j : Int)) (iI z).toNatClampNeg (some v) = fun j : Nat => updR f z (some v) (j : Int) := by
    funext j
    unfold va_up updR
    rw [iI_nat h0 hz]
    by_cases hj : j = z.toNat
    · rw [if_pos hj, if_pos (by omega)]
    · rw [if_neg hj, if_neg (by omega)]
  obtain ⟨k1, hk1⟩ := (hh v _).mp hv
  refine va_astqO hx hb hK hP hD hS k0 t k1 ci hk0 ht (hG.2.1 _ hca) hk1 hc (vp_in_iI h0 h1 hn) hd (fun H1 locs1 hP1 hD1 hS1 => ?_)
  rw [e1] at hP1 hD1
  exact kk p l e s m args below meth c H1 locs1 cells slots mc ms A ls (hC0.heap' ⟨_, hP1, hD1, Hold.set (D := E.1) hD hh hk0⟩ hS1)

theorem ev_alen {q n : Nat} {f : Int → Int} (hd : decode cc pc = .ok (.arraylength, 1)) (hq : h q = some (arI E n f)) (kk : Ev E own cc nL ret mn Q d kc ks (pc + 1) L (vI (n : Int) :: st) h) : Ev E own cc nL ret mn Q d kc ks pc L (.ref q :: st) h := by
  intro p l e s m args below meth c H locs cells slots mc ms A ls hC
  have hC0 := hC
  obtain ⟨hx, hb, hr, hml, hown, hnm, hlk, hts, hK, hG, hA, hH, hS, hl, hc1, hc2⟩ := hC
  obtain ⟨ws, hP, hD, hh⟩ := hH
  obtain ⟨k0, hk0⟩ := (hh q _).mp hq
  exact va_alen hx hb hK hP k0 0 hk0 rfl (v := iI (n : Int)) (Int32.ofInt_eq_ofNat).symm hd (kk p l e s m args below meth c H locs cells slots mc ms A ls hC0)

theorem ev_gets {C n : String} {a idx : Nat} (hlink : Cond.fieldLink own idx C n "[I" ∈ TB) (hd : decode cc pc = .ok (.getstatic idx, 3)) (hz : ∀ A U H, Gl E A U H → va_Z C n "[I" (.ref a) A U H) (kk : Ev E own cc nL ret mn Q d kc ks (pc + 3) L (.ref a :: st) h) : Ev E own cc nL ret mn Q d kc ks pc L st h := by
  intro p l e s m args below meth c H locs cells slots mc ms A ls hC
  have hC0 := hC
  obtain ⟨hx, hb, hr, hml, hown, hnm, hlk, hts, hK, hG, hA, hH, hS, hl, hc1, hc2⟩ := hC
  exact va_gets hx hb (hz _ _ _ hG) hS hown (hts _ hlink) (fun _ h9 => h9) hd (kk p l e s m args below meth c H locs cells slots mc ms A ls hC0)

theorem ev_tload {t n : Nat} {f : Int → Int} {z : Int} (hd : decode cc pc = .ok (.iaload, 1)) (hT : ∀ A U H, Gl E A U H → va_T .int t n (fun j => vI (f (j : Int))) A U H) (hn : n < 2 ^ 31) (h0 : 0 ≤ z) (h1 : z < n) (kk : Ev E own cc nL ret mn Q d kc ks (pc + 1) L (vI (f z) :: st) h) : Ev E own cc nL ret mn Q d kc ks pc L (vI z :: .ref t :: st) h := by
  intro p l e s m args below meth c H locs cells slots mc ms A ls hC
  have hC0 := hC
  obtain ⟨hx, hb, hr, hml, hown, hnm, hlk, hts, hK, hG, hA, hH, hS, hl, hc1, hc2⟩ := hC
  have hz : InR z := by unfold InR; omega
  exact va_ti hx hb (hT _ _ _ hG) hS (vp_in_iI h0 h1 hn) (by rw [iI_nat h0 hz, Int.toNat_of_nonneg h0]) hd (kk p l e s m args below meth c H locs cells slots mc ms A ls hC0)

theorem ev_new {ci N idx : Nat} {C : String} {T : u_T} {fs : List Value} (hin : ∀ w ∈ u_ws C T N, w ∈ TB) (ty0 : Nat → FieldType) (hty : ∀ k, k < N → parseFieldDescriptor (T k).2.2.1 = some (ty0 k)) (hcl : Cond.classLink own idx C ∈ TB) (hinst : Cond.instantiable C N ∈ TB) (hini : Cond.initialized C ∈ TB) (hc : vwCl[ci]? = some (C, T, N)) (hfs : ∀ j, j < N → defaultValue (ty0 j) = vp_V fs j) (hd : decode cc pc = .ok (.new idx, 3)) (kk : ∀ q, h q = none → Ev E own cc nL ret mn Q d kc ks (pc + 3) L (.ref q :: st) (ah_up h q (ob ci fs))) : Ev E own cc nL ret mn Q d (kc + 1) (ks + N) pc L st h := by
  intro p l e s m args below meth c H locs cells slots mc ms A ls hC
  have hC0 := hC
  obtain ⟨hx, hb, hr, hml, hown, hnm, hlk, hts, hK, hG, hA, hH, hS, hl, hc1, hc2⟩ := hC
  obtain ⟨ws, hP, hD, hh⟩ := hH
  refine va_new hx hb hts hin ty0 hty hown (hts _ hcl) (hts _ hinst) (hts _ hini) hK hP hD hS hA hc hfs (by show cells + 1 ≤ mc; omega) (by show slots + N ≤ ms; omega) hd (fun q H1 hP1 hD1 hS1 => ?_)
  obtain ⟨e1, e2⟩ := Hold.push (D := E.1) hD1 hh
  exact kk q e1 p l e s m args below meth c H1 locs (cells + 1) (slots + N) mc ms A ls (hC0.grow' rfl rfl ⟨_, hP1, hD1, e2⟩ hS1)

theorem va_K.cls {D : va_G} {cl : List vw_C} {G : Nat → ClassId} {s : State} {cA : ClassId} (hK : va_K D cl (tysA G) s) {tys' : List (ClassId × FieldType)} (hK2 : va_K D cl (tys' ++ [(cA, .int)]) s) : cA = G 0 := by
  have h1 := (hK.2 0 _ rfl).2
  have h2 := (hK2.2 tys'.length (cA, .int) (by simp)).2
  have h3 : s.vm.findClass ("[" ++ FieldType.int.toString) = some (G 0) := h1
  have h4 : s.vm.findClass ("[" ++ FieldType.int.toString) = some cA := h2
  rw [h3] at h4
  cases h4
  rfl
theorem va_K.clsO {D : va_G} {cl : List vw_C} {G : Nat → ClassId} {s : State} {cA : ClassId} {t : Nat} {C : String} (hK : va_K D cl (tysA G) s) (ht : (tysA G)[t]? = some (G t, .object C)) {tys' : List (ClassId × FieldType)} (hK2 : va_K D cl (tys' ++ [(cA, .object C)]) s) : cA = G t := by
  obtain ⟨_, _, _, _, _, h3⟩ := (hK.2 t _ ht).2
  obtain ⟨_, _, _, _, _, h4⟩ := (hK2.2 tys'.length (cA, .object C) (by simp)).2
  rw [h3] at h4
  cases h4
  rfl

theorem ev_newI {n : Nat} (ha : Cond.arrayClass .int ∈ TB) (hn : n < 65536) (hd : decode cc pc = .ok (.newarray .int, 2)) (kk : ∀ q, h q = none → Ev E own cc nL ret mn Q d kc ks (pc + 2) L (.ref q :: st) (ah_up h q (arI E n (fun _ => 0)))) : Ev E own cc nL ret mn Q d (kc + 1) (ks + n) pc L (vI (n : Int) :: st) h := by
  intro p l e s m args below meth c H locs cells slots mc ms A ls hC
  have hC0 := hC
  obtain ⟨hx, hb, hr, hml, hown, hnm, hlk, hts, hK, hG, hA, hH, hS, hl, hc1, hc2⟩ := hC
  obtain ⟨ws, hP, hD, hh⟩ := hH
  have hz : InR (n : Int) := by unfold InR; omega
  have hnn : ¬ iI (n : Int) < 0 := fun z => by have := (iI_lt hz (by decide : InR 0)).mp z; omega
  refine va_newa (atype := .int) (N' := n) (a0 := (n, .inl (fun _ => iI 0))) hx hb (hts _ ha) rfl hK hP hD hS hA (fun cA => rfl) hnn (by rw [iI_nat (by omega) hz]; exact Int.toNat_natCast n) (by have e4 : componentBytes (newarray.typeOf ArrayType.int) = 4 := rfl; rw [e4]; omega) (by show cells + 1 ≤ mc; omega) (by show slots + n ≤ ms; omega) hd (fun q cA H1 hK1 hP1 hD1 hS1 => ?_)
  have e0 := hK.cls hK1
  subst e0
  obtain ⟨e1, e2⟩ := Hold.push (D := E.1) hD1 hh
  exact kk q e1 p l e s m args below meth c H1 locs (cells + 1) (slots + n) mc ms A ls (hC0.grow' rfl rfl ⟨_, hP1, hD1, e2⟩ hS1)

theorem ev_newR {n t idx : Nat} {C : String} (ht : (tysA E.2.1)[t]? = some (E.2.1 t, .object C)) (hcl : Cond.classLink own idx C ∈ TB) (ho : C ∈ glO) (hn : n < 65536) (hd : decode cc pc = .ok (.anewarray idx, 3)) (kk : ∀ q, h q = none → Ev E own cc nL ret mn Q d kc ks (pc + 3) L (.ref q :: st) (ah_up h q (arR E t n (fun _ => none)))) : Ev E own cc nL ret mn Q d (kc + 1) (ks + n) pc L (vI (n : Int) :: st) h := by
  intro p l e s m args below meth c H locs cells slots mc ms A ls hC
  have hC0 := hC
  obtain ⟨hx, hb, hr, hml, hown, hnm, hlk, hts, hK, hG, hA, hH, hS, hl, hc1, hc2⟩ := hC
  obtain ⟨ws, hP, hD, hh⟩ := hH
  have hz : InR (n : Int) := by unfold InR; omega
  have hnn : ¬ iI (n : Int) < 0 := fun z => by have := (iI_lt hz (by decide : InR 0)).mp z; omega
  refine va_newq (N' := n) hx hb hown (hts _ hcl) (hG.2.2.2.1 _ ho) hK hP hD hS hA hnn (by rw [iI_nat (by omega) hz]; exact Int.toNat_natCast n) (by omega) (by show cells + 1 ≤ mc; omega) (by show slots + n ≤ ms; omega) hd (fun q cA H1 hK1 hP1 hD1 hS1 => ?_)
  have e0 := hK.clsO ht hK1
  subst e0
  obtain ⟨e1, e2⟩ := Hold.push (D := E.1) hD1 hh
  exact kk q e1 p l e s m args below meth c H1 locs (cells + 1) (slots + n) mc ms A ls (hC0.grow' rfl rfl ⟨_, hP1, hD1, e2⟩ hS1)

theorem ev_instY {q ci idx : Nat} {r : vw_C} {C : String} {fs : List Value} (hc : vwCl[ci]? = some r) (hca : (r.1, C) ∈ glC) (hcl : Cond.classLink own idx C ∈ TB) (hd : decode cc pc = .ok (.instanceof idx, 3)) (hq : h q = some (ob ci fs)) (kk : Ev E own cc nL ret mn Q d kc ks (pc + 3) L (vI 1 :: st) h) : Ev E own cc nL ret mn Q d kc ks pc L (.ref q :: st) h := by
  intro p l e s m args below meth c H locs cells slots mc ms A ls hC
  have hC0 := hC
  obtain ⟨hx, hb, hr, hml, hown, hnm, hlk, hts, hK, hG, hA, hH, hS, hl, hc1, hc2⟩ := hC
  obtain ⟨ws, hP, hD, hh⟩ := hH
  obtain ⟨k0, hk0⟩ := (hh q _).mp hq
  have hrv := va_recv hK hP hc hk0
  exact va_instY hx hb hown (hts _ hcl) (hG.2.1 _ hca) hrv hd (kk p l e s m args below meth c H locs cells slots mc ms A ls hC0)

theorem ev_instNo {q ci idx : Nat} {r : vw_C} {C : String} {fs : List Value} (hc : vwCl[ci]? = some r) (hca : (r.1, C) ∈ glN) (hcl : Cond.classLink own idx C ∈ TB) (hd : decode cc pc = .ok (.instanceof idx, 3)) (hq : h q = some (ob ci fs)) (kk : Ev E own cc nL ret mn Q d kc ks (pc + 3) L (vI 0 :: st) h) : Ev E own cc nL ret mn Q d kc ks pc L (.ref q :: st) h := by
  intro p l e s m args below meth c H locs cells slots mc ms A ls hC
  have hC0 := hC
  obtain ⟨hx, hb, hr, hml, hown, hnm, hlk, hts, hK, hG, hA, hH, hS, hl, hc1, hc2⟩ := hC
  obtain ⟨ws, hP, hD, hh⟩ := hH
  obtain ⟨k0, hk0⟩ := (hh q _).mp hq
  have hrv := va_recv hK hP hc hk0
  exact va_instNo hx hb hown (hts _ hcl) (hG.2.2.1 _ hca) hrv hd (kk p l e s m args below meth c H locs cells slots mc ms A ls hC0)

theorem ev_castY {q ci idx : Nat} {r : vw_C} {C : String} {fs : List Value} (hc : vwCl[ci]? = some r) (hca : (r.1, C) ∈ glC) (hcl : Cond.classLink own idx C ∈ TB) (hd : decode cc pc = .ok (.checkcast idx, 3)) (hq : h q = some (ob ci fs)) (kk : Ev E own cc nL ret mn Q d kc ks (pc + 3) L (.ref q :: st) h) : Ev E own cc nL ret mn Q d kc ks pc L (.ref q :: st) h := by
  intro p l e s m args below meth c H locs cells slots mc ms A ls hC
  have hC0 := hC
  obtain ⟨hx, hb, hr, hml, hown, hnm, hlk, hts, hK, hG, hA, hH, hS, hl, hc1, hc2⟩ := hC
  obtain ⟨ws, hP, hD, hh⟩ := hH
  obtain ⟨k0, hk0⟩ := (hh q _).mp hq
  have hrv := va_recv hK hP hc hk0
  exact va_castY hx hb hown (hts _ hcl) (hG.2.1 _ hca) hrv hd (kk p l e s m args below meth c H locs cells slots mc ms A ls hC0)

theorem ev_instS {q ci idx : Nat} {r : vw_C} {fs : List Value} (hc : vwCl[ci]? = some r) (hcl : Cond.classLink own idx r.1 ∈ TB) (hd : decode cc pc = .ok (.instanceof idx, 3)) (hq : h q = some (ob ci fs)) (kk : Ev E own cc nL ret mn Q d kc ks (pc + 3) L (vI 1 :: st) h) : Ev E own cc nL ret mn Q d kc ks pc L (.ref q :: st) h := by
  intro p l e s m args below meth c H locs cells slots mc ms A ls hC
  have hC0 := hC
  obtain ⟨hx, hb, hr, hml, hown, hnm, hlk, hts, hK, hG, hA, hH, hS, hl, hc1, hc2⟩ := hC
  obtain ⟨ws, hP, hD, hh⟩ := hH
  obtain ⟨k0, hk0⟩ := (hh q _).mp hq
  have hrv := va_recv hK hP hc hk0
  exact va_instS hx hb hown (hts _ hcl) (hK.1 ci _ hc).2 hrv hd (kk p l e s m args below meth c H locs cells slots mc ms A ls hC0)

theorem ev_castS {q ci idx : Nat} {r : vw_C} {fs : List Value} (hc : vwCl[ci]? = some r) (hcl : Cond.classLink own idx r.1 ∈ TB) (hd : decode cc pc = .ok (.checkcast idx, 3)) (hq : h q = some (ob ci fs)) (kk : Ev E own cc nL ret mn Q d kc ks (pc + 3) L (.ref q :: st) h) : Ev E own cc nL ret mn Q d kc ks pc L (.ref q :: st) h := by
  intro p l e s m args below meth c H locs cells slots mc ms A ls hC
  have hC0 := hC
  obtain ⟨hx, hb, hr, hml, hown, hnm, hlk, hts, hK, hG, hA, hH, hS, hl, hc1, hc2⟩ := hC
  obtain ⟨ws, hP, hD, hh⟩ := hH
  obtain ⟨k0, hk0⟩ := (hh q _).mp hq
  have hrv := va_recv hK hP hc hk0
  exact va_castS hx hb hown (hts _ hcl) (hK.1 ci _ hc).2 hrv hd (kk p l e s m args below meth c H locs cells slots mc ms A ls hC0)

theorem ev_ireturn {z : Int} (hd : decode cc pc = .ok (.ireturn, 1)) (hq : Q (some (vI z)) h) : Ev E own cc nL (some .int) mn Q d kc ks pc L [vI z] h := by
  intro p l e s m args below meth c H locs cells slots mc ms A ls hC
  have hC0 := hC
  obtain ⟨hx, hb, hr, hml, hown, hnm, hlk, hts, hK, hG, hA, hH, hS, hl, hc1, hc2⟩ := hC
  refine W.widen (k := mc) (n := ms) (by omega) (by omega) ?_
  exact W.iret hx hb hr (fun t ht hW => ⟨⟨_, h, rfl, hq, by rw [ht]; exact hH, va_K.moved hW.alike hK⟩, hS.F ht⟩) hS.2.2 hd

theorem ev_lreturn {z : Int} (hd : decode cc pc = .ok (.lreturn, 1)) (hq : Q (some (vL z)) h) : Ev E own cc nL (some .long) mn Q d kc ks pc L [vL z] h := by
  intro p l e s m args below meth c H locs cells slots mc ms A ls hC
  have hC0 := hC
  obtain ⟨hx, hb, hr, hml, hown, hnm, hlk, hts, hK, hG, hA, hH, hS, hl, hc1, hc2⟩ := hC
  refine W.widen (k := mc) (n := ms) (by omega) (by omega) ?_
  exact W.lret hx hb hr (fun t ht hW => ⟨⟨_, h, rfl, hq, by rw [ht]; exact hH, va_K.moved hW.alike hK⟩, hS.F ht⟩) hS.2.2 hd

theorem ev_dreturn {x : UInt64} (hd : decode cc pc = .ok (.dreturn, 1)) (hq : Q (some (.double x)) h) : Ev E own cc nL (some .double) mn Q d kc ks pc L [.double x] h := by
  intro p l e s m args below meth c H locs cells slots mc ms A ls hC
  have hC0 := hC
  obtain ⟨hx, hb, hr, hml, hown, hnm, hlk, hts, hK, hG, hA, hH, hS, hl, hc1, hc2⟩ := hC
  refine W.widen (k := mc) (n := ms) (by omega) (by omega) ?_
  exact W.dret hx hb hr (fun t ht hW => ⟨⟨_, h, rfl, hq, by rw [ht]; exact hH, va_K.moved hW.alike hK⟩, hS.F ht⟩) hS.2.2 hd

theorem ev_return  (hd : decode cc pc = .ok (.return_, 1)) (hq : Q (none) h) : Ev E own cc nL (none) mn Q d kc ks pc L [] h := by
  intro p l e s m args below meth c H locs cells slots mc ms A ls hC
  have hC0 := hC
  obtain ⟨hx, hb, hr, hml, hown, hnm, hlk, hts, hK, hG, hA, hH, hS, hl, hc1, hc2⟩ := hC
  refine W.widen (k := mc) (n := ms) (by omega) (by omega) ?_
  exact W.vret hx hb hr (fun t ht hW => ⟨⟨_, h, rfl, hq, by rw [ht]; exact hH, va_K.moved hW.alike hK⟩, hS.F ht⟩) hS.2.2 hd

theorem ev_zreturn {z : Int} (hz : z = 0 ∨ z = 1) (hd : decode cc pc = .ok (.ireturn, 1)) (hq : Q (some (vI z)) h) : Ev E own cc nL (some .boolean) mn Q d kc ks pc L [vI z] h := by
  intro p l e s m args below meth c H locs cells slots mc ms A ls hC
  have hC0 := hC
  obtain ⟨hx, hb, hr, hml, hown, hnm, hlk, hts, hK, hG, hA, hH, hS, hl, hc1, hc2⟩ := hC
  refine W.widen (k := mc) (n := ms) (by omega) (by omega) ?_
  have hnw : narrow .boolean (.int (iI z)) = .int (iI z) := by rcases hz with rfl | rfl <;> rfl
  exact W.zret hx hb hr hnw (fun t ht hW => ⟨⟨_, h, rfl, hq, by rw [ht]; exact hH, va_K.moved hW.alike hK⟩, hS.F ht⟩) hS.2.2 hd

theorem ev_areturn {v : Value} {rt : FieldType} (hrt : (∃ n, rt = .object n) ∨ ∃ t, rt = .array t) (hv : v = .null ∨ ∃ a, v = .ref a) (hd : decode cc pc = .ok (.areturn, 1)) (hq : Q (some v) h) : Ev E own cc nL (some rt) mn Q d kc ks pc L [v] h := by
  intro p l e s m args below meth c H locs cells slots mc ms A ls hC
  have hC0 := hC
  obtain ⟨hx, hb, hr, hml, hown, hnm, hlk, hts, hK, hG, hA, hH, hS, hl, hc1, hc2⟩ := hC
  refine W.widen (k := mc) (n := ms) (by omega) (by omega) ?_
  exact W.aret hx hb hr hrt hv (fun t ht hW => ⟨⟨_, h, rfl, hq, by rw [ht]; exact hH, va_K.moved hW.alike hK⟩, hS.F ht⟩) hS.2.2 hd

theorem ev_objInit {q idx : Nat} (hlink : Cond.methodLink own idx objectInit ∈ TB) (hinst : Cond.instanceMethod objectInit ∈ TB) (hcode : Cond.code objectInit ⟨#[0xb1]⟩ 1 none ∈ TB) (hd : decode cc pc = .ok (.invokespecial idx, 3)) (h1 : 1 ≤ d) (hst : (st.map fun v => v.category).sum ≤ 8) (kk : Ev E own cc nL ret mn Q d kc ks (pc + 3) L st h) : Ev E own cc nL ret mn Q d kc ks pc L (.ref q :: st) h := by
  intro p l e s m args below meth c H locs cells slots mc ms A ls hC
  have hC0 := hC
  obtain ⟨hx, hb, hr, hml, hown, hnm, hlk, hts, hK, hG, hA, hH, hS, hl, hc1, hc2⟩ := hC
  refine W.objInit (g := F0 m pc ls (.ref q :: st)) hx hb hown (hts _ hlink) (hts _ hinst) (hts _ hcode) rfl (by rw [hml]; exact hl.1) rfl hd h1 (by have := lv_room (m := m) (pc := pc) (ls := ls) (rest := .ref q :: st) hst; show _ ≤ 64 * d; omega) ?_
  exact kk p l e s m args below meth c H locs cells slots mc ms A ls hC0

theorem Cx.pre {E : EV} {own : String} {cc : ByteArray} {nL : Nat} {ret : Option FieldType} {mn : String} {kc ks : Nat} {L : List (Nat × Value)} {h : AH} {p : Program} {s : State} {m : MethodId} {args : Array Value} {meth : Method} {c : Code} {H : Heap} {locs : List Loc} {cells slots mc ms : Nat} {A : Nat → Prop} {ls : Array Slot} (hC : Cx E own cc nL ret mn kc ks L h p s m args meth c H locs cells slots mc ms A ls) (av : List Value) : PreS s H (va_Pc av (fun U => U.heap.size = H.size ∧ va_K E.1 vwCl (tysA E.2.1) U ∧ Gl E (Fr h H.size) U U.heap ∧ Hold E.1 (Fr h H.size) h U.heap)) av := by
  obtain ⟨hx, hb, hr, hml, hown, hnm, hlk, hts, hK, hG, hA, hH, hS, hl, hc1, hc2⟩ := hC
  refine ⟨fun a U g mk q => ?_, fun U hU hW => ?_⟩
  · obtain ⟨q0, q1, qK, qG, qH⟩ := q
    exact ⟨q0, q1, va_K.moved (u := U) (U := U.calling g mk a) (Vm.Alike.refl U.vm) qK, Gl.same (s := U) (U := U.calling g mk a) rfl qG, qH⟩
  · refine ⟨rfl, by rw [hU], va_K.moved hW.alike hK, ?_, ?_⟩
    · rw [hU]
      refine Gl.warm hW (Gl.kept (A := A) (fun a h1 h2 => hS.2.1 a h1 h2) (fun q hq => ?_) hG)
      rcases hq with hq | hq
      · exact (hH.dom hq).1
      · exact hA q (Nat.le_trans hS.1 hq)
    · rw [hU]
      exact hH.weaken (fun q h1 _ => Or.inl h1)
theorem ev_back {E : EV} {own : String} {cc : ByteArray} {nL : Nat} {ret : Option FieldType} {mn : String} {Q Q1 : Option Value → AH → Prop} {d kc ks kc' ks' kc0 ks0 pc : Nat} {L : List (Nat × Value)} {st0 rest : List Value} {h : AH} {p : Program} {l : Launch} {e : Env} {s : State} {m : MethodId} {args a : Array Value} {below : List Frame} {meth : Method} {c : Code} {H : Heap} {locs : List Loc} {cells slots mc ms : Nat} {A : Nat → Prop} {ls : Array Slot} (hC : Cx E own cc nL ret mn kc0 ks0 L h p s m args meth c H locs cells slots mc ms A ls) (h1 : kc + kc' = kc0) (h2 : ks + ks' = ks0)
    (hr : va_Run p l e (rmD d mc ms) s m args below meth c H locs cells slots kc' ks' (F0 m pc ls st0) rest (QC E (Fr h H.size) Q1 a) (Fr h H.size)) (kk : ∀ r h', Q1 r h' → Ev E own cc nL ret mn Q d kc ks (pc + 3) L (r.toList ++ rest) h') : W p l e (rmD d mc ms) s m args below meth c H locs cells slots (MQ below (QC E A Q) args s mc ms A) (F0 m pc ls st0) := by
  have hC0 := hC
  obtain ⟨hx, hb, hr0, hml, hown, hnm, hlk, hts, hK, hG, hA, hH, hS, hl, hc1, hc2⟩ := hC
  have hF : ∀ q, Fr h H.size q → A q := fun q hq => by
    rcases hq with hq | hq
    · exact (hH.dom hq).1
    · exact hA q (Nat.le_trans hS.1 hq)
  intro T hT X
  obtain ⟨v, st₀, t, T', L', h0, X', hL, e1, e2, ⟨⟨r, h', hv, hq, hH', hK'⟩, hz, hk⟩, stp⟩ := hr T hT X
  cases hv
  rw [h0] at hz hk
  obtain ⟨t2, a1, b1⟩ := kk v h' hq p l e s m args below meth c T'.heap (locs ++ L') (cells + kc') (slots + ks') mc ms A ls (hC0.grow' h1 h2 (by rw [e1]; exact hH'.weaken (fun q _ h3 => hF q h3))
    ⟨Nat.le_trans hS.1 (by rw [e1]; exact hz), fun q g1 g2 => by rw [e1, hk q (Nat.lt_of_lt_of_le g1 hS.1) (fun z => g2 (hF q z))]; exact hS.2.1 q g1 g2, fun q hq => by
      rcases List.mem_append.mp hq with g | g
      · exact hS.2.2 q g
      · exact hF _ (hL q g)⟩) T' rfl X'
  exact ⟨t2, stp t2 a1, b1⟩

theorem ev_callS {y : MethodName} {bc : ByteArray} {maxL n idx kc' ks' d' : Nat} {rt : Option FieldType} {Q1 : Option Value → AH → Prop} {As rest : List Value} {st0 : List Value} (hM : CM E y bc maxL rt d' kc' ks' As h Q1) (hcode : Cond.code y bc maxL rt ∈ TB) (hini : Cond.initialized y.cls ∈ TB) (hlink : Cond.methodLink own idx y ∈ TB) (hstc : Cond.static y ∈ TB) (hdec : y.cls ≠ "java/lang/invoke/MethodHandle" ∧ y.cls ≠ "java/lang/invoke/VarHandle" ∧ (parseMethodDescriptor y.desc).map (fun d => d.parameters.length) = some n) (hlen : As.length = n) (hst : st0 = As.reverse ++ rest) (hrm : (rest.map fun v => v.category).sum ≤ 8) (hd1 : d' + 1 ≤ d) (hmx : maxL ≤ 45) (hd : decode cc pc = .ok (.invokestatic idx, 3)) (kk : ∀ r h', Q1 r h' → Ev E own cc nL ret mn Q d kc ks (pc + 3) L (r.toList ++ rest) h') : Ev E own cc nL ret mn Q d (kc + kc') (ks + ks') pc L st0 h := by
  intro p l e s m args below meth c H locs cells slots mc ms A ls hC
  have hC0 := hC
  obtain ⟨hx, hb, hr, hml, hown, hnm, hlk, hts, hK, hG, hA, hH, hS, hl, hc1, hc2⟩ := hC
  exact ev_back hC0 rfl rfl (va_runS (Ts := TB) (As := As) (rest := rest) ⟨hx, hb, hml, hown, hts⟩ (hM l H.size) ⟨callB_of n hts (TB_good hcode) rfl rfl rfl (hts _ hini) (hts _ hlink) hdec ⟨by show d' + 1 ≤ d; exact hd1, by show 8 + (maxL + 11) + 64 * d' ≤ 64 * d; omega⟩, hts _ hstc⟩ (hC0.pre As) rfl hlen hl.1 hst (lv_room hrm) hd ⟨by show cells + kc' ≤ mc; omega, by show slots + ks' ≤ ms; omega⟩) kk

theorem ev_callSN {y : MethodName} {bc : ByteArray} {maxL n idx kc' ks' d' : Nat} {rt : Option FieldType} {Q1 : Option Value → AH → Prop} {As rest : List Value} {st0 : List Value} (hM : CM E y bc maxL rt d' kc' ks' As h Q1) (hcode : Cond.code y bc maxL rt ∈ TB) (hini : Cond.initialized y.cls ∈ TB) (hlink : (own, idx, y) ∈ glM) (hstc : Cond.static y ∈ TB) (hdec : y.cls ≠ "java/lang/invoke/MethodHandle" ∧ y.cls ≠ "java/lang/invoke/VarHandle" ∧ (parseMethodDescriptor y.desc).map (fun d => d.parameters.length) = some n) (hlen : As.length = n) (hst : st0 = As.reverse ++ rest) (hrm : (rest.map fun v => v.category).sum ≤ 8) (hd1 : d' + 1 ≤ d) (hmx : maxL ≤ 45) (hd : decode cc pc = .ok (.invokestatic idx, 3)) (kk : ∀ r h', Q1 r h' → Ev E own cc nL ret mn Q d kc ks (pc + 3) L (r.toList ++ rest) h') : Ev E own cc nL ret mn Q d (kc + kc') (ks + ks') pc L st0 h := by
  intro p l e s m args below meth c H locs cells slots mc ms A ls hC
  have hC0 := hC
  obtain ⟨hx, hb, hr, hml, hown, hnm, hlk, hts, hK, hG, hA, hH, hS, hl, hc1, hc2⟩ := hC
  exact ev_back hC0 rfl rfl (va_runSN (Ts := TB) (As := As) (rest := rest) ⟨hx, hb, hml, hown, hts⟩ (hM l H.size) ⟨va_cnB (own := own) (index := idx) n hts (TB_good hcode) rfl rfl rfl (hG.1 (own, idx, y) hlink) (hts _ hini) hdec ⟨by show d' + 1 ≤ d; exact hd1, by show 8 + (maxL + 11) + 64 * d' ≤ 64 * d; omega⟩, hts _ hstc, trivial⟩ (hC0.pre As) rfl hlen hl.1 hst (lv_room hrm) hd ⟨by show cells + kc' ≤ mc; omega, by show slots + ks' ≤ ms; omega⟩) kk

theorem ev_callI {y : MethodName} {bc : ByteArray} {maxL n idx kc' ks' d' : Nat} {Q1 : Option Value → AH → Prop} {b : Nat} {As rest : List Value} {st0 : List Value} (hM : CM E y bc maxL none d' kc' ks' (.ref b :: As) h Q1) (hcode : Cond.code y bc maxL none ∈ TB) (hini : Cond.initialized y.cls ∈ TB) (hlink : Cond.methodLink own idx y ∈ TB) (hinst : Cond.instanceMethod y ∈ TB) (hyn : y.name = "<init>") (hdec : y.cls ≠ "java/lang/invoke/MethodHandle" ∧ y.cls ≠ "java/lang/invoke/VarHandle" ∧ (parseMethodDescriptor y.desc).map (fun d => d.parameters.length) = some n) (hlen : As.length = n) (hst : st0 = As.reverse ++ .ref b :: rest) (hrm : (rest.map fun v => v.category).sum ≤ 8) (hd1 : d' + 1 ≤ d) (hmx : maxL ≤ 45) (hd : decode cc pc = .ok (.invokespecial idx, 3)) (kk : ∀ r h', Q1 r h' → Ev E own cc nL ret mn Q d kc ks (pc + 3) L (r.toList ++ rest) h') : Ev E own cc nL ret mn Q d (kc + kc') (ks + ks') pc L st0 h := by
  intro p l e s m args below meth c H locs cells slots mc ms A ls hC
  have hC0 := hC
  obtain ⟨hx, hb, hr, hml, hown, hnm, hlk, hts, hK, hG, hA, hH, hS, hl, hc1, hc2⟩ := hC
  exact ev_back hC0 rfl rfl (va_runI (Ts := TB) (As := As) (rest := rest) ⟨hx, hb, hml, hown, hts⟩ (hM l H.size) ⟨callB_of n hts (TB_good hcode) rfl rfl rfl (hts _ hini) (hts _ hlink) hdec ⟨by show d' + 1 ≤ d; exact hd1, by show 8 + (maxL + 11) + 64 * d' ≤ 64 * d; omega⟩, hyn, hts _ hinst⟩ (hC0.pre (.ref b :: As)) rfl hlen hl.1 hst (lv_room hrm) hd ⟨by show cells + kc' ≤ mc; omega, by show slots + ks' ≤ ms; omega⟩) kk

theorem ev_callIN {y : MethodName} {bc : ByteArray} {maxL n idx kc' ks' d' : Nat} {Q1 : Option Value → AH → Prop} {b : Nat} {As rest : List Value} {st0 : List Value} (hM : CM E y bc maxL none d' kc' ks' (.ref b :: As) h Q1) (hcode : Cond.code y bc maxL none ∈ TB) (hini : Cond.initialized y.cls ∈ TB) (hlink : (own, idx, y) ∈ glM) (hinst : Cond.instanceMethod y ∈ TB) (hyn : y.name = "<init>") (hdec : y.cls ≠ "java/lang/invoke/MethodHandle" ∧ y.cls ≠ "java/lang/invoke/VarHandle" ∧ (parseMethodDescriptor y.desc).map (fun d => d.parameters.length) = some n) (hlen : As.length = n) (hst : st0 = As.reverse ++ .ref b :: rest) (hrm : (rest.map fun v => v.category).sum ≤ 8) (hd1 : d' + 1 ≤ d) (hmx : maxL ≤ 45) (hd : decode cc pc = .ok (.invokespecial idx, 3)) (kk : ∀ r h', Q1 r h' → Ev E own cc nL ret mn Q d kc ks (pc + 3) L (r.toList ++ rest) h') : Ev E own cc nL ret mn Q d (kc + kc') (ks + ks') pc L st0 h := by
  intro p l e s m args below meth c H locs cells slots mc ms A ls hC
  have hC0 := hC
  obtain ⟨hx, hb, hr, hml, hown, hnm, hlk, hts, hK, hG, hA, hH, hS, hl, hc1, hc2⟩ := hC
  exact ev_back hC0 rfl rfl (va_runIN (Ts := TB) (As := As) (rest := rest) ⟨hx, hb, hml, hown, hts⟩ (hM l H.size) ⟨va_cnB (own := own) (index := idx) n hts (TB_good hcode) rfl rfl rfl (hG.1 (own, idx, y) hlink) (hts _ hini) hdec ⟨by show d' + 1 ≤ d; exact hd1, by show 8 + (maxL + 11) + 64 * d' ≤ 64 * d; omega⟩, hyn, hts _ hinst⟩ (hC0.pre (.ref b :: As)) rfl hlen hl.1 hst (lv_room hrm) hd ⟨by show cells + kc' ≤ mc; omega, by show slots + ks' ≤ ms; omega⟩) kk

theorem ev_callV {y : MethodName} {bc : ByteArray} {maxL n idx kc' ks' d' : Nat} {rt : Option FieldType} {Q1 : Option Value → AH → Prop} {b ci : Nat} {r : vw_C} {fs : List Value} {As rest : List Value} {st0 : List Value} (hM : CM E y bc maxL rt d' kc' ks' (.ref b :: As) h Q1) (hc : vwCl[ci]? = some r) (hq : h b = some (ob ci fs)) (hcode : Cond.code y bc maxL rt ∈ TB) (hini : Cond.initialized y.cls ∈ TB) (hlink : Cond.methodLink own idx y ∈ TB) (hinst : Cond.instanceMethod y ∈ TB) (hsel : Cond.selects r.1 y y ∈ TB) (hdec : y.cls ≠ "java/lang/invoke/MethodHandle" ∧ y.cls ≠ "java/lang/invoke/VarHandle" ∧ (parseMethodDescriptor y.desc).map (fun d => d.parameters.length) = some n) (hlen : As.length = n) (hst : st0 = As.reverse ++ .ref b :: rest) (hrm : (rest.map fun v => v.category).sum ≤ 8) (hd1 : d' + 1 ≤ d) (hmx : maxL ≤ 45) (hd : decode cc pc = .ok (.invokevirtual idx, 3)) (kk : ∀ r h', Q1 r h' → Ev E own cc nL ret mn Q d kc ks (pc + 3) L (r.toList ++ rest) h') : Ev E own cc nL ret mn Q d (kc + kc') (ks + ks') pc L st0 h := by
  intro p l e s m args below meth c H locs cells slots mc ms A ls hC
  have hC0 := hC
  obtain ⟨hx, hb, hr, hml, hown, hnm, hlk, hts, hK, hG, hA, hH, hS, hl, hc1, hc2⟩ := hC
  obtain ⟨ws, hP, hD, hh⟩ := hH
  obtain ⟨k0, hk0⟩ := (hh b _).mp hq
  have hrv := va_recv hK hP hc hk0
  have hpre := hC0.pre (.ref b :: As)
  exact ev_back hC0 rfl rfl (va_runV (Ts := TB) (C := r.1) (As := As) (rest := rest) ⟨hx, hb, hml, hown, hts⟩ (hM l H.size) ⟨callB_of n hts (TB_good hcode) rfl rfl rfl (hts _ hini) (hts _ hlink) hdec ⟨by show d' + 1 ≤ d; exact hd1, by show 8 + (maxL + 11) + 64 * d' ≤ 64 * d; omega⟩, hts _ hinst, hts _ hsel⟩ ⟨hpre.1, hrv, hpre.2⟩ rfl hlen hl.1 hst (lv_room hrm) hd ⟨by show cells + kc' ≤ mc; omega, by show slots + ks' ≤ ms; omega⟩) kk

theorem ev_callU {y : MethodName} {bc : ByteArray} {maxL n idx kc' ks' d' : Nat} {rt : Option FieldType} {Q1 : Option Value → AH → Prop} {x : MethodName} {owner : String} {b0 : ByteArray} {m0 : Nat} {r0 : Option FieldType} {b ci : Nat} {r : vw_C} {fs : List Value} {As rest : List Value} {st0 : List Value} (hM : CM E y bc maxL rt d' kc' ks' (.ref b :: As) h Q1) (hc : vwCl[ci]? = some r) (hq : h b = some (ob ci fs)) (hcode : Cond.code y bc maxL rt ∈ TB) (hini : Cond.initialized y.cls ∈ TB) (hlink : Cond.methodLink own idx x ∈ TB) (hsame : Cond.sameMethod x.cls owner x.name x.desc ∈ TB) (hinst : Cond.instanceMethod y ∈ TB) (hsel : Cond.selects r.1 x y ∈ TB) (hdi : Cond.instanceMethod ⟨owner, x.name, x.desc⟩ ∈ TB) (hdc : Cond.code ⟨owner, x.name, x.desc⟩ b0 m0 r0 ∈ TB) (hdec : owner ≠ "java/lang/invoke/MethodHandle" ∧ owner ≠ "java/lang/invoke/VarHandle" ∧ (parseMethodDescriptor x.desc).map (fun d => d.parameters.length) = some n) (hlen : As.length = n) (hst : st0 = As.reverse ++ .ref b :: rest) (hrm : (rest.map fun v => v.category).sum ≤ 8) (hd1 : d' + 1 ≤ d) (hmx : maxL ≤ 45) (hd : decode cc pc = .ok (.invokevirtual idx, 3)) (kk : ∀ r h', Q1 r h' → Ev E own cc nL ret mn Q d kc ks (pc + 3) L (r.toList ++ rest) h') : Ev E own cc nL ret mn Q d (kc + kc') (ks + ks') pc L st0 h := by
  intro p l e s m args below meth c H locs cells slots mc ms A ls hC
  have hC0 := hC
  obtain ⟨hx, hb, hr, hml, hown, hnm, hlk, hts, hK, hG, hA, hH, hS, hl, hc1, hc2⟩ := hC
  obtain ⟨ws, hP, hD, hh⟩ := hH
  obtain ⟨k0, hk0⟩ := (hh b _).mp hq
  have hrv := va_recv hK hP hc hk0
  have hpre := hC0.pre (.ref b :: As)
  have hlen2 : ∀ sig, parseMethodDescriptor x.desc = some sig → n = sig.parameters.length := fun sig hs => by
    have h2 := hdec.2.2
    rw [hs] at h2
    exact (Option.some.inj h2).symm
  have hcu : va_CU (rmD d mc ms) s args own r.1 owner idx x y bc maxL rt (Cond.code y bc maxL rt :: TB) (rmD d' kc' ks') kc' ks' n := ⟨⟨rfl, rfl, by show d' + 1 ≤ d; exact hd1, by show 8 + (maxL + 11) + 64 * d' ≤ 64 * d; omega, pay_in hts (TB_good hcode), List.mem_cons_self⟩, hts _ hcode, hts _ hini, ⟨hdec.1, hdec.2.1⟩, hlen2, hts _ hlink, hts _ hsame, va_Decl.of (hts _ hdi) (hts _ hdc), hts _ hsel, hts _ hinst⟩
  exact ev_back hC0 rfl rfl (va_runU (Ts := TB) (C := r.1) (As := As) (rest := rest) ⟨hx, hb, hml, hown, hts⟩ (hM l H.size) hcu ⟨hpre.1, hrv, hpre.2⟩ rfl hlen hl.1 hst (lv_room hrm) hd ⟨by show cells + kc' ≤ mc; omega, by show slots + ks' ≤ ms; omega⟩) kk

end HEAP
end
section
theorem cod_X9_stationAt : Cond.code yX9_stationAt cX9_stationAt 2 (some (.object "NorthCurtains$Station")) ∈ TB := List.mem_filter.mpr ⟨List.mem_of_getElem? (i := 258) (by decide +kernel), by decide +kernel⟩
theorem cod_X9_sightingAt : Cond.code yX9_sightingAt cX9_sightingAt 2 (some (.object "NorthCurtains$Glow")) ∈ TB := List.mem_filter.mpr ⟨List.mem_of_getElem? (i := 363) (by decide +kernel), by decide +kernel⟩
theorem cod_X9_watchOf : Cond.code yX9_watchOf cX9_watchOf 5 (some (.object "NorthCurtains$Watch")) ∈ TB := List.mem_filter.mpr ⟨List.mem_of_getElem? (i := 605) (by decide +kernel), by decide +kernel⟩
section LINKS
variable {E : EV} {cc : ByteArray} {nL : Nat} {ret : Option FieldType} {mn : String} {Q : Option Value → AH → Prop} {d kc ks pc : Nat} {L : List (Nat × Value)} {st : List Value} {h : AH}
theorem g_X1_9_1 {q : Nat} {fs : List Value} {v : Value} (hd : decode cc pc = .ok (.getfield 9, 3)) (hq : h q = some (ob 1 fs)) (hv : fs[0]? = some v) (kk : Ev E RX1 cc nL ret mn Q d kc ks (pc + 3) L (v :: st) h) : Ev E RX1 cc nL ret mn Q d kc ks pc L (.ref q :: st) h := ev_get inX1 rfl (by decide) (show Cond.fieldLink RX1 9 (TX1 0).1 (TX1 0).2.1 (TX1 0).2.2.1 ∈ TB from List.mem_filter.mpr ⟨List.mem_of_getElem? (i := 79) (by decide +kernel), by decide +kernel⟩) hd hq hv kk
theorem p_X1_9_1 {q : Nat} {fs : List Value} {z : Nat} (hmn : mn = "<init>") (hd : decode cc pc = .ok (.putfield 9, 3)) (hq : h q = some (ob 1 fs)) (hl0 : 0 < fs.length) (kk : Ev E RX1 cc nL ret mn Q d kc ks (pc + 3) L st (ah_up h q (ob 1 (fs.set 0 (.ref z))))) : Ev E RX1 cc nL ret mn Q d kc ks pc L (.ref z :: .ref q :: st) h := ev_putF inX1 rfl (by decide) tyX1 tyX1_ok nmX1 (show Cond.fieldLink RX1 9 (TX1 0).1 (TX1 0).2.1 (TX1 0).2.2.1 ∈ TB from List.mem_filter.mpr ⟨List.mem_of_getElem? (i := 79) (by decide +kernel), by decide +kernel⟩) rfl hmn rfl rfl rfl hd hq hl0 kk
theorem g_X6_99_1 {q : Nat} {fs : List Value} {v : Value} (hd : decode cc pc = .ok (.getfield 99, 3)) (hq : h q = some (ob 1 fs)) (hv : fs[0]? = some v) (kk : Ev E RX6 cc nL ret mn Q d kc ks (pc + 3) L (v :: st) h) : Ev E RX6 cc nL ret mn Q d kc ks pc L (.ref q :: st) h := ev_get inX1 rfl (by decide) (show Cond.fieldLink RX6 99 (TX1 0).1 (TX1 0).2.1 (TX1 0).2.2.1 ∈ TB from List.mem_filter.mpr ⟨List.mem_of_getElem? (i := 80) (by decide +kernel), by decide +kernel⟩) hd hq hv kk
theorem g_X9_173_1 {q : Nat} {fs : List Value} {v : Value} (hd : decode cc pc = .ok (.getfield 173, 3)) (hq : h q = some (ob 1 fs)) (hv : fs[0]? = some v) (kk : Ev E RX9 cc nL ret mn Q d kc ks (pc + 3) L (v :: st) h) : Ev E RX9 cc nL ret mn Q d kc ks pc L (.ref q :: st) h := ev_get inX1 rfl (by decide) (show Cond.fieldLink RX9 173 (TX1 0).1 (TX1 0).2.1 (TX1 0).2.2.1 ∈ TB from List.mem_filter.mpr ⟨List.mem_of_getElem? (i := 81) (by decide +kernel), by decide +kernel⟩) hd hq hv kk
theorem g_X2_9_2 {q : Nat} {fs : List Value} {v : Value} (hd : decode cc pc = .ok (.getfield 9, 3)) (hq : h q = some (ob 2 fs)) (hv : fs[0]? = some v) (kk : Ev E RX2 cc nL ret mn Q d kc ks (pc + 3) L (v :: st) h) : Ev E RX2 cc nL ret mn Q d kc ks pc L (.ref q :: st) h := ev_get inX2 rfl (by decide) (show Cond.fieldLink RX2 9 (TX2 0).1 (TX2 0).2.1 (TX2 0).2.2.1 ∈ TB from List.mem_filter.mpr ⟨List.mem_of_getElem? (i := 101) (by decide +kernel), by decide +kernel⟩) hd hq hv kk
theorem p_X2_9_2 {q : Nat} {fs : List Value} {z : Int} (hd : decode cc pc = .ok (.putfield 9, 3)) (hq : h q = some (ob 2 fs)) (hl0 : 0 < fs.length) (kk : Ev E RX2 cc nL ret mn Q d kc ks (pc + 3) L st (ah_up h q (ob 2 (fs.set 0 (vI z))))) : Ev E RX2 cc nL ret mn Q d kc ks pc L (vI z :: .ref q :: st) h := ev_put inX2 rfl (by decide) tyX2 tyX2_ok nmX2 (show Cond.fieldLink RX2 9 (TX2 0).1 (TX2 0).2.1 (TX2 0).2.2.1 ∈ TB from List.mem_filter.mpr ⟨List.mem_of_getElem? (i := 101) (by decide +kernel), by decide +kernel⟩) rfl rfl rfl hd hq hl0 kk
theorem g_X2_62_2 {q : Nat} {fs : List Value} {v : Value} (hd : decode cc pc = .ok (.getfield 62, 3)) (hq : h q = some (ob 2 fs)) (hv : fs[1]? = some v) (kk : Ev E RX2 cc nL ret mn Q d kc ks (pc + 3) L (v :: st) h) : Ev E RX2 cc nL ret mn Q d kc ks pc L (.ref q :: st) h := ev_get inX2 rfl (by decide) (show Cond.fieldLink RX2 62 (TX2 1).1 (TX2 1).2.1 (TX2 1).2.2.1 ∈ TB from List.mem_filter.mpr ⟨List.mem_of_getElem? (i := 102) (by decide +kernel), by decide +kernel⟩) hd hq hv kk
theorem p_X2_62_2 {q : Nat} {fs : List Value} {z : Int} (hd : decode cc pc = .ok (.putfield 62, 3)) (hq : h q = some (ob 2 fs)) (hl0 : 1 < fs.length) (kk : Ev E RX2 cc nL ret mn Q d kc ks (pc + 3) L st (ah_up h q (ob 2 (fs.set 1 (vI z))))) : Ev E RX2 cc nL ret mn Q d kc ks pc L (vI z :: .ref q :: st) h := ev_put inX2 rfl (by decide) tyX2 tyX2_ok nmX2 (show Cond.fieldLink RX2 62 (TX2 1).1 (TX2 1).2.1 (TX2 1).2.2.1 ∈ TB from List.mem_filter.mpr ⟨List.mem_of_getElem? (i := 102) (by decide +kernel), by decide +kernel⟩) rfl rfl rfl hd hq hl0 kk
theorem g_X2_18_2 {q : Nat} {fs : List Value} {v : Value} (hd : decode cc pc = .ok (.getfield 18, 3)) (hq : h q = some (ob 2 fs)) (hv : fs[2]? = some v) (kk : Ev E RX2 cc nL ret mn Q d kc ks (pc + 3) L (v :: st) h) : Ev E RX2 cc nL ret mn Q d kc ks pc L (.ref q :: st) h := ev_get inX2 rfl (by decide) (show Cond.fieldLink RX2 18 (TX2 2).1 (TX2 2).2.1 (TX2 2).2.2.1 ∈ TB from List.mem_filter.mpr ⟨List.mem_of_getElem? (i := 103) (by decide +kernel), by decide +kernel⟩) hd hq hv kk
theorem p_X2_18_2 {q : Nat} {fs : List Value} {z : Int} (hd : decode cc pc = .ok (.putfield 18, 3)) (hq : h q = some (ob 2 fs)) (hl0 : 2 < fs.length) (kk : Ev E RX2 cc nL ret mn Q d kc ks (pc + 3) L st (ah_up h q (ob 2 (fs.set 2 (vI z))))) : Ev E RX2 cc nL ret mn Q d kc ks pc L (vI z :: .ref q :: st) h := ev_put inX2 rfl (by decide) tyX2 tyX2_ok nmX2 (show Cond.fieldLink RX2 18 (TX2 2).1 (TX2 2).2.1 (TX2 2).2.2.1 ∈ TB from List.mem_filter.mpr ⟨List.mem_of_getElem? (i := 103) (by decide +kernel), by decide +kernel⟩) rfl rfl rfl hd hq hl0 kk
theorem g_X2_21_2 {q : Nat} {fs : List Value} {v : Value} (hd : decode cc pc = .ok (.getfield 21, 3)) (hq : h q = some (ob 2 fs)) (hv : fs[3]? = some v) (kk : Ev E RX2 cc nL ret mn Q d kc ks (pc + 3) L (v :: st) h) : Ev E RX2 cc nL ret mn Q d kc ks pc L (.ref q :: st) h := ev_get inX2 rfl (by decide) (show Cond.fieldLink RX2 21 (TX2 3).1 (TX2 3).2.1 (TX2 3).2.2.1 ∈ TB from List.mem_filter.mpr ⟨List.mem_of_getElem? (i := 104) (by decide +kernel), by decide +kernel⟩) hd hq hv kk
theorem p_X2_21_2 {q : Nat} {fs : List Value} {z : Int} (hd : decode cc pc = .ok (.putfield 21, 3)) (hq : h q = some (ob 2 fs)) (hl0 : 3 < fs.length) (kk : Ev E RX2 cc nL ret mn Q d kc ks (pc + 3) L st (ah_up h q (ob 2 (fs.set 3 (vI z))))) : Ev E RX2 cc nL ret mn Q d kc ks pc L (vI z :: .ref q :: st) h := ev_put inX2 rfl (by decide) tyX2 tyX2_ok nmX2 (show Cond.fieldLink RX2 21 (TX2 3).1 (TX2 3).2.1 (TX2 3).2.2.1 ∈ TB from List.mem_filter.mpr ⟨List.mem_of_getElem? (i := 104) (by decide +kernel), by decide +kernel⟩) rfl rfl rfl hd hq hl0 kk
theorem g_X2_24_2 {q : Nat} {fs : List Value} {v : Value} (hd : decode cc pc = .ok (.getfield 24, 3)) (hq : h q = some (ob 2 fs)) (hv : fs[4]? = some v) (kk : Ev E RX2 cc nL ret mn Q d kc ks (pc + 3) L (v :: st) h) : Ev E RX2 cc nL ret mn Q d kc ks pc L (.ref q :: st) h := ev_get inX2 rfl (by decide) (show Cond.fieldLink RX2 24 (TX2 4).1 (TX2 4).2.1 (TX2 4).2.2.1 ∈ TB from List.mem_filter.mpr ⟨List.mem_of_getElem? (i := 105) (by decide +kernel), by decide +kernel⟩) hd hq hv kk
theorem p_X2_24_2 {q : Nat} {fs : List Value} {z : Int} (hd : decode cc pc = .ok (.putfield 24, 3)) (hq : h q = some (ob 2 fs)) (hl0 : 4 < fs.length) (kk : Ev E RX2 cc nL ret mn Q d kc ks (pc + 3) L st (ah_up h q (ob 2 (fs.set 4 (vI z))))) : Ev E RX2 cc nL ret mn Q d kc ks pc L (vI z :: .ref q :: st) h := ev_put inX2 rfl (by decide) tyX2 tyX2_ok nmX2 (show Cond.fieldLink RX2 24 (TX2 4).1 (TX2 4).2.1 (TX2 4).2.2.1 ∈ TB from List.mem_filter.mpr ⟨List.mem_of_getElem? (i := 105) (by decide +kernel), by decide +kernel⟩) rfl rfl rfl hd hq hl0 kk
theorem g_X2_30_2 {q : Nat} {fs : List Value} {v : Value} (hd : decode cc pc = .ok (.getfield 30, 3)) (hq : h q = some (ob 2 fs)) (hv : fs[5]? = some v) (kk : Ev E RX2 cc nL ret mn Q d kc ks (pc + 3) L (v :: st) h) : Ev E RX2 cc nL ret mn Q d kc ks pc L (.ref q :: st) h := ev_get inX2 rfl (by decide) (show Cond.fieldLink RX2 30 (TX2 5).1 (TX2 5).2.1 (TX2 5).2.2.1 ∈ TB from List.mem_filter.mpr ⟨List.mem_of_getElem? (i := 106) (by decide +kernel), by decide +kernel⟩) hd hq hv kk
theorem p_X2_30_2 {q : Nat} {fs : List Value} {z : Int} (hd : decode cc pc = .ok (.putfield 30, 3)) (hq : h q = some (ob 2 fs)) (hl0 : 5 < fs.length) (kk : Ev E RX2 cc nL ret mn Q d kc ks (pc + 3) L st (ah_up h q (ob 2 (fs.set 5 (vI z))))) : Ev E RX2 cc nL ret mn Q d kc ks pc L (vI z :: .ref q :: st) h := ev_put inX2 rfl (by decide) tyX2 tyX2_ok nmX2 (show Cond.fieldLink RX2 30 (TX2 5).1 (TX2 5).2.1 (TX2 5).2.2.1 ∈ TB from List.mem_filter.mpr ⟨List.mem_of_getElem? (i := 106) (by decide +kernel), by decide +kernel⟩) rfl rfl rfl hd hq hl0 kk
theorem g_X2_27_2 {q : Nat} {fs : List Value} {v : Value} (hd : decode cc pc = .ok (.getfield 27, 3)) (hq : h q = some (ob 2 fs)) (hv : fs[6]? = some v) (kk : Ev E RX2 cc nL ret mn Q d kc ks (pc + 3) L (v :: st) h) : Ev E RX2 cc nL ret mn Q d kc ks pc L (.ref q :: st) h := ev_get inX2 rfl (by decide) (show Cond.fieldLink RX2 27 (TX2 6).1 (TX2 6).2.1 (TX2 6).2.2.1 ∈ TB from List.mem_filter.mpr ⟨List.mem_of_getElem? (i := 107) (by decide +kernel), by decide +kernel⟩) hd hq hv kk
theorem p_X2_27_2 {q : Nat} {fs : List Value} {z : Int} (hd : decode cc pc = .ok (.putfield 27, 3)) (hq : h q = some (ob 2 fs)) (hl0 : 6 < fs.length) (kk : Ev E RX2 cc nL ret mn Q d kc ks (pc + 3) L st (ah_up h q (ob 2 (fs.set 6 (vI z))))) : Ev E RX2 cc nL ret mn Q d kc ks pc L (vI z :: .ref q :: st) h := ev_put inX2 rfl (by decide) tyX2 tyX2_ok nmX2 (show Cond.fieldLink RX2 27 (TX2 6).1 (TX2 6).2.1 (TX2 6).2.2.1 ∈ TB from List.mem_filter.mpr ⟨List.mem_of_getElem? (i := 107) (by decide +kernel), by decide +kernel⟩) rfl rfl rfl hd hq hl0 kk
theorem g_X6_74_2 {q : Nat} {fs : List Value} {v : Value} (hd : decode cc pc = .ok (.getfield 74, 3)) (hq : h q = some (ob 2 fs)) (hv : fs[6]? = some v) (kk : Ev E RX6 cc nL ret mn Q d kc ks (pc + 3) L (v :: st) h) : Ev E RX6 cc nL ret mn Q d kc ks pc L (.ref q :: st) h := ev_get inX2 rfl (by decide) (show Cond.fieldLink RX6 74 (TX2 6).1 (TX2 6).2.1 (TX2 6).2.2.1 ∈ TB from List.mem_filter.mpr ⟨List.mem_of_getElem? (i := 108) (by decide +kernel), by decide +kernel⟩) hd hq hv kk
theorem p_X6_74_2 {q : Nat} {fs : List Value} {z : Int} (hd : decode cc pc = .ok (.putfield 74, 3)) (hq : h q = some (ob 2 fs)) (hl0 : 6 < fs.length) (kk : Ev E RX6 cc nL ret mn Q d kc ks (pc + 3) L st (ah_up h q (ob 2 (fs.set 6 (vI z))))) : Ev E RX6 cc nL ret mn Q d kc ks pc L (vI z :: .ref q :: st) h := ev_put inX2 rfl (by decide) tyX2 tyX2_ok nmX2 (show Cond.fieldLink RX6 74 (TX2 6).1 (TX2 6).2.1 (TX2 6).2.2.1 ∈ TB from List.mem_filter.mpr ⟨List.mem_of_getElem? (i := 108) (by decide +kernel), by decide +kernel⟩) rfl rfl rfl hd hq hl0 kk
theorem g_X9_204_2 {q : Nat} {fs : List Value} {v : Value} (hd : decode cc pc = .ok (.getfield 204, 3)) (hq : h q = some (ob 2 fs)) (hv : fs[6]? = some v) (kk : Ev E RX9 cc nL ret mn Q d kc ks (pc + 3) L (v :: st) h) : Ev E RX9 cc nL ret mn Q d kc ks pc L (.ref q :: st) h := ev_get inX2 rfl (by decide) (show Cond.fieldLink RX9 204 (TX2 6).1 (TX2 6).2.1 (TX2 6).2.2.1 ∈ TB from List.mem_filter.mpr ⟨List.mem_of_getElem? (i := 109) (by decide +kernel), by decide +kernel⟩) hd hq hv kk
theorem p_X9_204_2 {q : Nat} {fs : List Value} {z : Int} (hd : decode cc pc = .ok (.putfield 204, 3)) (hq : h q = some (ob 2 fs)) (hl0 : 6 < fs.length) (kk : Ev E RX9 cc nL ret mn Q d kc ks (pc + 3) L st (ah_up h q (ob 2 (fs.set 6 (vI z))))) : Ev E RX9 cc nL ret mn Q d kc ks pc L (vI z :: .ref q :: st) h := ev_put inX2 rfl (by decide) tyX2 tyX2_ok nmX2 (show Cond.fieldLink RX9 204 (TX2 6).1 (TX2 6).2.1 (TX2 6).2.2.1 ∈ TB from List.mem_filter.mpr ⟨List.mem_of_getElem? (i := 109) (by decide +kernel), by decide +kernel⟩) rfl rfl rfl hd hq hl0 kk
theorem g_X2_39_2 {q : Nat} {fs : List Value} {v : Value} (hd : decode cc pc = .ok (.getfield 39, 3)) (hq : h q = some (ob 2 fs)) (hv : fs[7]? = some v) (kk : Ev E RX2 cc nL ret mn Q d kc ks (pc + 3) L (v :: st) h) : Ev E RX2 cc nL ret mn Q d kc ks pc L (.ref q :: st) h := ev_get inX2 rfl (by decide) (show Cond.fieldLink RX2 39 (TX2 7).1 (TX2 7).2.1 (TX2 7).2.2.1 ∈ TB from List.mem_filter.mpr ⟨List.mem_of_getElem? (i := 110) (by decide +kernel), by decide +kernel⟩) hd hq hv kk
theorem p_X2_39_2 {q : Nat} {fs : List Value} {z : Int} (hd : decode cc pc = .ok (.putfield 39, 3)) (hq : h q = some (ob 2 fs)) (hl0 : 7 < fs.length) (kk : Ev E RX2 cc nL ret mn Q d kc ks (pc + 3) L st (ah_up h q (ob 2 (fs.set 7 (vI z))))) : Ev E RX2 cc nL ret mn Q d kc ks pc L (vI z :: .ref q :: st) h := ev_put inX2 rfl (by decide) tyX2 tyX2_ok nmX2 (show Cond.fieldLink RX2 39 (TX2 7).1 (TX2 7).2.1 (TX2 7).2.2.1 ∈ TB from List.mem_filter.mpr ⟨List.mem_of_getElem? (i := 110) (by decide +kernel), by decide +kernel⟩) rfl rfl rfl hd hq hl0 kk
theorem g_X2_51_2 {q : Nat} {fs : List Value} {v : Value} (hd : decode cc pc = .ok (.getfield 51, 3)) (hq : h q = some (ob 2 fs)) (hv : fs[8]? = some v) (kk : Ev E RX2 cc nL ret mn Q d kc ks (pc + 3) L (v :: st) h) : Ev E RX2 cc nL ret mn Q d kc ks pc L (.ref q :: st) h := ev_get inX2 rfl (by decide) (show Cond.fieldLink RX2 51 (TX2 8).1 (TX2 8).2.1 (TX2 8).2.2.1 ∈ TB from List.mem_filter.mpr ⟨List.mem_of_getElem? (i := 111) (by decide +kernel), by decide +kernel⟩) hd hq hv kk
theorem p_X2_51_2 {q : Nat} {fs : List Value} {z : Int} (hd : decode cc pc = .ok (.putfield 51, 3)) (hq : h q = some (ob 2 fs)) (hl0 : 8 < fs.length) (kk : Ev E RX2 cc nL ret mn Q d kc ks (pc + 3) L st (ah_up h q (ob 2 (fs.set 8 (vI z))))) : Ev E RX2 cc nL ret mn Q d kc ks pc L (vI z :: .ref q :: st) h := ev_put inX2 rfl (by decide) tyX2 tyX2_ok nmX2 (show Cond.fieldLink RX2 51 (TX2 8).1 (TX2 8).2.1 (TX2 8).2.2.1 ∈ TB from List.mem_filter.mpr ⟨List.mem_of_getElem? (i := 111) (by decide +kernel), by decide +kernel⟩) rfl rfl rfl hd hq hl0 kk
theorem g_X2_15_2 {q : Nat} {fs : List Value} {v : Value} (hd : decode cc pc = .ok (.getfield 15, 3)) (hq : h q = some (ob 2 fs)) (hv : fs[9]? = some v) (kk : Ev E RX2 cc nL ret mn Q d kc ks (pc + 3) L (v :: st) h) : Ev E RX2 cc nL ret mn Q d kc ks pc L (.ref q :: st) h := ev_get inX2 rfl (by decide) (show Cond.fieldLink RX2 15 (TX2 9).1 (TX2 9).2.1 (TX2 9).2.2.1 ∈ TB from List.mem_filter.mpr ⟨List.mem_of_getElem? (i := 112) (by decide +kernel), by decide +kernel⟩) hd hq hv kk
theorem p_X2_15_2 {q : Nat} {fs : List Value} {z : Int} (hd : decode cc pc = .ok (.putfield 15, 3)) (hq : h q = some (ob 2 fs)) (hl0 : 9 < fs.length) (kk : Ev E RX2 cc nL ret mn Q d kc ks (pc + 3) L st (ah_up h q (ob 2 (fs.set 9 (vI z))))) : Ev E RX2 cc nL ret mn Q d kc ks pc L (vI z :: .ref q :: st) h := ev_put inX2 rfl (by decide) tyX2 tyX2_ok nmX2 (show Cond.fieldLink RX2 15 (TX2 9).1 (TX2 9).2.1 (TX2 9).2.2.1 ∈ TB from List.mem_filter.mpr ⟨List.mem_of_getElem? (i := 112) (by decide +kernel), by decide +kernel⟩) rfl rfl rfl hd hq hl0 kk
theorem g_X6_11_6 {q : Nat} {fs : List Value} {v : Value} (hd : decode cc pc = .ok (.getfield 11, 3)) (hq : h q = some (ob 6 fs)) (hv : fs[0]? = some v) (kk : Ev E RX6 cc nL ret mn Q d kc ks (pc + 3) L (v :: st) h) : Ev E RX6 cc nL ret mn Q d kc ks pc L (.ref q :: st) h := ev_get inX6 rfl (by decide) (show Cond.fieldLink RX6 11 (TX6 0).1 (TX6 0).2.1 (TX6 0).2.2.1 ∈ TB from List.mem_filter.mpr ⟨List.mem_of_getElem? (i := 134) (by decide +kernel), by decide +kernel⟩) hd hq hv kk
theorem p_X6_11_6 {q : Nat} {fs : List Value} {z : Nat} (hmn : mn = "<init>") (hd : decode cc pc = .ok (.putfield 11, 3)) (hq : h q = some (ob 6 fs)) (hl0 : 0 < fs.length) (kk : Ev E RX6 cc nL ret mn Q d kc ks (pc + 3) L st (ah_up h q (ob 6 (fs.set 0 (.ref z))))) : Ev E RX6 cc nL ret mn Q d kc ks pc L (.ref z :: .ref q :: st) h := ev_putF inX6 rfl (by decide) tyX6 tyX6_ok nmX6 (show Cond.fieldLink RX6 11 (TX6 0).1 (TX6 0).2.1 (TX6 0).2.2.1 ∈ TB from List.mem_filter.mpr ⟨List.mem_of_getElem? (i := 134) (by decide +kernel), by decide +kernel⟩) rfl hmn rfl rfl rfl hd hq hl0 kk
theorem g_X9_185_6 {q : Nat} {fs : List Value} {v : Value} (hd : decode cc pc = .ok (.getfield 185, 3)) (hq : h q = some (ob 6 fs)) (hv : fs[0]? = some v) (kk : Ev E RX9 cc nL ret mn Q d kc ks (pc + 3) L (v :: st) h) : Ev E RX9 cc nL ret mn Q d kc ks pc L (.ref q :: st) h := ev_get inX6 rfl (by decide) (show Cond.fieldLink RX9 185 (TX6 0).1 (TX6 0).2.1 (TX6 0).2.2.1 ∈ TB from List.mem_filter.mpr ⟨List.mem_of_getElem? (i := 135) (by decide +kernel), by decide +kernel⟩) hd hq hv kk
theorem g_X6_19_6 {q : Nat} {fs : List Value} {v : Value} (hd : decode cc pc = .ok (.getfield 19, 3)) (hq : h q = some (ob 6 fs)) (hv : fs[1]? = some v) (kk : Ev E RX6 cc nL ret mn Q d kc ks (pc + 3) L (v :: st) h) : Ev E RX6 cc nL ret mn Q d kc ks pc L (.ref q :: st) h := ev_get inX6 rfl (by decide) (show Cond.fieldLink RX6 19 (TX6 1).1 (TX6 1).2.1 (TX6 1).2.2.1 ∈ TB from List.mem_filter.mpr ⟨List.mem_of_getElem? (i := 136) (by decide +kernel), by decide +kernel⟩) hd hq hv kk
theorem p_X6_19_6 {q : Nat} {fs : List Value} {z : Nat} (hmn : mn = "<init>") (hd : decode cc pc = .ok (.putfield 19, 3)) (hq : h q = some (ob 6 fs)) (hl0 : 1 < fs.length) (kk : Ev E RX6 cc nL ret mn Q d kc ks (pc + 3) L st (ah_up h q (ob 6 (fs.set 1 (.ref z))))) : Ev E RX6 cc nL ret mn Q d kc ks pc L (.ref z :: .ref q :: st) h := ev_putF inX6 rfl (by decide) tyX6 tyX6_ok nmX6 (show Cond.fieldLink RX6 19 (TX6 1).1 (TX6 1).2.1 (TX6 1).2.2.1 ∈ TB from List.mem_filter.mpr ⟨List.mem_of_getElem? (i := 136) (by decide +kernel), by decide +kernel⟩) rfl hmn rfl rfl rfl hd hq hl0 kk
theorem g_X6_23_6 {q : Nat} {fs : List Value} {v : Value} (hd : decode cc pc = .ok (.getfield 23, 3)) (hq : h q = some (ob 6 fs)) (hv : fs[2]? = some v) (kk : Ev E RX6 cc nL ret mn Q d kc ks (pc + 3) L (v :: st) h) : Ev E RX6 cc nL ret mn Q d kc ks pc L (.ref q :: st) h := ev_get inX6 rfl (by decide) (show Cond.fieldLink RX6 23 (TX6 2).1 (TX6 2).2.1 (TX6 2).2.2.1 ∈ TB from List.mem_filter.mpr ⟨List.mem_of_getElem? (i := 137) (by decide +kernel), by decide +kernel⟩) hd hq hv kk
theorem p_X6_23_6 {q : Nat} {fs : List Value} {z : Nat} (hmn : mn = "<init>") (hd : decode cc pc = .ok (.putfield 23, 3)) (hq : h q = some (ob 6 fs)) (hl0 : 2 < fs.length) (kk : Ev E RX6 cc nL ret mn Q d kc ks (pc + 3) L st (ah_up h q (ob 6 (fs.set 2 (.ref z))))) : Ev E RX6 cc nL ret mn Q d kc ks pc L (.ref z :: .ref q :: st) h := ev_putF inX6 rfl (by decide) tyX6 tyX6_ok nmX6 (show Cond.fieldLink RX6 23 (TX6 2).1 (TX6 2).2.1 (TX6 2).2.2.1 ∈ TB from List.mem_filter.mpr ⟨List.mem_of_getElem? (i := 137) (by decide +kernel), by decide +kernel⟩) rfl hmn rfl rfl rfl hd hq hl0 kk
theorem g_X6_27_6 {q : Nat} {fs : List Value} {v : Value} (hd : decode cc pc = .ok (.getfield 27, 3)) (hq : h q = some (ob 6 fs)) (hv : fs[3]? = some v) (kk : Ev E RX6 cc nL ret mn Q d kc ks (pc + 3) L (v :: st) h) : Ev E RX6 cc nL ret mn Q d kc ks pc L (.ref q :: st) h := ev_get inX6 rfl (by decide) (show Cond.fieldLink RX6 27 (TX6 3).1 (TX6 3).2.1 (TX6 3).2.2.1 ∈ TB from List.mem_filter.mpr ⟨List.mem_of_getElem? (i := 138) (by decide +kernel), by decide +kernel⟩) hd hq hv kk
theorem p_X6_27_6 {q : Nat} {fs : List Value} {z : Nat} (hmn : mn = "<init>") (hd : decode cc pc = .ok (.putfield 27, 3)) (hq : h q = some (ob 6 fs)) (hl0 : 3 < fs.length) (kk : Ev E RX6 cc nL ret mn Q d kc ks (pc + 3) L st (ah_up h q (ob 6 (fs.set 3 (.ref z))))) : Ev E RX6 cc nL ret mn Q d kc ks pc L (.ref z :: .ref q :: st) h := ev_putF inX6 rfl (by decide) tyX6 tyX6_ok nmX6 (show Cond.fieldLink RX6 27 (TX6 3).1 (TX6 3).2.1 (TX6 3).2.2.1 ∈ TB from List.mem_filter.mpr ⟨List.mem_of_getElem? (i := 138) (by decide +kernel), by decide +kernel⟩) rfl hmn rfl rfl rfl hd hq hl0 kk
theorem g_X6_30_6 {q : Nat} {fs : List Value} {v : Value} (hd : decode cc pc = .ok (.getfield 30, 3)) (hq : h q = some (ob 6 fs)) (hv : fs[4]? = some v) (kk : Ev E RX6 cc nL ret mn Q d kc ks (pc + 3) L (v :: st) h) : Ev E RX6 cc nL ret mn Q d kc ks pc L (.ref q :: st) h := ev_get inX6 rfl (by decide) (show Cond.fieldLink RX6 30 (TX6 4).1 (TX6 4).2.1 (TX6 4).2.2.1 ∈ TB from List.mem_filter.mpr ⟨List.mem_of_getElem? (i := 139) (by decide +kernel), by decide +kernel⟩) hd hq hv kk
theorem p_X6_30_6 {q : Nat} {fs : List Value} {z : Nat} (hmn : mn = "<init>") (hd : decode cc pc = .ok (.putfield 30, 3)) (hq : h q = some (ob 6 fs)) (hl0 : 4 < fs.length) (kk : Ev E RX6 cc nL ret mn Q d kc ks (pc + 3) L st (ah_up h q (ob 6 (fs.set 4 (.ref z))))) : Ev E RX6 cc nL ret mn Q d kc ks pc L (.ref z :: .ref q :: st) h := ev_putF inX6 rfl (by decide) tyX6 tyX6_ok nmX6 (show Cond.fieldLink RX6 30 (TX6 4).1 (TX6 4).2.1 (TX6 4).2.2.1 ∈ TB from List.mem_filter.mpr ⟨List.mem_of_getElem? (i := 139) (by decide +kernel), by decide +kernel⟩) rfl hmn rfl rfl rfl hd hq hl0 kk
theorem g_X6_33_6 {q : Nat} {fs : List Value} {v : Value} (hd : decode cc pc = .ok (.getfield 33, 3)) (hq : h q = some (ob 6 fs)) (hv : fs[5]? = some v) (kk : Ev E RX6 cc nL ret mn Q d kc ks (pc + 3) L (v :: st) h) : Ev E RX6 cc nL ret mn Q d kc ks pc L (.ref q :: st) h := ev_get inX6 rfl (by decide) (show Cond.fieldLink RX6 33 (TX6 5).1 (TX6 5).2.1 (TX6 5).2.2.1 ∈ TB from List.mem_filter.mpr ⟨List.mem_of_getElem? (i := 140) (by decide +kernel), by decide +kernel⟩) hd hq hv kk
theorem p_X6_33_6 {q : Nat} {fs : List Value} {z : Nat} (hmn : mn = "<init>") (hd : decode cc pc = .ok (.putfield 33, 3)) (hq : h q = some (ob 6 fs)) (hl0 : 5 < fs.length) (kk : Ev E RX6 cc nL ret mn Q d kc ks (pc + 3) L st (ah_up h q (ob 6 (fs.set 5 (.ref z))))) : Ev E RX6 cc nL ret mn Q d kc ks pc L (.ref z :: .ref q :: st) h := ev_putF inX6 rfl (by decide) tyX6 tyX6_ok nmX6 (show Cond.fieldLink RX6 33 (TX6 5).1 (TX6 5).2.1 (TX6 5).2.2.1 ∈ TB from List.mem_filter.mpr ⟨List.mem_of_getElem? (i := 140) (by decide +kernel), by decide +kernel⟩) rfl hmn rfl rfl rfl hd hq hl0 kk
theorem g_X6_36_6 {q : Nat} {fs : List Value} {v : Value} (hd : decode cc pc = .ok (.getfield 36, 3)) (hq : h q = some (ob 6 fs)) (hv : fs[6]? = some v) (kk : Ev E RX6 cc nL ret mn Q d kc ks (pc + 3) L (v :: st) h) : Ev E RX6 cc nL ret mn Q d kc ks pc L (.ref q :: st) h := ev_get inX6 rfl (by decide) (show Cond.fieldLink RX6 36 (TX6 6).1 (TX6 6).2.1 (TX6 6).2.2.1 ∈ TB from List.mem_filter.mpr ⟨List.mem_of_getElem? (i := 141) (by decide +kernel), by decide +kernel⟩) hd hq hv kk
theorem p_X6_36_6 {q : Nat} {fs : List Value} {z : Nat} (hmn : mn = "<init>") (hd : decode cc pc = .ok (.putfield 36, 3)) (hq : h q = some (ob 6 fs)) (hl0 : 6 < fs.length) (kk : Ev E RX6 cc nL ret mn Q d kc ks (pc + 3) L st (ah_up h q (ob 6 (fs.set 6 (.ref z))))) : Ev E RX6 cc nL ret mn Q d kc ks pc L (.ref z :: .ref q :: st) h := ev_putF inX6 rfl (by decide) tyX6 tyX6_ok nmX6 (show Cond.fieldLink RX6 36 (TX6 6).1 (TX6 6).2.1 (TX6 6).2.2.1 ∈ TB from List.mem_filter.mpr ⟨List.mem_of_getElem? (i := 141) (by decide +kernel), by decide +kernel⟩) rfl hmn rfl rfl rfl hd hq hl0 kk
theorem g_X6_40_6 {q : Nat} {fs : List Value} {v : Value} (hd : decode cc pc = .ok (.getfield 40, 3)) (hq : h q = some (ob 6 fs)) (hv : fs[7]? = some v) (kk : Ev E RX6 cc nL ret mn Q d kc ks (pc + 3) L (v :: st) h) : Ev E RX6 cc nL ret mn Q d kc ks pc L (.ref q :: st) h := ev_get inX6 rfl (by decide) (show Cond.fieldLink RX6 40 (TX6 7).1 (TX6 7).2.1 (TX6 7).2.2.1 ∈ TB from List.mem_filter.mpr ⟨List.mem_of_getElem? (i := 142) (by decide +kernel), by decide +kernel⟩) hd hq hv kk
theorem p_X6_40_6 {q : Nat} {fs : List Value} {z : Int} (hd : decode cc pc = .ok (.putfield 40, 3)) (hq : h q = some (ob 6 fs)) (hl0 : 7 < fs.length) (kk : Ev E RX6 cc nL ret mn Q d kc ks (pc + 3) L st (ah_up h q (ob 6 (fs.set 7 (vI z))))) : Ev E RX6 cc nL ret mn Q d kc ks pc L (vI z :: .ref q :: st) h := ev_put inX6 rfl (by decide) tyX6 tyX6_ok nmX6 (show Cond.fieldLink RX6 40 (TX6 7).1 (TX6 7).2.1 (TX6 7).2.2.1 ∈ TB from List.mem_filter.mpr ⟨List.mem_of_getElem? (i := 142) (by decide +kernel), by decide +kernel⟩) rfl rfl rfl hd hq hl0 kk
theorem g_X6_51_6 {q : Nat} {fs : List Value} {v : Value} (hd : decode cc pc = .ok (.getfield 51, 3)) (hq : h q = some (ob 6 fs)) (hv : fs[8]? = some v) (kk : Ev E RX6 cc nL ret mn Q d kc ks (pc + 3) L (v :: st) h) : Ev E RX6 cc nL ret mn Q d kc ks pc L (.ref q :: st) h := ev_get inX6 rfl (by decide) (show Cond.fieldLink RX6 51 (TX6 8).1 (TX6 8).2.1 (TX6 8).2.2.1 ∈ TB from List.mem_filter.mpr ⟨List.mem_of_getElem? (i := 143) (by decide +kernel), by decide +kernel⟩) hd hq hv kk
theorem p_X6_51_6 {q : Nat} {fs : List Value} {z : Int} (hd : decode cc pc = .ok (.putfield 51, 3)) (hq : h q = some (ob 6 fs)) (hl0 : 8 < fs.length) (kk : Ev E RX6 cc nL ret mn Q d kc ks (pc + 3) L st (ah_up h q (ob 6 (fs.set 8 (vI z))))) : Ev E RX6 cc nL ret mn Q d kc ks pc L (vI z :: .ref q :: st) h := ev_put inX6 rfl (by decide) tyX6 tyX6_ok nmX6 (show Cond.fieldLink RX6 51 (TX6 8).1 (TX6 8).2.1 (TX6 8).2.2.1 ∈ TB from List.mem_filter.mpr ⟨List.mem_of_getElem? (i := 143) (by decide +kernel), by decide +kernel⟩) rfl rfl rfl hd hq hl0 kk
theorem g_X9_11_9 {q : Nat} {fs : List Value} {v : Value} (hd : decode cc pc = .ok (.getfield 11, 3)) (hq : h q = some (ob 9 fs)) (hv : fs[0]? = some v) (kk : Ev E RX9 cc nL ret mn Q d kc ks (pc + 3) L (v :: st) h) : Ev E RX9 cc nL ret mn Q d kc ks pc L (.ref q :: st) h := ev_get inX9 rfl (by decide) (show Cond.fieldLink RX9 11 (TX9 0).1 (TX9 0).2.1 (TX9 0).2.2.1 ∈ TB from List.mem_filter.mpr ⟨List.mem_of_getElem? (i := 163) (by decide +kernel), by decide +kernel⟩) hd hq hv kk
theorem p_X9_11_9 {q : Nat} {fs : List Value} {z : Nat} (hmn : mn = "<init>") (hd : decode cc pc = .ok (.putfield 11, 3)) (hq : h q = some (ob 9 fs)) (hl0 : 0 < fs.length) (kk : Ev E RX9 cc nL ret mn Q d kc ks (pc + 3) L st (ah_up h q (ob 9 (fs.set 0 (.ref z))))) : Ev E RX9 cc nL ret mn Q d kc ks pc L (.ref z :: .ref q :: st) h := ev_putF inX9 rfl (by decide) tyX9 tyX9_ok nmX9 (show Cond.fieldLink RX9 11 (TX9 0).1 (TX9 0).2.1 (TX9 0).2.2.1 ∈ TB from List.mem_filter.mpr ⟨List.mem_of_getElem? (i := 163) (by decide +kernel), by decide +kernel⟩) rfl hmn rfl rfl rfl hd hq hl0 kk
theorem g_X9_17_9 {q : Nat} {fs : List Value} {v : Value} (hd : decode cc pc = .ok (.getfield 17, 3)) (hq : h q = some (ob 9 fs)) (hv : fs[1]? = some v) (kk : Ev E RX9 cc nL ret mn Q d kc ks (pc + 3) L (v :: st) h) : Ev E RX9 cc nL ret mn Q d kc ks pc L (.ref q :: st) h := ev_get inX9 rfl (by decide) (show Cond.fieldLink RX9 17 (TX9 1).1 (TX9 1).2.1 (TX9 1).2.2.1 ∈ TB from List.mem_filter.mpr ⟨List.mem_of_getElem? (i := 164) (by decide +kernel), by decide +kernel⟩) hd hq hv kk
theorem p_X9_17_9 {q : Nat} {fs : List Value} {z : Nat} (hmn : mn = "<init>") (hd : decode cc pc = .ok (.putfield 17, 3)) (hq : h q = some (ob 9 fs)) (hl0 : 1 < fs.length) (kk : Ev E RX9 cc nL ret mn Q d kc ks (pc + 3) L st (ah_up h q (ob 9 (fs.set 1 (.ref z))))) : Ev E RX9 cc nL ret mn Q d kc ks pc L (.ref z :: .ref q :: st) h := ev_putF inX9 rfl (by decide) tyX9 tyX9_ok nmX9 (show Cond.fieldLink RX9 17 (TX9 1).1 (TX9 1).2.1 (TX9 1).2.2.1 ∈ TB from List.mem_filter.mpr ⟨List.mem_of_getElem? (i := 164) (by decide +kernel), by decide +kernel⟩) rfl hmn rfl rfl rfl hd hq hl0 kk
theorem g_X9_23_9 {q : Nat} {fs : List Value} {v : Value} (hd : decode cc pc = .ok (.getfield 23, 3)) (hq : h q = some (ob 9 fs)) (hv : fs[2]? = some v) (kk : Ev E RX9 cc nL ret mn Q d kc ks (pc + 3) L (v :: st) h) : Ev E RX9 cc nL ret mn Q d kc ks pc L (.ref q :: st) h := ev_get inX9 rfl (by decide) (show Cond.fieldLink RX9 23 (TX9 2).1 (TX9 2).2.1 (TX9 2).2.2.1 ∈ TB from List.mem_filter.mpr ⟨List.mem_of_getElem? (i := 165) (by decide +kernel), by decide +kernel⟩) hd hq hv kk
theorem p_X9_23_9 {q : Nat} {fs : List Value} {z : Nat} (hmn : mn = "<init>") (hd : decode cc pc = .ok (.putfield 23, 3)) (hq : h q = some (ob 9 fs)) (hl0 : 2 < fs.length) (kk : Ev E RX9 cc nL ret mn Q d kc ks (pc + 3) L st (ah_up h q (ob 9 (fs.set 2 (.ref z))))) : Ev E RX9 cc nL ret mn Q d kc ks pc L (.ref z :: .ref q :: st) h := ev_putF inX9 rfl (by decide) tyX9 tyX9_ok nmX9 (show Cond.fieldLink RX9 23 (TX9 2).1 (TX9 2).2.1 (TX9 2).2.2.1 ∈ TB from List.mem_filter.mpr ⟨List.mem_of_getElem? (i := 165) (by decide +kernel), by decide +kernel⟩) rfl hmn rfl rfl rfl hd hq hl0 kk
theorem g_X9_27_9 {q : Nat} {fs : List Value} {v : Value} (hd : decode cc pc = .ok (.getfield 27, 3)) (hq : h q = some (ob 9 fs)) (hv : fs[3]? = some v) (kk : Ev E RX9 cc nL ret mn Q d kc ks (pc + 3) L (v :: st) h) : Ev E RX9 cc nL ret mn Q d kc ks pc L (.ref q :: st) h := ev_get inX9 rfl (by decide) (show Cond.fieldLink RX9 27 (TX9 3).1 (TX9 3).2.1 (TX9 3).2.2.1 ∈ TB from List.mem_filter.mpr ⟨List.mem_of_getElem? (i := 166) (by decide +kernel), by decide +kernel⟩) hd hq hv kk
theorem p_X9_27_9 {q : Nat} {fs : List Value} {z : Nat} (hmn : mn = "<init>") (hd : decode cc pc = .ok (.putfield 27, 3)) (hq : h q = some (ob 9 fs)) (hl0 : 3 < fs.length) (kk : Ev E RX9 cc nL ret mn Q d kc ks (pc + 3) L st (ah_up h q (ob 9 (fs.set 3 (.ref z))))) : Ev E RX9 cc nL ret mn Q d kc ks pc L (.ref z :: .ref q :: st) h := ev_putF inX9 rfl (by decide) tyX9 tyX9_ok nmX9 (show Cond.fieldLink RX9 27 (TX9 3).1 (TX9 3).2.1 (TX9 3).2.2.1 ∈ TB from List.mem_filter.mpr ⟨List.mem_of_getElem? (i := 166) (by decide +kernel), by decide +kernel⟩) rfl hmn rfl rfl rfl hd hq hl0 kk
theorem g_X9_31_9 {q : Nat} {fs : List Value} {v : Value} (hd : decode cc pc = .ok (.getfield 31, 3)) (hq : h q = some (ob 9 fs)) (hv : fs[4]? = some v) (kk : Ev E RX9 cc nL ret mn Q d kc ks (pc + 3) L (v :: st) h) : Ev E RX9 cc nL ret mn Q d kc ks pc L (.ref q :: st) h := ev_get inX9 rfl (by decide) (show Cond.fieldLink RX9 31 (TX9 4).1 (TX9 4).2.1 (TX9 4).2.2.1 ∈ TB from List.mem_filter.mpr ⟨List.mem_of_getElem? (i := 167) (by decide +kernel), by decide +kernel⟩) hd hq hv kk
theorem p_X9_31_9 {q : Nat} {fs : List Value} {z : Nat} (hmn : mn = "<init>") (hd : decode cc pc = .ok (.putfield 31, 3)) (hq : h q = some (ob 9 fs)) (hl0 : 4 < fs.length) (kk : Ev E RX9 cc nL ret mn Q d kc ks (pc + 3) L st (ah_up h q (ob 9 (fs.set 4 (.ref z))))) : Ev E RX9 cc nL ret mn Q d kc ks pc L (.ref z :: .ref q :: st) h := ev_putF inX9 rfl (by decide) tyX9 tyX9_ok nmX9 (show Cond.fieldLink RX9 31 (TX9 4).1 (TX9 4).2.1 (TX9 4).2.2.1 ∈ TB from List.mem_filter.mpr ⟨List.mem_of_getElem? (i := 167) (by decide +kernel), by decide +kernel⟩) rfl hmn rfl rfl rfl hd hq hl0 kk
theorem g_X9_34_9 {q : Nat} {fs : List Value} {v : Value} (hd : decode cc pc = .ok (.getfield 34, 3)) (hq : h q = some (ob 9 fs)) (hv : fs[5]? = some v) (kk : Ev E RX9 cc nL ret mn Q d kc ks (pc + 3) L (v :: st) h) : Ev E RX9 cc nL ret mn Q d kc ks pc L (.ref q :: st) h := ev_get inX9 rfl (by decide) (show Cond.fieldLink RX9 34 (TX9 5).1 (TX9 5).2.1 (TX9 5).2.2.1 ∈ TB from List.mem_filter.mpr ⟨List.mem_of_getElem? (i := 168) (by decide +kernel), by decide +kernel⟩) hd hq hv kk
theorem p_X9_34_9 {q : Nat} {fs : List Value} {z : Nat} (hmn : mn = "<init>") (hd : decode cc pc = .ok (.putfield 34, 3)) (hq : h q = some (ob 9 fs)) (hl0 : 5 < fs.length) (kk : Ev E RX9 cc nL ret mn Q d kc ks (pc + 3) L st (ah_up h q (ob 9 (fs.set 5 (.ref z))))) : Ev E RX9 cc nL ret mn Q d kc ks pc L (.ref z :: .ref q :: st) h := ev_putF inX9 rfl (by decide) tyX9 tyX9_ok nmX9 (show Cond.fieldLink RX9 34 (TX9 5).1 (TX9 5).2.1 (TX9 5).2.2.1 ∈ TB from List.mem_filter.mpr ⟨List.mem_of_getElem? (i := 168) (by decide +kernel), by decide +kernel⟩) rfl hmn rfl rfl rfl hd hq hl0 kk
theorem g_X9_37_9 {q : Nat} {fs : List Value} {v : Value} (hd : decode cc pc = .ok (.getfield 37, 3)) (hq : h q = some (ob 9 fs)) (hv : fs[6]? = some v) (kk : Ev E RX9 cc nL ret mn Q d kc ks (pc + 3) L (v :: st) h) : Ev E RX9 cc nL ret mn Q d kc ks pc L (.ref q :: st) h := ev_get inX9 rfl (by decide) (show Cond.fieldLink RX9 37 (TX9 6).1 (TX9 6).2.1 (TX9 6).2.2.1 ∈ TB from List.mem_filter.mpr ⟨List.mem_of_getElem? (i := 169) (by decide +kernel), by decide +kernel⟩) hd hq hv kk
theorem p_X9_37_9 {q : Nat} {fs : List Value} {z : Nat} (hmn : mn = "<init>") (hd : decode cc pc = .ok (.putfield 37, 3)) (hq : h q = some (ob 9 fs)) (hl0 : 6 < fs.length) (kk : Ev E RX9 cc nL ret mn Q d kc ks (pc + 3) L st (ah_up h q (ob 9 (fs.set 6 (.ref z))))) : Ev E RX9 cc nL ret mn Q d kc ks pc L (.ref z :: .ref q :: st) h := ev_putF inX9 rfl (by decide) tyX9 tyX9_ok nmX9 (show Cond.fieldLink RX9 37 (TX9 6).1 (TX9 6).2.1 (TX9 6).2.2.1 ∈ TB from List.mem_filter.mpr ⟨List.mem_of_getElem? (i := 169) (by decide +kernel), by decide +kernel⟩) rfl hmn rfl rfl rfl hd hq hl0 kk
theorem g_X9_42_9 {q : Nat} {fs : List Value} {v : Value} (hd : decode cc pc = .ok (.getfield 42, 3)) (hq : h q = some (ob 9 fs)) (hv : fs[7]? = some v) (kk : Ev E RX9 cc nL ret mn Q d kc ks (pc + 3) L (v :: st) h) : Ev E RX9 cc nL ret mn Q d kc ks pc L (.ref q :: st) h := ev_get inX9 rfl (by decide) (show Cond.fieldLink RX9 42 (TX9 7).1 (TX9 7).2.1 (TX9 7).2.2.1 ∈ TB from List.mem_filter.mpr ⟨List.mem_of_getElem? (i := 170) (by decide +kernel), by decide +kernel⟩) hd hq hv kk
theorem p_X9_42_9 {q : Nat} {fs : List Value} {z : Nat} (hmn : mn = "<init>") (hd : decode cc pc = .ok (.putfield 42, 3)) (hq : h q = some (ob 9 fs)) (hl0 : 7 < fs.length) (kk : Ev E RX9 cc nL ret mn Q d kc ks (pc + 3) L st (ah_up h q (ob 9 (fs.set 7 (.ref z))))) : Ev E RX9 cc nL ret mn Q d kc ks pc L (.ref z :: .ref q :: st) h := ev_putF inX9 rfl (by decide) tyX9 tyX9_ok nmX9 (show Cond.fieldLink RX9 42 (TX9 7).1 (TX9 7).2.1 (TX9 7).2.2.1 ∈ TB from List.mem_filter.mpr ⟨List.mem_of_getElem? (i := 170) (by decide +kernel), by decide +kernel⟩) rfl hmn rfl rfl rfl hd hq hl0 kk
theorem g_X9_49_9 {q : Nat} {fs : List Value} {v : Value} (hd : decode cc pc = .ok (.getfield 49, 3)) (hq : h q = some (ob 9 fs)) (hv : fs[8]? = some v) (kk : Ev E RX9 cc nL ret mn Q d kc ks (pc + 3) L (v :: st) h) : Ev E RX9 cc nL ret mn Q d kc ks pc L (.ref q :: st) h := ev_get inX9 rfl (by decide) (show Cond.fieldLink RX9 49 (TX9 8).1 (TX9 8).2.1 (TX9 8).2.2.1 ∈ TB from List.mem_filter.mpr ⟨List.mem_of_getElem? (i := 171) (by decide +kernel), by decide +kernel⟩) hd hq hv kk
theorem p_X9_49_9 {q : Nat} {fs : List Value} {z : Nat} (hmn : mn = "<init>") (hd : decode cc pc = .ok (.putfield 49, 3)) (hq : h q = some (ob 9 fs)) (hl0 : 8 < fs.length) (kk : Ev E RX9 cc nL ret mn Q d kc ks (pc + 3) L st (ah_up h q (ob 9 (fs.set 8 (.ref z))))) : Ev E RX9 cc nL ret mn Q d kc ks pc L (.ref z :: .ref q :: st) h := ev_putF inX9 rfl (by decide) tyX9 tyX9_ok nmX9 (show Cond.fieldLink RX9 49 (TX9 8).1 (TX9 8).2.1 (TX9 8).2.2.1 ∈ TB from List.mem_filter.mpr ⟨List.mem_of_getElem? (i := 171) (by decide +kernel), by decide +kernel⟩) rfl hmn rfl rfl rfl hd hq hl0 kk
theorem g_X9_56_9 {q : Nat} {fs : List Value} {v : Value} (hd : decode cc pc = .ok (.getfield 56, 3)) (hq : h q = some (ob 9 fs)) (hv : fs[9]? = some v) (kk : Ev E RX9 cc nL ret mn Q d kc ks (pc + 3) L (v :: st) h) : Ev E RX9 cc nL ret mn Q d kc ks pc L (.ref q :: st) h := ev_get inX9 rfl (by decide) (show Cond.fieldLink RX9 56 (TX9 9).1 (TX9 9).2.1 (TX9 9).2.2.1 ∈ TB from List.mem_filter.mpr ⟨List.mem_of_getElem? (i := 172) (by decide +kernel), by decide +kernel⟩) hd hq hv kk
theorem p_X9_56_9 {q : Nat} {fs : List Value} {z : Nat} (hmn : mn = "<init>") (hd : decode cc pc = .ok (.putfield 56, 3)) (hq : h q = some (ob 9 fs)) (hl0 : 9 < fs.length) (kk : Ev E RX9 cc nL ret mn Q d kc ks (pc + 3) L st (ah_up h q (ob 9 (fs.set 9 (.ref z))))) : Ev E RX9 cc nL ret mn Q d kc ks pc L (.ref z :: .ref q :: st) h := ev_putF inX9 rfl (by decide) tyX9 tyX9_ok nmX9 (show Cond.fieldLink RX9 56 (TX9 9).1 (TX9 9).2.1 (TX9 9).2.2.1 ∈ TB from List.mem_filter.mpr ⟨List.mem_of_getElem? (i := 172) (by decide +kernel), by decide +kernel⟩) rfl hmn rfl rfl rfl hd hq hl0 kk
theorem g_X9_71_9 {q : Nat} {fs : List Value} {v : Value} (hd : decode cc pc = .ok (.getfield 71, 3)) (hq : h q = some (ob 9 fs)) (hv : fs[10]? = some v) (kk : Ev E RX9 cc nL ret mn Q d kc ks (pc + 3) L (v :: st) h) : Ev E RX9 cc nL ret mn Q d kc ks pc L (.ref q :: st) h := ev_get inX9 rfl (by decide) (show Cond.fieldLink RX9 71 (TX9 10).1 (TX9 10).2.1 (TX9 10).2.2.1 ∈ TB from List.mem_filter.mpr ⟨List.mem_of_getElem? (i := 173) (by decide +kernel), by decide +kernel⟩) hd hq hv kk
theorem p_X9_71_9 {q : Nat} {fs : List Value} {z : Int} (hd : decode cc pc = .ok (.putfield 71, 3)) (hq : h q = some (ob 9 fs)) (hl0 : 10 < fs.length) (kk : Ev E RX9 cc nL ret mn Q d kc ks (pc + 3) L st (ah_up h q (ob 9 (fs.set 10 (vI z))))) : Ev E RX9 cc nL ret mn Q d kc ks pc L (vI z :: .ref q :: st) h := ev_put inX9 rfl (by decide) tyX9 tyX9_ok nmX9 (show Cond.fieldLink RX9 71 (TX9 10).1 (TX9 10).2.1 (TX9 10).2.2.1 ∈ TB from List.mem_filter.mpr ⟨List.mem_of_getElem? (i := 173) (by decide +kernel), by decide +kernel⟩) rfl rfl rfl hd hq hl0 kk
theorem g_X9_91_9 {q : Nat} {fs : List Value} {v : Value} (hd : decode cc pc = .ok (.getfield 91, 3)) (hq : h q = some (ob 9 fs)) (hv : fs[11]? = some v) (kk : Ev E RX9 cc nL ret mn Q d kc ks (pc + 3) L (v :: st) h) : Ev E RX9 cc nL ret mn Q d kc ks pc L (.ref q :: st) h := ev_get inX9 rfl (by decide) (show Cond.fieldLink RX9 91 (TX9 11).1 (TX9 11).2.1 (TX9 11).2.2.1 ∈ TB from List.mem_filter.mpr ⟨List.mem_of_getElem? (i := 174) (by decide +kernel), by decide +kernel⟩) hd hq hv kk
theorem p_X9_91_9 {q : Nat} {fs : List Value} {z : Int} (hd : decode cc pc = .ok (.putfield 91, 3)) (hq : h q = some (ob 9 fs)) (hl0 : 11 < fs.length) (kk : Ev E RX9 cc nL ret mn Q d kc ks (pc + 3) L st (ah_up h q (ob 9 (fs.set 11 (vI z))))) : Ev E RX9 cc nL ret mn Q d kc ks pc L (vI z :: .ref q :: st) h := ev_put inX9 rfl (by decide) tyX9 tyX9_ok nmX9 (show Cond.fieldLink RX9 91 (TX9 11).1 (TX9 11).2.1 (TX9 11).2.2.1 ∈ TB from List.mem_filter.mpr ⟨List.mem_of_getElem? (i := 174) (by decide +kernel), by decide +kernel⟩) rfl rfl rfl hd hq hl0 kk
theorem g_X9_219_9 {q : Nat} {fs : List Value} {v : Value} (hd : decode cc pc = .ok (.getfield 219, 3)) (hq : h q = some (ob 9 fs)) (hv : fs[12]? = some v) (kk : Ev E RX9 cc nL ret mn Q d kc ks (pc + 3) L (v :: st) h) : Ev E RX9 cc nL ret mn Q d kc ks pc L (.ref q :: st) h := ev_get inX9 rfl (by decide) (show Cond.fieldLink RX9 219 (TX9 12).1 (TX9 12).2.1 (TX9 12).2.2.1 ∈ TB from List.mem_filter.mpr ⟨List.mem_of_getElem? (i := 175) (by decide +kernel), by decide +kernel⟩) hd hq hv kk
theorem p_X9_219_9 {q : Nat} {fs : List Value} {z : Int} (hd : decode cc pc = .ok (.putfield 219, 3)) (hq : h q = some (ob 9 fs)) (hl0 : 12 < fs.length) (kk : Ev E RX9 cc nL ret mn Q d kc ks (pc + 3) L st (ah_up h q (ob 9 (fs.set 12 (vI z))))) : Ev E RX9 cc nL ret mn Q d kc ks pc L (vI z :: .ref q :: st) h := ev_put inX9 rfl (by decide) tyX9 tyX9_ok nmX9 (show Cond.fieldLink RX9 219 (TX9 12).1 (TX9 12).2.1 (TX9 12).2.2.1 ∈ TB from List.mem_filter.mpr ⟨List.mem_of_getElem? (i := 175) (by decide +kernel), by decide +kernel⟩) rfl rfl rfl hd hq hl0 kk
theorem g_X9_247_9 {q : Nat} {fs : List Value} {v : Value} (hd : decode cc pc = .ok (.getfield 247, 3)) (hq : h q = some (ob 9 fs)) (hv : fs[13]? = some v) (kk : Ev E RX9 cc nL ret mn Q d kc ks (pc + 3) L (v :: st) h) : Ev E RX9 cc nL ret mn Q d kc ks pc L (.ref q :: st) h := ev_get inX9 rfl (by decide) (show Cond.fieldLink RX9 247 (TX9 13).1 (TX9 13).2.1 (TX9 13).2.2.1 ∈ TB from List.mem_filter.mpr ⟨List.mem_of_getElem? (i := 176) (by decide +kernel), by decide +kernel⟩) hd hq hv kk
theorem p_X9_247_9 {q : Nat} {fs : List Value} {z : Int} (hd : decode cc pc = .ok (.putfield 247, 3)) (hq : h q = some (ob 9 fs)) (hl0 : 13 < fs.length) (kk : Ev E RX9 cc nL ret mn Q d kc ks (pc + 3) L st (ah_up h q (ob 9 (fs.set 13 (vI z))))) : Ev E RX9 cc nL ret mn Q d kc ks pc L (vI z :: .ref q :: st) h := ev_put inX9 rfl (by decide) tyX9 tyX9_ok nmX9 (show Cond.fieldLink RX9 247 (TX9 13).1 (TX9 13).2.1 (TX9 13).2.2.1 ∈ TB from List.mem_filter.mpr ⟨List.mem_of_getElem? (i := 176) (by decide +kernel), by decide +kernel⟩) rfl rfl rfl hd hq hl0 kk
theorem g_X9_240_9 {q : Nat} {fs : List Value} {v : Value} (hd : decode cc pc = .ok (.getfield 240, 3)) (hq : h q = some (ob 9 fs)) (hv : fs[14]? = some v) (kk : Ev E RX9 cc nL ret mn Q d kc ks (pc + 3) L (v :: st) h) : Ev E RX9 cc nL ret mn Q d kc ks pc L (.ref q :: st) h := ev_get inX9 rfl (by decide) (show Cond.fieldLink RX9 240 (TX9 14).1 (TX9 14).2.1 (TX9 14).2.2.1 ∈ TB from List.mem_filter.mpr ⟨List.mem_of_getElem? (i := 177) (by decide +kernel), by decide +kernel⟩) hd hq hv kk
theorem p_X9_240_9 {q : Nat} {fs : List Value} {z : Int} (hd : decode cc pc = .ok (.putfield 240, 3)) (hq : h q = some (ob 9 fs)) (hl0 : 14 < fs.length) (kk : Ev E RX9 cc nL ret mn Q d kc ks (pc + 3) L st (ah_up h q (ob 9 (fs.set 14 (vI z))))) : Ev E RX9 cc nL ret mn Q d kc ks pc L (vI z :: .ref q :: st) h := ev_put inX9 rfl (by decide) tyX9 tyX9_ok nmX9 (show Cond.fieldLink RX9 240 (TX9 14).1 (TX9 14).2.1 (TX9 14).2.2.1 ∈ TB from List.mem_filter.mpr ⟨List.mem_of_getElem? (i := 177) (by decide +kernel), by decide +kernel⟩) rfl rfl rfl hd hq hl0 kk
theorem g_X9_60_9 {q : Nat} {fs : List Value} {v : Value} (hd : decode cc pc = .ok (.getfield 60, 3)) (hq : h q = some (ob 9 fs)) (hv : fs[15]? = some v) (kk : Ev E RX9 cc nL ret mn Q d kc ks (pc + 3) L (v :: st) h) : Ev E RX9 cc nL ret mn Q d kc ks pc L (.ref q :: st) h := ev_get inX9 rfl (by decide) (show Cond.fieldLink RX9 60 (TX9 15).1 (TX9 15).2.1 (TX9 15).2.2.1 ∈ TB from List.mem_filter.mpr ⟨List.mem_of_getElem? (i := 178) (by decide +kernel), by decide +kernel⟩) hd hq hv kk
theorem p_X9_60_9 {q : Nat} {fs : List Value} {z : Int} (hd : decode cc pc = .ok (.putfield 60, 3)) (hq : h q = some (ob 9 fs)) (hl0 : 15 < fs.length) (kk : Ev E RX9 cc nL ret mn Q d kc ks (pc + 3) L st (ah_up h q (ob 9 (fs.set 15 (vI z))))) : Ev E RX9 cc nL ret mn Q d kc ks pc L (vI z :: .ref q :: st) h := ev_put inX9 rfl (by decide) tyX9 tyX9_ok nmX9 (show Cond.fieldLink RX9 60 (TX9 15).1 (TX9 15).2.1 (TX9 15).2.2.1 ∈ TB from List.mem_filter.mpr ⟨List.mem_of_getElem? (i := 178) (by decide +kernel), by decide +kernel⟩) rfl rfl rfl hd hq hl0 kk
theorem g_X9_64_9 {q : Nat} {fs : List Value} {v : Value} (hd : decode cc pc = .ok (.getfield 64, 3)) (hq : h q = some (ob 9 fs)) (hv : fs[16]? = some v) (kk : Ev E RX9 cc nL ret mn Q d kc ks (pc + 3) L (v :: st) h) : Ev E RX9 cc nL ret mn Q d kc ks pc L (.ref q :: st) h := ev_get inX9 rfl (by decide) (show Cond.fieldLink RX9 64 (TX9 16).1 (TX9 16).2.1 (TX9 16).2.2.1 ∈ TB from List.mem_filter.mpr ⟨List.mem_of_getElem? (i := 179) (by decide +kernel), by decide +kernel⟩) hd hq hv kk
theorem p_X9_64_9 {q : Nat} {fs : List Value} {z : Int} (hd : decode cc pc = .ok (.putfield 64, 3)) (hq : h q = some (ob 9 fs)) (hl0 : 16 < fs.length) (kk : Ev E RX9 cc nL ret mn Q d kc ks (pc + 3) L st (ah_up h q (ob 9 (fs.set 16 (vI z))))) : Ev E RX9 cc nL ret mn Q d kc ks pc L (vI z :: .ref q :: st) h := ev_put inX9 rfl (by decide) tyX9 tyX9_ok nmX9 (show Cond.fieldLink RX9 64 (TX9 16).1 (TX9 16).2.1 (TX9 16).2.2.1 ∈ TB from List.mem_filter.mpr ⟨List.mem_of_getElem? (i := 179) (by decide +kernel), by decide +kernel⟩) rfl rfl rfl hd hq hl0 kk
theorem g_X7_7_7 {q : Nat} {fs : List Value} {v : Value} (hd : decode cc pc = .ok (.getfield 7, 3)) (hq : h q = some (ob 7 fs)) (hv : fs[0]? = some v) (kk : Ev E RX7 cc nL ret mn Q d kc ks (pc + 3) L (v :: st) h) : Ev E RX7 cc nL ret mn Q d kc ks pc L (.ref q :: st) h := ev_get inX7 rfl (by decide) (show Cond.fieldLink RX7 7 (TX7 0).1 (TX7 0).2.1 (TX7 0).2.2.1 ∈ TB from List.mem_filter.mpr ⟨List.mem_of_getElem? (i := 227) (by decide +kernel), by decide +kernel⟩) hd hq hv kk
theorem p_X7_7_7 {q : Nat} {fs : List Value} {z : Int} (hmn : mn = "<init>") (hd : decode cc pc = .ok (.putfield 7, 3)) (hq : h q = some (ob 7 fs)) (hl0 : 0 < fs.length) (kk : Ev E RX7 cc nL ret mn Q d kc ks (pc + 3) L st (ah_up h q (ob 7 (fs.set 0 (vI z))))) : Ev E RX7 cc nL ret mn Q d kc ks pc L (vI z :: .ref q :: st) h := ev_putF inX7 rfl (by decide) tyX7 tyX7_ok nmX7 (show Cond.fieldLink RX7 7 (TX7 0).1 (TX7 0).2.1 (TX7 0).2.2.1 ∈ TB from List.mem_filter.mpr ⟨List.mem_of_getElem? (i := 227) (by decide +kernel), by decide +kernel⟩) rfl hmn rfl rfl rfl hd hq hl0 kk
theorem g_X1_19_7 {q : Nat} {fs : List Value} {v : Value} (hd : decode cc pc = .ok (.getfield 19, 3)) (hq : h q = some (ob 7 fs)) (hv : fs[0]? = some v) (kk : Ev E RX1 cc nL ret mn Q d kc ks (pc + 3) L (v :: st) h) : Ev E RX1 cc nL ret mn Q d kc ks pc L (.ref q :: st) h := ev_get inX7 rfl (by decide) (show Cond.fieldLink RX1 19 (TX7 0).1 (TX7 0).2.1 (TX7 0).2.2.1 ∈ TB from List.mem_filter.mpr ⟨List.mem_of_getElem? (i := 228) (by decide +kernel), by decide +kernel⟩) hd hq hv kk
theorem g_X9_127_7 {q : Nat} {fs : List Value} {v : Value} (hd : decode cc pc = .ok (.getfield 127, 3)) (hq : h q = some (ob 7 fs)) (hv : fs[0]? = some v) (kk : Ev E RX9 cc nL ret mn Q d kc ks (pc + 3) L (v :: st) h) : Ev E RX9 cc nL ret mn Q d kc ks pc L (.ref q :: st) h := ev_get inX7 rfl (by decide) (show Cond.fieldLink RX9 127 (TX7 0).1 (TX7 0).2.1 (TX7 0).2.2.1 ∈ TB from List.mem_filter.mpr ⟨List.mem_of_getElem? (i := 229) (by decide +kernel), by decide +kernel⟩) hd hq hv kk
theorem g_X7_13_7 {q : Nat} {fs : List Value} {v : Value} (hd : decode cc pc = .ok (.getfield 13, 3)) (hq : h q = some (ob 7 fs)) (hv : fs[1]? = some v) (kk : Ev E RX7 cc nL ret mn Q d kc ks (pc + 3) L (v :: st) h) : Ev E RX7 cc nL ret mn Q d kc ks pc L (.ref q :: st) h := ev_get inX7 rfl (by decide) (show Cond.fieldLink RX7 13 (TX7 1).1 (TX7 1).2.1 (TX7 1).2.2.1 ∈ TB from List.mem_filter.mpr ⟨List.mem_of_getElem? (i := 230) (by decide +kernel), by decide +kernel⟩) hd hq hv kk
theorem p_X7_13_7 {q : Nat} {fs : List Value} {z : Int} (hmn : mn = "<init>") (hd : decode cc pc = .ok (.putfield 13, 3)) (hq : h q = some (ob 7 fs)) (hl0 : 1 < fs.length) (kk : Ev E RX7 cc nL ret mn Q d kc ks (pc + 3) L st (ah_up h q (ob 7 (fs.set 1 (vI z))))) : Ev E RX7 cc nL ret mn Q d kc ks pc L (vI z :: .ref q :: st) h := ev_putF inX7 rfl (by decide) tyX7 tyX7_ok nmX7 (show Cond.fieldLink RX7 13 (TX7 1).1 (TX7 1).2.1 (TX7 1).2.2.1 ∈ TB from List.mem_filter.mpr ⟨List.mem_of_getElem? (i := 230) (by decide +kernel), by decide +kernel⟩) rfl hmn rfl rfl rfl hd hq hl0 kk
theorem g_X1_55_7 {q : Nat} {fs : List Value} {v : Value} (hd : decode cc pc = .ok (.getfield 55, 3)) (hq : h q = some (ob 7 fs)) (hv : fs[1]? = some v) (kk : Ev E RX1 cc nL ret mn Q d kc ks (pc + 3) L (v :: st) h) : Ev E RX1 cc nL ret mn Q d kc ks pc L (.ref q :: st) h := ev_get inX7 rfl (by decide) (show Cond.fieldLink RX1 55 (TX7 1).1 (TX7 1).2.1 (TX7 1).2.2.1 ∈ TB from List.mem_filter.mpr ⟨List.mem_of_getElem? (i := 231) (by decide +kernel), by decide +kernel⟩) hd hq hv kk
theorem g_X2_73_7 {q : Nat} {fs : List Value} {v : Value} (hd : decode cc pc = .ok (.getfield 73, 3)) (hq : h q = some (ob 7 fs)) (hv : fs[1]? = some v) (kk : Ev E RX2 cc nL ret mn Q d kc ks (pc + 3) L (v :: st) h) : Ev E RX2 cc nL ret mn Q d kc ks pc L (.ref q :: st) h := ev_get inX7 rfl (by decide) (show Cond.fieldLink RX2 73 (TX7 1).1 (TX7 1).2.1 (TX7 1).2.2.1 ∈ TB from List.mem_filter.mpr ⟨List.mem_of_getElem? (i := 232) (by decide +kernel), by decide +kernel⟩) hd hq hv kk
theorem g_X7_16_7 {q : Nat} {fs : List Value} {v : Value} (hd : decode cc pc = .ok (.getfield 16, 3)) (hq : h q = some (ob 7 fs)) (hv : fs[2]? = some v) (kk : Ev E RX7 cc nL ret mn Q d kc ks (pc + 3) L (v :: st) h) : Ev E RX7 cc nL ret mn Q d kc ks pc L (.ref q :: st) h := ev_get inX7 rfl (by decide) (show Cond.fieldLink RX7 16 (TX7 2).1 (TX7 2).2.1 (TX7 2).2.2.1 ∈ TB from List.mem_filter.mpr ⟨List.mem_of_getElem? (i := 233) (by decide +kernel), by decide +kernel⟩) hd hq hv kk
theorem p_X7_16_7 {q : Nat} {fs : List Value} {z : Int} (hmn : mn = "<init>") (hd : decode cc pc = .ok (.putfield 16, 3)) (hq : h q = some (ob 7 fs)) (hl0 : 2 < fs.length) (kk : Ev E RX7 cc nL ret mn Q d kc ks (pc + 3) L st (ah_up h q (ob 7 (fs.set 2 (vI z))))) : Ev E RX7 cc nL ret mn Q d kc ks pc L (vI z :: .ref q :: st) h := ev_putF inX7 rfl (by decide) tyX7 tyX7_ok nmX7 (show Cond.fieldLink RX7 16 (TX7 2).1 (TX7 2).2.1 (TX7 2).2.2.1 ∈ TB from List.mem_filter.mpr ⟨List.mem_of_getElem? (i := 233) (by decide +kernel), by decide +kernel⟩) rfl hmn rfl rfl rfl hd hq hl0 kk
theorem g_X1_58_7 {q : Nat} {fs : List Value} {v : Value} (hd : decode cc pc = .ok (.getfield 58, 3)) (hq : h q = some (ob 7 fs)) (hv : fs[2]? = some v) (kk : Ev E RX1 cc nL ret mn Q d kc ks (pc + 3) L (v :: st) h) : Ev E RX1 cc nL ret mn Q d kc ks pc L (.ref q :: st) h := ev_get inX7 rfl (by decide) (show Cond.fieldLink RX1 58 (TX7 2).1 (TX7 2).2.1 (TX7 2).2.2.1 ∈ TB from List.mem_filter.mpr ⟨List.mem_of_getElem? (i := 234) (by decide +kernel), by decide +kernel⟩) hd hq hv kk
theorem g_X2_76_7 {q : Nat} {fs : List Value} {v : Value} (hd : decode cc pc = .ok (.getfield 76, 3)) (hq : h q = some (ob 7 fs)) (hv : fs[2]? = some v) (kk : Ev E RX2 cc nL ret mn Q d kc ks (pc + 3) L (v :: st) h) : Ev E RX2 cc nL ret mn Q d kc ks pc L (.ref q :: st) h := ev_get inX7 rfl (by decide) (show Cond.fieldLink RX2 76 (TX7 2).1 (TX7 2).2.1 (TX7 2).2.2.1 ∈ TB from List.mem_filter.mpr ⟨List.mem_of_getElem? (i := 235) (by decide +kernel), by decide +kernel⟩) hd hq hv kk
theorem g_X9_81_7 {q : Nat} {fs : List Value} {v : Value} (hd : decode cc pc = .ok (.getfield 81, 3)) (hq : h q = some (ob 7 fs)) (hv : fs[3]? = some v) (kk : Ev E RX9 cc nL ret mn Q d kc ks (pc + 3) L (v :: st) h) : Ev E RX9 cc nL ret mn Q d kc ks pc L (.ref q :: st) h := ev_get inX7 rfl (by decide) (show Cond.fieldLink RX9 81 (TX7 3).1 (TX7 3).2.1 (TX7 3).2.2.1 ∈ TB from List.mem_filter.mpr ⟨List.mem_of_getElem? (i := 236) (by decide +kernel), by decide +kernel⟩) hd hq hv kk
theorem p_X9_81_7 {q : Nat} {fs : List Value} {z : Int} (hd : decode cc pc = .ok (.putfield 81, 3)) (hq : h q = some (ob 7 fs)) (hl0 : 3 < fs.length) (kk : Ev E RX9 cc nL ret mn Q d kc ks (pc + 3) L st (ah_up h q (ob 7 (fs.set 3 (vI z))))) : Ev E RX9 cc nL ret mn Q d kc ks pc L (vI z :: .ref q :: st) h := ev_put inX7 rfl (by decide) tyX7 tyX7_ok nmX7 (show Cond.fieldLink RX9 81 (TX7 3).1 (TX7 3).2.1 (TX7 3).2.2.1 ∈ TB from List.mem_filter.mpr ⟨List.mem_of_getElem? (i := 236) (by decide +kernel), by decide +kernel⟩) rfl rfl rfl hd hq hl0 kk
theorem g_X3_31_7 {q : Nat} {fs : List Value} {v : Value} (hd : decode cc pc = .ok (.getfield 31, 3)) (hq : h q = some (ob 7 fs)) (hv : fs[3]? = some v) (kk : Ev E RX3 cc nL ret mn Q d kc ks (pc + 3) L (v :: st) h) : Ev E RX3 cc nL ret mn Q d kc ks pc L (.ref q :: st) h := ev_get inX7 rfl (by decide) (show Cond.fieldLink RX3 31 (TX7 3).1 (TX7 3).2.1 (TX7 3).2.2.1 ∈ TB from List.mem_filter.mpr ⟨List.mem_of_getElem? (i := 237) (by decide +kernel), by decide +kernel⟩) hd hq hv kk
theorem p_X3_31_7 {q : Nat} {fs : List Value} {z : Int} (hd : decode cc pc = .ok (.putfield 31, 3)) (hq : h q = some (ob 7 fs)) (hl0 : 3 < fs.length) (kk : Ev E RX3 cc nL ret mn Q d kc ks (pc + 3) L st (ah_up h q (ob 7 (fs.set 3 (vI z))))) : Ev E RX3 cc nL ret mn Q d kc ks pc L (vI z :: .ref q :: st) h := ev_put inX7 rfl (by decide) tyX7 tyX7_ok nmX7 (show Cond.fieldLink RX3 31 (TX7 3).1 (TX7 3).2.1 (TX7 3).2.2.1 ∈ TB from List.mem_filter.mpr ⟨List.mem_of_getElem? (i := 237) (by decide +kernel), by decide +kernel⟩) rfl rfl rfl hd hq hl0 kk
theorem g_X3_26_7 {q : Nat} {fs : List Value} {v : Value} (hd : decode cc pc = .ok (.getfield 26, 3)) (hq : h q = some (ob 7 fs)) (hv : fs[4]? = some v) (kk : Ev E RX3 cc nL ret mn Q d kc ks (pc + 3) L (v :: st) h) : Ev E RX3 cc nL ret mn Q d kc ks pc L (.ref q :: st) h := ev_get inX7 rfl (by decide) (show Cond.fieldLink RX3 26 (TX7 4).1 (TX7 4).2.1 (TX7 4).2.2.1 ∈ TB from List.mem_filter.mpr ⟨List.mem_of_getElem? (i := 238) (by decide +kernel), by decide +kernel⟩) hd hq hv kk
theorem p_X3_26_7 {q : Nat} {fs : List Value} {z : Int} (hd : decode cc pc = .ok (.putfield 26, 3)) (hq : h q = some (ob 7 fs)) (hl0 : 4 < fs.length) (kk : Ev E RX3 cc nL ret mn Q d kc ks (pc + 3) L st (ah_up h q (ob 7 (fs.set 4 (vI z))))) : Ev E RX3 cc nL ret mn Q d kc ks pc L (vI z :: .ref q :: st) h := ev_put inX7 rfl (by decide) tyX7 tyX7_ok nmX7 (show Cond.fieldLink RX3 26 (TX7 4).1 (TX7 4).2.1 (TX7 4).2.2.1 ∈ TB from List.mem_filter.mpr ⟨List.mem_of_getElem? (i := 238) (by decide +kernel), by decide +kernel⟩) rfl rfl rfl hd hq hl0 kk
theorem g_X9_84_7 {q : Nat} {fs : List Value} {v : Value} (hd : decode cc pc = .ok (.getfield 84, 3)) (hq : h q = some (ob 7 fs)) (hv : fs[4]? = some v) (kk : Ev E RX9 cc nL ret mn Q d kc ks (pc + 3) L (v :: st) h) : Ev E RX9 cc nL ret mn Q d kc ks pc L (.ref q :: st) h := ev_get inX7 rfl (by decide) (show Cond.fieldLink RX9 84 (TX7 4).1 (TX7 4).2.1 (TX7 4).2.2.1 ∈ TB from List.mem_filter.mpr ⟨List.mem_of_getElem? (i := 239) (by decide +kernel), by decide +kernel⟩) hd hq hv kk
theorem p_X9_84_7 {q : Nat} {fs : List Value} {z : Int} (hd : decode cc pc = .ok (.putfield 84, 3)) (hq : h q = some (ob 7 fs)) (hl0 : 4 < fs.length) (kk : Ev E RX9 cc nL ret mn Q d kc ks (pc + 3) L st (ah_up h q (ob 7 (fs.set 4 (vI z))))) : Ev E RX9 cc nL ret mn Q d kc ks pc L (vI z :: .ref q :: st) h := ev_put inX7 rfl (by decide) tyX7 tyX7_ok nmX7 (show Cond.fieldLink RX9 84 (TX7 4).1 (TX7 4).2.1 (TX7 4).2.2.1 ∈ TB from List.mem_filter.mpr ⟨List.mem_of_getElem? (i := 239) (by decide +kernel), by decide +kernel⟩) rfl rfl rfl hd hq hl0 kk
theorem g_X3_7_3 {q : Nat} {fs : List Value} {v : Value} (hd : decode cc pc = .ok (.getfield 7, 3)) (hq : h q = some (ob 3 fs)) (hv : fs[0]? = some v) (kk : Ev E RX3 cc nL ret mn Q d kc ks (pc + 3) L (v :: st) h) : Ev E RX3 cc nL ret mn Q d kc ks pc L (.ref q :: st) h := ev_get inX3 rfl (by decide) (show Cond.fieldLink RX3 7 (TX3 0).1 (TX3 0).2.1 (TX3 0).2.2.1 ∈ TB from List.mem_filter.mpr ⟨List.mem_of_getElem? (i := 274) (by decide +kernel), by decide +kernel⟩) hd hq hv kk
theorem p_X3_7_3 {q : Nat} {fs : List Value} {z : Nat} (hmn : mn = "<init>") (hd : decode cc pc = .ok (.putfield 7, 3)) (hq : h q = some (ob 3 fs)) (hl0 : 0 < fs.length) (kk : Ev E RX3 cc nL ret mn Q d kc ks (pc + 3) L st (ah_up h q (ob 3 (fs.set 0 (.ref z))))) : Ev E RX3 cc nL ret mn Q d kc ks pc L (.ref z :: .ref q :: st) h := ev_putF inX3 rfl (by decide) tyX3 tyX3_ok nmX3 (show Cond.fieldLink RX3 7 (TX3 0).1 (TX3 0).2.1 (TX3 0).2.2.1 ∈ TB from List.mem_filter.mpr ⟨List.mem_of_getElem? (i := 274) (by decide +kernel), by decide +kernel⟩) rfl hmn rfl rfl rfl hd hq hl0 kk
theorem g_X3_7_0 {q : Nat} {fs : List Value} {v : Value} (hd : decode cc pc = .ok (.getfield 7, 3)) (hq : h q = some (ob 0 fs)) (hv : fs[0]? = some v) (kk : Ev E RX3 cc nL ret mn Q d kc ks (pc + 3) L (v :: st) h) : Ev E RX3 cc nL ret mn Q d kc ks pc L (.ref q :: st) h := ev_get inX0 rfl (by decide) (show Cond.fieldLink RX3 7 (TX0 0).1 (TX0 0).2.1 (TX0 0).2.2.1 ∈ TB from List.mem_filter.mpr ⟨List.mem_of_getElem? (i := 274) (by decide +kernel), by decide +kernel⟩) hd hq hv kk
theorem p_X3_7_0 {q : Nat} {fs : List Value} {z : Nat} (hmn : mn = "<init>") (hd : decode cc pc = .ok (.putfield 7, 3)) (hq : h q = some (ob 0 fs)) (hl0 : 0 < fs.length) (kk : Ev E RX3 cc nL ret mn Q d kc ks (pc + 3) L st (ah_up h q (ob 0 (fs.set 0 (.ref z))))) : Ev E RX3 cc nL ret mn Q d kc ks pc L (.ref z :: .ref q :: st) h := ev_putF inX0 rfl (by decide) tyX0 tyX0_ok nmX0 (show Cond.fieldLink RX3 7 (TX0 0).1 (TX0 0).2.1 (TX0 0).2.2.1 ∈ TB from List.mem_filter.mpr ⟨List.mem_of_getElem? (i := 274) (by decide +kernel), by decide +kernel⟩) rfl hmn rfl rfl rfl hd hq hl0 kk
theorem g_X3_7_4 {q : Nat} {fs : List Value} {v : Value} (hd : decode cc pc = .ok (.getfield 7, 3)) (hq : h q = some (ob 4 fs)) (hv : fs[1]? = some v) (kk : Ev E RX3 cc nL ret mn Q d kc ks (pc + 3) L (v :: st) h) : Ev E RX3 cc nL ret mn Q d kc ks pc L (.ref q :: st) h := ev_get inX4 rfl (by decide) (show Cond.fieldLink RX3 7 (TX4 1).1 (TX4 1).2.1 (TX4 1).2.2.1 ∈ TB from List.mem_filter.mpr ⟨List.mem_of_getElem? (i := 274) (by decide +kernel), by decide +kernel⟩) hd hq hv kk
theorem p_X3_7_4 {q : Nat} {fs : List Value} {z : Nat} (hmn : mn = "<init>") (hd : decode cc pc = .ok (.putfield 7, 3)) (hq : h q = some (ob 4 fs)) (hl0 : 1 < fs.length) (kk : Ev E RX3 cc nL ret mn Q d kc ks (pc + 3) L st (ah_up h q (ob 4 (fs.set 1 (.ref z))))) : Ev E RX3 cc nL ret mn Q d kc ks pc L (.ref z :: .ref q :: st) h := ev_putF inX4 rfl (by decide) tyX4 tyX4_ok nmX4 (show Cond.fieldLink RX3 7 (TX4 1).1 (TX4 1).2.1 (TX4 1).2.2.1 ∈ TB from List.mem_filter.mpr ⟨List.mem_of_getElem? (i := 274) (by decide +kernel), by decide +kernel⟩) rfl hmn rfl rfl rfl hd hq hl0 kk
theorem g_X1_13_0 {q : Nat} {fs : List Value} {v : Value} (hd : decode cc pc = .ok (.getfield 13, 3)) (hq : h q = some (ob 0 fs)) (hv : fs[0]? = some v) (kk : Ev E RX1 cc nL ret mn Q d kc ks (pc + 3) L (v :: st) h) : Ev E RX1 cc nL ret mn Q d kc ks pc L (.ref q :: st) h := ev_getS inX0 rfl (by decide) (show Cond.fieldLink RX1 13 RX0 (TX0 0).2.1 (TX0 0).2.2.1 ∈ TB from List.mem_filter.mpr ⟨List.mem_of_getElem? (i := 275) (by decide +kernel), by decide +kernel⟩) (show Cond.sameField RX0 (TX0 0).1 (TX0 0).2.1 (TX0 0).2.2.1 ∈ TB from List.mem_filter.mpr ⟨List.mem_of_getElem? (i := 276) (by decide +kernel), by decide +kernel⟩) hd hq hv kk
theorem g_X1_13_4 {q : Nat} {fs : List Value} {v : Value} (hd : decode cc pc = .ok (.getfield 13, 3)) (hq : h q = some (ob 4 fs)) (hv : fs[1]? = some v) (kk : Ev E RX1 cc nL ret mn Q d kc ks (pc + 3) L (v :: st) h) : Ev E RX1 cc nL ret mn Q d kc ks pc L (.ref q :: st) h := ev_getS inX4 rfl (by decide) (show Cond.fieldLink RX1 13 RX0 (TX4 1).2.1 (TX4 1).2.2.1 ∈ TB from List.mem_filter.mpr ⟨List.mem_of_getElem? (i := 275) (by decide +kernel), by decide +kernel⟩) (show Cond.sameField RX0 (TX4 1).1 (TX4 1).2.1 (TX4 1).2.2.1 ∈ TB from List.mem_filter.mpr ⟨List.mem_of_getElem? (i := 276) (by decide +kernel), by decide +kernel⟩) hd hq hv kk
theorem g_X9_123_3 {q : Nat} {fs : List Value} {v : Value} (hd : decode cc pc = .ok (.getfield 123, 3)) (hq : h q = some (ob 3 fs)) (hv : fs[0]? = some v) (kk : Ev E RX9 cc nL ret mn Q d kc ks (pc + 3) L (v :: st) h) : Ev E RX9 cc nL ret mn Q d kc ks pc L (.ref q :: st) h := ev_get inX3 rfl (by decide) (show Cond.fieldLink RX9 123 (TX3 0).1 (TX3 0).2.1 (TX3 0).2.2.1 ∈ TB from List.mem_filter.mpr ⟨List.mem_of_getElem? (i := 277) (by decide +kernel), by decide +kernel⟩) hd hq hv kk
theorem g_X9_123_0 {q : Nat} {fs : List Value} {v : Value} (hd : decode cc pc = .ok (.getfield 123, 3)) (hq : h q = some (ob 0 fs)) (hv : fs[0]? = some v) (kk : Ev E RX9 cc nL ret mn Q d kc ks (pc + 3) L (v :: st) h) : Ev E RX9 cc nL ret mn Q d kc ks pc L (.ref q :: st) h := ev_get inX0 rfl (by decide) (show Cond.fieldLink RX9 123 (TX0 0).1 (TX0 0).2.1 (TX0 0).2.2.1 ∈ TB from List.mem_filter.mpr ⟨List.mem_of_getElem? (i := 277) (by decide +kernel), by decide +kernel⟩) hd hq hv kk
theorem g_X9_123_4 {q : Nat} {fs : List Value} {v : Value} (hd : decode cc pc = .ok (.getfield 123, 3)) (hq : h q = some (ob 4 fs)) (hv : fs[1]? = some v) (kk : Ev E RX9 cc nL ret mn Q d kc ks (pc + 3) L (v :: st) h) : Ev E RX9 cc nL ret mn Q d kc ks pc L (.ref q :: st) h := ev_get inX4 rfl (by decide) (show Cond.fieldLink RX9 123 (TX4 1).1 (TX4 1).2.1 (TX4 1).2.2.1 ∈ TB from List.mem_filter.mpr ⟨List.mem_of_getElem? (i := 277) (by decide +kernel), by decide +kernel⟩) hd hq hv kk
theorem g_X3_13_3 {q : Nat} {fs : List Value} {v : Value} (hd : decode cc pc = .ok (.getfield 13, 3)) (hq : h q = some (ob 3 fs)) (hv : fs[1]? = some v) (kk : Ev E RX3 cc nL ret mn Q d kc ks (pc + 3) L (v :: st) h) : Ev E RX3 cc nL ret mn Q d kc ks pc L (.ref q :: st) h := ev_get inX3 rfl (by decide) (show Cond.fieldLink RX3 13 (TX3 1).1 (TX3 1).2.1 (TX3 1).2.2.1 ∈ TB from List.mem_filter.mpr ⟨List.mem_of_getElem? (i := 278) (by decide +kernel), by decide +kernel⟩) hd hq hv kk
theorem p_X3_13_3 {q : Nat} {fs : List Value} {z : Int} (hmn : mn = "<init>") (hd : decode cc pc = .ok (.putfield 13, 3)) (hq : h q = some (ob 3 fs)) (hl0 : 1 < fs.length) (kk : Ev E RX3 cc nL ret mn Q d kc ks (pc + 3) L st (ah_up h q (ob 3 (fs.set 1 (vI z))))) : Ev E RX3 cc nL ret mn Q d kc ks pc L (vI z :: .ref q :: st) h := ev_putF inX3 rfl (by decide) tyX3 tyX3_ok nmX3 (show Cond.fieldLink RX3 13 (TX3 1).1 (TX3 1).2.1 (TX3 1).2.2.1 ∈ TB from List.mem_filter.mpr ⟨List.mem_of_getElem? (i := 278) (by decide +kernel), by decide +kernel⟩) rfl hmn rfl rfl rfl hd hq hl0 kk
theorem g_X3_13_0 {q : Nat} {fs : List Value} {v : Value} (hd : decode cc pc = .ok (.getfield 13, 3)) (hq : h q = some (ob 0 fs)) (hv : fs[1]? = some v) (kk : Ev E RX3 cc nL ret mn Q d kc ks (pc + 3) L (v :: st) h) : Ev E RX3 cc nL ret mn Q d kc ks pc L (.ref q :: st) h := ev_get inX0 rfl (by decide) (show Cond.fieldLink RX3 13 (TX0 1).1 (TX0 1).2.1 (TX0 1).2.2.1 ∈ TB from List.mem_filter.mpr ⟨List.mem_of_getElem? (i := 278) (by decide +kernel), by decide +kernel⟩) hd hq hv kk
theorem p_X3_13_0 {q : Nat} {fs : List Value} {z : Int} (hmn : mn = "<init>") (hd : decode cc pc = .ok (.putfield 13, 3)) (hq : h q = some (ob 0 fs)) (hl0 : 1 < fs.length) (kk : Ev E RX3 cc nL ret mn Q d kc ks (pc + 3) L st (ah_up h q (ob 0 (fs.set 1 (vI z))))) : Ev E RX3 cc nL ret mn Q d kc ks pc L (vI z :: .ref q :: st) h := ev_putF inX0 rfl (by decide) tyX0 tyX0_ok nmX0 (show Cond.fieldLink RX3 13 (TX0 1).1 (TX0 1).2.1 (TX0 1).2.2.1 ∈ TB from List.mem_filter.mpr ⟨List.mem_of_getElem? (i := 278) (by decide +kernel), by decide +kernel⟩) rfl hmn rfl rfl rfl hd hq hl0 kk
theorem g_X3_13_4 {q : Nat} {fs : List Value} {v : Value} (hd : decode cc pc = .ok (.getfield 13, 3)) (hq : h q = some (ob 4 fs)) (hv : fs[2]? = some v) (kk : Ev E RX3 cc nL ret mn Q d kc ks (pc + 3) L (v :: st) h) : Ev E RX3 cc nL ret mn Q d kc ks pc L (.ref q :: st) h := ev_get inX4 rfl (by decide) (show Cond.fieldLink RX3 13 (TX4 2).1 (TX4 2).2.1 (TX4 2).2.2.1 ∈ TB from List.mem_filter.mpr ⟨List.mem_of_getElem? (i := 278) (by decide +kernel), by decide +kernel⟩) hd hq hv kk
theorem p_X3_13_4 {q : Nat} {fs : List Value} {z : Int} (hmn : mn = "<init>") (hd : decode cc pc = .ok (.putfield 13, 3)) (hq : h q = some (ob 4 fs)) (hl0 : 2 < fs.length) (kk : Ev E RX3 cc nL ret mn Q d kc ks (pc + 3) L st (ah_up h q (ob 4 (fs.set 2 (vI z))))) : Ev E RX3 cc nL ret mn Q d kc ks pc L (vI z :: .ref q :: st) h := ev_putF inX4 rfl (by decide) tyX4 tyX4_ok nmX4 (show Cond.fieldLink RX3 13 (TX4 2).1 (TX4 2).2.1 (TX4 2).2.2.1 ∈ TB from List.mem_filter.mpr ⟨List.mem_of_getElem? (i := 278) (by decide +kernel), by decide +kernel⟩) rfl hmn rfl rfl rfl hd hq hl0 kk
theorem g_X6_44_0 {q : Nat} {fs : List Value} {v : Value} (hd : decode cc pc = .ok (.getfield 44, 3)) (hq : h q = some (ob 0 fs)) (hv : fs[1]? = some v) (kk : Ev E RX6 cc nL ret mn Q d kc ks (pc + 3) L (v :: st) h) : Ev E RX6 cc nL ret mn Q d kc ks pc L (.ref q :: st) h := ev_getS inX0 rfl (by decide) (show Cond.fieldLink RX6 44 RX0 (TX0 1).2.1 (TX0 1).2.2.1 ∈ TB from List.mem_filter.mpr ⟨List.mem_of_getElem? (i := 279) (by decide +kernel), by decide +kernel⟩) (show Cond.sameField RX0 (TX0 1).1 (TX0 1).2.1 (TX0 1).2.2.1 ∈ TB from List.mem_filter.mpr ⟨List.mem_of_getElem? (i := 280) (by decide +kernel), by decide +kernel⟩) hd hq hv kk
theorem g_X6_44_4 {q : Nat} {fs : List Value} {v : Value} (hd : decode cc pc = .ok (.getfield 44, 3)) (hq : h q = some (ob 4 fs)) (hv : fs[2]? = some v) (kk : Ev E RX6 cc nL ret mn Q d kc ks (pc + 3) L (v :: st) h) : Ev E RX6 cc nL ret mn Q d kc ks pc L (.ref q :: st) h := ev_getS inX4 rfl (by decide) (show Cond.fieldLink RX6 44 RX0 (TX4 2).2.1 (TX4 2).2.2.1 ∈ TB from List.mem_filter.mpr ⟨List.mem_of_getElem? (i := 279) (by decide +kernel), by decide +kernel⟩) (show Cond.sameField RX0 (TX4 2).1 (TX4 2).2.1 (TX4 2).2.2.1 ∈ TB from List.mem_filter.mpr ⟨List.mem_of_getElem? (i := 280) (by decide +kernel), by decide +kernel⟩) hd hq hv kk
theorem g_X0_13_0 {q : Nat} {fs : List Value} {v : Value} (hd : decode cc pc = .ok (.getfield 13, 3)) (hq : h q = some (ob 0 fs)) (hv : fs[1]? = some v) (kk : Ev E RX0 cc nL ret mn Q d kc ks (pc + 3) L (v :: st) h) : Ev E RX0 cc nL ret mn Q d kc ks pc L (.ref q :: st) h := ev_getS inX0 rfl (by decide) (show Cond.fieldLink RX0 13 RX0 (TX0 1).2.1 (TX0 1).2.2.1 ∈ TB from List.mem_filter.mpr ⟨List.mem_of_getElem? (i := 281) (by decide +kernel), by decide +kernel⟩) (show Cond.sameField RX0 (TX0 1).1 (TX0 1).2.1 (TX0 1).2.2.1 ∈ TB from List.mem_filter.mpr ⟨List.mem_of_getElem? (i := 280) (by decide +kernel), by decide +kernel⟩) hd hq hv kk
theorem g_X0_13_4 {q : Nat} {fs : List Value} {v : Value} (hd : decode cc pc = .ok (.getfield 13, 3)) (hq : h q = some (ob 4 fs)) (hv : fs[2]? = some v) (kk : Ev E RX0 cc nL ret mn Q d kc ks (pc + 3) L (v :: st) h) : Ev E RX0 cc nL ret mn Q d kc ks pc L (.ref q :: st) h := ev_getS inX4 rfl (by decide) (show Cond.fieldLink RX0 13 RX0 (TX4 2).2.1 (TX4 2).2.2.1 ∈ TB from List.mem_filter.mpr ⟨List.mem_of_getElem? (i := 281) (by decide +kernel), by decide +kernel⟩) (show Cond.sameField RX0 (TX4 2).1 (TX4 2).2.1 (TX4 2).2.2.1 ∈ TB from List.mem_filter.mpr ⟨List.mem_of_getElem? (i := 280) (by decide +kernel), by decide +kernel⟩) hd hq hv kk
theorem g_X9_130_3 {q : Nat} {fs : List Value} {v : Value} (hd : decode cc pc = .ok (.getfield 130, 3)) (hq : h q = some (ob 3 fs)) (hv : fs[1]? = some v) (kk : Ev E RX9 cc nL ret mn Q d kc ks (pc + 3) L (v :: st) h) : Ev E RX9 cc nL ret mn Q d kc ks pc L (.ref q :: st) h := ev_get inX3 rfl (by decide) (show Cond.fieldLink RX9 130 (TX3 1).1 (TX3 1).2.1 (TX3 1).2.2.1 ∈ TB from List.mem_filter.mpr ⟨List.mem_of_getElem? (i := 282) (by decide +kernel), by decide +kernel⟩) hd hq hv kk
theorem g_X9_130_0 {q : Nat} {fs : List Value} {v : Value} (hd : decode cc pc = .ok (.getfield 130, 3)) (hq : h q = some (ob 0 fs)) (hv : fs[1]? = some v) (kk : Ev E RX9 cc nL ret mn Q d kc ks (pc + 3) L (v :: st) h) : Ev E RX9 cc nL ret mn Q d kc ks pc L (.ref q :: st) h := ev_get inX0 rfl (by decide) (show Cond.fieldLink RX9 130 (TX0 1).1 (TX0 1).2.1 (TX0 1).2.2.1 ∈ TB from List.mem_filter.mpr ⟨List.mem_of_getElem? (i := 282) (by decide +kernel), by decide +kernel⟩) hd hq hv kk
theorem g_X9_130_4 {q : Nat} {fs : List Value} {v : Value} (hd : decode cc pc = .ok (.getfield 130, 3)) (hq : h q = some (ob 4 fs)) (hv : fs[2]? = some v) (kk : Ev E RX9 cc nL ret mn Q d kc ks (pc + 3) L (v :: st) h) : Ev E RX9 cc nL ret mn Q d kc ks pc L (.ref q :: st) h := ev_get inX4 rfl (by decide) (show Cond.fieldLink RX9 130 (TX4 2).1 (TX4 2).2.1 (TX4 2).2.2.1 ∈ TB from List.mem_filter.mpr ⟨List.mem_of_getElem? (i := 282) (by decide +kernel), by decide +kernel⟩) hd hq hv kk
theorem g_X3_17_3 {q : Nat} {fs : List Value} {v : Value} (hd : decode cc pc = .ok (.getfield 17, 3)) (hq : h q = some (ob 3 fs)) (hv : fs[2]? = some v) (kk : Ev E RX3 cc nL ret mn Q d kc ks (pc + 3) L (v :: st) h) : Ev E RX3 cc nL ret mn Q d kc ks pc L (.ref q :: st) h := ev_get inX3 rfl (by decide) (show Cond.fieldLink RX3 17 (TX3 2).1 (TX3 2).2.1 (TX3 2).2.2.1 ∈ TB from List.mem_filter.mpr ⟨List.mem_of_getElem? (i := 283) (by decide +kernel), by decide +kernel⟩) hd hq hv kk
theorem p_X3_17_3 {q : Nat} {fs : List Value} {z : Int} (hmn : mn = "<init>") (hd : decode cc pc = .ok (.putfield 17, 3)) (hq : h q = some (ob 3 fs)) (hl0 : 2 < fs.length) (kk : Ev E RX3 cc nL ret mn Q d kc ks (pc + 3) L st (ah_up h q (ob 3 (fs.set 2 (vI z))))) : Ev E RX3 cc nL ret mn Q d kc ks pc L (vI z :: .ref q :: st) h := ev_putF inX3 rfl (by decide) tyX3 tyX3_ok nmX3 (show Cond.fieldLink RX3 17 (TX3 2).1 (TX3 2).2.1 (TX3 2).2.2.1 ∈ TB from List.mem_filter.mpr ⟨List.mem_of_getElem? (i := 283) (by decide +kernel), by decide +kernel⟩) rfl hmn rfl rfl rfl hd hq hl0 kk
theorem g_X3_17_0 {q : Nat} {fs : List Value} {v : Value} (hd : decode cc pc = .ok (.getfield 17, 3)) (hq : h q = some (ob 0 fs)) (hv : fs[2]? = some v) (kk : Ev E RX3 cc nL ret mn Q d kc ks (pc + 3) L (v :: st) h) : Ev E RX3 cc nL ret mn Q d kc ks pc L (.ref q :: st) h := ev_get inX0 rfl (by decide) (show Cond.fieldLink RX3 17 (TX0 2).1 (TX0 2).2.1 (TX0 2).2.2.1 ∈ TB from List.mem_filter.mpr ⟨List.mem_of_getElem? (i := 283) (by decide +kernel), by decide +kernel⟩) hd hq hv kk
theorem p_X3_17_0 {q : Nat} {fs : List Value} {z : Int} (hmn : mn = "<init>") (hd : decode cc pc = .ok (.putfield 17, 3)) (hq : h q = some (ob 0 fs)) (hl0 : 2 < fs.length) (kk : Ev E RX3 cc nL ret mn Q d kc ks (pc + 3) L st (ah_up h q (ob 0 (fs.set 2 (vI z))))) : Ev E RX3 cc nL ret mn Q d kc ks pc L (vI z :: .ref q :: st) h := ev_putF inX0 rfl (by decide) tyX0 tyX0_ok nmX0 (show Cond.fieldLink RX3 17 (TX0 2).1 (TX0 2).2.1 (TX0 2).2.2.1 ∈ TB from List.mem_filter.mpr ⟨List.mem_of_getElem? (i := 283) (by decide +kernel), by decide +kernel⟩) rfl hmn rfl rfl rfl hd hq hl0 kk
theorem g_X3_17_4 {q : Nat} {fs : List Value} {v : Value} (hd : decode cc pc = .ok (.getfield 17, 3)) (hq : h q = some (ob 4 fs)) (hv : fs[3]? = some v) (kk : Ev E RX3 cc nL ret mn Q d kc ks (pc + 3) L (v :: st) h) : Ev E RX3 cc nL ret mn Q d kc ks pc L (.ref q :: st) h := ev_get inX4 rfl (by decide) (show Cond.fieldLink RX3 17 (TX4 3).1 (TX4 3).2.1 (TX4 3).2.2.1 ∈ TB from List.mem_filter.mpr ⟨List.mem_of_getElem? (i := 283) (by decide +kernel), by decide +kernel⟩) hd hq hv kk
theorem p_X3_17_4 {q : Nat} {fs : List Value} {z : Int} (hmn : mn = "<init>") (hd : decode cc pc = .ok (.putfield 17, 3)) (hq : h q = some (ob 4 fs)) (hl0 : 3 < fs.length) (kk : Ev E RX3 cc nL ret mn Q d kc ks (pc + 3) L st (ah_up h q (ob 4 (fs.set 3 (vI z))))) : Ev E RX3 cc nL ret mn Q d kc ks pc L (vI z :: .ref q :: st) h := ev_putF inX4 rfl (by decide) tyX4 tyX4_ok nmX4 (show Cond.fieldLink RX3 17 (TX4 3).1 (TX4 3).2.1 (TX4 3).2.2.1 ∈ TB from List.mem_filter.mpr ⟨List.mem_of_getElem? (i := 283) (by decide +kernel), by decide +kernel⟩) rfl hmn rfl rfl rfl hd hq hl0 kk
theorem g_X9_133_3 {q : Nat} {fs : List Value} {v : Value} (hd : decode cc pc = .ok (.getfield 133, 3)) (hq : h q = some (ob 3 fs)) (hv : fs[2]? = some v) (kk : Ev E RX9 cc nL ret mn Q d kc ks (pc + 3) L (v :: st) h) : Ev E RX9 cc nL ret mn Q d kc ks pc L (.ref q :: st) h := ev_get inX3 rfl (by decide) (show Cond.fieldLink RX9 133 (TX3 2).1 (TX3 2).2.1 (TX3 2).2.2.1 ∈ TB from List.mem_filter.mpr ⟨List.mem_of_getElem? (i := 284) (by decide +kernel), by decide +kernel⟩) hd hq hv kk
theorem g_X9_133_0 {q : Nat} {fs : List Value} {v : Value} (hd : decode cc pc = .ok (.getfield 133, 3)) (hq : h q = some (ob 0 fs)) (hv : fs[2]? = some v) (kk : Ev E RX9 cc nL ret mn Q d kc ks (pc + 3) L (v :: st) h) : Ev E RX9 cc nL ret mn Q d kc ks pc L (.ref q :: st) h := ev_get inX0 rfl (by decide) (show Cond.fieldLink RX9 133 (TX0 2).1 (TX0 2).2.1 (TX0 2).2.2.1 ∈ TB from List.mem_filter.mpr ⟨List.mem_of_getElem? (i := 284) (by decide +kernel), by decide +kernel⟩) hd hq hv kk
theorem g_X9_133_4 {q : Nat} {fs : List Value} {v : Value} (hd : decode cc pc = .ok (.getfield 133, 3)) (hq : h q = some (ob 4 fs)) (hv : fs[3]? = some v) (kk : Ev E RX9 cc nL ret mn Q d kc ks (pc + 3) L (v :: st) h) : Ev E RX9 cc nL ret mn Q d kc ks pc L (.ref q :: st) h := ev_get inX4 rfl (by decide) (show Cond.fieldLink RX9 133 (TX4 3).1 (TX4 3).2.1 (TX4 3).2.2.1 ∈ TB from List.mem_filter.mpr ⟨List.mem_of_getElem? (i := 284) (by decide +kernel), by decide +kernel⟩) hd hq hv kk
theorem g_X3_20_3 {q : Nat} {fs : List Value} {v : Value} (hd : decode cc pc = .ok (.getfield 20, 3)) (hq : h q = some (ob 3 fs)) (hv : fs[3]? = some v) (kk : Ev E RX3 cc nL ret mn Q d kc ks (pc + 3) L (v :: st) h) : Ev E RX3 cc nL ret mn Q d kc ks pc L (.ref q :: st) h := ev_get inX3 rfl (by decide) (show Cond.fieldLink RX3 20 (TX3 3).1 (TX3 3).2.1 (TX3 3).2.2.1 ∈ TB from List.mem_filter.mpr ⟨List.mem_of_getElem? (i := 285) (by decide +kernel), by decide +kernel⟩) hd hq hv kk
theorem p_X3_20_3 {q : Nat} {fs : List Value} {z : Int} (hmn : mn = "<init>") (hd : decode cc pc = .ok (.putfield 20, 3)) (hq : h q = some (ob 3 fs)) (hl0 : 3 < fs.length) (kk : Ev E RX3 cc nL ret mn Q d kc ks (pc + 3) L st (ah_up h q (ob 3 (fs.set 3 (vI z))))) : Ev E RX3 cc nL ret mn Q d kc ks pc L (vI z :: .ref q :: st) h := ev_putF inX3 rfl (by decide) tyX3 tyX3_ok nmX3 (show Cond.fieldLink RX3 20 (TX3 3).1 (TX3 3).2.1 (TX3 3).2.2.1 ∈ TB from List.mem_filter.mpr ⟨List.mem_of_getElem? (i := 285) (by decide +kernel), by decide +kernel⟩) rfl hmn rfl rfl rfl hd hq hl0 kk
theorem g_X3_20_0 {q : Nat} {fs : List Value} {v : Value} (hd : decode cc pc = .ok (.getfield 20, 3)) (hq : h q = some (ob 0 fs)) (hv : fs[3]? = some v) (kk : Ev E RX3 cc nL ret mn Q d kc ks (pc + 3) L (v :: st) h) : Ev E RX3 cc nL ret mn Q d kc ks pc L (.ref q :: st) h := ev_get inX0 rfl (by decide) (show Cond.fieldLink RX3 20 (TX0 3).1 (TX0 3).2.1 (TX0 3).2.2.1 ∈ TB from List.mem_filter.mpr ⟨List.mem_of_getElem? (i := 285) (by decide +kernel), by decide +kernel⟩) hd hq hv kk
theorem p_X3_20_0 {q : Nat} {fs : List Value} {z : Int} (hmn : mn = "<init>") (hd : decode cc pc = .ok (.putfield 20, 3)) (hq : h q = some (ob 0 fs)) (hl0 : 3 < fs.length) (kk : Ev E RX3 cc nL ret mn Q d kc ks (pc + 3) L st (ah_up h q (ob 0 (fs.set 3 (vI z))))) : Ev E RX3 cc nL ret mn Q d kc ks pc L (vI z :: .ref q :: st) h := ev_putF inX0 rfl (by decide) tyX0 tyX0_ok nmX0 (show Cond.fieldLink RX3 20 (TX0 3).1 (TX0 3).2.1 (TX0 3).2.2.1 ∈ TB from List.mem_filter.mpr ⟨List.mem_of_getElem? (i := 285) (by decide +kernel), by decide +kernel⟩) rfl hmn rfl rfl rfl hd hq hl0 kk
theorem g_X3_20_4 {q : Nat} {fs : List Value} {v : Value} (hd : decode cc pc = .ok (.getfield 20, 3)) (hq : h q = some (ob 4 fs)) (hv : fs[4]? = some v) (kk : Ev E RX3 cc nL ret mn Q d kc ks (pc + 3) L (v :: st) h) : Ev E RX3 cc nL ret mn Q d kc ks pc L (.ref q :: st) h := ev_get inX4 rfl (by decide) (show Cond.fieldLink RX3 20 (TX4 4).1 (TX4 4).2.1 (TX4 4).2.2.1 ∈ TB from List.mem_filter.mpr ⟨List.mem_of_getElem? (i := 285) (by decide +kernel), by decide +kernel⟩) hd hq hv kk
theorem p_X3_20_4 {q : Nat} {fs : List Value} {z : Int} (hmn : mn = "<init>") (hd : decode cc pc = .ok (.putfield 20, 3)) (hq : h q = some (ob 4 fs)) (hl0 : 4 < fs.length) (kk : Ev E RX3 cc nL ret mn Q d kc ks (pc + 3) L st (ah_up h q (ob 4 (fs.set 4 (vI z))))) : Ev E RX3 cc nL ret mn Q d kc ks pc L (vI z :: .ref q :: st) h := ev_putF inX4 rfl (by decide) tyX4 tyX4_ok nmX4 (show Cond.fieldLink RX3 20 (TX4 4).1 (TX4 4).2.1 (TX4 4).2.2.1 ∈ TB from List.mem_filter.mpr ⟨List.mem_of_getElem? (i := 285) (by decide +kernel), by decide +kernel⟩) rfl hmn rfl rfl rfl hd hq hl0 kk
theorem g_X1_25_0 {q : Nat} {fs : List Value} {v : Value} (hd : decode cc pc = .ok (.getfield 25, 3)) (hq : h q = some (ob 0 fs)) (hv : fs[3]? = some v) (kk : Ev E RX1 cc nL ret mn Q d kc ks (pc + 3) L (v :: st) h) : Ev E RX1 cc nL ret mn Q d kc ks pc L (.ref q :: st) h := ev_getS inX0 rfl (by decide) (show Cond.fieldLink RX1 25 RX0 (TX0 3).2.1 (TX0 3).2.2.1 ∈ TB from List.mem_filter.mpr ⟨List.mem_of_getElem? (i := 286) (by decide +kernel), by decide +kernel⟩) (show Cond.sameField RX0 (TX0 3).1 (TX0 3).2.1 (TX0 3).2.2.1 ∈ TB from List.mem_filter.mpr ⟨List.mem_of_getElem? (i := 287) (by decide +kernel), by decide +kernel⟩) hd hq hv kk
theorem g_X1_25_4 {q : Nat} {fs : List Value} {v : Value} (hd : decode cc pc = .ok (.getfield 25, 3)) (hq : h q = some (ob 4 fs)) (hv : fs[4]? = some v) (kk : Ev E RX1 cc nL ret mn Q d kc ks (pc + 3) L (v :: st) h) : Ev E RX1 cc nL ret mn Q d kc ks pc L (.ref q :: st) h := ev_getS inX4 rfl (by decide) (show Cond.fieldLink RX1 25 RX0 (TX4 4).2.1 (TX4 4).2.2.1 ∈ TB from List.mem_filter.mpr ⟨List.mem_of_getElem? (i := 286) (by decide +kernel), by decide +kernel⟩) (show Cond.sameField RX0 (TX4 4).1 (TX4 4).2.1 (TX4 4).2.2.1 ∈ TB from List.mem_filter.mpr ⟨List.mem_of_getElem? (i := 287) (by decide +kernel), by decide +kernel⟩) hd hq hv kk
theorem g_X9_136_3 {q : Nat} {fs : List Value} {v : Value} (hd : decode cc pc = .ok (.getfield 136, 3)) (hq : h q = some (ob 3 fs)) (hv : fs[3]? = some v) (kk : Ev E RX9 cc nL ret mn Q d kc ks (pc + 3) L (v :: st) h) : Ev E RX9 cc nL ret mn Q d kc ks pc L (.ref q :: st) h := ev_get inX3 rfl (by decide) (show Cond.fieldLink RX9 136 (TX3 3).1 (TX3 3).2.1 (TX3 3).2.2.1 ∈ TB from List.mem_filter.mpr ⟨List.mem_of_getElem? (i := 288) (by decide +kernel), by decide +kernel⟩) hd hq hv kk
theorem g_X9_136_0 {q : Nat} {fs : List Value} {v : Value} (hd : decode cc pc = .ok (.getfield 136, 3)) (hq : h q = some (ob 0 fs)) (hv : fs[3]? = some v) (kk : Ev E RX9 cc nL ret mn Q d kc ks (pc + 3) L (v :: st) h) : Ev E RX9 cc nL ret mn Q d kc ks pc L (.ref q :: st) h := ev_get inX0 rfl (by decide) (show Cond.fieldLink RX9 136 (TX0 3).1 (TX0 3).2.1 (TX0 3).2.2.1 ∈ TB from List.mem_filter.mpr ⟨List.mem_of_getElem? (i := 288) (by decide +kernel), by decide +kernel⟩) hd hq hv kk
theorem g_X9_136_4 {q : Nat} {fs : List Value} {v : Value} (hd : decode cc pc = .ok (.getfield 136, 3)) (hq : h q = some (ob 4 fs)) (hv : fs[4]? = some v) (kk : Ev E RX9 cc nL ret mn Q d kc ks (pc + 3) L (v :: st) h) : Ev E RX9 cc nL ret mn Q d kc ks pc L (.ref q :: st) h := ev_get inX4 rfl (by decide) (show Cond.fieldLink RX9 136 (TX4 4).1 (TX4 4).2.1 (TX4 4).2.2.1 ∈ TB from List.mem_filter.mpr ⟨List.mem_of_getElem? (i := 288) (by decide +kernel), by decide +kernel⟩) hd hq hv kk
theorem g_X3_23_3 {q : Nat} {fs : List Value} {v : Value} (hd : decode cc pc = .ok (.getfield 23, 3)) (hq : h q = some (ob 3 fs)) (hv : fs[4]? = some v) (kk : Ev E RX3 cc nL ret mn Q d kc ks (pc + 3) L (v :: st) h) : Ev E RX3 cc nL ret mn Q d kc ks pc L (.ref q :: st) h := ev_get inX3 rfl (by decide) (show Cond.fieldLink RX3 23 (TX3 4).1 (TX3 4).2.1 (TX3 4).2.2.1 ∈ TB from List.mem_filter.mpr ⟨List.mem_of_getElem? (i := 289) (by decide +kernel), by decide +kernel⟩) hd hq hv kk
theorem p_X3_23_3 {q : Nat} {fs : List Value} {z : Int} (hmn : mn = "<init>") (hd : decode cc pc = .ok (.putfield 23, 3)) (hq : h q = some (ob 3 fs)) (hl0 : 4 < fs.length) (kk : Ev E RX3 cc nL ret mn Q d kc ks (pc + 3) L st (ah_up h q (ob 3 (fs.set 4 (vI z))))) : Ev E RX3 cc nL ret mn Q d kc ks pc L (vI z :: .ref q :: st) h := ev_putF inX3 rfl (by decide) tyX3 tyX3_ok nmX3 (show Cond.fieldLink RX3 23 (TX3 4).1 (TX3 4).2.1 (TX3 4).2.2.1 ∈ TB from List.mem_filter.mpr ⟨List.mem_of_getElem? (i := 289) (by decide +kernel), by decide +kernel⟩) rfl hmn rfl rfl rfl hd hq hl0 kk
theorem g_X3_23_0 {q : Nat} {fs : List Value} {v : Value} (hd : decode cc pc = .ok (.getfield 23, 3)) (hq : h q = some (ob 0 fs)) (hv : fs[4]? = some v) (kk : Ev E RX3 cc nL ret mn Q d kc ks (pc + 3) L (v :: st) h) : Ev E RX3 cc nL ret mn Q d kc ks pc L (.ref q :: st) h := ev_get inX0 rfl (by decide) (show Cond.fieldLink RX3 23 (TX0 4).1 (TX0 4).2.1 (TX0 4).2.2.1 ∈ TB from List.mem_filter.mpr ⟨List.mem_of_getElem? (i := 289) (by decide +kernel), by decide +kernel⟩) hd hq hv kk
theorem p_X3_23_0 {q : Nat} {fs : List Value} {z : Int} (hmn : mn = "<init>") (hd : decode cc pc = .ok (.putfield 23, 3)) (hq : h q = some (ob 0 fs)) (hl0 : 4 < fs.length) (kk : Ev E RX3 cc nL ret mn Q d kc ks (pc + 3) L st (ah_up h q (ob 0 (fs.set 4 (vI z))))) : Ev E RX3 cc nL ret mn Q d kc ks pc L (vI z :: .ref q :: st) h := ev_putF inX0 rfl (by decide) tyX0 tyX0_ok nmX0 (show Cond.fieldLink RX3 23 (TX0 4).1 (TX0 4).2.1 (TX0 4).2.2.1 ∈ TB from List.mem_filter.mpr ⟨List.mem_of_getElem? (i := 289) (by decide +kernel), by decide +kernel⟩) rfl hmn rfl rfl rfl hd hq hl0 kk
theorem g_X3_23_4 {q : Nat} {fs : List Value} {v : Value} (hd : decode cc pc = .ok (.getfield 23, 3)) (hq : h q = some (ob 4 fs)) (hv : fs[5]? = some v) (kk : Ev E RX3 cc nL ret mn Q d kc ks (pc + 3) L (v :: st) h) : Ev E RX3 cc nL ret mn Q d kc ks pc L (.ref q :: st) h := ev_get inX4 rfl (by decide) (show Cond.fieldLink RX3 23 (TX4 5).1 (TX4 5).2.1 (TX4 5).2.2.1 ∈ TB from List.mem_filter.mpr ⟨List.mem_of_getElem? (i := 289) (by decide +kernel), by decide +kernel⟩) hd hq hv kk
theorem p_X3_23_4 {q : Nat} {fs : List Value} {z : Int} (hmn : mn = "<init>") (hd : decode cc pc = .ok (.putfield 23, 3)) (hq : h q = some (ob 4 fs)) (hl0 : 5 < fs.length) (kk : Ev E RX3 cc nL ret mn Q d kc ks (pc + 3) L st (ah_up h q (ob 4 (fs.set 5 (vI z))))) : Ev E RX3 cc nL ret mn Q d kc ks pc L (vI z :: .ref q :: st) h := ev_putF inX4 rfl (by decide) tyX4 tyX4_ok nmX4 (show Cond.fieldLink RX3 23 (TX4 5).1 (TX4 5).2.1 (TX4 5).2.2.1 ∈ TB from List.mem_filter.mpr ⟨List.mem_of_getElem? (i := 289) (by decide +kernel), by decide +kernel⟩) rfl hmn rfl rfl rfl hd hq hl0 kk
theorem g_X1_61_0 {q : Nat} {fs : List Value} {v : Value} (hd : decode cc pc = .ok (.getfield 61, 3)) (hq : h q = some (ob 0 fs)) (hv : fs[4]? = some v) (kk : Ev E RX1 cc nL ret mn Q d kc ks (pc + 3) L (v :: st) h) : Ev E RX1 cc nL ret mn Q d kc ks pc L (.ref q :: st) h := ev_getS inX0 rfl (by decide) (show Cond.fieldLink RX1 61 RX0 (TX0 4).2.1 (TX0 4).2.2.1 ∈ TB from List.mem_filter.mpr ⟨List.mem_of_getElem? (i := 290) (by decide +kernel), by decide +kernel⟩) (show Cond.sameField RX0 (TX0 4).1 (TX0 4).2.1 (TX0 4).2.2.1 ∈ TB from List.mem_filter.mpr ⟨List.mem_of_getElem? (i := 291) (by decide +kernel), by decide +kernel⟩) hd hq hv kk
theorem g_X1_61_4 {q : Nat} {fs : List Value} {v : Value} (hd : decode cc pc = .ok (.getfield 61, 3)) (hq : h q = some (ob 4 fs)) (hv : fs[5]? = some v) (kk : Ev E RX1 cc nL ret mn Q d kc ks (pc + 3) L (v :: st) h) : Ev E RX1 cc nL ret mn Q d kc ks pc L (.ref q :: st) h := ev_getS inX4 rfl (by decide) (show Cond.fieldLink RX1 61 RX0 (TX4 5).2.1 (TX4 5).2.2.1 ∈ TB from List.mem_filter.mpr ⟨List.mem_of_getElem? (i := 290) (by decide +kernel), by decide +kernel⟩) (show Cond.sameField RX0 (TX4 5).1 (TX4 5).2.1 (TX4 5).2.2.1 ∈ TB from List.mem_filter.mpr ⟨List.mem_of_getElem? (i := 291) (by decide +kernel), by decide +kernel⟩) hd hq hv kk
theorem g_X9_139_3 {q : Nat} {fs : List Value} {v : Value} (hd : decode cc pc = .ok (.getfield 139, 3)) (hq : h q = some (ob 3 fs)) (hv : fs[4]? = some v) (kk : Ev E RX9 cc nL ret mn Q d kc ks (pc + 3) L (v :: st) h) : Ev E RX9 cc nL ret mn Q d kc ks pc L (.ref q :: st) h := ev_get inX3 rfl (by decide) (show Cond.fieldLink RX9 139 (TX3 4).1 (TX3 4).2.1 (TX3 4).2.2.1 ∈ TB from List.mem_filter.mpr ⟨List.mem_of_getElem? (i := 292) (by decide +kernel), by decide +kernel⟩) hd hq hv kk
theorem g_X9_139_0 {q : Nat} {fs : List Value} {v : Value} (hd : decode cc pc = .ok (.getfield 139, 3)) (hq : h q = some (ob 0 fs)) (hv : fs[4]? = some v) (kk : Ev E RX9 cc nL ret mn Q d kc ks (pc + 3) L (v :: st) h) : Ev E RX9 cc nL ret mn Q d kc ks pc L (.ref q :: st) h := ev_get inX0 rfl (by decide) (show Cond.fieldLink RX9 139 (TX0 4).1 (TX0 4).2.1 (TX0 4).2.2.1 ∈ TB from List.mem_filter.mpr ⟨List.mem_of_getElem? (i := 292) (by decide +kernel), by decide +kernel⟩) hd hq hv kk
theorem g_X9_139_4 {q : Nat} {fs : List Value} {v : Value} (hd : decode cc pc = .ok (.getfield 139, 3)) (hq : h q = some (ob 4 fs)) (hv : fs[5]? = some v) (kk : Ev E RX9 cc nL ret mn Q d kc ks (pc + 3) L (v :: st) h) : Ev E RX9 cc nL ret mn Q d kc ks pc L (.ref q :: st) h := ev_get inX4 rfl (by decide) (show Cond.fieldLink RX9 139 (TX4 5).1 (TX4 5).2.1 (TX4 5).2.2.1 ∈ TB from List.mem_filter.mpr ⟨List.mem_of_getElem? (i := 292) (by decide +kernel), by decide +kernel⟩) hd hq hv kk
theorem g_X0_7_0 {q : Nat} {fs : List Value} {v : Value} (hd : decode cc pc = .ok (.getfield 7, 3)) (hq : h q = some (ob 0 fs)) (hv : fs[5]? = some v) (kk : Ev E RX0 cc nL ret mn Q d kc ks (pc + 3) L (v :: st) h) : Ev E RX0 cc nL ret mn Q d kc ks pc L (.ref q :: st) h := ev_get inX0 rfl (by decide) (show Cond.fieldLink RX0 7 (TX0 5).1 (TX0 5).2.1 (TX0 5).2.2.1 ∈ TB from List.mem_filter.mpr ⟨List.mem_of_getElem? (i := 325) (by decide +kernel), by decide +kernel⟩) hd hq hv kk
theorem p_X0_7_0 {q : Nat} {fs : List Value} {z : Int} (hmn : mn = "<init>") (hd : decode cc pc = .ok (.putfield 7, 3)) (hq : h q = some (ob 0 fs)) (hl0 : 5 < fs.length) (kk : Ev E RX0 cc nL ret mn Q d kc ks (pc + 3) L st (ah_up h q (ob 0 (fs.set 5 (vI z))))) : Ev E RX0 cc nL ret mn Q d kc ks pc L (vI z :: .ref q :: st) h := ev_putF inX0 rfl (by decide) tyX0 tyX0_ok nmX0 (show Cond.fieldLink RX0 7 (TX0 5).1 (TX0 5).2.1 (TX0 5).2.2.1 ∈ TB from List.mem_filter.mpr ⟨List.mem_of_getElem? (i := 325) (by decide +kernel), by decide +kernel⟩) rfl hmn rfl rfl rfl hd hq hl0 kk
theorem g_X0_7_4 {q : Nat} {fs : List Value} {v : Value} (hd : decode cc pc = .ok (.getfield 7, 3)) (hq : h q = some (ob 4 fs)) (hv : fs[0]? = some v) (kk : Ev E RX0 cc nL ret mn Q d kc ks (pc + 3) L (v :: st) h) : Ev E RX0 cc nL ret mn Q d kc ks pc L (.ref q :: st) h := ev_get inX4 rfl (by decide) (show Cond.fieldLink RX0 7 (TX4 0).1 (TX4 0).2.1 (TX4 0).2.2.1 ∈ TB from List.mem_filter.mpr ⟨List.mem_of_getElem? (i := 325) (by decide +kernel), by decide +kernel⟩) hd hq hv kk
theorem p_X0_7_4 {q : Nat} {fs : List Value} {z : Int} (hmn : mn = "<init>") (hd : decode cc pc = .ok (.putfield 7, 3)) (hq : h q = some (ob 4 fs)) (hl0 : 0 < fs.length) (kk : Ev E RX0 cc nL ret mn Q d kc ks (pc + 3) L st (ah_up h q (ob 4 (fs.set 0 (vI z))))) : Ev E RX0 cc nL ret mn Q d kc ks pc L (vI z :: .ref q :: st) h := ev_putF inX4 rfl (by decide) tyX4 tyX4_ok nmX4 (show Cond.fieldLink RX0 7 (TX4 0).1 (TX4 0).2.1 (TX4 0).2.2.1 ∈ TB from List.mem_filter.mpr ⟨List.mem_of_getElem? (i := 325) (by decide +kernel), by decide +kernel⟩) rfl hmn rfl rfl rfl hd hq hl0 kk
theorem g_X9_148_0 {q : Nat} {fs : List Value} {v : Value} (hd : decode cc pc = .ok (.getfield 148, 3)) (hq : h q = some (ob 0 fs)) (hv : fs[5]? = some v) (kk : Ev E RX9 cc nL ret mn Q d kc ks (pc + 3) L (v :: st) h) : Ev E RX9 cc nL ret mn Q d kc ks pc L (.ref q :: st) h := ev_get inX0 rfl (by decide) (show Cond.fieldLink RX9 148 (TX0 5).1 (TX0 5).2.1 (TX0 5).2.2.1 ∈ TB from List.mem_filter.mpr ⟨List.mem_of_getElem? (i := 326) (by decide +kernel), by decide +kernel⟩) hd hq hv kk
theorem g_X9_148_4 {q : Nat} {fs : List Value} {v : Value} (hd : decode cc pc = .ok (.getfield 148, 3)) (hq : h q = some (ob 4 fs)) (hv : fs[0]? = some v) (kk : Ev E RX9 cc nL ret mn Q d kc ks (pc + 3) L (v :: st) h) : Ev E RX9 cc nL ret mn Q d kc ks pc L (.ref q :: st) h := ev_get inX4 rfl (by decide) (show Cond.fieldLink RX9 148 (TX4 0).1 (TX4 0).2.1 (TX4 0).2.2.1 ∈ TB from List.mem_filter.mpr ⟨List.mem_of_getElem? (i := 326) (by decide +kernel), by decide +kernel⟩) hd hq hv kk
theorem g_X4_7_4 {q : Nat} {fs : List Value} {v : Value} (hd : decode cc pc = .ok (.getfield 7, 3)) (hq : h q = some (ob 4 fs)) (hv : fs[6]? = some v) (kk : Ev E RX4 cc nL ret mn Q d kc ks (pc + 3) L (v :: st) h) : Ev E RX4 cc nL ret mn Q d kc ks pc L (.ref q :: st) h := ev_get inX4 rfl (by decide) (show Cond.fieldLink RX4 7 (TX4 6).1 (TX4 6).2.1 (TX4 6).2.2.1 ∈ TB from List.mem_filter.mpr ⟨List.mem_of_getElem? (i := 345) (by decide +kernel), by decide +kernel⟩) hd hq hv kk
theorem p_X4_7_4 {q : Nat} {fs : List Value} {z : Int} (hmn : mn = "<init>") (hd : decode cc pc = .ok (.putfield 7, 3)) (hq : h q = some (ob 4 fs)) (hl0 : 6 < fs.length) (kk : Ev E RX4 cc nL ret mn Q d kc ks (pc + 3) L st (ah_up h q (ob 4 (fs.set 6 (vI z))))) : Ev E RX4 cc nL ret mn Q d kc ks pc L (vI z :: .ref q :: st) h := ev_putF inX4 rfl (by decide) tyX4 tyX4_ok nmX4 (show Cond.fieldLink RX4 7 (TX4 6).1 (TX4 6).2.1 (TX4 6).2.2.1 ∈ TB from List.mem_filter.mpr ⟨List.mem_of_getElem? (i := 345) (by decide +kernel), by decide +kernel⟩) rfl hmn rfl rfl rfl hd hq hl0 kk
theorem g_X9_151_4 {q : Nat} {fs : List Value} {v : Value} (hd : decode cc pc = .ok (.getfield 151, 3)) (hq : h q = some (ob 4 fs)) (hv : fs[6]? = some v) (kk : Ev E RX9 cc nL ret mn Q d kc ks (pc + 3) L (v :: st) h) : Ev E RX9 cc nL ret mn Q d kc ks pc L (.ref q :: st) h := ev_get inX4 rfl (by decide) (show Cond.fieldLink RX9 151 (TX4 6).1 (TX4 6).2.1 (TX4 6).2.2.1 ∈ TB from List.mem_filter.mpr ⟨List.mem_of_getElem? (i := 346) (by decide +kernel), by decide +kernel⟩) hd hq hv kk
theorem gs_SINES (hd : decode cc pc = .ok (.getstatic 283, 3)) (kk : Ev E RX9 cc nL ret mn Q d kc ks (pc + 3) L (.ref E.2.2.1 :: st) h) : Ev E RX9 cc nL ret mn Q d kc ks pc L st h := ev_gets (C := RX9) (n := "SINES") (List.mem_filter.mpr ⟨List.mem_of_getElem? (i := 407) (by decide +kernel), by decide +kernel⟩) hd (fun A U H hG => hG.2.2.2.2.1) kk
theorem tl_SINES {z : Int} (hd : decode cc pc = .ok (.iaload, 1)) (h0 : 0 ≤ z) (h1 : z < 91) (kk : Ev E RX9 cc nL ret mn Q d kc ks (pc + 1) L (vI (tabS z) :: st) h) : Ev E RX9 cc nL ret mn Q d kc ks pc L (vI z :: .ref E.2.2.1 :: st) h := ev_tload (n := 91) hd (fun A U H hG => hG.2.2.2.2.2.1) (by decide) h0 h1 kk
theorem gs_TANGENTS (hd : decode cc pc = .ok (.getstatic 286, 3)) (kk : Ev E RX9 cc nL ret mn Q d kc ks (pc + 3) L (.ref E.2.2.2 :: st) h) : Ev E RX9 cc nL ret mn Q d kc ks pc L st h := ev_gets (C := RX9) (n := "TANGENTS") (List.mem_filter.mpr ⟨List.mem_of_getElem? (i := 415) (by decide +kernel), by decide +kernel⟩) hd (fun A U H hG => hG.2.2.2.2.2.2.1) kk
theorem tl_TANGENTS {z : Int} (hd : decode cc pc = .ok (.iaload, 1)) (h0 : 0 ≤ z) (h1 : z < 90) (kk : Ev E RX9 cc nL ret mn Q d kc ks (pc + 1) L (vI (tabT z) :: st) h) : Ev E RX9 cc nL ret mn Q d kc ks pc L (vI z :: .ref E.2.2.2 :: st) h := ev_tload (n := 90) hd (fun A U H hG => hG.2.2.2.2.2.2.2) (by decide) h0 h1 kk
theorem g_X8_7_8 {q : Nat} {fs : List Value} {v : Value} (hd : decode cc pc = .ok (.getfield 7, 3)) (hq : h q = some (ob 8 fs)) (hv : fs[0]? = some v) (kk : Ev E RX8 cc nL ret mn Q d kc ks (pc + 3) L (v :: st) h) : Ev E RX8 cc nL ret mn Q d kc ks pc L (.ref q :: st) h := ev_get inX8 rfl (by decide) (show Cond.fieldLink RX8 7 (TX8 0).1 (TX8 0).2.1 (TX8 0).2.2.1 ∈ TB from List.mem_filter.mpr ⟨List.mem_of_getElem? (i := 611) (by decide +kernel), by decide +kernel⟩) hd hq hv kk
theorem p_X8_7_8 {q : Nat} {fs : List Value} {z : Nat} (hmn : mn = "<init>") (hd : decode cc pc = .ok (.putfield 7, 3)) (hq : h q = some (ob 8 fs)) (hl0 : 0 < fs.length) (kk : Ev E RX8 cc nL ret mn Q d kc ks (pc + 3) L st (ah_up h q (ob 8 (fs.set 0 (.ref z))))) : Ev E RX8 cc nL ret mn Q d kc ks pc L (.ref z :: .ref q :: st) h := ev_putF inX8 rfl (by decide) tyX8 tyX8_ok nmX8 (show Cond.fieldLink RX8 7 (TX8 0).1 (TX8 0).2.1 (TX8 0).2.2.1 ∈ TB from List.mem_filter.mpr ⟨List.mem_of_getElem? (i := 611) (by decide +kernel), by decide +kernel⟩) rfl hmn rfl rfl rfl hd hq hl0 kk
theorem g_X9_232_8 {q : Nat} {fs : List Value} {v : Value} (hd : decode cc pc = .ok (.getfield 232, 3)) (hq : h q = some (ob 8 fs)) (hv : fs[0]? = some v) (kk : Ev E RX9 cc nL ret mn Q d kc ks (pc + 3) L (v :: st) h) : Ev E RX9 cc nL ret mn Q d kc ks pc L (.ref q :: st) h := ev_get inX8 rfl (by decide) (show Cond.fieldLink RX9 232 (TX8 0).1 (TX8 0).2.1 (TX8 0).2.2.1 ∈ TB from List.mem_filter.mpr ⟨List.mem_of_getElem? (i := 612) (by decide +kernel), by decide +kernel⟩) hd hq hv kk
theorem g_X8_13_8 {q : Nat} {fs : List Value} {v : Value} (hd : decode cc pc = .ok (.getfield 13, 3)) (hq : h q = some (ob 8 fs)) (hv : fs[1]? = some v) (kk : Ev E RX8 cc nL ret mn Q d kc ks (pc + 3) L (v :: st) h) : Ev E RX8 cc nL ret mn Q d kc ks pc L (.ref q :: st) h := ev_get inX8 rfl (by decide) (show Cond.fieldLink RX8 13 (TX8 1).1 (TX8 1).2.1 (TX8 1).2.2.1 ∈ TB from List.mem_filter.mpr ⟨List.mem_of_getElem? (i := 613) (by decide +kernel), by decide +kernel⟩) hd hq hv kk
theorem p_X8_13_8 {q : Nat} {fs : List Value} {z : Int} (hmn : mn = "<init>") (hd : decode cc pc = .ok (.putfield 13, 3)) (hq : h q = some (ob 8 fs)) (hl0 : 1 < fs.length) (kk : Ev E RX8 cc nL ret mn Q d kc ks (pc + 3) L st (ah_up h q (ob 8 (fs.set 1 (vI z))))) : Ev E RX8 cc nL ret mn Q d kc ks pc L (vI z :: .ref q :: st) h := ev_putF inX8 rfl (by decide) tyX8 tyX8_ok nmX8 (show Cond.fieldLink RX8 13 (TX8 1).1 (TX8 1).2.1 (TX8 1).2.2.1 ∈ TB from List.mem_filter.mpr ⟨List.mem_of_getElem? (i := 613) (by decide +kernel), by decide +kernel⟩) rfl hmn rfl rfl rfl hd hq hl0 kk
theorem g_X9_233_8 {q : Nat} {fs : List Value} {v : Value} (hd : decode cc pc = .ok (.getfield 233, 3)) (hq : h q = some (ob 8 fs)) (hv : fs[1]? = some v) (kk : Ev E RX9 cc nL ret mn Q d kc ks (pc + 3) L (v :: st) h) : Ev E RX9 cc nL ret mn Q d kc ks pc L (.ref q :: st) h := ev_get inX8 rfl (by decide) (show Cond.fieldLink RX9 233 (TX8 1).1 (TX8 1).2.1 (TX8 1).2.2.1 ∈ TB from List.mem_filter.mpr ⟨List.mem_of_getElem? (i := 614) (by decide +kernel), by decide +kernel⟩) hd hq hv kk
theorem g_X8_17_8 {q : Nat} {fs : List Value} {v : Value} (hd : decode cc pc = .ok (.getfield 17, 3)) (hq : h q = some (ob 8 fs)) (hv : fs[2]? = some v) (kk : Ev E RX8 cc nL ret mn Q d kc ks (pc + 3) L (v :: st) h) : Ev E RX8 cc nL ret mn Q d kc ks pc L (.ref q :: st) h := ev_get inX8 rfl (by decide) (show Cond.fieldLink RX8 17 (TX8 2).1 (TX8 2).2.1 (TX8 2).2.2.1 ∈ TB from List.mem_filter.mpr ⟨List.mem_of_getElem? (i := 615) (by decide +kernel), by decide +kernel⟩) hd hq hv kk
theorem p_X8_17_8 {q : Nat} {fs : List Value} {z : Int} (hmn : mn = "<init>") (hd : decode cc pc = .ok (.putfield 17, 3)) (hq : h q = some (ob 8 fs)) (hl0 : 2 < fs.length) (kk : Ev E RX8 cc nL ret mn Q d kc ks (pc + 3) L st (ah_up h q (ob 8 (fs.set 2 (vI z))))) : Ev E RX8 cc nL ret mn Q d kc ks pc L (vI z :: .ref q :: st) h := ev_putF inX8 rfl (by decide) tyX8 tyX8_ok nmX8 (show Cond.fieldLink RX8 17 (TX8 2).1 (TX8 2).2.1 (TX8 2).2.2.1 ∈ TB from List.mem_filter.mpr ⟨List.mem_of_getElem? (i := 615) (by decide +kernel), by decide +kernel⟩) rfl hmn rfl rfl rfl hd hq hl0 kk
theorem g_X9_234_8 {q : Nat} {fs : List Value} {v : Value} (hd : decode cc pc = .ok (.getfield 234, 3)) (hq : h q = some (ob 8 fs)) (hv : fs[2]? = some v) (kk : Ev E RX9 cc nL ret mn Q d kc ks (pc + 3) L (v :: st) h) : Ev E RX9 cc nL ret mn Q d kc ks pc L (.ref q :: st) h := ev_get inX8 rfl (by decide) (show Cond.fieldLink RX9 234 (TX8 2).1 (TX8 2).2.1 (TX8 2).2.2.1 ∈ TB from List.mem_filter.mpr ⟨List.mem_of_getElem? (i := 616) (by decide +kernel), by decide +kernel⟩) hd hq hv kk
theorem g_X8_20_8 {q : Nat} {fs : List Value} {v : Value} (hd : decode cc pc = .ok (.getfield 20, 3)) (hq : h q = some (ob 8 fs)) (hv : fs[3]? = some v) (kk : Ev E RX8 cc nL ret mn Q d kc ks (pc + 3) L (v :: st) h) : Ev E RX8 cc nL ret mn Q d kc ks pc L (.ref q :: st) h := ev_get inX8 rfl (by decide) (show Cond.fieldLink RX8 20 (TX8 3).1 (TX8 3).2.1 (TX8 3).2.2.1 ∈ TB from List.mem_filter.mpr ⟨List.mem_of_getElem? (i := 617) (by decide +kernel), by decide +kernel⟩) hd hq hv kk
theorem p_X8_20_8 {q : Nat} {fs : List Value} {z : Int} (hmn : mn = "<init>") (hd : decode cc pc = .ok (.putfield 20, 3)) (hq : h q = some (ob 8 fs)) (hl0 : 3 < fs.length) (kk : Ev E RX8 cc nL ret mn Q d kc ks (pc + 3) L st (ah_up h q (ob 8 (fs.set 3 (vI z))))) : Ev E RX8 cc nL ret mn Q d kc ks pc L (vI z :: .ref q :: st) h := ev_putF inX8 rfl (by decide) tyX8 tyX8_ok nmX8 (show Cond.fieldLink RX8 20 (TX8 3).1 (TX8 3).2.1 (TX8 3).2.2.1 ∈ TB from List.mem_filter.mpr ⟨List.mem_of_getElem? (i := 617) (by decide +kernel), by decide +kernel⟩) rfl hmn rfl rfl rfl hd hq hl0 kk
theorem g_X9_229_8 {q : Nat} {fs : List Value} {v : Value} (hd : decode cc pc = .ok (.getfield 229, 3)) (hq : h q = some (ob 8 fs)) (hv : fs[3]? = some v) (kk : Ev E RX9 cc nL ret mn Q d kc ks (pc + 3) L (v :: st) h) : Ev E RX9 cc nL ret mn Q d kc ks pc L (.ref q :: st) h := ev_get inX8 rfl (by decide) (show Cond.fieldLink RX9 229 (TX8 3).1 (TX8 3).2.1 (TX8 3).2.2.1 ∈ TB from List.mem_filter.mpr ⟨List.mem_of_getElem? (i := 618) (by decide +kernel), by decide +kernel⟩) hd hq hv kk
theorem g_X5_7_5 {q : Nat} {fs : List Value} {v : Value} (hd : decode cc pc = .ok (.getfield 7, 3)) (hq : h q = some (ob 5 fs)) (hv : fs[0]? = some v) (kk : Ev E RX5 cc nL ret mn Q d kc ks (pc + 3) L (v :: st) h) : Ev E RX5 cc nL ret mn Q d kc ks pc L (.ref q :: st) h := ev_get inX5 rfl (by decide) (show Cond.fieldLink RX5 7 (TX5 0).1 (TX5 0).2.1 (TX5 0).2.2.1 ∈ TB from List.mem_filter.mpr ⟨List.mem_of_getElem? (i := 689) (by decide +kernel), by decide +kernel⟩) hd hq hv kk
theorem p_X5_7_5 {q : Nat} {fs : List Value} {z : Int} (hmn : mn = "<init>") (hd : decode cc pc = .ok (.putfield 7, 3)) (hq : h q = some (ob 5 fs)) (hl0 : 0 < fs.length) (kk : Ev E RX5 cc nL ret mn Q d kc ks (pc + 3) L st (ah_up h q (ob 5 (fs.set 0 (vI z))))) : Ev E RX5 cc nL ret mn Q d kc ks pc L (vI z :: .ref q :: st) h := ev_putF inX5 rfl (by decide) tyX5 tyX5_ok nmX5 (show Cond.fieldLink RX5 7 (TX5 0).1 (TX5 0).2.1 (TX5 0).2.2.1 ∈ TB from List.mem_filter.mpr ⟨List.mem_of_getElem? (i := 689) (by decide +kernel), by decide +kernel⟩) rfl hmn rfl rfl rfl hd hq hl0 kk
theorem g_X9_270_5 {q : Nat} {fs : List Value} {v : Value} (hd : decode cc pc = .ok (.getfield 270, 3)) (hq : h q = some (ob 5 fs)) (hv : fs[0]? = some v) (kk : Ev E RX9 cc nL ret mn Q d kc ks (pc + 3) L (v :: st) h) : Ev E RX9 cc nL ret mn Q d kc ks pc L (.ref q :: st) h := ev_get inX5 rfl (by decide) (show Cond.fieldLink RX9 270 (TX5 0).1 (TX5 0).2.1 (TX5 0).2.2.1 ∈ TB from List.mem_filter.mpr ⟨List.mem_of_getElem? (i := 690) (by decide +kernel), by decide +kernel⟩) hd hq hv kk
theorem g_X5_13_5 {q : Nat} {fs : List Value} {v : Value} (hd : decode cc pc = .ok (.getfield 13, 3)) (hq : h q = some (ob 5 fs)) (hv : fs[1]? = some v) (kk : Ev E RX5 cc nL ret mn Q d kc ks (pc + 3) L (v :: st) h) : Ev E RX5 cc nL ret mn Q d kc ks pc L (.ref q :: st) h := ev_get inX5 rfl (by decide) (show Cond.fieldLink RX5 13 (TX5 1).1 (TX5 1).2.1 (TX5 1).2.2.1 ∈ TB from List.mem_filter.mpr ⟨List.mem_of_getElem? (i := 691) (by decide +kernel), by decide +kernel⟩) hd hq hv kk
theorem p_X5_13_5 {q : Nat} {fs : List Value} {z : Nat} (hmn : mn = "<init>") (hd : decode cc pc = .ok (.putfield 13, 3)) (hq : h q = some (ob 5 fs)) (hl0 : 1 < fs.length) (kk : Ev E RX5 cc nL ret mn Q d kc ks (pc + 3) L st (ah_up h q (ob 5 (fs.set 1 (.ref z))))) : Ev E RX5 cc nL ret mn Q d kc ks pc L (.ref z :: .ref q :: st) h := ev_putF inX5 rfl (by decide) tyX5 tyX5_ok nmX5 (show Cond.fieldLink RX5 13 (TX5 1).1 (TX5 1).2.1 (TX5 1).2.2.1 ∈ TB from List.mem_filter.mpr ⟨List.mem_of_getElem? (i := 691) (by decide +kernel), by decide +kernel⟩) rfl hmn rfl rfl rfl hd hq hl0 kk
theorem g_X9_267_5 {q : Nat} {fs : List Value} {v : Value} (hd : decode cc pc = .ok (.getfield 267, 3)) (hq : h q = some (ob 5 fs)) (hv : fs[1]? = some v) (kk : Ev E RX9 cc nL ret mn Q d kc ks (pc + 3) L (v :: st) h) : Ev E RX9 cc nL ret mn Q d kc ks pc L (.ref q :: st) h := ev_get inX5 rfl (by decide) (show Cond.fieldLink RX9 267 (TX5 1).1 (TX5 1).2.1 (TX5 1).2.2.1 ∈ TB from List.mem_filter.mpr ⟨List.mem_of_getElem? (i := 692) (by decide +kernel), by decide +kernel⟩) hd hq hv kk
theorem g_X10_7_10 {q : Nat} {fs : List Value} {v : Value} (hd : decode cc pc = .ok (.getfield 7, 3)) (hq : h q = some (ob 10 fs)) (hv : fs[0]? = some v) (kk : Ev E RX10 cc nL ret mn Q d kc ks (pc + 3) L (v :: st) h) : Ev E RX10 cc nL ret mn Q d kc ks pc L (.ref q :: st) h := ev_get inX10 rfl (by decide) (show Cond.fieldLink RX10 7 (TX10 0).1 (TX10 0).2.1 (TX10 0).2.2.1 ∈ TB from List.mem_filter.mpr ⟨List.mem_of_getElem? (i := 739) (by decide +kernel), by decide +kernel⟩) hd hq hv kk
theorem p_X10_7_10 {q : Nat} {fs : List Value} {z : Nat} (hmn : mn = "<init>") (hd : decode cc pc = .ok (.putfield 7, 3)) (hq : h q = some (ob 10 fs)) (hl0 : 0 < fs.length) (kk : Ev E RX10 cc nL ret mn Q d kc ks (pc + 3) L st (ah_up h q (ob 10 (fs.set 0 (.ref z))))) : Ev E RX10 cc nL ret mn Q d kc ks pc L (.ref z :: .ref q :: st) h := ev_putF inX10 rfl (by decide) tyX10 tyX10_ok nmX10 (show Cond.fieldLink RX10 7 (TX10 0).1 (TX10 0).2.1 (TX10 0).2.2.1 ∈ TB from List.mem_filter.mpr ⟨List.mem_of_getElem? (i := 739) (by decide +kernel), by decide +kernel⟩) rfl hmn rfl rfl rfl hd hq hl0 kk
theorem g_X10_13_10 {q : Nat} {fs : List Value} {v : Value} (hd : decode cc pc = .ok (.getfield 13, 3)) (hq : h q = some (ob 10 fs)) (hv : fs[1]? = some v) (kk : Ev E RX10 cc nL ret mn Q d kc ks (pc + 3) L (v :: st) h) : Ev E RX10 cc nL ret mn Q d kc ks pc L (.ref q :: st) h := ev_get inX10 rfl (by decide) (show Cond.fieldLink RX10 13 (TX10 1).1 (TX10 1).2.1 (TX10 1).2.2.1 ∈ TB from List.mem_filter.mpr ⟨List.mem_of_getElem? (i := 740) (by decide +kernel), by decide +kernel⟩) hd hq hv kk
theorem p_X10_13_10 {q : Nat} {fs : List Value} {z : Nat} (hmn : mn = "<init>") (hd : decode cc pc = .ok (.putfield 13, 3)) (hq : h q = some (ob 10 fs)) (hl0 : 1 < fs.length) (kk : Ev E RX10 cc nL ret mn Q d kc ks (pc + 3) L st (ah_up h q (ob 10 (fs.set 1 (.ref z))))) : Ev E RX10 cc nL ret mn Q d kc ks pc L (.ref z :: .ref q :: st) h := ev_putF inX10 rfl (by decide) tyX10 tyX10_ok nmX10 (show Cond.fieldLink RX10 13 (TX10 1).1 (TX10 1).2.1 (TX10 1).2.2.1 ∈ TB from List.mem_filter.mpr ⟨List.mem_of_getElem? (i := 740) (by decide +kernel), by decide +kernel⟩) rfl hmn rfl rfl rfl hd hq hl0 kk
theorem g_X10_155_10 {q : Nat} {fs : List Value} {v : Value} (hd : decode cc pc = .ok (.getfield 155, 3)) (hq : h q = some (ob 10 fs)) (hv : fs[2]? = some v) (kk : Ev E RX10 cc nL ret mn Q d kc ks (pc + 3) L (v :: st) h) : Ev E RX10 cc nL ret mn Q d kc ks pc L (.ref q :: st) h := ev_get inX10 rfl (by decide) (show Cond.fieldLink RX10 155 (TX10 2).1 (TX10 2).2.1 (TX10 2).2.2.1 ∈ TB from List.mem_filter.mpr ⟨List.mem_of_getElem? (i := 741) (by decide +kernel), by decide +kernel⟩) hd hq hv kk
theorem p_X10_155_10 {q : Nat} {fs : List Value} {z : Int} (hd : decode cc pc = .ok (.putfield 155, 3)) (hq : h q = some (ob 10 fs)) (hl0 : 2 < fs.length) (kk : Ev E RX10 cc nL ret mn Q d kc ks (pc + 3) L st (ah_up h q (ob 10 (fs.set 2 (vI z))))) : Ev E RX10 cc nL ret mn Q d kc ks pc L (vI z :: .ref q :: st) h := ev_put inX10 rfl (by decide) tyX10 tyX10_ok nmX10 (show Cond.fieldLink RX10 155 (TX10 2).1 (TX10 2).2.1 (TX10 2).2.2.1 ∈ TB from List.mem_filter.mpr ⟨List.mem_of_getElem? (i := 741) (by decide +kernel), by decide +kernel⟩) rfl rfl rfl hd hq hl0 kk
theorem g_X10_16_10 {q : Nat} {fs : List Value} {v : Value} (hd : decode cc pc = .ok (.getfield 16, 3)) (hq : h q = some (ob 10 fs)) (hv : fs[3]? = some v) (kk : Ev E RX10 cc nL ret mn Q d kc ks (pc + 3) L (v :: st) h) : Ev E RX10 cc nL ret mn Q d kc ks pc L (.ref q :: st) h := ev_get inX10 rfl (by decide) (show Cond.fieldLink RX10 16 (TX10 3).1 (TX10 3).2.1 (TX10 3).2.2.1 ∈ TB from List.mem_filter.mpr ⟨List.mem_of_getElem? (i := 742) (by decide +kernel), by decide +kernel⟩) hd hq hv kk
theorem p_X10_16_10 {q : Nat} {fs : List Value} {z : Nat} (hmn : mn = "<init>") (hd : decode cc pc = .ok (.putfield 16, 3)) (hq : h q = some (ob 10 fs)) (hl0 : 3 < fs.length) (kk : Ev E RX10 cc nL ret mn Q d kc ks (pc + 3) L st (ah_up h q (ob 10 (fs.set 3 (.ref z))))) : Ev E RX10 cc nL ret mn Q d kc ks pc L (.ref z :: .ref q :: st) h := ev_putF inX10 rfl (by decide) tyX10 tyX10_ok nmX10 (show Cond.fieldLink RX10 16 (TX10 3).1 (TX10 3).2.1 (TX10 3).2.2.1 ∈ TB from List.mem_filter.mpr ⟨List.mem_of_getElem? (i := 742) (by decide +kernel), by decide +kernel⟩) rfl hmn rfl rfl rfl hd hq hl0 kk
theorem g_X10_19_10 {q : Nat} {fs : List Value} {v : Value} (hd : decode cc pc = .ok (.getfield 19, 3)) (hq : h q = some (ob 10 fs)) (hv : fs[4]? = some v) (kk : Ev E RX10 cc nL ret mn Q d kc ks (pc + 3) L (v :: st) h) : Ev E RX10 cc nL ret mn Q d kc ks pc L (.ref q :: st) h := ev_get inX10 rfl (by decide) (show Cond.fieldLink RX10 19 (TX10 4).1 (TX10 4).2.1 (TX10 4).2.2.1 ∈ TB from List.mem_filter.mpr ⟨List.mem_of_getElem? (i := 743) (by decide +kernel), by decide +kernel⟩) hd hq hv kk
theorem p_X10_19_10 {q : Nat} {fs : List Value} {z : Nat} (hmn : mn = "<init>") (hd : decode cc pc = .ok (.putfield 19, 3)) (hq : h q = some (ob 10 fs)) (hl0 : 4 < fs.length) (kk : Ev E RX10 cc nL ret mn Q d kc ks (pc + 3) L st (ah_up h q (ob 10 (fs.set 4 (.ref z))))) : Ev E RX10 cc nL ret mn Q d kc ks pc L (.ref z :: .ref q :: st) h := ev_putF inX10 rfl (by decide) tyX10 tyX10_ok nmX10 (show Cond.fieldLink RX10 19 (TX10 4).1 (TX10 4).2.1 (TX10 4).2.2.1 ∈ TB from List.mem_filter.mpr ⟨List.mem_of_getElem? (i := 743) (by decide +kernel), by decide +kernel⟩) rfl hmn rfl rfl rfl hd hq hl0 kk
theorem g_X10_22_10 {q : Nat} {fs : List Value} {v : Value} (hd : decode cc pc = .ok (.getfield 22, 3)) (hq : h q = some (ob 10 fs)) (hv : fs[5]? = some v) (kk : Ev E RX10 cc nL ret mn Q d kc ks (pc + 3) L (v :: st) h) : Ev E RX10 cc nL ret mn Q d kc ks pc L (.ref q :: st) h := ev_get inX10 rfl (by decide) (show Cond.fieldLink RX10 22 (TX10 5).1 (TX10 5).2.1 (TX10 5).2.2.1 ∈ TB from List.mem_filter.mpr ⟨List.mem_of_getElem? (i := 744) (by decide +kernel), by decide +kernel⟩) hd hq hv kk
theorem p_X10_22_10 {q : Nat} {fs : List Value} {z : Nat} (hmn : mn = "<init>") (hd : decode cc pc = .ok (.putfield 22, 3)) (hq : h q = some (ob 10 fs)) (hl0 : 5 < fs.length) (kk : Ev E RX10 cc nL ret mn Q d kc ks (pc + 3) L st (ah_up h q (ob 10 (fs.set 5 (.ref z))))) : Ev E RX10 cc nL ret mn Q d kc ks pc L (.ref z :: .ref q :: st) h := ev_putF inX10 rfl (by decide) tyX10 tyX10_ok nmX10 (show Cond.fieldLink RX10 22 (TX10 5).1 (TX10 5).2.1 (TX10 5).2.2.1 ∈ TB from List.mem_filter.mpr ⟨List.mem_of_getElem? (i := 744) (by decide +kernel), by decide +kernel⟩) rfl hmn rfl rfl rfl hd hq hl0 kk
theorem g_X10_25_10 {q : Nat} {fs : List Value} {v : Value} (hd : decode cc pc = .ok (.getfield 25, 3)) (hq : h q = some (ob 10 fs)) (hv : fs[6]? = some v) (kk : Ev E RX10 cc nL ret mn Q d kc ks (pc + 3) L (v :: st) h) : Ev E RX10 cc nL ret mn Q d kc ks pc L (.ref q :: st) h := ev_get inX10 rfl (by decide) (show Cond.fieldLink RX10 25 (TX10 6).1 (TX10 6).2.1 (TX10 6).2.2.1 ∈ TB from List.mem_filter.mpr ⟨List.mem_of_getElem? (i := 745) (by decide +kernel), by decide +kernel⟩) hd hq hv kk
theorem p_X10_25_10 {q : Nat} {fs : List Value} {z : Nat} (hmn : mn = "<init>") (hd : decode cc pc = .ok (.putfield 25, 3)) (hq : h q = some (ob 10 fs)) (hl0 : 6 < fs.length) (kk : Ev E RX10 cc nL ret mn Q d kc ks (pc + 3) L st (ah_up h q (ob 10 (fs.set 6 (.ref z))))) : Ev E RX10 cc nL ret mn Q d kc ks pc L (.ref z :: .ref q :: st) h := ev_putF inX10 rfl (by decide) tyX10 tyX10_ok nmX10 (show Cond.fieldLink RX10 25 (TX10 6).1 (TX10 6).2.1 (TX10 6).2.2.1 ∈ TB from List.mem_filter.mpr ⟨List.mem_of_getElem? (i := 745) (by decide +kernel), by decide +kernel⟩) rfl hmn rfl rfl rfl hd hq hl0 kk
theorem g_X10_177_10 {q : Nat} {fs : List Value} {v : Value} (hd : decode cc pc = .ok (.getfield 177, 3)) (hq : h q = some (ob 10 fs)) (hv : fs[7]? = some v) (kk : Ev E RX10 cc nL ret mn Q d kc ks (pc + 3) L (v :: st) h) : Ev E RX10 cc nL ret mn Q d kc ks pc L (.ref q :: st) h := ev_get inX10 rfl (by decide) (show Cond.fieldLink RX10 177 (TX10 7).1 (TX10 7).2.1 (TX10 7).2.2.1 ∈ TB from List.mem_filter.mpr ⟨List.mem_of_getElem? (i := 746) (by decide +kernel), by decide +kernel⟩) hd hq hv kk
theorem p_X10_177_10 {q : Nat} {fs : List Value} {z : Int} (hd : decode cc pc = .ok (.putfield 177, 3)) (hq : h q = some (ob 10 fs)) (hl0 : 7 < fs.length) (kk : Ev E RX10 cc nL ret mn Q d kc ks (pc + 3) L st (ah_up h q (ob 10 (fs.set 7 (vI z))))) : Ev E RX10 cc nL ret mn Q d kc ks pc L (vI z :: .ref q :: st) h := ev_put inX10 rfl (by decide) tyX10 tyX10_ok nmX10 (show Cond.fieldLink RX10 177 (TX10 7).1 (TX10 7).2.1 (TX10 7).2.2.1 ∈ TB from List.mem_filter.mpr ⟨List.mem_of_getElem? (i := 746) (by decide +kernel), by decide +kernel⟩) rfl rfl rfl hd hq hl0 kk
theorem g_X10_28_10 {q : Nat} {fs : List Value} {v : Value} (hd : decode cc pc = .ok (.getfield 28, 3)) (hq : h q = some (ob 10 fs)) (hv : fs[8]? = some v) (kk : Ev E RX10 cc nL ret mn Q d kc ks (pc + 3) L (v :: st) h) : Ev E RX10 cc nL ret mn Q d kc ks pc L (.ref q :: st) h := ev_get inX10 rfl (by decide) (show Cond.fieldLink RX10 28 (TX10 8).1 (TX10 8).2.1 (TX10 8).2.2.1 ∈ TB from List.mem_filter.mpr ⟨List.mem_of_getElem? (i := 747) (by decide +kernel), by decide +kernel⟩) hd hq hv kk
theorem p_X10_28_10 {q : Nat} {fs : List Value} {z : Nat} (hmn : mn = "<init>") (hd : decode cc pc = .ok (.putfield 28, 3)) (hq : h q = some (ob 10 fs)) (hl0 : 8 < fs.length) (kk : Ev E RX10 cc nL ret mn Q d kc ks (pc + 3) L st (ah_up h q (ob 10 (fs.set 8 (.ref z))))) : Ev E RX10 cc nL ret mn Q d kc ks pc L (.ref z :: .ref q :: st) h := ev_putF inX10 rfl (by decide) tyX10 tyX10_ok nmX10 (show Cond.fieldLink RX10 28 (TX10 8).1 (TX10 8).2.1 (TX10 8).2.2.1 ∈ TB from List.mem_filter.mpr ⟨List.mem_of_getElem? (i := 747) (by decide +kernel), by decide +kernel⟩) rfl hmn rfl rfl rfl hd hq hl0 kk
theorem g_X10_31_10 {q : Nat} {fs : List Value} {v : Value} (hd : decode cc pc = .ok (.getfield 31, 3)) (hq : h q = some (ob 10 fs)) (hv : fs[9]? = some v) (kk : Ev E RX10 cc nL ret mn Q d kc ks (pc + 3) L (v :: st) h) : Ev E RX10 cc nL ret mn Q d kc ks pc L (.ref q :: st) h := ev_get inX10 rfl (by decide) (show Cond.fieldLink RX10 31 (TX10 9).1 (TX10 9).2.1 (TX10 9).2.2.1 ∈ TB from List.mem_filter.mpr ⟨List.mem_of_getElem? (i := 748) (by decide +kernel), by decide +kernel⟩) hd hq hv kk
theorem p_X10_31_10 {q : Nat} {fs : List Value} {z : Nat} (hmn : mn = "<init>") (hd : decode cc pc = .ok (.putfield 31, 3)) (hq : h q = some (ob 10 fs)) (hl0 : 9 < fs.length) (kk : Ev E RX10 cc nL ret mn Q d kc ks (pc + 3) L st (ah_up h q (ob 10 (fs.set 9 (.ref z))))) : Ev E RX10 cc nL ret mn Q d kc ks pc L (.ref z :: .ref q :: st) h := ev_putF inX10 rfl (by decide) tyX10 tyX10_ok nmX10 (show Cond.fieldLink RX10 31 (TX10 9).1 (TX10 9).2.1 (TX10 9).2.2.1 ∈ TB from List.mem_filter.mpr ⟨List.mem_of_getElem? (i := 748) (by decide +kernel), by decide +kernel⟩) rfl hmn rfl rfl rfl hd hq hl0 kk
theorem g_X10_34_10 {q : Nat} {fs : List Value} {v : Value} (hd : decode cc pc = .ok (.getfield 34, 3)) (hq : h q = some (ob 10 fs)) (hv : fs[10]? = some v) (kk : Ev E RX10 cc nL ret mn Q d kc ks (pc + 3) L (v :: st) h) : Ev E RX10 cc nL ret mn Q d kc ks pc L (.ref q :: st) h := ev_get inX10 rfl (by decide) (show Cond.fieldLink RX10 34 (TX10 10).1 (TX10 10).2.1 (TX10 10).2.2.1 ∈ TB from List.mem_filter.mpr ⟨List.mem_of_getElem? (i := 749) (by decide +kernel), by decide +kernel⟩) hd hq hv kk
theorem p_X10_34_10 {q : Nat} {fs : List Value} {z : Nat} (hmn : mn = "<init>") (hd : decode cc pc = .ok (.putfield 34, 3)) (hq : h q = some (ob 10 fs)) (hl0 : 10 < fs.length) (kk : Ev E RX10 cc nL ret mn Q d kc ks (pc + 3) L st (ah_up h q (ob 10 (fs.set 10 (.ref z))))) : Ev E RX10 cc nL ret mn Q d kc ks pc L (.ref z :: .ref q :: st) h := ev_putF inX10 rfl (by decide) tyX10 tyX10_ok nmX10 (show Cond.fieldLink RX10 34 (TX10 10).1 (TX10 10).2.1 (TX10 10).2.2.1 ∈ TB from List.mem_filter.mpr ⟨List.mem_of_getElem? (i := 749) (by decide +kernel), by decide +kernel⟩) rfl hmn rfl rfl rfl hd hq hl0 kk
theorem g_X10_37_10 {q : Nat} {fs : List Value} {v : Value} (hd : decode cc pc = .ok (.getfield 37, 3)) (hq : h q = some (ob 10 fs)) (hv : fs[11]? = some v) (kk : Ev E RX10 cc nL ret mn Q d kc ks (pc + 3) L (v :: st) h) : Ev E RX10 cc nL ret mn Q d kc ks pc L (.ref q :: st) h := ev_get inX10 rfl (by decide) (show Cond.fieldLink RX10 37 (TX10 11).1 (TX10 11).2.1 (TX10 11).2.2.1 ∈ TB from List.mem_filter.mpr ⟨List.mem_of_getElem? (i := 750) (by decide +kernel), by decide +kernel⟩) hd hq hv kk
theorem p_X10_37_10 {q : Nat} {fs : List Value} {z : Nat} (hmn : mn = "<init>") (hd : decode cc pc = .ok (.putfield 37, 3)) (hq : h q = some (ob 10 fs)) (hl0 : 11 < fs.length) (kk : Ev E RX10 cc nL ret mn Q d kc ks (pc + 3) L st (ah_up h q (ob 10 (fs.set 11 (.ref z))))) : Ev E RX10 cc nL ret mn Q d kc ks pc L (.ref z :: .ref q :: st) h := ev_putF inX10 rfl (by decide) tyX10 tyX10_ok nmX10 (show Cond.fieldLink RX10 37 (TX10 11).1 (TX10 11).2.1 (TX10 11).2.2.1 ∈ TB from List.mem_filter.mpr ⟨List.mem_of_getElem? (i := 750) (by decide +kernel), by decide +kernel⟩) rfl hmn rfl rfl rfl hd hq hl0 kk
theorem g_X10_40_10 {q : Nat} {fs : List Value} {v : Value} (hd : decode cc pc = .ok (.getfield 40, 3)) (hq : h q = some (ob 10 fs)) (hv : fs[12]? = some v) (kk : Ev E RX10 cc nL ret mn Q d kc ks (pc + 3) L (v :: st) h) : Ev E RX10 cc nL ret mn Q d kc ks pc L (.ref q :: st) h := ev_get inX10 rfl (by decide) (show Cond.fieldLink RX10 40 (TX10 12).1 (TX10 12).2.1 (TX10 12).2.2.1 ∈ TB from List.mem_filter.mpr ⟨List.mem_of_getElem? (i := 751) (by decide +kernel), by decide +kernel⟩) hd hq hv kk
theorem p_X10_40_10 {q : Nat} {fs : List Value} {z : Nat} (hmn : mn = "<init>") (hd : decode cc pc = .ok (.putfield 40, 3)) (hq : h q = some (ob 10 fs)) (hl0 : 12 < fs.length) (kk : Ev E RX10 cc nL ret mn Q d kc ks (pc + 3) L st (ah_up h q (ob 10 (fs.set 12 (.ref z))))) : Ev E RX10 cc nL ret mn Q d kc ks pc L (.ref z :: .ref q :: st) h := ev_putF inX10 rfl (by decide) tyX10 tyX10_ok nmX10 (show Cond.fieldLink RX10 40 (TX10 12).1 (TX10 12).2.1 (TX10 12).2.2.1 ∈ TB from List.mem_filter.mpr ⟨List.mem_of_getElem? (i := 751) (by decide +kernel), by decide +kernel⟩) rfl hmn rfl rfl rfl hd hq hl0 kk
theorem g_X10_43_10 {q : Nat} {fs : List Value} {v : Value} (hd : decode cc pc = .ok (.getfield 43, 3)) (hq : h q = some (ob 10 fs)) (hv : fs[13]? = some v) (kk : Ev E RX10 cc nL ret mn Q d kc ks (pc + 3) L (v :: st) h) : Ev E RX10 cc nL ret mn Q d kc ks pc L (.ref q :: st) h := ev_get inX10 rfl (by decide) (show Cond.fieldLink RX10 43 (TX10 13).1 (TX10 13).2.1 (TX10 13).2.2.1 ∈ TB from List.mem_filter.mpr ⟨List.mem_of_getElem? (i := 752) (by decide +kernel), by decide +kernel⟩) hd hq hv kk
theorem p_X10_43_10 {q : Nat} {fs : List Value} {z : Nat} (hmn : mn = "<init>") (hd : decode cc pc = .ok (.putfield 43, 3)) (hq : h q = some (ob 10 fs)) (hl0 : 13 < fs.length) (kk : Ev E RX10 cc nL ret mn Q d kc ks (pc + 3) L st (ah_up h q (ob 10 (fs.set 13 (.ref z))))) : Ev E RX10 cc nL ret mn Q d kc ks pc L (.ref z :: .ref q :: st) h := ev_putF inX10 rfl (by decide) tyX10 tyX10_ok nmX10 (show Cond.fieldLink RX10 43 (TX10 13).1 (TX10 13).2.1 (TX10 13).2.2.1 ∈ TB from List.mem_filter.mpr ⟨List.mem_of_getElem? (i := 752) (by decide +kernel), by decide +kernel⟩) rfl hmn rfl rfl rfl hd hq hl0 kk
theorem g_X10_46_10 {q : Nat} {fs : List Value} {v : Value} (hd : decode cc pc = .ok (.getfield 46, 3)) (hq : h q = some (ob 10 fs)) (hv : fs[14]? = some v) (kk : Ev E RX10 cc nL ret mn Q d kc ks (pc + 3) L (v :: st) h) : Ev E RX10 cc nL ret mn Q d kc ks pc L (.ref q :: st) h := ev_get inX10 rfl (by decide) (show Cond.fieldLink RX10 46 (TX10 14).1 (TX10 14).2.1 (TX10 14).2.2.1 ∈ TB from List.mem_filter.mpr ⟨List.mem_of_getElem? (i := 753) (by decide +kernel), by decide +kernel⟩) hd hq hv kk
theorem p_X10_46_10 {q : Nat} {fs : List Value} {z : Nat} (hmn : mn = "<init>") (hd : decode cc pc = .ok (.putfield 46, 3)) (hq : h q = some (ob 10 fs)) (hl0 : 14 < fs.length) (kk : Ev E RX10 cc nL ret mn Q d kc ks (pc + 3) L st (ah_up h q (ob 10 (fs.set 14 (.ref z))))) : Ev E RX10 cc nL ret mn Q d kc ks pc L (.ref z :: .ref q :: st) h := ev_putF inX10 rfl (by decide) tyX10 tyX10_ok nmX10 (show Cond.fieldLink RX10 46 (TX10 14).1 (TX10 14).2.1 (TX10 14).2.2.1 ∈ TB from List.mem_filter.mpr ⟨List.mem_of_getElem? (i := 753) (by decide +kernel), by decide +kernel⟩) rfl hmn rfl rfl rfl hd hq hl0 kk
theorem g_X10_49_10 {q : Nat} {fs : List Value} {v : Value} (hd : decode cc pc = .ok (.getfield 49, 3)) (hq : h q = some (ob 10 fs)) (hv : fs[15]? = some v) (kk : Ev E RX10 cc nL ret mn Q d kc ks (pc + 3) L (v :: st) h) : Ev E RX10 cc nL ret mn Q d kc ks pc L (.ref q :: st) h := ev_get inX10 rfl (by decide) (show Cond.fieldLink RX10 49 (TX10 15).1 (TX10 15).2.1 (TX10 15).2.2.1 ∈ TB from List.mem_filter.mpr ⟨List.mem_of_getElem? (i := 754) (by decide +kernel), by decide +kernel⟩) hd hq hv kk
theorem p_X10_49_10 {q : Nat} {fs : List Value} {z : Nat} (hmn : mn = "<init>") (hd : decode cc pc = .ok (.putfield 49, 3)) (hq : h q = some (ob 10 fs)) (hl0 : 15 < fs.length) (kk : Ev E RX10 cc nL ret mn Q d kc ks (pc + 3) L st (ah_up h q (ob 10 (fs.set 15 (.ref z))))) : Ev E RX10 cc nL ret mn Q d kc ks pc L (.ref z :: .ref q :: st) h := ev_putF inX10 rfl (by decide) tyX10 tyX10_ok nmX10 (show Cond.fieldLink RX10 49 (TX10 15).1 (TX10 15).2.1 (TX10 15).2.2.1 ∈ TB from List.mem_filter.mpr ⟨List.mem_of_getElem? (i := 754) (by decide +kernel), by decide +kernel⟩) rfl hmn rfl rfl rfl hd hq hl0 kk
theorem g_X10_52_10 {q : Nat} {fs : List Value} {v : Value} (hd : decode cc pc = .ok (.getfield 52, 3)) (hq : h q = some (ob 10 fs)) (hv : fs[16]? = some v) (kk : Ev E RX10 cc nL ret mn Q d kc ks (pc + 3) L (v :: st) h) : Ev E RX10 cc nL ret mn Q d kc ks pc L (.ref q :: st) h := ev_get inX10 rfl (by decide) (show Cond.fieldLink RX10 52 (TX10 16).1 (TX10 16).2.1 (TX10 16).2.2.1 ∈ TB from List.mem_filter.mpr ⟨List.mem_of_getElem? (i := 755) (by decide +kernel), by decide +kernel⟩) hd hq hv kk
theorem p_X10_52_10 {q : Nat} {fs : List Value} {z : Int} (hd : decode cc pc = .ok (.putfield 52, 3)) (hq : h q = some (ob 10 fs)) (hl0 : 16 < fs.length) (kk : Ev E RX10 cc nL ret mn Q d kc ks (pc + 3) L st (ah_up h q (ob 10 (fs.set 16 (vI z))))) : Ev E RX10 cc nL ret mn Q d kc ks pc L (vI z :: .ref q :: st) h := ev_put inX10 rfl (by decide) tyX10 tyX10_ok nmX10 (show Cond.fieldLink RX10 52 (TX10 16).1 (TX10 16).2.1 (TX10 16).2.2.1 ∈ TB from List.mem_filter.mpr ⟨List.mem_of_getElem? (i := 755) (by decide +kernel), by decide +kernel⟩) rfl rfl rfl hd hq hl0 kk
theorem g_X10_213_10 {q : Nat} {fs : List Value} {v : Value} (hd : decode cc pc = .ok (.getfield 213, 3)) (hq : h q = some (ob 10 fs)) (hv : fs[17]? = some v) (kk : Ev E RX10 cc nL ret mn Q d kc ks (pc + 3) L (v :: st) h) : Ev E RX10 cc nL ret mn Q d kc ks pc L (.ref q :: st) h := ev_get inX10 rfl (by decide) (show Cond.fieldLink RX10 213 (TX10 17).1 (TX10 17).2.1 (TX10 17).2.2.1 ∈ TB from List.mem_filter.mpr ⟨List.mem_of_getElem? (i := 756) (by decide +kernel), by decide +kernel⟩) hd hq hv kk
theorem p_X10_213_10 {q : Nat} {fs : List Value} {z : Int} (hd : decode cc pc = .ok (.putfield 213, 3)) (hq : h q = some (ob 10 fs)) (hl0 : 17 < fs.length) (kk : Ev E RX10 cc nL ret mn Q d kc ks (pc + 3) L st (ah_up h q (ob 10 (fs.set 17 (vI z))))) : Ev E RX10 cc nL ret mn Q d kc ks pc L (vI z :: .ref q :: st) h := ev_put inX10 rfl (by decide) tyX10 tyX10_ok nmX10 (show Cond.fieldLink RX10 213 (TX10 17).1 (TX10 17).2.1 (TX10 17).2.2.1 ∈ TB from List.mem_filter.mpr ⟨List.mem_of_getElem? (i := 756) (by decide +kernel), by decide +kernel⟩) rfl rfl rfl hd hq hl0 kk
theorem g_X10_216_10 {q : Nat} {fs : List Value} {v : Value} (hd : decode cc pc = .ok (.getfield 216, 3)) (hq : h q = some (ob 10 fs)) (hv : fs[18]? = some v) (kk : Ev E RX10 cc nL ret mn Q d kc ks (pc + 3) L (v :: st) h) : Ev E RX10 cc nL ret mn Q d kc ks pc L (.ref q :: st) h := ev_get inX10 rfl (by decide) (show Cond.fieldLink RX10 216 (TX10 18).1 (TX10 18).2.1 (TX10 18).2.2.1 ∈ TB from List.mem_filter.mpr ⟨List.mem_of_getElem? (i := 757) (by decide +kernel), by decide +kernel⟩) hd hq hv kk
theorem p_X10_216_10 {q : Nat} {fs : List Value} {z : Int} (hd : decode cc pc = .ok (.putfield 216, 3)) (hq : h q = some (ob 10 fs)) (hl0 : 18 < fs.length) (kk : Ev E RX10 cc nL ret mn Q d kc ks (pc + 3) L st (ah_up h q (ob 10 (fs.set 18 (vI z))))) : Ev E RX10 cc nL ret mn Q d kc ks pc L (vI z :: .ref q :: st) h := ev_put inX10 rfl (by decide) tyX10 tyX10_ok nmX10 (show Cond.fieldLink RX10 216 (TX10 18).1 (TX10 18).2.1 (TX10 18).2.2.1 ∈ TB from List.mem_filter.mpr ⟨List.mem_of_getElem? (i := 757) (by decide +kernel), by decide +kernel⟩) rfl rfl rfl hd hq hl0 kk
theorem g_X10_238_10 {q : Nat} {fs : List Value} {v : Value} (hd : decode cc pc = .ok (.getfield 238, 3)) (hq : h q = some (ob 10 fs)) (hv : fs[19]? = some v) (kk : Ev E RX10 cc nL ret mn Q d kc ks (pc + 3) L (v :: st) h) : Ev E RX10 cc nL ret mn Q d kc ks pc L (.ref q :: st) h := ev_get inX10 rfl (by decide) (show Cond.fieldLink RX10 238 (TX10 19).1 (TX10 19).2.1 (TX10 19).2.2.1 ∈ TB from List.mem_filter.mpr ⟨List.mem_of_getElem? (i := 758) (by decide +kernel), by decide +kernel⟩) hd hq hv kk
theorem p_X10_238_10 {q : Nat} {fs : List Value} {z : Int} (hd : decode cc pc = .ok (.putfield 238, 3)) (hq : h q = some (ob 10 fs)) (hl0 : 19 < fs.length) (kk : Ev E RX10 cc nL ret mn Q d kc ks (pc + 3) L st (ah_up h q (ob 10 (fs.set 19 (vI z))))) : Ev E RX10 cc nL ret mn Q d kc ks pc L (vI z :: .ref q :: st) h := ev_put inX10 rfl (by decide) tyX10 tyX10_ok nmX10 (show Cond.fieldLink RX10 238 (TX10 19).1 (TX10 19).2.1 (TX10 19).2.2.1 ∈ TB from List.mem_filter.mpr ⟨List.mem_of_getElem? (i := 758) (by decide +kernel), by decide +kernel⟩) rfl rfl rfl hd hq hl0 kk
theorem g_X10_56_10 {q : Nat} {fs : List Value} {v : Value} (hd : decode cc pc = .ok (.getfield 56, 3)) (hq : h q = some (ob 10 fs)) (hv : fs[20]? = some v) (kk : Ev E RX10 cc nL ret mn Q d kc ks (pc + 3) L (v :: st) h) : Ev E RX10 cc nL ret mn Q d kc ks pc L (.ref q :: st) h := ev_get inX10 rfl (by decide) (show Cond.fieldLink RX10 56 (TX10 20).1 (TX10 20).2.1 (TX10 20).2.2.1 ∈ TB from List.mem_filter.mpr ⟨List.mem_of_getElem? (i := 759) (by decide +kernel), by decide +kernel⟩) hd hq hv kk
theorem p_X10_56_10 {q : Nat} {fs : List Value} {z : Nat} (hmn : mn = "<init>") (hd : decode cc pc = .ok (.putfield 56, 3)) (hq : h q = some (ob 10 fs)) (hl0 : 20 < fs.length) (kk : Ev E RX10 cc nL ret mn Q d kc ks (pc + 3) L st (ah_up h q (ob 10 (fs.set 20 (.ref z))))) : Ev E RX10 cc nL ret mn Q d kc ks pc L (.ref z :: .ref q :: st) h := ev_putF inX10 rfl (by decide) tyX10 tyX10_ok nmX10 (show Cond.fieldLink RX10 56 (TX10 20).1 (TX10 20).2.1 (TX10 20).2.2.1 ∈ TB from List.mem_filter.mpr ⟨List.mem_of_getElem? (i := 759) (by decide +kernel), by decide +kernel⟩) rfl hmn rfl rfl rfl hd hq hl0 kk
theorem g_X10_254_10 {q : Nat} {fs : List Value} {v : Value} (hd : decode cc pc = .ok (.getfield 254, 3)) (hq : h q = some (ob 10 fs)) (hv : fs[21]? = some v) (kk : Ev E RX10 cc nL ret mn Q d kc ks (pc + 3) L (v :: st) h) : Ev E RX10 cc nL ret mn Q d kc ks pc L (.ref q :: st) h := ev_get inX10 rfl (by decide) (show Cond.fieldLink RX10 254 (TX10 21).1 (TX10 21).2.1 (TX10 21).2.2.1 ∈ TB from List.mem_filter.mpr ⟨List.mem_of_getElem? (i := 760) (by decide +kernel), by decide +kernel⟩) hd hq hv kk
theorem p_X10_254_10 {q : Nat} {fs : List Value} {z : Int} (hd : decode cc pc = .ok (.putfield 254, 3)) (hq : h q = some (ob 10 fs)) (hl0 : 21 < fs.length) (kk : Ev E RX10 cc nL ret mn Q d kc ks (pc + 3) L st (ah_up h q (ob 10 (fs.set 21 (vI z))))) : Ev E RX10 cc nL ret mn Q d kc ks pc L (vI z :: .ref q :: st) h := ev_put inX10 rfl (by decide) tyX10 tyX10_ok nmX10 (show Cond.fieldLink RX10 254 (TX10 21).1 (TX10 21).2.1 (TX10 21).2.2.1 ∈ TB from List.mem_filter.mpr ⟨List.mem_of_getElem? (i := 760) (by decide +kernel), by decide +kernel⟩) rfl rfl rfl hd hq hl0 kk
theorem g_X10_59_10 {q : Nat} {fs : List Value} {v : Value} (hd : decode cc pc = .ok (.getfield 59, 3)) (hq : h q = some (ob 10 fs)) (hv : fs[22]? = some v) (kk : Ev E RX10 cc nL ret mn Q d kc ks (pc + 3) L (v :: st) h) : Ev E RX10 cc nL ret mn Q d kc ks pc L (.ref q :: st) h := ev_get inX10 rfl (by decide) (show Cond.fieldLink RX10 59 (TX10 22).1 (TX10 22).2.1 (TX10 22).2.2.1 ∈ TB from List.mem_filter.mpr ⟨List.mem_of_getElem? (i := 761) (by decide +kernel), by decide +kernel⟩) hd hq hv kk
theorem p_X10_59_10 {q : Nat} {fs : List Value} {z : Nat} (hmn : mn = "<init>") (hd : decode cc pc = .ok (.putfield 59, 3)) (hq : h q = some (ob 10 fs)) (hl0 : 22 < fs.length) (kk : Ev E RX10 cc nL ret mn Q d kc ks (pc + 3) L st (ah_up h q (ob 10 (fs.set 22 (.ref z))))) : Ev E RX10 cc nL ret mn Q d kc ks pc L (.ref z :: .ref q :: st) h := ev_putF inX10 rfl (by decide) tyX10 tyX10_ok nmX10 (show Cond.fieldLink RX10 59 (TX10 22).1 (TX10 22).2.1 (TX10 22).2.2.1 ∈ TB from List.mem_filter.mpr ⟨List.mem_of_getElem? (i := 761) (by decide +kernel), by decide +kernel⟩) rfl hmn rfl rfl rfl hd hq hl0 kk
theorem g_X10_62_10 {q : Nat} {fs : List Value} {v : Value} (hd : decode cc pc = .ok (.getfield 62, 3)) (hq : h q = some (ob 10 fs)) (hv : fs[23]? = some v) (kk : Ev E RX10 cc nL ret mn Q d kc ks (pc + 3) L (v :: st) h) : Ev E RX10 cc nL ret mn Q d kc ks pc L (.ref q :: st) h := ev_get inX10 rfl (by decide) (show Cond.fieldLink RX10 62 (TX10 23).1 (TX10 23).2.1 (TX10 23).2.2.1 ∈ TB from List.mem_filter.mpr ⟨List.mem_of_getElem? (i := 762) (by decide +kernel), by decide +kernel⟩) hd hq hv kk
theorem p_X10_62_10 {q : Nat} {fs : List Value} {z : Nat} (hmn : mn = "<init>") (hd : decode cc pc = .ok (.putfield 62, 3)) (hq : h q = some (ob 10 fs)) (hl0 : 23 < fs.length) (kk : Ev E RX10 cc nL ret mn Q d kc ks (pc + 3) L st (ah_up h q (ob 10 (fs.set 23 (.ref z))))) : Ev E RX10 cc nL ret mn Q d kc ks pc L (.ref z :: .ref q :: st) h := ev_putF inX10 rfl (by decide) tyX10 tyX10_ok nmX10 (show Cond.fieldLink RX10 62 (TX10 23).1 (TX10 23).2.1 (TX10 23).2.2.1 ∈ TB from List.mem_filter.mpr ⟨List.mem_of_getElem? (i := 762) (by decide +kernel), by decide +kernel⟩) rfl hmn rfl rfl rfl hd hq hl0 kk
theorem g_X10_65_10 {q : Nat} {fs : List Value} {v : Value} (hd : decode cc pc = .ok (.getfield 65, 3)) (hq : h q = some (ob 10 fs)) (hv : fs[24]? = some v) (kk : Ev E RX10 cc nL ret mn Q d kc ks (pc + 3) L (v :: st) h) : Ev E RX10 cc nL ret mn Q d kc ks pc L (.ref q :: st) h := ev_get inX10 rfl (by decide) (show Cond.fieldLink RX10 65 (TX10 24).1 (TX10 24).2.1 (TX10 24).2.2.1 ∈ TB from List.mem_filter.mpr ⟨List.mem_of_getElem? (i := 763) (by decide +kernel), by decide +kernel⟩) hd hq hv kk
theorem p_X10_65_10 {q : Nat} {fs : List Value} {z : Nat} (hmn : mn = "<init>") (hd : decode cc pc = .ok (.putfield 65, 3)) (hq : h q = some (ob 10 fs)) (hl0 : 24 < fs.length) (kk : Ev E RX10 cc nL ret mn Q d kc ks (pc + 3) L st (ah_up h q (ob 10 (fs.set 24 (.ref z))))) : Ev E RX10 cc nL ret mn Q d kc ks pc L (.ref z :: .ref q :: st) h := ev_putF inX10 rfl (by decide) tyX10 tyX10_ok nmX10 (show Cond.fieldLink RX10 65 (TX10 24).1 (TX10 24).2.1 (TX10 24).2.2.1 ∈ TB from List.mem_filter.mpr ⟨List.mem_of_getElem? (i := 763) (by decide +kernel), by decide +kernel⟩) rfl hmn rfl rfl rfl hd hq hl0 kk
theorem g_X10_68_10 {q : Nat} {fs : List Value} {v : Value} (hd : decode cc pc = .ok (.getfield 68, 3)) (hq : h q = some (ob 10 fs)) (hv : fs[25]? = some v) (kk : Ev E RX10 cc nL ret mn Q d kc ks (pc + 3) L (v :: st) h) : Ev E RX10 cc nL ret mn Q d kc ks pc L (.ref q :: st) h := ev_get inX10 rfl (by decide) (show Cond.fieldLink RX10 68 (TX10 25).1 (TX10 25).2.1 (TX10 25).2.2.1 ∈ TB from List.mem_filter.mpr ⟨List.mem_of_getElem? (i := 764) (by decide +kernel), by decide +kernel⟩) hd hq hv kk
theorem p_X10_68_10 {q : Nat} {fs : List Value} {z : Nat} (hmn : mn = "<init>") (hd : decode cc pc = .ok (.putfield 68, 3)) (hq : h q = some (ob 10 fs)) (hl0 : 25 < fs.length) (kk : Ev E RX10 cc nL ret mn Q d kc ks (pc + 3) L st (ah_up h q (ob 10 (fs.set 25 (.ref z))))) : Ev E RX10 cc nL ret mn Q d kc ks pc L (.ref z :: .ref q :: st) h := ev_putF inX10 rfl (by decide) tyX10 tyX10_ok nmX10 (show Cond.fieldLink RX10 68 (TX10 25).1 (TX10 25).2.1 (TX10 25).2.2.1 ∈ TB from List.mem_filter.mpr ⟨List.mem_of_getElem? (i := 764) (by decide +kernel), by decide +kernel⟩) rfl hmn rfl rfl rfl hd hq hl0 kk
theorem g_X10_71_10 {q : Nat} {fs : List Value} {v : Value} (hd : decode cc pc = .ok (.getfield 71, 3)) (hq : h q = some (ob 10 fs)) (hv : fs[26]? = some v) (kk : Ev E RX10 cc nL ret mn Q d kc ks (pc + 3) L (v :: st) h) : Ev E RX10 cc nL ret mn Q d kc ks pc L (.ref q :: st) h := ev_get inX10 rfl (by decide) (show Cond.fieldLink RX10 71 (TX10 26).1 (TX10 26).2.1 (TX10 26).2.2.1 ∈ TB from List.mem_filter.mpr ⟨List.mem_of_getElem? (i := 765) (by decide +kernel), by decide +kernel⟩) hd hq hv kk
theorem p_X10_71_10 {q : Nat} {fs : List Value} {z : Nat} (hmn : mn = "<init>") (hd : decode cc pc = .ok (.putfield 71, 3)) (hq : h q = some (ob 10 fs)) (hl0 : 26 < fs.length) (kk : Ev E RX10 cc nL ret mn Q d kc ks (pc + 3) L st (ah_up h q (ob 10 (fs.set 26 (.ref z))))) : Ev E RX10 cc nL ret mn Q d kc ks pc L (.ref z :: .ref q :: st) h := ev_putF inX10 rfl (by decide) tyX10 tyX10_ok nmX10 (show Cond.fieldLink RX10 71 (TX10 26).1 (TX10 26).2.1 (TX10 26).2.2.1 ∈ TB from List.mem_filter.mpr ⟨List.mem_of_getElem? (i := 765) (by decide +kernel), by decide +kernel⟩) rfl hmn rfl rfl rfl hd hq hl0 kk
theorem g_X10_74_10 {q : Nat} {fs : List Value} {v : Value} (hd : decode cc pc = .ok (.getfield 74, 3)) (hq : h q = some (ob 10 fs)) (hv : fs[27]? = some v) (kk : Ev E RX10 cc nL ret mn Q d kc ks (pc + 3) L (v :: st) h) : Ev E RX10 cc nL ret mn Q d kc ks pc L (.ref q :: st) h := ev_get inX10 rfl (by decide) (show Cond.fieldLink RX10 74 (TX10 27).1 (TX10 27).2.1 (TX10 27).2.2.1 ∈ TB from List.mem_filter.mpr ⟨List.mem_of_getElem? (i := 766) (by decide +kernel), by decide +kernel⟩) hd hq hv kk
theorem p_X10_74_10 {q : Nat} {fs : List Value} {z : Nat} (hmn : mn = "<init>") (hd : decode cc pc = .ok (.putfield 74, 3)) (hq : h q = some (ob 10 fs)) (hl0 : 27 < fs.length) (kk : Ev E RX10 cc nL ret mn Q d kc ks (pc + 3) L st (ah_up h q (ob 10 (fs.set 27 (.ref z))))) : Ev E RX10 cc nL ret mn Q d kc ks pc L (.ref z :: .ref q :: st) h := ev_putF inX10 rfl (by decide) tyX10 tyX10_ok nmX10 (show Cond.fieldLink RX10 74 (TX10 27).1 (TX10 27).2.1 (TX10 27).2.2.1 ∈ TB from List.mem_filter.mpr ⟨List.mem_of_getElem? (i := 766) (by decide +kernel), by decide +kernel⟩) rfl hmn rfl rfl rfl hd hq hl0 kk
theorem g_X10_77_10 {q : Nat} {fs : List Value} {v : Value} (hd : decode cc pc = .ok (.getfield 77, 3)) (hq : h q = some (ob 10 fs)) (hv : fs[28]? = some v) (kk : Ev E RX10 cc nL ret mn Q d kc ks (pc + 3) L (v :: st) h) : Ev E RX10 cc nL ret mn Q d kc ks pc L (.ref q :: st) h := ev_get inX10 rfl (by decide) (show Cond.fieldLink RX10 77 (TX10 28).1 (TX10 28).2.1 (TX10 28).2.2.1 ∈ TB from List.mem_filter.mpr ⟨List.mem_of_getElem? (i := 767) (by decide +kernel), by decide +kernel⟩) hd hq hv kk
theorem p_X10_77_10 {q : Nat} {fs : List Value} {z : Nat} (hmn : mn = "<init>") (hd : decode cc pc = .ok (.putfield 77, 3)) (hq : h q = some (ob 10 fs)) (hl0 : 28 < fs.length) (kk : Ev E RX10 cc nL ret mn Q d kc ks (pc + 3) L st (ah_up h q (ob 10 (fs.set 28 (.ref z))))) : Ev E RX10 cc nL ret mn Q d kc ks pc L (.ref z :: .ref q :: st) h := ev_putF inX10 rfl (by decide) tyX10 tyX10_ok nmX10 (show Cond.fieldLink RX10 77 (TX10 28).1 (TX10 28).2.1 (TX10 28).2.2.1 ∈ TB from List.mem_filter.mpr ⟨List.mem_of_getElem? (i := 767) (by decide +kernel), by decide +kernel⟩) rfl hmn rfl rfl rfl hd hq hl0 kk
theorem g_X10_80_10 {q : Nat} {fs : List Value} {v : Value} (hd : decode cc pc = .ok (.getfield 80, 3)) (hq : h q = some (ob 10 fs)) (hv : fs[29]? = some v) (kk : Ev E RX10 cc nL ret mn Q d kc ks (pc + 3) L (v :: st) h) : Ev E RX10 cc nL ret mn Q d kc ks pc L (.ref q :: st) h := ev_get inX10 rfl (by decide) (show Cond.fieldLink RX10 80 (TX10 29).1 (TX10 29).2.1 (TX10 29).2.2.1 ∈ TB from List.mem_filter.mpr ⟨List.mem_of_getElem? (i := 768) (by decide +kernel), by decide +kernel⟩) hd hq hv kk
theorem p_X10_80_10 {q : Nat} {fs : List Value} {z : Nat} (hmn : mn = "<init>") (hd : decode cc pc = .ok (.putfield 80, 3)) (hq : h q = some (ob 10 fs)) (hl0 : 29 < fs.length) (kk : Ev E RX10 cc nL ret mn Q d kc ks (pc + 3) L st (ah_up h q (ob 10 (fs.set 29 (.ref z))))) : Ev E RX10 cc nL ret mn Q d kc ks pc L (.ref z :: .ref q :: st) h := ev_putF inX10 rfl (by decide) tyX10 tyX10_ok nmX10 (show Cond.fieldLink RX10 80 (TX10 29).1 (TX10 29).2.1 (TX10 29).2.2.1 ∈ TB from List.mem_filter.mpr ⟨List.mem_of_getElem? (i := 768) (by decide +kernel), by decide +kernel⟩) rfl hmn rfl rfl rfl hd hq hl0 kk
theorem g_X10_83_10 {q : Nat} {fs : List Value} {v : Value} (hd : decode cc pc = .ok (.getfield 83, 3)) (hq : h q = some (ob 10 fs)) (hv : fs[30]? = some v) (kk : Ev E RX10 cc nL ret mn Q d kc ks (pc + 3) L (v :: st) h) : Ev E RX10 cc nL ret mn Q d kc ks pc L (.ref q :: st) h := ev_get inX10 rfl (by decide) (show Cond.fieldLink RX10 83 (TX10 30).1 (TX10 30).2.1 (TX10 30).2.2.1 ∈ TB from List.mem_filter.mpr ⟨List.mem_of_getElem? (i := 769) (by decide +kernel), by decide +kernel⟩) hd hq hv kk
theorem p_X10_83_10 {q : Nat} {fs : List Value} {z : Nat} (hmn : mn = "<init>") (hd : decode cc pc = .ok (.putfield 83, 3)) (hq : h q = some (ob 10 fs)) (hl0 : 30 < fs.length) (kk : Ev E RX10 cc nL ret mn Q d kc ks (pc + 3) L st (ah_up h q (ob 10 (fs.set 30 (.ref z))))) : Ev E RX10 cc nL ret mn Q d kc ks pc L (.ref z :: .ref q :: st) h := ev_putF inX10 rfl (by decide) tyX10 tyX10_ok nmX10 (show Cond.fieldLink RX10 83 (TX10 30).1 (TX10 30).2.1 (TX10 30).2.2.1 ∈ TB from List.mem_filter.mpr ⟨List.mem_of_getElem? (i := 769) (by decide +kernel), by decide +kernel⟩) rfl hmn rfl rfl rfl hd hq hl0 kk
theorem g_X10_86_10 {q : Nat} {fs : List Value} {v : Value} (hd : decode cc pc = .ok (.getfield 86, 3)) (hq : h q = some (ob 10 fs)) (hv : fs[31]? = some v) (kk : Ev E RX10 cc nL ret mn Q d kc ks (pc + 3) L (v :: st) h) : Ev E RX10 cc nL ret mn Q d kc ks pc L (.ref q :: st) h := ev_get inX10 rfl (by decide) (show Cond.fieldLink RX10 86 (TX10 31).1 (TX10 31).2.1 (TX10 31).2.2.1 ∈ TB from List.mem_filter.mpr ⟨List.mem_of_getElem? (i := 770) (by decide +kernel), by decide +kernel⟩) hd hq hv kk
theorem p_X10_86_10 {q : Nat} {fs : List Value} {z : Int} (hd : decode cc pc = .ok (.putfield 86, 3)) (hq : h q = some (ob 10 fs)) (hl0 : 31 < fs.length) (kk : Ev E RX10 cc nL ret mn Q d kc ks (pc + 3) L st (ah_up h q (ob 10 (fs.set 31 (vI z))))) : Ev E RX10 cc nL ret mn Q d kc ks pc L (vI z :: .ref q :: st) h := ev_put inX10 rfl (by decide) tyX10 tyX10_ok nmX10 (show Cond.fieldLink RX10 86 (TX10 31).1 (TX10 31).2.1 (TX10 31).2.2.1 ∈ TB from List.mem_filter.mpr ⟨List.mem_of_getElem? (i := 770) (by decide +kernel), by decide +kernel⟩) rfl rfl rfl hd hq hl0 kk
theorem g_X10_89_10 {q : Nat} {fs : List Value} {v : Value} (hd : decode cc pc = .ok (.getfield 89, 3)) (hq : h q = some (ob 10 fs)) (hv : fs[32]? = some v) (kk : Ev E RX10 cc nL ret mn Q d kc ks (pc + 3) L (v :: st) h) : Ev E RX10 cc nL ret mn Q d kc ks pc L (.ref q :: st) h := ev_get inX10 rfl (by decide) (show Cond.fieldLink RX10 89 (TX10 32).1 (TX10 32).2.1 (TX10 32).2.2.1 ∈ TB from List.mem_filter.mpr ⟨List.mem_of_getElem? (i := 771) (by decide +kernel), by decide +kernel⟩) hd hq hv kk
theorem p_X10_89_10 {q : Nat} {fs : List Value} {z : Nat} (hmn : mn = "<init>") (hd : decode cc pc = .ok (.putfield 89, 3)) (hq : h q = some (ob 10 fs)) (hl0 : 32 < fs.length) (kk : Ev E RX10 cc nL ret mn Q d kc ks (pc + 3) L st (ah_up h q (ob 10 (fs.set 32 (.ref z))))) : Ev E RX10 cc nL ret mn Q d kc ks pc L (.ref z :: .ref q :: st) h := ev_putF inX10 rfl (by decide) tyX10 tyX10_ok nmX10 (show Cond.fieldLink RX10 89 (TX10 32).1 (TX10 32).2.1 (TX10 32).2.2.1 ∈ TB from List.mem_filter.mpr ⟨List.mem_of_getElem? (i := 771) (by decide +kernel), by decide +kernel⟩) rfl hmn rfl rfl rfl hd hq hl0 kk
theorem g_X10_92_10 {q : Nat} {fs : List Value} {v : Value} (hd : decode cc pc = .ok (.getfield 92, 3)) (hq : h q = some (ob 10 fs)) (hv : fs[33]? = some v) (kk : Ev E RX10 cc nL ret mn Q d kc ks (pc + 3) L (v :: st) h) : Ev E RX10 cc nL ret mn Q d kc ks pc L (.ref q :: st) h := ev_get inX10 rfl (by decide) (show Cond.fieldLink RX10 92 (TX10 33).1 (TX10 33).2.1 (TX10 33).2.2.1 ∈ TB from List.mem_filter.mpr ⟨List.mem_of_getElem? (i := 772) (by decide +kernel), by decide +kernel⟩) hd hq hv kk
theorem p_X10_92_10 {q : Nat} {fs : List Value} {z : Nat} (hmn : mn = "<init>") (hd : decode cc pc = .ok (.putfield 92, 3)) (hq : h q = some (ob 10 fs)) (hl0 : 33 < fs.length) (kk : Ev E RX10 cc nL ret mn Q d kc ks (pc + 3) L st (ah_up h q (ob 10 (fs.set 33 (.ref z))))) : Ev E RX10 cc nL ret mn Q d kc ks pc L (.ref z :: .ref q :: st) h := ev_putF inX10 rfl (by decide) tyX10 tyX10_ok nmX10 (show Cond.fieldLink RX10 92 (TX10 33).1 (TX10 33).2.1 (TX10 33).2.2.1 ∈ TB from List.mem_filter.mpr ⟨List.mem_of_getElem? (i := 772) (by decide +kernel), by decide +kernel⟩) rfl hmn rfl rfl rfl hd hq hl0 kk
theorem g_X10_278_10 {q : Nat} {fs : List Value} {v : Value} (hd : decode cc pc = .ok (.getfield 278, 3)) (hq : h q = some (ob 10 fs)) (hv : fs[34]? = some v) (kk : Ev E RX10 cc nL ret mn Q d kc ks (pc + 3) L (v :: st) h) : Ev E RX10 cc nL ret mn Q d kc ks pc L (.ref q :: st) h := ev_get inX10 rfl (by decide) (show Cond.fieldLink RX10 278 (TX10 34).1 (TX10 34).2.1 (TX10 34).2.2.1 ∈ TB from List.mem_filter.mpr ⟨List.mem_of_getElem? (i := 773) (by decide +kernel), by decide +kernel⟩) hd hq hv kk
theorem p_X10_278_10 {q : Nat} {fs : List Value} {z : Int} (hd : decode cc pc = .ok (.putfield 278, 3)) (hq : h q = some (ob 10 fs)) (hl0 : 34 < fs.length) (kk : Ev E RX10 cc nL ret mn Q d kc ks (pc + 3) L st (ah_up h q (ob 10 (fs.set 34 (vI z))))) : Ev E RX10 cc nL ret mn Q d kc ks pc L (vI z :: .ref q :: st) h := ev_put inX10 rfl (by decide) tyX10 tyX10_ok nmX10 (show Cond.fieldLink RX10 278 (TX10 34).1 (TX10 34).2.1 (TX10 34).2.2.1 ∈ TB from List.mem_filter.mpr ⟨List.mem_of_getElem? (i := 773) (by decide +kernel), by decide +kernel⟩) rfl rfl rfl hd hq hl0 kk
theorem g_X10_95_10 {q : Nat} {fs : List Value} {v : Value} (hd : decode cc pc = .ok (.getfield 95, 3)) (hq : h q = some (ob 10 fs)) (hv : fs[35]? = some v) (kk : Ev E RX10 cc nL ret mn Q d kc ks (pc + 3) L (v :: st) h) : Ev E RX10 cc nL ret mn Q d kc ks pc L (.ref q :: st) h := ev_get inX10 rfl (by decide) (show Cond.fieldLink RX10 95 (TX10 35).1 (TX10 35).2.1 (TX10 35).2.2.1 ∈ TB from List.mem_filter.mpr ⟨List.mem_of_getElem? (i := 774) (by decide +kernel), by decide +kernel⟩) hd hq hv kk
theorem p_X10_95_10 {q : Nat} {fs : List Value} {z : Nat} (hmn : mn = "<init>") (hd : decode cc pc = .ok (.putfield 95, 3)) (hq : h q = some (ob 10 fs)) (hl0 : 35 < fs.length) (kk : Ev E RX10 cc nL ret mn Q d kc ks (pc + 3) L st (ah_up h q (ob 10 (fs.set 35 (.ref z))))) : Ev E RX10 cc nL ret mn Q d kc ks pc L (.ref z :: .ref q :: st) h := ev_putF inX10 rfl (by decide) tyX10 tyX10_ok nmX10 (show Cond.fieldLink RX10 95 (TX10 35).1 (TX10 35).2.1 (TX10 35).2.2.1 ∈ TB from List.mem_filter.mpr ⟨List.mem_of_getElem? (i := 774) (by decide +kernel), by decide +kernel⟩) rfl hmn rfl rfl rfl hd hq hl0 kk
theorem g_X10_98_10 {q : Nat} {fs : List Value} {v : Value} (hd : decode cc pc = .ok (.getfield 98, 3)) (hq : h q = some (ob 10 fs)) (hv : fs[36]? = some v) (kk : Ev E RX10 cc nL ret mn Q d kc ks (pc + 3) L (v :: st) h) : Ev E RX10 cc nL ret mn Q d kc ks pc L (.ref q :: st) h := ev_get inX10 rfl (by decide) (show Cond.fieldLink RX10 98 (TX10 36).1 (TX10 36).2.1 (TX10 36).2.2.1 ∈ TB from List.mem_filter.mpr ⟨List.mem_of_getElem? (i := 775) (by decide +kernel), by decide +kernel⟩) hd hq hv kk
theorem p_X10_98_10 {q : Nat} {fs : List Value} {z : Nat} (hmn : mn = "<init>") (hd : decode cc pc = .ok (.putfield 98, 3)) (hq : h q = some (ob 10 fs)) (hl0 : 36 < fs.length) (kk : Ev E RX10 cc nL ret mn Q d kc ks (pc + 3) L st (ah_up h q (ob 10 (fs.set 36 (.ref z))))) : Ev E RX10 cc nL ret mn Q d kc ks pc L (.ref z :: .ref q :: st) h := ev_putF inX10 rfl (by decide) tyX10 tyX10_ok nmX10 (show Cond.fieldLink RX10 98 (TX10 36).1 (TX10 36).2.1 (TX10 36).2.2.1 ∈ TB from List.mem_filter.mpr ⟨List.mem_of_getElem? (i := 775) (by decide +kernel), by decide +kernel⟩) rfl hmn rfl rfl rfl hd hq hl0 kk
theorem g_X10_101_10 {q : Nat} {fs : List Value} {v : Value} (hd : decode cc pc = .ok (.getfield 101, 3)) (hq : h q = some (ob 10 fs)) (hv : fs[37]? = some v) (kk : Ev E RX10 cc nL ret mn Q d kc ks (pc + 3) L (v :: st) h) : Ev E RX10 cc nL ret mn Q d kc ks pc L (.ref q :: st) h := ev_get inX10 rfl (by decide) (show Cond.fieldLink RX10 101 (TX10 37).1 (TX10 37).2.1 (TX10 37).2.2.1 ∈ TB from List.mem_filter.mpr ⟨List.mem_of_getElem? (i := 776) (by decide +kernel), by decide +kernel⟩) hd hq hv kk
theorem p_X10_101_10 {q : Nat} {fs : List Value} {z : Nat} (hmn : mn = "<init>") (hd : decode cc pc = .ok (.putfield 101, 3)) (hq : h q = some (ob 10 fs)) (hl0 : 37 < fs.length) (kk : Ev E RX10 cc nL ret mn Q d kc ks (pc + 3) L st (ah_up h q (ob 10 (fs.set 37 (.ref z))))) : Ev E RX10 cc nL ret mn Q d kc ks pc L (.ref z :: .ref q :: st) h := ev_putF inX10 rfl (by decide) tyX10 tyX10_ok nmX10 (show Cond.fieldLink RX10 101 (TX10 37).1 (TX10 37).2.1 (TX10 37).2.2.1 ∈ TB from List.mem_filter.mpr ⟨List.mem_of_getElem? (i := 776) (by decide +kernel), by decide +kernel⟩) rfl hmn rfl rfl rfl hd hq hl0 kk
theorem g_X10_104_10 {q : Nat} {fs : List Value} {v : Value} (hd : decode cc pc = .ok (.getfield 104, 3)) (hq : h q = some (ob 10 fs)) (hv : fs[38]? = some v) (kk : Ev E RX10 cc nL ret mn Q d kc ks (pc + 3) L (v :: st) h) : Ev E RX10 cc nL ret mn Q d kc ks pc L (.ref q :: st) h := ev_get inX10 rfl (by decide) (show Cond.fieldLink RX10 104 (TX10 38).1 (TX10 38).2.1 (TX10 38).2.2.1 ∈ TB from List.mem_filter.mpr ⟨List.mem_of_getElem? (i := 777) (by decide +kernel), by decide +kernel⟩) hd hq hv kk
theorem p_X10_104_10 {q : Nat} {fs : List Value} {z : Nat} (hmn : mn = "<init>") (hd : decode cc pc = .ok (.putfield 104, 3)) (hq : h q = some (ob 10 fs)) (hl0 : 38 < fs.length) (kk : Ev E RX10 cc nL ret mn Q d kc ks (pc + 3) L st (ah_up h q (ob 10 (fs.set 38 (.ref z))))) : Ev E RX10 cc nL ret mn Q d kc ks pc L (.ref z :: .ref q :: st) h := ev_putF inX10 rfl (by decide) tyX10 tyX10_ok nmX10 (show Cond.fieldLink RX10 104 (TX10 38).1 (TX10 38).2.1 (TX10 38).2.2.1 ∈ TB from List.mem_filter.mpr ⟨List.mem_of_getElem? (i := 777) (by decide +kernel), by decide +kernel⟩) rfl hmn rfl rfl rfl hd hq hl0 kk
theorem g_X10_107_10 {q : Nat} {fs : List Value} {v : Value} (hd : decode cc pc = .ok (.getfield 107, 3)) (hq : h q = some (ob 10 fs)) (hv : fs[39]? = some v) (kk : Ev E RX10 cc nL ret mn Q d kc ks (pc + 3) L (v :: st) h) : Ev E RX10 cc nL ret mn Q d kc ks pc L (.ref q :: st) h := ev_get inX10 rfl (by decide) (show Cond.fieldLink RX10 107 (TX10 39).1 (TX10 39).2.1 (TX10 39).2.2.1 ∈ TB from List.mem_filter.mpr ⟨List.mem_of_getElem? (i := 778) (by decide +kernel), by decide +kernel⟩) hd hq hv kk
theorem p_X10_107_10 {q : Nat} {fs : List Value} {z : Nat} (hmn : mn = "<init>") (hd : decode cc pc = .ok (.putfield 107, 3)) (hq : h q = some (ob 10 fs)) (hl0 : 39 < fs.length) (kk : Ev E RX10 cc nL ret mn Q d kc ks (pc + 3) L st (ah_up h q (ob 10 (fs.set 39 (.ref z))))) : Ev E RX10 cc nL ret mn Q d kc ks pc L (.ref z :: .ref q :: st) h := ev_putF inX10 rfl (by decide) tyX10 tyX10_ok nmX10 (show Cond.fieldLink RX10 107 (TX10 39).1 (TX10 39).2.1 (TX10 39).2.2.1 ∈ TB from List.mem_filter.mpr ⟨List.mem_of_getElem? (i := 778) (by decide +kernel), by decide +kernel⟩) rfl hmn rfl rfl rfl hd hq hl0 kk
theorem g_X10_301_10 {q : Nat} {fs : List Value} {v : Value} (hd : decode cc pc = .ok (.getfield 301, 3)) (hq : h q = some (ob 10 fs)) (hv : fs[40]? = some v) (kk : Ev E RX10 cc nL ret mn Q d kc ks (pc + 3) L (v :: st) h) : Ev E RX10 cc nL ret mn Q d kc ks pc L (.ref q :: st) h := ev_get inX10 rfl (by decide) (show Cond.fieldLink RX10 301 (TX10 40).1 (TX10 40).2.1 (TX10 40).2.2.1 ∈ TB from List.mem_filter.mpr ⟨List.mem_of_getElem? (i := 779) (by decide +kernel), by decide +kernel⟩) hd hq hv kk
theorem p_X10_301_10 {q : Nat} {fs : List Value} {z : Int} (hd : decode cc pc = .ok (.putfield 301, 3)) (hq : h q = some (ob 10 fs)) (hl0 : 40 < fs.length) (kk : Ev E RX10 cc nL ret mn Q d kc ks (pc + 3) L st (ah_up h q (ob 10 (fs.set 40 (vI z))))) : Ev E RX10 cc nL ret mn Q d kc ks pc L (vI z :: .ref q :: st) h := ev_put inX10 rfl (by decide) tyX10 tyX10_ok nmX10 (show Cond.fieldLink RX10 301 (TX10 40).1 (TX10 40).2.1 (TX10 40).2.2.1 ∈ TB from List.mem_filter.mpr ⟨List.mem_of_getElem? (i := 779) (by decide +kernel), by decide +kernel⟩) rfl rfl rfl hd hq hl0 kk
theorem g_X10_110_10 {q : Nat} {fs : List Value} {v : Value} (hd : decode cc pc = .ok (.getfield 110, 3)) (hq : h q = some (ob 10 fs)) (hv : fs[41]? = some v) (kk : Ev E RX10 cc nL ret mn Q d kc ks (pc + 3) L (v :: st) h) : Ev E RX10 cc nL ret mn Q d kc ks pc L (.ref q :: st) h := ev_get inX10 rfl (by decide) (show Cond.fieldLink RX10 110 (TX10 41).1 (TX10 41).2.1 (TX10 41).2.2.1 ∈ TB from List.mem_filter.mpr ⟨List.mem_of_getElem? (i := 780) (by decide +kernel), by decide +kernel⟩) hd hq hv kk
theorem p_X10_110_10 {q : Nat} {fs : List Value} {z : Nat} (hmn : mn = "<init>") (hd : decode cc pc = .ok (.putfield 110, 3)) (hq : h q = some (ob 10 fs)) (hl0 : 41 < fs.length) (kk : Ev E RX10 cc nL ret mn Q d kc ks (pc + 3) L st (ah_up h q (ob 10 (fs.set 41 (.ref z))))) : Ev E RX10 cc nL ret mn Q d kc ks pc L (.ref z :: .ref q :: st) h := ev_putF inX10 rfl (by decide) tyX10 tyX10_ok nmX10 (show Cond.fieldLink RX10 110 (TX10 41).1 (TX10 41).2.1 (TX10 41).2.2.1 ∈ TB from List.mem_filter.mpr ⟨List.mem_of_getElem? (i := 780) (by decide +kernel), by decide +kernel⟩) rfl hmn rfl rfl rfl hd hq hl0 kk
theorem g_X10_113_10 {q : Nat} {fs : List Value} {v : Value} (hd : decode cc pc = .ok (.getfield 113, 3)) (hq : h q = some (ob 10 fs)) (hv : fs[42]? = some v) (kk : Ev E RX10 cc nL ret mn Q d kc ks (pc + 3) L (v :: st) h) : Ev E RX10 cc nL ret mn Q d kc ks pc L (.ref q :: st) h := ev_get inX10 rfl (by decide) (show Cond.fieldLink RX10 113 (TX10 42).1 (TX10 42).2.1 (TX10 42).2.2.1 ∈ TB from List.mem_filter.mpr ⟨List.mem_of_getElem? (i := 781) (by decide +kernel), by decide +kernel⟩) hd hq hv kk
theorem p_X10_113_10 {q : Nat} {fs : List Value} {z : Nat} (hmn : mn = "<init>") (hd : decode cc pc = .ok (.putfield 113, 3)) (hq : h q = some (ob 10 fs)) (hl0 : 42 < fs.length) (kk : Ev E RX10 cc nL ret mn Q d kc ks (pc + 3) L st (ah_up h q (ob 10 (fs.set 42 (.ref z))))) : Ev E RX10 cc nL ret mn Q d kc ks pc L (.ref z :: .ref q :: st) h := ev_putF inX10 rfl (by decide) tyX10 tyX10_ok nmX10 (show Cond.fieldLink RX10 113 (TX10 42).1 (TX10 42).2.1 (TX10 42).2.2.1 ∈ TB from List.mem_filter.mpr ⟨List.mem_of_getElem? (i := 781) (by decide +kernel), by decide +kernel⟩) rfl hmn rfl rfl rfl hd hq hl0 kk
theorem g_X10_116_10 {q : Nat} {fs : List Value} {v : Value} (hd : decode cc pc = .ok (.getfield 116, 3)) (hq : h q = some (ob 10 fs)) (hv : fs[43]? = some v) (kk : Ev E RX10 cc nL ret mn Q d kc ks (pc + 3) L (v :: st) h) : Ev E RX10 cc nL ret mn Q d kc ks pc L (.ref q :: st) h := ev_get inX10 rfl (by decide) (show Cond.fieldLink RX10 116 (TX10 43).1 (TX10 43).2.1 (TX10 43).2.2.1 ∈ TB from List.mem_filter.mpr ⟨List.mem_of_getElem? (i := 782) (by decide +kernel), by decide +kernel⟩) hd hq hv kk
theorem p_X10_116_10 {q : Nat} {fs : List Value} {z : Nat} (hmn : mn = "<init>") (hd : decode cc pc = .ok (.putfield 116, 3)) (hq : h q = some (ob 10 fs)) (hl0 : 43 < fs.length) (kk : Ev E RX10 cc nL ret mn Q d kc ks (pc + 3) L st (ah_up h q (ob 10 (fs.set 43 (.ref z))))) : Ev E RX10 cc nL ret mn Q d kc ks pc L (.ref z :: .ref q :: st) h := ev_putF inX10 rfl (by decide) tyX10 tyX10_ok nmX10 (show Cond.fieldLink RX10 116 (TX10 43).1 (TX10 43).2.1 (TX10 43).2.2.1 ∈ TB from List.mem_filter.mpr ⟨List.mem_of_getElem? (i := 782) (by decide +kernel), by decide +kernel⟩) rfl hmn rfl rfl rfl hd hq hl0 kk
theorem g_X10_119_10 {q : Nat} {fs : List Value} {v : Value} (hd : decode cc pc = .ok (.getfield 119, 3)) (hq : h q = some (ob 10 fs)) (hv : fs[44]? = some v) (kk : Ev E RX10 cc nL ret mn Q d kc ks (pc + 3) L (v :: st) h) : Ev E RX10 cc nL ret mn Q d kc ks pc L (.ref q :: st) h := ev_get inX10 rfl (by decide) (show Cond.fieldLink RX10 119 (TX10 44).1 (TX10 44).2.1 (TX10 44).2.2.1 ∈ TB from List.mem_filter.mpr ⟨List.mem_of_getElem? (i := 783) (by decide +kernel), by decide +kernel⟩) hd hq hv kk
theorem p_X10_119_10 {q : Nat} {fs : List Value} {z : Nat} (hmn : mn = "<init>") (hd : decode cc pc = .ok (.putfield 119, 3)) (hq : h q = some (ob 10 fs)) (hl0 : 44 < fs.length) (kk : Ev E RX10 cc nL ret mn Q d kc ks (pc + 3) L st (ah_up h q (ob 10 (fs.set 44 (.ref z))))) : Ev E RX10 cc nL ret mn Q d kc ks pc L (.ref z :: .ref q :: st) h := ev_putF inX10 rfl (by decide) tyX10 tyX10_ok nmX10 (show Cond.fieldLink RX10 119 (TX10 44).1 (TX10 44).2.1 (TX10 44).2.2.1 ∈ TB from List.mem_filter.mpr ⟨List.mem_of_getElem? (i := 783) (by decide +kernel), by decide +kernel⟩) rfl hmn rfl rfl rfl hd hq hl0 kk
theorem g_X10_122_10 {q : Nat} {fs : List Value} {v : Value} (hd : decode cc pc = .ok (.getfield 122, 3)) (hq : h q = some (ob 10 fs)) (hv : fs[45]? = some v) (kk : Ev E RX10 cc nL ret mn Q d kc ks (pc + 3) L (v :: st) h) : Ev E RX10 cc nL ret mn Q d kc ks pc L (.ref q :: st) h := ev_get inX10 rfl (by decide) (show Cond.fieldLink RX10 122 (TX10 45).1 (TX10 45).2.1 (TX10 45).2.2.1 ∈ TB from List.mem_filter.mpr ⟨List.mem_of_getElem? (i := 784) (by decide +kernel), by decide +kernel⟩) hd hq hv kk
theorem p_X10_122_10 {q : Nat} {fs : List Value} {z : Nat} (hmn : mn = "<init>") (hd : decode cc pc = .ok (.putfield 122, 3)) (hq : h q = some (ob 10 fs)) (hl0 : 45 < fs.length) (kk : Ev E RX10 cc nL ret mn Q d kc ks (pc + 3) L st (ah_up h q (ob 10 (fs.set 45 (.ref z))))) : Ev E RX10 cc nL ret mn Q d kc ks pc L (.ref z :: .ref q :: st) h := ev_putF inX10 rfl (by decide) tyX10 tyX10_ok nmX10 (show Cond.fieldLink RX10 122 (TX10 45).1 (TX10 45).2.1 (TX10 45).2.2.1 ∈ TB from List.mem_filter.mpr ⟨List.mem_of_getElem? (i := 784) (by decide +kernel), by decide +kernel⟩) rfl hmn rfl rfl rfl hd hq hl0 kk
theorem c_L_9 {b : Nat} {kc' ks' d' : Nat} {Q1 : Option Value → AH → Prop} {As rest st0 : List Value} (hM : CM E yX9_init cX9_init 1 none d' kc' ks' (.ref b :: As) h Q1) (hlen : As.length = 0) (hst : st0 = As.reverse ++ .ref b :: rest) (hrm : (rest.map fun v => v.category).sum ≤ 8) (hd1 : d' + 1 ≤ d) (hd : decode cc pc = .ok (.invokespecial 9, 3)) (kk : ∀ r h', Q1 r h' → Ev E RL cc nL ret mn Q d kc ks (pc + 3) L (r.toList ++ rest) h') : Ev E RL cc nL ret mn Q d (kc + kc') (ks + ks') pc L st0 h := ev_callI hM cod_X9_init ini_X9 (List.mem_filter.mpr ⟨List.mem_of_getElem? (i := 59) (by decide +kernel), by decide +kernel⟩) im_X9_init rfl (by decide +kernel) hlen hst hrm hd1 (by decide) hd kk
theorem oi_X9 {q : Nat} (hd : decode cc pc = .ok (.invokespecial 1, 3)) (h1 : 1 ≤ d) (hst : (st.map fun v => v.category).sum ≤ 8) (kk : Ev E RX9 cc nL ret mn Q d kc ks (pc + 3) L st h) : Ev E RX9 cc nL ret mn Q d kc ks pc L (.ref q :: st) h := ev_objInit (List.mem_filter.mpr ⟨List.mem_of_getElem? (i := 62) (by decide +kernel), by decide +kernel⟩) im_object cod_object hd h1 hst kk
theorem c_X9_48 {b : Nat} {kc' ks' d' : Nat} {Q1 : Option Value → AH → Prop} {As rest st0 : List Value} (hM : CM E yX1_init cX1_init 1 none d' kc' ks' (.ref b :: As) h Q1) (hlen : As.length = 0) (hst : st0 = As.reverse ++ .ref b :: rest) (hrm : (rest.map fun v => v.category).sum ≤ 8) (hd1 : d' + 1 ≤ d) (hd : decode cc pc = .ok (.invokespecial 48, 3)) (kk : ∀ r h', Q1 r h' → Ev E RX9 cc nL ret mn Q d kc ks (pc + 3) L (r.toList ++ rest) h') : Ev E RX9 cc nL ret mn Q d (kc + kc') (ks + ks') pc L st0 h := ev_callIN hM cod_X1_init ini_X1 (by decide) im_X1_init rfl (by decide +kernel) hlen hst hrm hd1 (by decide) hd kk
theorem oi_X1 {q : Nat} (hd : decode cc pc = .ok (.invokespecial 1, 3)) (h1 : 1 ≤ d) (hst : (st.map fun v => v.category).sum ≤ 8) (kk : Ev E RX1 cc nL ret mn Q d kc ks (pc + 3) L st h) : Ev E RX1 cc nL ret mn Q d kc ks pc L (.ref q :: st) h := ev_objInit (List.mem_filter.mpr ⟨List.mem_of_getElem? (i := 78) (by decide +kernel), by decide +kernel⟩) im_object cod_object hd h1 hst kk
theorem c_X9_55 {b : Nat} {kc' ks' d' : Nat} {Q1 : Option Value → AH → Prop} {As rest st0 : List Value} (hM : CM E yX6_init cX6_init 2 none d' kc' ks' (.ref b :: As) h Q1) (hlen : As.length = 0) (hst : st0 = As.reverse ++ .ref b :: rest) (hrm : (rest.map fun v => v.category).sum ≤ 8) (hd1 : d' + 1 ≤ d) (hd : decode cc pc = .ok (.invokespecial 55, 3)) (kk : ∀ r h', Q1 r h' → Ev E RX9 cc nL ret mn Q d kc ks (pc + 3) L (r.toList ++ rest) h') : Ev E RX9 cc nL ret mn Q d (kc + kc') (ks + ks') pc L st0 h := ev_callI hM cod_X6_init ini_X6 (List.mem_filter.mpr ⟨List.mem_of_getElem? (i := 88) (by decide +kernel), by decide +kernel⟩) im_X6_init rfl (by decide +kernel) hlen hst hrm hd1 (by decide) hd kk
theorem oi_X6 {q : Nat} (hd : decode cc pc = .ok (.invokespecial 3, 3)) (h1 : 1 ≤ d) (hst : (st.map fun v => v.category).sum ≤ 8) (kk : Ev E RX6 cc nL ret mn Q d kc ks (pc + 3) L st h) : Ev E RX6 cc nL ret mn Q d kc ks pc L (.ref q :: st) h := ev_objInit (List.mem_filter.mpr ⟨List.mem_of_getElem? (i := 91) (by decide +kernel), by decide +kernel⟩) im_object cod_object hd h1 hst kk
theorem c_X6_39 {b : Nat} {kc' ks' d' : Nat} {Q1 : Option Value → AH → Prop} {As rest st0 : List Value} (hM : CM E yX2_init cX2_init 1 none d' kc' ks' (.ref b :: As) h Q1) (hlen : As.length = 0) (hst : st0 = As.reverse ++ .ref b :: rest) (hrm : (rest.map fun v => v.category).sum ≤ 8) (hd1 : d' + 1 ≤ d) (hd : decode cc pc = .ok (.invokespecial 39, 3)) (kk : ∀ r h', Q1 r h' → Ev E RX6 cc nL ret mn Q d kc ks (pc + 3) L (r.toList ++ rest) h') : Ev E RX6 cc nL ret mn Q d (kc + kc') (ks + ks') pc L st0 h := ev_callIN hM cod_X2_init ini_X2 (by decide) im_X2_init rfl (by decide +kernel) hlen hst hrm hd1 (by decide) hd kk
theorem oi_X2 {q : Nat} (hd : decode cc pc = .ok (.invokespecial 3, 3)) (h1 : 1 ≤ d) (hst : (st.map fun v => v.category).sum ≤ 8) (kk : Ev E RX2 cc nL ret mn Q d kc ks (pc + 3) L st h) : Ev E RX2 cc nL ret mn Q d kc ks pc L (.ref q :: st) h := ev_objInit (List.mem_filter.mpr ⟨List.mem_of_getElem? (i := 100) (by decide +kernel), by decide +kernel⟩) im_object cod_object hd h1 hst kk
theorem c_L_13 {b : Nat} {fs : List Value} {kc' ks' d' : Nat} {Q1 : Option Value → AH → Prop} {As rest st0 : List Value} (hM : CM E yX9_station cX9_station 4 (some .int) d' kc' ks' (.ref b :: As) h Q1) (hq : h b = some (ob 9 fs)) (hlen : As.length = 2) (hst : st0 = As.reverse ++ .ref b :: rest) (hrm : (rest.map fun v => v.category).sum ≤ 8) (hd1 : d' + 1 ≤ d) (hd : decode cc pc = .ok (.invokevirtual 13, 3)) (kk : ∀ r h', Q1 r h' → Ev E RL cc nL ret mn Q d kc ks (pc + 3) L (r.toList ++ rest) h') : Ev E RL cc nL ret mn Q d (kc + kc') (ks + ks') pc L st0 h := ev_callV hM rfl hq cod_X9_station ini_X9 (List.mem_filter.mpr ⟨List.mem_of_getElem? (i := 215) (by decide +kernel), by decide +kernel⟩) im_X9_station sel_X9_station (by decide +kernel) hlen hst hrm hd1 (by decide) hd kk
theorem c_X9_67 {kc' ks' d' : Nat} {Q1 : Option Value → AH → Prop} {As rest st0 : List Value} (hM : CM E yX9_isWithin cX9_isWithin 3 (some .boolean) d' kc' ks' As h Q1) (hlen : As.length = 3) (hst : st0 = As.reverse ++ rest) (hrm : (rest.map fun v => v.category).sum ≤ 8) (hd1 : d' + 1 ≤ d) (hd : decode cc pc = .ok (.invokestatic 67, 3)) (kk : ∀ r h', Q1 r h' → Ev E RX9 cc nL ret mn Q d kc ks (pc + 3) L (r.toList ++ rest) h') : Ev E RX9 cc nL ret mn Q d (kc + kc') (ks + ks') pc L st0 h := ev_callS hM cod_X9_isWithin ini_X9 (List.mem_filter.mpr ⟨List.mem_of_getElem? (i := 219) (by decide +kernel), by decide +kernel⟩) sta_X9_isWithin (by decide +kernel) hlen hst hrm hd1 (by decide) hd kk
theorem c_X9_74 {b : Nat} {kc' ks' d' : Nat} {Q1 : Option Value → AH → Prop} {As rest st0 : List Value} (hM : CM E yX7_init cX7_init 4 none d' kc' ks' (.ref b :: As) h Q1) (hlen : As.length = 3) (hst : st0 = As.reverse ++ .ref b :: rest) (hrm : (rest.map fun v => v.category).sum ≤ 8) (hd1 : d' + 1 ≤ d) (hd : decode cc pc = .ok (.invokespecial 74, 3)) (kk : ∀ r h', Q1 r h' → Ev E RX9 cc nL ret mn Q d kc ks (pc + 3) L (r.toList ++ rest) h') : Ev E RX9 cc nL ret mn Q d (kc + kc') (ks + ks') pc L st0 h := ev_callI hM cod_X7_init ini_X7 (List.mem_filter.mpr ⟨List.mem_of_getElem? (i := 223) (by decide +kernel), by decide +kernel⟩) im_X7_init rfl (by decide +kernel) hlen hst hrm hd1 (by decide) hd kk
theorem oi_X7 {q : Nat} (hd : decode cc pc = .ok (.invokespecial 1, 3)) (h1 : 1 ≤ d) (hst : (st.map fun v => v.category).sum ≤ 8) (kk : Ev E RX7 cc nL ret mn Q d kc ks (pc + 3) L st h) : Ev E RX7 cc nL ret mn Q d kc ks pc L (.ref q :: st) h := ev_objInit (List.mem_filter.mpr ⟨List.mem_of_getElem? (i := 226) (by decide +kernel), by decide +kernel⟩) im_object cod_object hd h1 hst kk
theorem c_L_18 {b : Nat} {fs : List Value} {kc' ks' d' : Nat} {Q1 : Option Value → AH → Prop} {As rest st0 : List Value} (hM : CM E yX9_clock cX9_clock 5 (some .int) d' kc' ks' (.ref b :: As) h Q1) (hq : h b = some (ob 9 fs)) (hlen : As.length = 3) (hst : st0 = As.reverse ++ .ref b :: rest) (hrm : (rest.map fun v => v.category).sum ≤ 8) (hd1 : d' + 1 ≤ d) (hd : decode cc pc = .ok (.invokevirtual 18, 3)) (kk : ∀ r h', Q1 r h' → Ev E RL cc nL ret mn Q d kc ks (pc + 3) L (r.toList ++ rest) h') : Ev E RL cc nL ret mn Q d (kc + kc') (ks + ks') pc L st0 h := ev_callV hM rfl hq cod_X9_clock ini_X9 (List.mem_filter.mpr ⟨List.mem_of_getElem? (i := 251) (by decide +kernel), by decide +kernel⟩) im_X9_clock sel_X9_clock (by decide +kernel) hlen hst hrm hd1 (by decide) hd kk
theorem c_X9_77 {b : Nat} {fs : List Value} {kc' ks' d' : Nat} {Q1 : Option Value → AH → Prop} {As rest st0 : List Value} (hM : CM E yX9_stationAt cX9_stationAt 2 (some (.object "NorthCurtains$Station")) d' kc' ks' (.ref b :: As) h Q1) (hq : h b = some (ob 9 fs)) (hlen : As.length = 1) (hst : st0 = As.reverse ++ .ref b :: rest) (hrm : (rest.map fun v => v.category).sum ≤ 8) (hd1 : d' + 1 ≤ d) (hd : decode cc pc = .ok (.invokevirtual 77, 3)) (kk : ∀ r h', Q1 r h' → Ev E RX9 cc nL ret mn Q d kc ks (pc + 3) L (r.toList ++ rest) h') : Ev E RX9 cc nL ret mn Q d (kc + kc') (ks + ks') pc L st0 h := ev_callV hM rfl hq cod_X9_stationAt ini_X9 (List.mem_filter.mpr ⟨List.mem_of_getElem? (i := 255) (by decide +kernel), by decide +kernel⟩) im_X9_stationAt sel_X9_stationAt (by decide +kernel) hlen hst hrm hd1 (by decide) hd kk
theorem c_L_23 {b : Nat} {fs : List Value} {kc' ks' d' : Nat} {Q1 : Option Value → AH → Prop} {As rest st0 : List Value} (hM : CM E yX9_glow cX9_glow 7 (some .int) d' kc' ks' (.ref b :: As) h Q1) (hq : h b = some (ob 9 fs)) (hlen : As.length = 5) (hst : st0 = As.reverse ++ .ref b :: rest) (hrm : (rest.map fun v => v.category).sum ≤ 8) (hd1 : d' + 1 ≤ d) (hd : decode cc pc = .ok (.invokevirtual 23, 3)) (kk : ∀ r h', Q1 r h' → Ev E RL cc nL ret mn Q d kc ks (pc + 3) L (r.toList ++ rest) h') : Ev E RL cc nL ret mn Q d (kc + kc') (ks + ks') pc L st0 h := ev_callV hM rfl hq cod_X9_glow ini_X9 (List.mem_filter.mpr ⟨List.mem_of_getElem? (i := 259) (by decide +kernel), by decide +kernel⟩) im_X9_glow sel_X9_glow (by decide +kernel) hlen hst hrm hd1 (by decide) hd kk
theorem c_X9_87 {kc' ks' d' : Nat} {Q1 : Option Value → AH → Prop} {As rest st0 : List Value} (hM : CM E yX9_isInSky cX9_isInSky 4 (some .boolean) d' kc' ks' As h Q1) (hlen : As.length = 4) (hst : st0 = As.reverse ++ rest) (hrm : (rest.map fun v => v.category).sum ≤ 8) (hd1 : d' + 1 ≤ d) (hd : decode cc pc = .ok (.invokestatic 87, 3)) (kk : ∀ r h', Q1 r h' → Ev E RX9 cc nL ret mn Q d kc ks (pc + 3) L (r.toList ++ rest) h') : Ev E RX9 cc nL ret mn Q d (kc + kc') (ks + ks') pc L st0 h := ev_callS hM cod_X9_isInSky ini_X9 (List.mem_filter.mpr ⟨List.mem_of_getElem? (i := 263) (by decide +kernel), by decide +kernel⟩) sta_X9_isInSky (by decide +kernel) hlen hst hrm hd1 (by decide) hd kk
theorem c_X9_178 {kc' ks' d' : Nat} {Q1 : Option Value → AH → Prop} {As rest st0 : List Value} (hM : CM E yX9_isNight cX9_isNight 1 (some .boolean) d' kc' ks' As h Q1) (hlen : As.length = 1) (hst : st0 = As.reverse ++ rest) (hrm : (rest.map fun v => v.category).sum ≤ 8) (hd1 : d' + 1 ≤ d) (hd : decode cc pc = .ok (.invokestatic 178, 3)) (kk : ∀ r h', Q1 r h' → Ev E RX9 cc nL ret mn Q d kc ks (pc + 3) L (r.toList ++ rest) h') : Ev E RX9 cc nL ret mn Q d (kc + kc') (ks + ks') pc L st0 h := ev_callS hM cod_X9_isNight ini_X9 (List.mem_filter.mpr ⟨List.mem_of_getElem? (i := 266) (by decide +kernel), by decide +kernel⟩) sta_X9_isNight (by decide +kernel) hlen hst hrm hd1 (by decide) hd kk
theorem c_X9_94 {b : Nat} {kc' ks' d' : Nat} {Q1 : Option Value → AH → Prop} {As rest st0 : List Value} (hM : CM E yX3_init cX3_init 6 none d' kc' ks' (.ref b :: As) h Q1) (hlen : As.length = 5) (hst : st0 = As.reverse ++ .ref b :: rest) (hrm : (rest.map fun v => v.category).sum ≤ 8) (hd1 : d' + 1 ≤ d) (hd : decode cc pc = .ok (.invokespecial 94, 3)) (kk : ∀ r h', Q1 r h' → Ev E RX9 cc nL ret mn Q d kc ks (pc + 3) L (r.toList ++ rest) h') : Ev E RX9 cc nL ret mn Q d (kc + kc') (ks + ks') pc L st0 h := ev_callI hM cod_X3_init ini_X3 (List.mem_filter.mpr ⟨List.mem_of_getElem? (i := 270) (by decide +kernel), by decide +kernel⟩) im_X3_init rfl (by decide +kernel) hlen hst hrm hd1 (by decide) hd kk
theorem oi_X3 {q : Nat} (hd : decode cc pc = .ok (.invokespecial 1, 3)) (h1 : 1 ≤ d) (hst : (st.map fun v => v.category).sum ≤ 8) (kk : Ev E RX3 cc nL ret mn Q d kc ks (pc + 3) L st h) : Ev E RX3 cc nL ret mn Q d kc ks pc L (.ref q :: st) h := ev_objInit (List.mem_filter.mpr ⟨List.mem_of_getElem? (i := 273) (by decide +kernel), by decide +kernel⟩) im_object cod_object hd h1 hst kk
theorem c_X9_97 {b : Nat} {fs : List Value} {kc' ks' d' : Nat} {Q1 : Option Value → AH → Prop} {As rest st0 : List Value} (hM : CM E yX9_keep cX9_keep 3 (some .int) d' kc' ks' (.ref b :: As) h Q1) (hq : h b = some (ob 9 fs)) (hlen : As.length = 1) (hst : st0 = As.reverse ++ .ref b :: rest) (hrm : (rest.map fun v => v.category).sum ≤ 8) (hd1 : d' + 1 ≤ d) (hd : decode cc pc = .ok (.invokevirtual 97, 3)) (kk : ∀ r h', Q1 r h' → Ev E RX9 cc nL ret mn Q d kc ks (pc + 3) L (r.toList ++ rest) h') : Ev E RX9 cc nL ret mn Q d (kc + kc') (ks + ks') pc L st0 h := ev_callV hM rfl hq cod_X9_keep ini_X9 (List.mem_filter.mpr ⟨List.mem_of_getElem? (i := 304) (by decide +kernel), by decide +kernel⟩) im_X9_keep sel_X9_keep (by decide +kernel) hlen hst hrm hd1 (by decide) hd kk
theorem c_X9_289 {b : Nat} {fs : List Value} {kc' ks' d' : Nat} {Q1 : Option Value → AH → Prop} {As rest st0 : List Value} (hM : CM E yX9_isSeenNight cX9_isSeenNight 3 (some .boolean) d' kc' ks' (.ref b :: As) h Q1) (hq : h b = some (ob 9 fs)) (hlen : As.length = 1) (hst : st0 = As.reverse ++ .ref b :: rest) (hrm : (rest.map fun v => v.category).sum ≤ 8) (hd1 : d' + 1 ≤ d) (hd : decode cc pc = .ok (.invokevirtual 289, 3)) (kk : ∀ r h', Q1 r h' → Ev E RX9 cc nL ret mn Q d kc ks (pc + 3) L (r.toList ++ rest) h') : Ev E RX9 cc nL ret mn Q d (kc + kc') (ks + ks') pc L st0 h := ev_callV hM rfl hq cod_X9_isSeenNight ini_X9 (List.mem_filter.mpr ⟨List.mem_of_getElem? (i := 308) (by decide +kernel), by decide +kernel⟩) im_X9_isSeenNight sel_X9_isSeenNight (by decide +kernel) hlen hst hrm hd1 (by decide) hd kk
theorem c_L_28 {b : Nat} {fs : List Value} {kc' ks' d' : Nat} {Q1 : Option Value → AH → Prop} {As rest st0 : List Value} (hM : CM E yX9_arc cX9_arc 8 (some .int) d' kc' ks' (.ref b :: As) h Q1) (hq : h b = some (ob 9 fs)) (hlen : As.length = 6) (hst : st0 = As.reverse ++ .ref b :: rest) (hrm : (rest.map fun v => v.category).sum ≤ 8) (hd1 : d' + 1 ≤ d) (hd : decode cc pc = .ok (.invokevirtual 28, 3)) (kk : ∀ r h', Q1 r h' → Ev E RL cc nL ret mn Q d kc ks (pc + 3) L (r.toList ++ rest) h') : Ev E RL cc nL ret mn Q d (kc + kc') (ks + ks') pc L st0 h := ev_callV hM rfl hq cod_X9_arc ini_X9 (List.mem_filter.mpr ⟨List.mem_of_getElem? (i := 312) (by decide +kernel), by decide +kernel⟩) im_X9_arc sel_X9_arc (by decide +kernel) hlen hst hrm hd1 (by decide) hd kk
theorem c_X9_101 {kc' ks' d' : Nat} {Q1 : Option Value → AH → Prop} {As rest st0 : List Value} (hM : CM E yX9_isColour cX9_isColour 1 (some .boolean) d' kc' ks' As h Q1) (hlen : As.length = 1) (hst : st0 = As.reverse ++ rest) (hrm : (rest.map fun v => v.category).sum ≤ 8) (hd1 : d' + 1 ≤ d) (hd : decode cc pc = .ok (.invokestatic 101, 3)) (kk : ∀ r h', Q1 r h' → Ev E RX9 cc nL ret mn Q d kc ks (pc + 3) L (r.toList ++ rest) h') : Ev E RX9 cc nL ret mn Q d (kc + kc') (ks + ks') pc L st0 h := ev_callS hM cod_X9_isColour ini_X9 (List.mem_filter.mpr ⟨List.mem_of_getElem? (i := 316) (by decide +kernel), by decide +kernel⟩) sta_X9_isColour (by decide +kernel) hlen hst hrm hd1 (by decide) hd kk
theorem c_X9_107 {b : Nat} {kc' ks' d' : Nat} {Q1 : Option Value → AH → Prop} {As rest st0 : List Value} (hM : CM E yX0_init cX0_init 7 none d' kc' ks' (.ref b :: As) h Q1) (hlen : As.length = 6) (hst : st0 = As.reverse ++ .ref b :: rest) (hrm : (rest.map fun v => v.category).sum ≤ 8) (hd1 : d' + 1 ≤ d) (hd : decode cc pc = .ok (.invokespecial 107, 3)) (kk : ∀ r h', Q1 r h' → Ev E RX9 cc nL ret mn Q d kc ks (pc + 3) L (r.toList ++ rest) h') : Ev E RX9 cc nL ret mn Q d (kc + kc') (ks + ks') pc L st0 h := ev_callI hM cod_X0_init ini_X0 (List.mem_filter.mpr ⟨List.mem_of_getElem? (i := 321) (by decide +kernel), by decide +kernel⟩) im_X0_init rfl (by decide +kernel) hlen hst hrm hd1 (by decide) hd kk
theorem c_X0_1 {b : Nat} {kc' ks' d' : Nat} {Q1 : Option Value → AH → Prop} {As rest st0 : List Value} (hM : CM E yX3_init cX3_init 6 none d' kc' ks' (.ref b :: As) h Q1) (hlen : As.length = 5) (hst : st0 = As.reverse ++ .ref b :: rest) (hrm : (rest.map fun v => v.category).sum ≤ 8) (hd1 : d' + 1 ≤ d) (hd : decode cc pc = .ok (.invokespecial 1, 3)) (kk : ∀ r h', Q1 r h' → Ev E RX0 cc nL ret mn Q d kc ks (pc + 3) L (r.toList ++ rest) h') : Ev E RX0 cc nL ret mn Q d (kc + kc') (ks + ks') pc L st0 h := ev_callI hM cod_X3_init ini_X3 (List.mem_filter.mpr ⟨List.mem_of_getElem? (i := 324) (by decide +kernel), by decide +kernel⟩) im_X3_init rfl (by decide +kernel) hlen hst hrm hd1 (by decide) hd kk
theorem c_L_33 {b : Nat} {fs : List Value} {kc' ks' d' : Nat} {Q1 : Option Value → AH → Prop} {As rest st0 : List Value} (hM : CM E yX9_ray cX9_ray 9 (some .int) d' kc' ks' (.ref b :: As) h Q1) (hq : h b = some (ob 9 fs)) (hlen : As.length = 7) (hst : st0 = As.reverse ++ .ref b :: rest) (hrm : (rest.map fun v => v.category).sum ≤ 8) (hd1 : d' + 1 ≤ d) (hd : decode cc pc = .ok (.invokevirtual 33, 3)) (kk : ∀ r h', Q1 r h' → Ev E RL cc nL ret mn Q d kc ks (pc + 3) L (r.toList ++ rest) h') : Ev E RL cc nL ret mn Q d (kc + kc') (ks + ks') pc L st0 h := ev_callV hM rfl hq cod_X9_ray ini_X9 (List.mem_filter.mpr ⟨List.mem_of_getElem? (i := 335) (by decide +kernel), by decide +kernel⟩) im_X9_ray sel_X9_ray (by decide +kernel) hlen hst hrm hd1 (by decide) hd kk
theorem c_X9_112 {b : Nat} {kc' ks' d' : Nat} {Q1 : Option Value → AH → Prop} {As rest st0 : List Value} (hM : CM E yX4_init cX4_init 8 none d' kc' ks' (.ref b :: As) h Q1) (hlen : As.length = 7) (hst : st0 = As.reverse ++ .ref b :: rest) (hrm : (rest.map fun v => v.category).sum ≤ 8) (hd1 : d' + 1 ≤ d) (hd : decode cc pc = .ok (.invokespecial 112, 3)) (kk : ∀ r h', Q1 r h' → Ev E RX9 cc nL ret mn Q d kc ks (pc + 3) L (r.toList ++ rest) h') : Ev E RX9 cc nL ret mn Q d (kc + kc') (ks + ks') pc L st0 h := ev_callI hM cod_X4_init ini_X4 (List.mem_filter.mpr ⟨List.mem_of_getElem? (i := 341) (by decide +kernel), by decide +kernel⟩) im_X4_init rfl (by decide +kernel) hlen hst hrm hd1 (by decide) hd kk
theorem c_X4_1 {b : Nat} {kc' ks' d' : Nat} {Q1 : Option Value → AH → Prop} {As rest st0 : List Value} (hM : CM E yX0_init cX0_init 7 none d' kc' ks' (.ref b :: As) h Q1) (hlen : As.length = 6) (hst : st0 = As.reverse ++ .ref b :: rest) (hrm : (rest.map fun v => v.category).sum ≤ 8) (hd1 : d' + 1 ≤ d) (hd : decode cc pc = .ok (.invokespecial 1, 3)) (kk : ∀ r h', Q1 r h' → Ev E RX4 cc nL ret mn Q d kc ks (pc + 3) L (r.toList ++ rest) h') : Ev E RX4 cc nL ret mn Q d (kc + kc') (ks + ks') pc L st0 h := ev_callI hM cod_X0_init ini_X0 (List.mem_filter.mpr ⟨List.mem_of_getElem? (i := 344) (by decide +kernel), by decide +kernel⟩) im_X0_init rfl (by decide +kernel) hlen hst hrm hd1 (by decide) hd kk
theorem c_L_38 {b : Nat} {fs : List Value} {kc' ks' d' : Nat} {Q1 : Option Value → AH → Prop} {As rest st0 : List Value} (hM : CM E yX9_told cX9_told 4 (some .int) d' kc' ks' (.ref b :: As) h Q1) (hq : h b = some (ob 9 fs)) (hlen : As.length = 2) (hst : st0 = As.reverse ++ .ref b :: rest) (hrm : (rest.map fun v => v.category).sum ≤ 8) (hd1 : d' + 1 ≤ d) (hd : decode cc pc = .ok (.invokevirtual 38, 3)) (kk : ∀ r h', Q1 r h' → Ev E RL cc nL ret mn Q d kc ks (pc + 3) L (r.toList ++ rest) h') : Ev E RL cc nL ret mn Q d (kc + kc') (ks + ks') pc L st0 h := ev_callV hM rfl hq cod_X9_told ini_X9 (List.mem_filter.mpr ⟨List.mem_of_getElem? (i := 356) (by decide +kernel), by decide +kernel⟩) im_X9_told sel_X9_told (by decide +kernel) hlen hst hrm hd1 (by decide) hd kk
theorem c_X9_115 {b : Nat} {fs : List Value} {kc' ks' d' : Nat} {Q1 : Option Value → AH → Prop} {As rest st0 : List Value} (hM : CM E yX9_sightingAt cX9_sightingAt 2 (some (.object "NorthCurtains$Glow")) d' kc' ks' (.ref b :: As) h Q1) (hq : h b = some (ob 9 fs)) (hlen : As.length = 1) (hst : st0 = As.reverse ++ .ref b :: rest) (hrm : (rest.map fun v => v.category).sum ≤ 8) (hd1 : d' + 1 ≤ d) (hd : decode cc pc = .ok (.invokevirtual 115, 3)) (kk : ∀ r h', Q1 r h' → Ev E RX9 cc nL ret mn Q d kc ks (pc + 3) L (r.toList ++ rest) h') : Ev E RX9 cc nL ret mn Q d (kc + kc') (ks + ks') pc L st0 h := ev_callV hM rfl hq cod_X9_sightingAt ini_X9 (List.mem_filter.mpr ⟨List.mem_of_getElem? (i := 360) (by decide +kernel), by decide +kernel⟩) im_X9_sightingAt sel_X9_sightingAt (by decide +kernel) hlen hst hrm hd1 (by decide) hd kk
theorem c_L_42 {b : Nat} {fs : List Value} {kc' ks' d' : Nat} {Q1 : Option Value → AH → Prop} {As rest st0 : List Value} (hM : CM E yX9_colour cX9_colour 4 (some .int) d' kc' ks' (.ref b :: As) h Q1) (hq : h b = some (ob 9 fs)) (hlen : As.length = 1) (hst : st0 = As.reverse ++ .ref b :: rest) (hrm : (rest.map fun v => v.category).sum ≤ 8) (hd1 : d' + 1 ≤ d) (hd : decode cc pc = .ok (.invokevirtual 42, 3)) (kk : ∀ r h', Q1 r h' → Ev E RL cc nL ret mn Q d kc ks (pc + 3) L (r.toList ++ rest) h') : Ev E RL cc nL ret mn Q d (kc + kc') (ks + ks') pc L st0 h := ev_callV hM rfl hq cod_X9_colour ini_X9 (List.mem_filter.mpr ⟨List.mem_of_getElem? (i := 389) (by decide +kernel), by decide +kernel⟩) im_X9_colour sel_X9_colour (by decide +kernel) hlen hst hrm hd1 (by decide) hd kk
theorem c_L_47 {b : Nat} {fs : List Value} {kc' ks' d' : Nat} {Q1 : Option Value → AH → Prop} {As rest st0 : List Value} (hM : CM E yX9_lean cX9_lean 4 (some .int) d' kc' ks' (.ref b :: As) h Q1) (hq : h b = some (ob 9 fs)) (hlen : As.length = 1) (hst : st0 = As.reverse ++ .ref b :: rest) (hrm : (rest.map fun v => v.category).sum ≤ 8) (hd1 : d' + 1 ≤ d) (hd : decode cc pc = .ok (.invokevirtual 47, 3)) (kk : ∀ r h', Q1 r h' → Ev E RL cc nL ret mn Q d kc ks (pc + 3) L (r.toList ++ rest) h') : Ev E RL cc nL ret mn Q d (kc + kc') (ks + ks') pc L st0 h := ev_callV hM rfl hq cod_X9_lean ini_X9 (List.mem_filter.mpr ⟨List.mem_of_getElem? (i := 393) (by decide +kernel), by decide +kernel⟩) im_X9_lean sel_X9_lean (by decide +kernel) hlen hst hrm hd1 (by decide) hd kk
theorem c_L_51 {b : Nat} {fs : List Value} {kc' ks' d' : Nat} {Q1 : Option Value → AH → Prop} {As rest st0 : List Value} (hM : CM E yX9_table cX9_table 3 (some .int) d' kc' ks' (.ref b :: As) h Q1) (hq : h b = some (ob 9 fs)) (hlen : As.length = 2) (hst : st0 = As.reverse ++ .ref b :: rest) (hrm : (rest.map fun v => v.category).sum ≤ 8) (hd1 : d' + 1 ≤ d) (hd : decode cc pc = .ok (.invokevirtual 51, 3)) (kk : ∀ r h', Q1 r h' → Ev E RL cc nL ret mn Q d kc ks (pc + 3) L (r.toList ++ rest) h') : Ev E RL cc nL ret mn Q d (kc + kc') (ks + ks') pc L st0 h := ev_callV hM rfl hq cod_X9_table ini_X9 (List.mem_filter.mpr ⟨List.mem_of_getElem? (i := 397) (by decide +kernel), by decide +kernel⟩) im_X9_table sel_X9_table (by decide +kernel) hlen hst hrm hd1 (by decide) hd kk
theorem c_X9_154 {kc' ks' d' : Nat} {Q1 : Option Value → AH → Prop} {As rest st0 : List Value} (hM : CM E yX9_sine cX9_sine 4 (some .int) d' kc' ks' As h Q1) (hlen : As.length = 1) (hst : st0 = As.reverse ++ rest) (hrm : (rest.map fun v => v.category).sum ≤ 8) (hd1 : d' + 1 ≤ d) (hd : decode cc pc = .ok (.invokestatic 154, 3)) (kk : ∀ r h', Q1 r h' → Ev E RX9 cc nL ret mn Q d kc ks (pc + 3) L (r.toList ++ rest) h') : Ev E RX9 cc nL ret mn Q d (kc + kc') (ks + ks') pc L st0 h := ev_callS hM cod_X9_sine ini_X9 (List.mem_filter.mpr ⟨List.mem_of_getElem? (i := 401) (by decide +kernel), by decide +kernel⟩) sta_X9_sine (by decide +kernel) hlen hst hrm hd1 (by decide) hd kk
theorem c_X9_280 {kc' ks' d' : Nat} {Q1 : Option Value → AH → Prop} {As rest st0 : List Value} (hM : CM E yJ9_floorMod_7cf53 cJ9_floorMod_7cf53 3 (some .int) d' kc' ks' As h Q1) (hlen : As.length = 2) (hst : st0 = As.reverse ++ rest) (hrm : (rest.map fun v => v.category).sum ≤ 8) (hd1 : d' + 1 ≤ d) (hd : decode cc pc = .ok (.invokestatic 280, 3)) (kk : ∀ r h', Q1 r h' → Ev E RX9 cc nL ret mn Q d kc ks (pc + 3) L (r.toList ++ rest) h') : Ev E RX9 cc nL ret mn Q d (kc + kc') (ks + ks') pc L st0 h := ev_callS hM cod_J9_floorMod_7cf53 ini_J9 (List.mem_filter.mpr ⟨List.mem_of_getElem? (i := 404) (by decide +kernel), by decide +kernel⟩) sta_J9_floorMod_7cf53 (by decide +kernel) hlen hst hrm hd1 (by decide) hd kk
theorem c_X9_158 {kc' ks' d' : Nat} {Q1 : Option Value → AH → Prop} {As rest st0 : List Value} (hM : CM E yX9_cosine cX9_cosine 1 (some .int) d' kc' ks' As h Q1) (hlen : As.length = 1) (hst : st0 = As.reverse ++ rest) (hrm : (rest.map fun v => v.category).sum ≤ 8) (hd1 : d' + 1 ≤ d) (hd : decode cc pc = .ok (.invokestatic 158, 3)) (kk : ∀ r h', Q1 r h' → Ev E RX9 cc nL ret mn Q d kc ks (pc + 3) L (r.toList ++ rest) h') : Ev E RX9 cc nL ret mn Q d (kc + kc') (ks + ks') pc L st0 h := ev_callS hM cod_X9_cosine ini_X9 (List.mem_filter.mpr ⟨List.mem_of_getElem? (i := 409) (by decide +kernel), by decide +kernel⟩) sta_X9_cosine (by decide +kernel) hlen hst hrm hd1 (by decide) hd kk
theorem c_X9_161 {kc' ks' d' : Nat} {Q1 : Option Value → AH → Prop} {As rest st0 : List Value} (hM : CM E yX9_tangent cX9_tangent 1 (some .int) d' kc' ks' As h Q1) (hlen : As.length = 1) (hst : st0 = As.reverse ++ rest) (hrm : (rest.map fun v => v.category).sum ≤ 8) (hd1 : d' + 1 ≤ d) (hd : decode cc pc = .ok (.invokestatic 161, 3)) (kk : ∀ r h', Q1 r h' → Ev E RX9 cc nL ret mn Q d kc ks (pc + 3) L (r.toList ++ rest) h') : Ev E RX9 cc nL ret mn Q d (kc + kc') (ks + ks') pc L st0 h := ev_callS hM cod_X9_tangent ini_X9 (List.mem_filter.mpr ⟨List.mem_of_getElem? (i := 412) (by decide +kernel), by decide +kernel⟩) sta_X9_tangent (by decide +kernel) hlen hst hrm hd1 (by decide) hd kk
theorem c_L_55 {b : Nat} {fs : List Value} {kc' ks' d' : Nat} {Q1 : Option Value → AH → Prop} {As rest st0 : List Value} (hM : CM E yX9_thick cX9_thick 3 (some .int) d' kc' ks' (.ref b :: As) h Q1) (hq : h b = some (ob 9 fs)) (hlen : As.length = 1) (hst : st0 = As.reverse ++ .ref b :: rest) (hrm : (rest.map fun v => v.category).sum ≤ 8) (hd1 : d' + 1 ≤ d) (hd : decode cc pc = .ok (.invokevirtual 55, 3)) (kk : ∀ r h', Q1 r h' → Ev E RL cc nL ret mn Q d kc ks (pc + 3) L (r.toList ++ rest) h') : Ev E RL cc nL ret mn Q d (kc + kc') (ks + ks') pc L st0 h := ev_callV hM rfl hq cod_X9_thick ini_X9 (List.mem_filter.mpr ⟨List.mem_of_getElem? (i := 418) (by decide +kernel), by decide +kernel⟩) im_X9_thick sel_X9_thick (by decide +kernel) hlen hst hrm hd1 (by decide) hd kk
theorem c_L_59 {b : Nat} {fs : List Value} {kc' ks' d' : Nat} {Q1 : Option Value → AH → Prop} {As rest st0 : List Value} (hM : CM E yX9_meets cX9_meets 7 (some .int) d' kc' ks' (.ref b :: As) h Q1) (hq : h b = some (ob 9 fs)) (hlen : As.length = 2) (hst : st0 = As.reverse ++ .ref b :: rest) (hrm : (rest.map fun v => v.category).sum ≤ 8) (hd1 : d' + 1 ≤ d) (hd : decode cc pc = .ok (.invokevirtual 59, 3)) (kk : ∀ r h', Q1 r h' → Ev E RL cc nL ret mn Q d kc ks (pc + 3) L (r.toList ++ rest) h') : Ev E RL cc nL ret mn Q d (kc + kc') (ks + ks') pc L st0 h := ev_callV hM rfl hq cod_X9_meets ini_X9 (List.mem_filter.mpr ⟨List.mem_of_getElem? (i := 422) (by decide +kernel), by decide +kernel⟩) im_X9_meets sel_X9_meets (by decide +kernel) hlen hst hrm hd1 (by decide) hd kk
theorem c_X9_165 {b : Nat} {fs : List Value} {kc' ks' d' : Nat} {Q1 : Option Value → AH → Prop} {As rest st0 : List Value} (hM : CM E yX1_find cX1_find 9 (some .boolean) d' kc' ks' (.ref b :: As) h Q1) (hq : h b = some (ob 1 fs)) (hlen : As.length = 3) (hst : st0 = As.reverse ++ .ref b :: rest) (hrm : (rest.map fun v => v.category).sum ≤ 8) (hd1 : d' + 1 ≤ d) (hd : decode cc pc = .ok (.invokevirtual 165, 3)) (kk : ∀ r h', Q1 r h' → Ev E RX9 cc nL ret mn Q d kc ks (pc + 3) L (r.toList ++ rest) h') : Ev E RX9 cc nL ret mn Q d (kc + kc') (ks + ks') pc L st0 h := ev_callV hM rfl hq cod_X1_find ini_X1 (List.mem_filter.mpr ⟨List.mem_of_getElem? (i := 426) (by decide +kernel), by decide +kernel⟩) im_X1_find sel_X1_find (by decide +kernel) hlen hst hrm hd1 (by decide) hd kk
theorem c_X1_28 {kc' ks' d' : Nat} {Q1 : Option Value → AH → Prop} {As rest st0 : List Value} (hM : CM E yX9_sine cX9_sine 4 (some .int) d' kc' ks' As h Q1) (hlen : As.length = 1) (hst : st0 = As.reverse ++ rest) (hrm : (rest.map fun v => v.category).sum ≤ 8) (hd1 : d' + 1 ≤ d) (hd : decode cc pc = .ok (.invokestatic 28, 3)) (kk : ∀ r h', Q1 r h' → Ev E RX1 cc nL ret mn Q d kc ks (pc + 3) L (r.toList ++ rest) h') : Ev E RX1 cc nL ret mn Q d (kc + kc') (ks + ks') pc L st0 h := ev_callSN hM cod_X9_sine ini_X9 (by decide) sta_X9_sine (by decide +kernel) hlen hst hrm hd1 (by decide) hd kk
theorem c_X1_34 {kc' ks' d' : Nat} {Q1 : Option Value → AH → Prop} {As rest st0 : List Value} (hM : CM E yX9_cosine cX9_cosine 1 (some .int) d' kc' ks' As h Q1) (hlen : As.length = 1) (hst : st0 = As.reverse ++ rest) (hrm : (rest.map fun v => v.category).sum ≤ 8) (hd1 : d' + 1 ≤ d) (hd : decode cc pc = .ok (.invokestatic 34, 3)) (kk : ∀ r h', Q1 r h' → Ev E RX1 cc nL ret mn Q d kc ks (pc + 3) L (r.toList ++ rest) h') : Ev E RX1 cc nL ret mn Q d (kc + kc') (ks + ks') pc L st0 h := ev_callSN hM cod_X9_cosine ini_X9 (by decide) sta_X9_cosine (by decide +kernel) hlen hst hrm hd1 (by decide) hd kk
theorem c_X1_37 {kc' ks' d' : Nat} {Q1 : Option Value → AH → Prop} {As rest st0 : List Value} (hM : CM E yJ9_abs_0f7a4 cJ9_abs_0f7a4 1 (some .int) d' kc' ks' As h Q1) (hlen : As.length = 1) (hst : st0 = As.reverse ++ rest) (hrm : (rest.map fun v => v.category).sum ≤ 8) (hd1 : d' + 1 ≤ d) (hd : decode cc pc = .ok (.invokestatic 37, 3)) (kk : ∀ r h', Q1 r h' → Ev E RX1 cc nL ret mn Q d kc ks (pc + 3) L (r.toList ++ rest) h') : Ev E RX1 cc nL ret mn Q d (kc + kc') (ks + ks') pc L st0 h := ev_callS hM cod_J9_abs_0f7a4 ini_J9 (List.mem_filter.mpr ⟨List.mem_of_getElem? (i := 432) (by decide +kernel), by decide +kernel⟩) sta_J9_abs_0f7a4 (by decide +kernel) hlen hst hrm hd1 (by decide) hd kk
theorem c_X1_45 {kc' ks' d' : Nat} {Q1 : Option Value → AH → Prop} {As rest st0 : List Value} (hM : CM E yX1_across cX1_across 3 (some .long) d' kc' ks' As h Q1) (hlen : As.length = 3) (hst : st0 = As.reverse ++ rest) (hrm : (rest.map fun v => v.category).sum ≤ 8) (hd1 : d' + 1 ≤ d) (hd : decode cc pc = .ok (.invokestatic 45, 3)) (kk : ∀ r h', Q1 r h' → Ev E RX1 cc nL ret mn Q d kc ks (pc + 3) L (r.toList ++ rest) h') : Ev E RX1 cc nL ret mn Q d (kc + kc') (ks + ks') pc L st0 h := ev_callS hM cod_X1_across ini_X1 (List.mem_filter.mpr ⟨List.mem_of_getElem? (i := 437) (by decide +kernel), by decide +kernel⟩) sta_X1_across (by decide +kernel) hlen hst hrm hd1 (by decide) hd kk
theorem c_X1_51 {b : Nat} {fs : List Value} {kc' ks' d' : Nat} {Q1 : Option Value → AH → Prop} {As rest st0 : List Value} (hM : CM E yX1_findHeights cX1_findHeights 8 (some .boolean) d' kc' ks' (.ref b :: As) h Q1) (hq : h b = some (ob 1 fs)) (hlen : As.length = 3) (hst : st0 = As.reverse ++ .ref b :: rest) (hrm : (rest.map fun v => v.category).sum ≤ 8) (hd1 : d' + 1 ≤ d) (hd : decode cc pc = .ok (.invokevirtual 51, 3)) (kk : ∀ r h', Q1 r h' → Ev E RX1 cc nL ret mn Q d kc ks (pc + 3) L (r.toList ++ rest) h') : Ev E RX1 cc nL ret mn Q d (kc + kc') (ks + ks') pc L st0 h := ev_callV hM rfl hq cod_X1_findHeights ini_X1 (List.mem_filter.mpr ⟨List.mem_of_getElem? (i := 441) (by decide +kernel), by decide +kernel⟩) im_X1_findHeights sel_X1_findHeights (by decide +kernel) hlen hst hrm hd1 (by decide) hd kk
theorem c_X1_64 {kc' ks' d' : Nat} {Q1 : Option Value → AH → Prop} {As rest st0 : List Value} (hM : CM E yX1_rise cX1_rise 2 (some .int) d' kc' ks' As h Q1) (hlen : As.length = 2) (hst : st0 = As.reverse ++ rest) (hrm : (rest.map fun v => v.category).sum ≤ 8) (hd1 : d' + 1 ≤ d) (hd : decode cc pc = .ok (.invokestatic 64, 3)) (kk : ∀ r h', Q1 r h' → Ev E RX1 cc nL ret mn Q d kc ks (pc + 3) L (r.toList ++ rest) h') : Ev E RX1 cc nL ret mn Q d (kc + kc') (ks + ks') pc L st0 h := ev_callS hM cod_X1_rise ini_X1 (List.mem_filter.mpr ⟨List.mem_of_getElem? (i := 445) (by decide +kernel), by decide +kernel⟩) sta_X1_rise (by decide +kernel) hlen hst hrm hd1 (by decide) hd kk
theorem c_X1_74 {kc' ks' d' : Nat} {Q1 : Option Value → AH → Prop} {As rest st0 : List Value} (hM : CM E yX9_tangent cX9_tangent 1 (some .int) d' kc' ks' As h Q1) (hlen : As.length = 1) (hst : st0 = As.reverse ++ rest) (hrm : (rest.map fun v => v.category).sum ≤ 8) (hd1 : d' + 1 ≤ d) (hd : decode cc pc = .ok (.invokestatic 74, 3)) (kk : ∀ r h', Q1 r h' → Ev E RX1 cc nL ret mn Q d kc ks (pc + 3) L (r.toList ++ rest) h') : Ev E RX1 cc nL ret mn Q d (kc + kc') (ks + ks') pc L st0 h := ev_callSN hM cod_X9_tangent ini_X9 (by decide) sta_X9_tangent (by decide +kernel) hlen hst hrm hd1 (by decide) hd kk
theorem c_X1_68 {kc' ks' d' : Nat} {Q1 : Option Value → AH → Prop} {As rest st0 : List Value} (hM : CM E yJ9_max_7cf53 cJ9_max_7cf53 2 (some .int) d' kc' ks' As h Q1) (hlen : As.length = 2) (hst : st0 = As.reverse ++ rest) (hrm : (rest.map fun v => v.category).sum ≤ 8) (hd1 : d' + 1 ≤ d) (hd : decode cc pc = .ok (.invokestatic 68, 3)) (kk : ∀ r h', Q1 r h' → Ev E RX1 cc nL ret mn Q d kc ks (pc + 3) L (r.toList ++ rest) h') : Ev E RX1 cc nL ret mn Q d (kc + kc') (ks + ks') pc L st0 h := ev_callS hM cod_J9_max_7cf53 ini_J9 (List.mem_filter.mpr ⟨List.mem_of_getElem? (i := 449) (by decide +kernel), by decide +kernel⟩) sta_J9_max_7cf53 (by decide +kernel) hlen hst hrm hd1 (by decide) hd kk
theorem c_X1_71 {kc' ks' d' : Nat} {Q1 : Option Value → AH → Prop} {As rest st0 : List Value} (hM : CM E yJ9_min_7cf53 cJ9_min_7cf53 2 (some .int) d' kc' ks' As h Q1) (hlen : As.length = 2) (hst : st0 = As.reverse ++ rest) (hrm : (rest.map fun v => v.category).sum ≤ 8) (hd1 : d' + 1 ≤ d) (hd : decode cc pc = .ok (.invokestatic 71, 3)) (kk : ∀ r h', Q1 r h' → Ev E RX1 cc nL ret mn Q d kc ks (pc + 3) L (r.toList ++ rest) h') : Ev E RX1 cc nL ret mn Q d (kc + kc') (ks + ks') pc L st0 h := ev_callS hM cod_J9_min_7cf53 ini_J9 (List.mem_filter.mpr ⟨List.mem_of_getElem? (i := 452) (by decide +kernel), by decide +kernel⟩) sta_J9_min_7cf53 (by decide +kernel) hlen hst hrm hd1 (by decide) hd kk
theorem c_L_63 {b : Nat} {fs : List Value} {kc' ks' d' : Nat} {Q1 : Option Value → AH → Prop} {As rest st0 : List Value} (hM : CM E yX9_cross cX9_cross 8 (some .int) d' kc' ks' (.ref b :: As) h Q1) (hq : h b = some (ob 9 fs)) (hlen : As.length = 3) (hst : st0 = As.reverse ++ .ref b :: rest) (hrm : (rest.map fun v => v.category).sum ≤ 8) (hd1 : d' + 1 ≤ d) (hd : decode cc pc = .ok (.invokevirtual 63, 3)) (kk : ∀ r h', Q1 r h' → Ev E RL cc nL ret mn Q d kc ks (pc + 3) L (r.toList ++ rest) h') : Ev E RL cc nL ret mn Q d (kc + kc') (ks + ks') pc L st0 h := ev_callV hM rfl hq cod_X9_cross ini_X9 (List.mem_filter.mpr ⟨List.mem_of_getElem? (i := 471) (by decide +kernel), by decide +kernel⟩) im_X9_cross sel_X9_cross (by decide +kernel) hlen hst hrm hd1 (by decide) hd kk
theorem c_L_67 {b : Nat} {fs : List Value} {kc' ks' d' : Nat} {Q1 : Option Value → AH → Prop} {As rest st0 : List Value} (hM : CM E yX9_curtains cX9_curtains 2 (some .int) d' kc' ks' (.ref b :: As) h Q1) (hq : h b = some (ob 9 fs)) (hlen : As.length = 1) (hst : st0 = As.reverse ++ .ref b :: rest) (hrm : (rest.map fun v => v.category).sum ≤ 8) (hd1 : d' + 1 ≤ d) (hd : decode cc pc = .ok (.invokevirtual 67, 3)) (kk : ∀ r h', Q1 r h' → Ev E RL cc nL ret mn Q d kc ks (pc + 3) L (r.toList ++ rest) h') : Ev E RL cc nL ret mn Q d (kc + kc') (ks + ks') pc L st0 h := ev_callV hM rfl hq cod_X9_curtains ini_X9 (List.mem_filter.mpr ⟨List.mem_of_getElem? (i := 477) (by decide +kernel), by decide +kernel⟩) im_X9_curtains sel_X9_curtains (by decide +kernel) hlen hst hrm hd1 (by decide) hd kk
theorem c_X9_181 {b : Nat} {fs : List Value} {kc' ks' d' : Nat} {Q1 : Option Value → AH → Prop} {As rest st0 : List Value} (hM : CM E yX9_lookAt cX9_lookAt 2 (some .int) d' kc' ks' (.ref b :: As) h Q1) (hq : h b = some (ob 9 fs)) (hlen : As.length = 1) (hst : st0 = As.reverse ++ .ref b :: rest) (hrm : (rest.map fun v => v.category).sum ≤ 8) (hd1 : d' + 1 ≤ d) (hd : decode cc pc = .ok (.invokevirtual 181, 3)) (kk : ∀ r h', Q1 r h' → Ev E RX9 cc nL ret mn Q d kc ks (pc + 3) L (r.toList ++ rest) h') : Ev E RX9 cc nL ret mn Q d (kc + kc') (ks + ks') pc L st0 h := ev_callV hM rfl hq cod_X9_lookAt ini_X9 (List.mem_filter.mpr ⟨List.mem_of_getElem? (i := 481) (by decide +kernel), by decide +kernel⟩) im_X9_lookAt sel_X9_lookAt (by decide +kernel) hlen hst hrm hd1 (by decide) hd kk
theorem c_X9_300 {b : Nat} {fs : List Value} {kc' ks' d' : Nat} {Q1 : Option Value → AH → Prop} {As rest st0 : List Value} (hM : CM E yX6_gather cX6_gather 7 (some .boolean) d' kc' ks' (.ref b :: As) h Q1) (hq : h b = some (ob 6 fs)) (hlen : As.length = 3) (hst : st0 = As.reverse ++ .ref b :: rest) (hrm : (rest.map fun v => v.category).sum ≤ 8) (hd1 : d' + 1 ≤ d) (hd : decode cc pc = .ok (.invokevirtual 300, 3)) (kk : ∀ r h', Q1 r h' → Ev E RX9 cc nL ret mn Q d kc ks (pc + 3) L (r.toList ++ rest) h') : Ev E RX9 cc nL ret mn Q d (kc + kc') (ks + ks') pc L st0 h := ev_callV hM rfl hq cod_X6_gather ini_X6 (List.mem_filter.mpr ⟨List.mem_of_getElem? (i := 485) (by decide +kernel), by decide +kernel⟩) im_X6_gather sel_X6_gather (by decide +kernel) hlen hst hrm hd1 (by decide) hd kk
theorem c_X9_304 {b : Nat} {fs : List Value} {kc' ks' d' : Nat} {Q1 : Option Value → AH → Prop} {As rest st0 : List Value} (hM : CM E yX6_partCurtains cX6_partCurtains 5 (some .int) d' kc' ks' (.ref b :: As) h Q1) (hq : h b = some (ob 6 fs)) (hlen : As.length = 2) (hst : st0 = As.reverse ++ .ref b :: rest) (hrm : (rest.map fun v => v.category).sum ≤ 8) (hd1 : d' + 1 ≤ d) (hd : decode cc pc = .ok (.invokevirtual 304, 3)) (kk : ∀ r h', Q1 r h' → Ev E RX9 cc nL ret mn Q d kc ks (pc + 3) L (r.toList ++ rest) h') : Ev E RX9 cc nL ret mn Q d (kc + kc') (ks + ks') pc L st0 h := ev_callV hM rfl hq cod_X6_partCurtains ini_X6 (List.mem_filter.mpr ⟨List.mem_of_getElem? (i := 489) (by decide +kernel), by decide +kernel⟩) im_X6_partCurtains sel_X6_partCurtains (by decide +kernel) hlen hst hrm hd1 (by decide) hd kk
theorem c_X6_47 {b : Nat} {fs : List Value} {kc' ks' d' : Nat} {Q1 : Option Value → AH → Prop} {As rest st0 : List Value} (hM : CM E yX6_findMeetings cX6_findMeetings 5 none d' kc' ks' (.ref b :: As) h Q1) (hq : h b = some (ob 6 fs)) (hlen : As.length = 2) (hst : st0 = As.reverse ++ .ref b :: rest) (hrm : (rest.map fun v => v.category).sum ≤ 8) (hd1 : d' + 1 ≤ d) (hd : decode cc pc = .ok (.invokevirtual 47, 3)) (kk : ∀ r h', Q1 r h' → Ev E RX6 cc nL ret mn Q d kc ks (pc + 3) L (r.toList ++ rest) h') : Ev E RX6 cc nL ret mn Q d (kc + kc') (ks + ks') pc L st0 h := ev_callV hM rfl hq cod_X6_findMeetings ini_X6 (List.mem_filter.mpr ⟨List.mem_of_getElem? (i := 493) (by decide +kernel), by decide +kernel⟩) im_X6_findMeetings sel_X6_findMeetings (by decide +kernel) hlen hst hrm hd1 (by decide) hd kk
theorem c_X6_81 {b : Nat} {fs : List Value} {kc' ks' d' : Nat} {Q1 : Option Value → AH → Prop} {As rest st0 : List Value} (hM : CM E yX1_find cX1_find 9 (some .boolean) d' kc' ks' (.ref b :: As) h Q1) (hq : h b = some (ob 1 fs)) (hlen : As.length = 3) (hst : st0 = As.reverse ++ .ref b :: rest) (hrm : (rest.map fun v => v.category).sum ≤ 8) (hd1 : d' + 1 ≤ d) (hd : decode cc pc = .ok (.invokevirtual 81, 3)) (kk : ∀ r h', Q1 r h' → Ev E RX6 cc nL ret mn Q d kc ks (pc + 3) L (r.toList ++ rest) h') : Ev E RX6 cc nL ret mn Q d (kc + kc') (ks + ks') pc L st0 h := ev_callV hM rfl hq cod_X1_find ini_X1 (List.mem_filter.mpr ⟨List.mem_of_getElem? (i := 498) (by decide +kernel), by decide +kernel⟩) im_X1_find sel_X1_find (by decide +kernel) hlen hst hrm hd1 (by decide) hd kk
theorem c_X6_54 {b : Nat} {fs : List Value} {kc' ks' d' : Nat} {Q1 : Option Value → AH → Prop} {As rest st0 : List Value} (hM : CM E yX6_partFrom cX6_partFrom 6 (some .boolean) d' kc' ks' (.ref b :: As) h Q1) (hq : h b = some (ob 6 fs)) (hlen : As.length = 3) (hst : st0 = As.reverse ++ .ref b :: rest) (hrm : (rest.map fun v => v.category).sum ≤ 8) (hd1 : d' + 1 ≤ d) (hd : decode cc pc = .ok (.invokevirtual 54, 3)) (kk : ∀ r h', Q1 r h' → Ev E RX6 cc nL ret mn Q d kc ks (pc + 3) L (r.toList ++ rest) h') : Ev E RX6 cc nL ret mn Q d (kc + kc') (ks + ks') pc L st0 h := ev_callV hM rfl hq cod_X6_partFrom ini_X6 (List.mem_filter.mpr ⟨List.mem_of_getElem? (i := 499) (by decide +kernel), by decide +kernel⟩) im_X6_partFrom sel_X6_partFrom (by decide +kernel) hlen hst hrm hd1 (by decide) hd kk
theorem c_X6_87 {kc' ks' d' : Nat} {Q1 : Option Value → AH → Prop} {As rest st0 : List Value} (hM : CM E yJ9_max_7cf53 cJ9_max_7cf53 2 (some .int) d' kc' ks' As h Q1) (hlen : As.length = 2) (hst : st0 = As.reverse ++ rest) (hrm : (rest.map fun v => v.category).sum ≤ 8) (hd1 : d' + 1 ≤ d) (hd : decode cc pc = .ok (.invokestatic 87, 3)) (kk : ∀ r h', Q1 r h' → Ev E RX6 cc nL ret mn Q d kc ks (pc + 3) L (r.toList ++ rest) h') : Ev E RX6 cc nL ret mn Q d (kc + kc') (ks + ks') pc L st0 h := ev_callS hM cod_J9_max_7cf53 ini_J9 (List.mem_filter.mpr ⟨List.mem_of_getElem? (i := 503) (by decide +kernel), by decide +kernel⟩) sta_J9_max_7cf53 (by decide +kernel) hlen hst hrm hd1 (by decide) hd kk
theorem c_X6_58 {b : Nat} {fs : List Value} {kc' ks' d' : Nat} {Q1 : Option Value → AH → Prop} {As rest st0 : List Value} (hM : CM E yX6_tellCurtain cX6_tellCurtain 7 none d' kc' ks' (.ref b :: As) h Q1) (hq : h b = some (ob 6 fs)) (hlen : As.length = 3) (hst : st0 = As.reverse ++ .ref b :: rest) (hrm : (rest.map fun v => v.category).sum ≤ 8) (hd1 : d' + 1 ≤ d) (hd : decode cc pc = .ok (.invokevirtual 58, 3)) (kk : ∀ r h', Q1 r h' → Ev E RX6 cc nL ret mn Q d kc ks (pc + 3) L (r.toList ++ rest) h') : Ev E RX6 cc nL ret mn Q d (kc + kc') (ks + ks') pc L st0 h := ev_callV hM rfl hq cod_X6_tellCurtain ini_X6 (List.mem_filter.mpr ⟨List.mem_of_getElem? (i := 504) (by decide +kernel), by decide +kernel⟩) im_X6_tellCurtain sel_X6_tellCurtain (by decide +kernel) hlen hst hrm hd1 (by decide) hd kk
theorem c_X6_92 {b : Nat} {fs : List Value} {kc' ks' d' : Nat} {Q1 : Option Value → AH → Prop} {As rest st0 : List Value} (hM : CM E yX2_clear cX2_clear 1 none d' kc' ks' (.ref b :: As) h Q1) (hq : h b = some (ob 2 fs)) (hlen : As.length = 0) (hst : st0 = As.reverse ++ .ref b :: rest) (hrm : (rest.map fun v => v.category).sum ≤ 8) (hd1 : d' + 1 ≤ d) (hd : decode cc pc = .ok (.invokevirtual 92, 3)) (kk : ∀ r h', Q1 r h' → Ev E RX6 cc nL ret mn Q d kc ks (pc + 3) L (r.toList ++ rest) h') : Ev E RX6 cc nL ret mn Q d (kc + kc') (ks + ks') pc L st0 h := ev_callV hM rfl hq cod_X2_clear ini_X2 (List.mem_filter.mpr ⟨List.mem_of_getElem? (i := 508) (by decide +kernel), by decide +kernel⟩) im_X2_clear sel_X2_clear (by decide +kernel) hlen hst hrm hd1 (by decide) hd kk
theorem c_X6_95 {b : Nat} {fs : List Value} {kc' ks' d' : Nat} {Q1 : Option Value → AH → Prop} {As rest st0 : List Value} (hM : CM E yX2_take cX2_take 4 none d' kc' ks' (.ref b :: As) h Q1) (hq : h b = some (ob 2 fs)) (hlen : As.length = 2) (hst : st0 = As.reverse ++ .ref b :: rest) (hrm : (rest.map fun v => v.category).sum ≤ 8) (hd1 : d' + 1 ≤ d) (hd : decode cc pc = .ok (.invokevirtual 95, 3)) (kk : ∀ r h', Q1 r h' → Ev E RX6 cc nL ret mn Q d kc ks (pc + 3) L (r.toList ++ rest) h') : Ev E RX6 cc nL ret mn Q d (kc + kc') (ks + ks') pc L st0 h := ev_callV hM rfl hq cod_X2_take ini_X2 (List.mem_filter.mpr ⟨List.mem_of_getElem? (i := 512) (by decide +kernel), by decide +kernel⟩) im_X2_take sel_X2_take (by decide +kernel) hlen hst hrm hd1 (by decide) hd kk
theorem c_X2_42 {kc' ks' d' : Nat} {Q1 : Option Value → AH → Prop} {As rest st0 : List Value} (hM : CM E yJ9_max_7cf53 cJ9_max_7cf53 2 (some .int) d' kc' ks' As h Q1) (hlen : As.length = 2) (hst : st0 = As.reverse ++ rest) (hrm : (rest.map fun v => v.category).sum ≤ 8) (hd1 : d' + 1 ≤ d) (hd : decode cc pc = .ok (.invokestatic 42, 3)) (kk : ∀ r h', Q1 r h' → Ev E RX2 cc nL ret mn Q d kc ks (pc + 3) L (r.toList ++ rest) h') : Ev E RX2 cc nL ret mn Q d (kc + kc') (ks + ks') pc L st0 h := ev_callS hM cod_J9_max_7cf53 ini_J9 (List.mem_filter.mpr ⟨List.mem_of_getElem? (i := 517) (by decide +kernel), by decide +kernel⟩) sta_J9_max_7cf53 (by decide +kernel) hlen hst hrm hd1 (by decide) hd kk
theorem c_X2_54 {kc' ks' d' : Nat} {Q1 : Option Value → AH → Prop} {As rest st0 : List Value} (hM : CM E yJ9_min_7cf53 cJ9_min_7cf53 2 (some .int) d' kc' ks' As h Q1) (hlen : As.length = 2) (hst : st0 = As.reverse ++ rest) (hrm : (rest.map fun v => v.category).sum ≤ 8) (hd1 : d' + 1 ≤ d) (hd : decode cc pc = .ok (.invokestatic 54, 3)) (kk : ∀ r h', Q1 r h' → Ev E RX2 cc nL ret mn Q d kc ks (pc + 3) L (r.toList ++ rest) h') : Ev E RX2 cc nL ret mn Q d (kc + kc') (ks + ks') pc L st0 h := ev_callS hM cod_J9_min_7cf53 ini_J9 (List.mem_filter.mpr ⟨List.mem_of_getElem? (i := 519) (by decide +kernel), by decide +kernel⟩) sta_J9_min_7cf53 (by decide +kernel) hlen hst hrm hd1 (by decide) hd kk
theorem c_X6_102 {b : Nat} {fs : List Value} {kc' ks' d' : Nat} {Q1 : Option Value → AH → Prop} {As rest st0 : List Value} (hM : CM E yX2_takePair cX2_takePair 2 none d' kc' ks' (.ref b :: As) h Q1) (hq : h b = some (ob 2 fs)) (hlen : As.length = 1) (hst : st0 = As.reverse ++ .ref b :: rest) (hrm : (rest.map fun v => v.category).sum ≤ 8) (hd1 : d' + 1 ≤ d) (hd : decode cc pc = .ok (.invokevirtual 102, 3)) (kk : ∀ r h', Q1 r h' → Ev E RX6 cc nL ret mn Q d kc ks (pc + 3) L (r.toList ++ rest) h') : Ev E RX6 cc nL ret mn Q d (kc + kc') (ks + ks') pc L st0 h := ev_callV hM rfl hq cod_X2_takePair ini_X2 (List.mem_filter.mpr ⟨List.mem_of_getElem? (i := 520) (by decide +kernel), by decide +kernel⟩) im_X2_takePair sel_X2_takePair (by decide +kernel) hlen hst hrm hd1 (by decide) hd kk
theorem c_X6_106 {b : Nat} {fs : List Value} {kc' ks' d' : Nat} {Q1 : Option Value → AH → Prop} {As rest st0 : List Value} (hM : CM E yX2_finish cX2_finish 1 none d' kc' ks' (.ref b :: As) h Q1) (hq : h b = some (ob 2 fs)) (hlen : As.length = 0) (hst : st0 = As.reverse ++ .ref b :: rest) (hrm : (rest.map fun v => v.category).sum ≤ 8) (hd1 : d' + 1 ≤ d) (hd : decode cc pc = .ok (.invokevirtual 106, 3)) (kk : ∀ r h', Q1 r h' → Ev E RX6 cc nL ret mn Q d kc ks (pc + 3) L (r.toList ++ rest) h') : Ev E RX6 cc nL ret mn Q d (kc + kc') (ks + ks') pc L st0 h := ev_callV hM rfl hq cod_X2_finish ini_X2 (List.mem_filter.mpr ⟨List.mem_of_getElem? (i := 524) (by decide +kernel), by decide +kernel⟩) im_X2_finish sel_X2_finish (by decide +kernel) hlen hst hrm hd1 (by decide) hd kk
theorem c_X2_59 {kc' ks' d' : Nat} {Q1 : Option Value → AH → Prop} {As rest st0 : List Value} (hM : CM E yJ9_floorDiv_7cf53 cJ9_floorDiv_7cf53 3 (some .int) d' kc' ks' As h Q1) (hlen : As.length = 2) (hst : st0 = As.reverse ++ rest) (hrm : (rest.map fun v => v.category).sum ≤ 8) (hd1 : d' + 1 ≤ d) (hd : decode cc pc = .ok (.invokestatic 59, 3)) (kk : ∀ r h', Q1 r h' → Ev E RX2 cc nL ret mn Q d kc ks (pc + 3) L (r.toList ++ rest) h') : Ev E RX2 cc nL ret mn Q d (kc + kc') (ks + ks') pc L st0 h := ev_callS hM cod_J9_floorDiv_7cf53 ini_J9 (List.mem_filter.mpr ⟨List.mem_of_getElem? (i := 528) (by decide +kernel), by decide +kernel⟩) sta_J9_floorDiv_7cf53 (by decide +kernel) hlen hst hrm hd1 (by decide) hd kk
theorem c_L_71 {b : Nat} {fs : List Value} {kc' ks' d' : Nat} {Q1 : Option Value → AH → Prop} {As rest st0 : List Value} (hM : CM E yX9_curtain cX9_curtain 6 (some .int) d' kc' ks' (.ref b :: As) h Q1) (hq : h b = some (ob 9 fs)) (hlen : As.length = 3) (hst : st0 = As.reverse ++ .ref b :: rest) (hrm : (rest.map fun v => v.category).sum ≤ 8) (hd1 : d' + 1 ≤ d) (hd : decode cc pc = .ok (.invokevirtual 71, 3)) (kk : ∀ r h', Q1 r h' → Ev E RL cc nL ret mn Q d kc ks (pc + 3) L (r.toList ++ rest) h') : Ev E RL cc nL ret mn Q d (kc + kc') (ks + ks') pc L st0 h := ev_callV hM rfl hq cod_X9_curtain ini_X9 (List.mem_filter.mpr ⟨List.mem_of_getElem? (i := 531) (by decide +kernel), by decide +kernel⟩) im_X9_curtain sel_X9_curtain (by decide +kernel) hlen hst hrm hd1 (by decide) hd kk
theorem c_X9_189 {b : Nat} {fs : List Value} {kc' ks' d' : Nat} {Q1 : Option Value → AH → Prop} {As rest st0 : List Value} (hM : CM E yX2_hasPlace cX2_hasPlace 1 (some .boolean) d' kc' ks' (.ref b :: As) h Q1) (hq : h b = some (ob 2 fs)) (hlen : As.length = 0) (hst : st0 = As.reverse ++ .ref b :: rest) (hrm : (rest.map fun v => v.category).sum ≤ 8) (hd1 : d' + 1 ≤ d) (hd : decode cc pc = .ok (.invokevirtual 189, 3)) (kk : ∀ r h', Q1 r h' → Ev E RX9 cc nL ret mn Q d kc ks (pc + 3) L (r.toList ++ rest) h') : Ev E RX9 cc nL ret mn Q d (kc + kc') (ks + ks') pc L st0 h := ev_callV hM rfl hq cod_X2_hasPlace ini_X2 (List.mem_filter.mpr ⟨List.mem_of_getElem? (i := 536) (by decide +kernel), by decide +kernel⟩) im_X2_hasPlace sel_X2_hasPlace (by decide +kernel) hlen hst hrm hd1 (by decide) hd kk
theorem c_X9_195 {b : Nat} {fs : List Value} {kc' ks' d' : Nat} {Q1 : Option Value → AH → Prop} {As rest st0 : List Value} (hM : CM E yX2_answer cX2_answer 2 (some .int) d' kc' ks' (.ref b :: As) h Q1) (hq : h b = some (ob 2 fs)) (hlen : As.length = 1) (hst : st0 = As.reverse ++ .ref b :: rest) (hrm : (rest.map fun v => v.category).sum ≤ 8) (hd1 : d' + 1 ≤ d) (hd : decode cc pc = .ok (.invokevirtual 195, 3)) (kk : ∀ r h', Q1 r h' → Ev E RX9 cc nL ret mn Q d kc ks (pc + 3) L (r.toList ++ rest) h') : Ev E RX9 cc nL ret mn Q d (kc + kc') (ks + ks') pc L st0 h := ev_callV hM rfl hq cod_X2_answer ini_X2 (List.mem_filter.mpr ⟨List.mem_of_getElem? (i := 540) (by decide +kernel), by decide +kernel⟩) im_X2_answer sel_X2_answer (by decide +kernel) hlen hst hrm hd1 (by decide) hd kk
theorem c_L_75 {b : Nat} {fs : List Value} {kc' ks' d' : Nat} {Q1 : Option Value → AH → Prop} {As rest st0 : List Value} (hM : CM E yX9_curtainOf cX9_curtainOf 3 (some .int) d' kc' ks' (.ref b :: As) h Q1) (hq : h b = some (ob 9 fs)) (hlen : As.length = 1) (hst : st0 = As.reverse ++ .ref b :: rest) (hrm : (rest.map fun v => v.category).sum ≤ 8) (hd1 : d' + 1 ≤ d) (hd : decode cc pc = .ok (.invokevirtual 75, 3)) (kk : ∀ r h', Q1 r h' → Ev E RL cc nL ret mn Q d kc ks (pc + 3) L (r.toList ++ rest) h') : Ev E RL cc nL ret mn Q d (kc + kc') (ks + ks') pc L st0 h := ev_callV hM rfl hq cod_X9_curtainOf ini_X9 (List.mem_filter.mpr ⟨List.mem_of_getElem? (i := 544) (by decide +kernel), by decide +kernel⟩) im_X9_curtainOf sel_X9_curtainOf (by decide +kernel) hlen hst hrm hd1 (by decide) hd kk
theorem c_X9_198 {b : Nat} {fs : List Value} {kc' ks' d' : Nat} {Q1 : Option Value → AH → Prop} {As rest st0 : List Value} (hM : CM E yX6_setOfSighting cX6_setOfSighting 3 (some .int) d' kc' ks' (.ref b :: As) h Q1) (hq : h b = some (ob 6 fs)) (hlen : As.length = 1) (hst : st0 = As.reverse ++ .ref b :: rest) (hrm : (rest.map fun v => v.category).sum ≤ 8) (hd1 : d' + 1 ≤ d) (hd : decode cc pc = .ok (.invokevirtual 198, 3)) (kk : ∀ r h', Q1 r h' → Ev E RX9 cc nL ret mn Q d kc ks (pc + 3) L (r.toList ++ rest) h') : Ev E RX9 cc nL ret mn Q d (kc + kc') (ks + ks') pc L st0 h := ev_callV hM rfl hq cod_X6_setOfSighting ini_X6 (List.mem_filter.mpr ⟨List.mem_of_getElem? (i := 548) (by decide +kernel), by decide +kernel⟩) im_X6_setOfSighting sel_X6_setOfSighting (by decide +kernel) hlen hst hrm hd1 (by decide) hd kk
theorem c_L_79 {b : Nat} {fs : List Value} {kc' ks' d' : Nat} {Q1 : Option Value → AH → Prop} {As rest st0 : List Value} (hM : CM E yX9_speed cX9_speed 3 (some .int) d' kc' ks' (.ref b :: As) h Q1) (hq : h b = some (ob 9 fs)) (hlen : As.length = 1) (hst : st0 = As.reverse ++ .ref b :: rest) (hrm : (rest.map fun v => v.category).sum ≤ 8) (hd1 : d' + 1 ≤ d) (hd : decode cc pc = .ok (.invokevirtual 79, 3)) (kk : ∀ r h', Q1 r h' → Ev E RL cc nL ret mn Q d kc ks (pc + 3) L (r.toList ++ rest) h') : Ev E RL cc nL ret mn Q d (kc + kc') (ks + ks') pc L st0 h := ev_callV hM rfl hq cod_X9_speed ini_X9 (List.mem_filter.mpr ⟨List.mem_of_getElem? (i := 552) (by decide +kernel), by decide +kernel⟩) im_X9_speed sel_X9_speed (by decide +kernel) hlen hst hrm hd1 (by decide) hd kk
theorem c_L_83 {b : Nat} {fs : List Value} {kc' ks' d' : Nat} {Q1 : Option Value → AH → Prop} {As rest st0 : List Value} (hM : CM E yX9_ways cX9_ways 2 (some .int) d' kc' ks' (.ref b :: As) h Q1) (hq : h b = some (ob 9 fs)) (hlen : As.length = 1) (hst : st0 = As.reverse ++ .ref b :: rest) (hrm : (rest.map fun v => v.category).sum ≤ 8) (hd1 : d' + 1 ≤ d) (hd : decode cc pc = .ok (.invokevirtual 83, 3)) (kk : ∀ r h', Q1 r h' → Ev E RL cc nL ret mn Q d kc ks (pc + 3) L (r.toList ++ rest) h') : Ev E RL cc nL ret mn Q d (kc + kc') (ks + ks') pc L st0 h := ev_callV hM rfl hq cod_X9_ways ini_X9 (List.mem_filter.mpr ⟨List.mem_of_getElem? (i := 556) (by decide +kernel), by decide +kernel⟩) im_X9_ways sel_X9_ways (by decide +kernel) hlen hst hrm hd1 (by decide) hd kk
theorem c_X9_201 {b : Nat} {fs : List Value} {kc' ks' d' : Nat} {Q1 : Option Value → AH → Prop} {As rest st0 : List Value} (hM : CM E yX6_joinWays cX6_joinWays 8 (some .int) d' kc' ks' (.ref b :: As) h Q1) (hq : h b = some (ob 6 fs)) (hlen : As.length = 1) (hst : st0 = As.reverse ++ .ref b :: rest) (hrm : (rest.map fun v => v.category).sum ≤ 8) (hd1 : d' + 1 ≤ d) (hd : decode cc pc = .ok (.invokevirtual 201, 3)) (kk : ∀ r h', Q1 r h' → Ev E RX9 cc nL ret mn Q d kc ks (pc + 3) L (r.toList ++ rest) h') : Ev E RX9 cc nL ret mn Q d (kc + kc') (ks + ks') pc L st0 h := ev_callV hM rfl hq cod_X6_joinWays ini_X6 (List.mem_filter.mpr ⟨List.mem_of_getElem? (i := 560) (by decide +kernel), by decide +kernel⟩) im_X6_joinWays sel_X6_joinWays (by decide +kernel) hlen hst hrm hd1 (by decide) hd kk
theorem c_X6_62 {b : Nat} {fs : List Value} {kc' ks' d' : Nat} {Q1 : Option Value → AH → Prop} {As rest st0 : List Value} (hM : CM E yX6_findFollowers cX6_findFollowers 5 (some .int) d' kc' ks' (.ref b :: As) h Q1) (hq : h b = some (ob 6 fs)) (hlen : As.length = 1) (hst : st0 = As.reverse ++ .ref b :: rest) (hrm : (rest.map fun v => v.category).sum ≤ 8) (hd1 : d' + 1 ≤ d) (hd : decode cc pc = .ok (.invokevirtual 62, 3)) (kk : ∀ r h', Q1 r h' → Ev E RX6 cc nL ret mn Q d kc ks (pc + 3) L (r.toList ++ rest) h') : Ev E RX6 cc nL ret mn Q d (kc + kc') (ks + ks') pc L st0 h := ev_callV hM rfl hq cod_X6_findFollowers ini_X6 (List.mem_filter.mpr ⟨List.mem_of_getElem? (i := 564) (by decide +kernel), by decide +kernel⟩) im_X6_findFollowers sel_X6_findFollowers (by decide +kernel) hlen hst hrm hd1 (by decide) hd kk
theorem c_X6_109 {b : Nat} {fs : List Value} {kc' ks' d' : Nat} {Q1 : Option Value → AH → Prop} {As rest st0 : List Value} (hM : CM E yX2_hasPlace cX2_hasPlace 1 (some .boolean) d' kc' ks' (.ref b :: As) h Q1) (hq : h b = some (ob 2 fs)) (hlen : As.length = 0) (hst : st0 = As.reverse ++ .ref b :: rest) (hrm : (rest.map fun v => v.category).sum ≤ 8) (hd1 : d' + 1 ≤ d) (hd : decode cc pc = .ok (.invokevirtual 109, 3)) (kk : ∀ r h', Q1 r h' → Ev E RX6 cc nL ret mn Q d kc ks (pc + 3) L (r.toList ++ rest) h') : Ev E RX6 cc nL ret mn Q d (kc + kc') (ks + ks') pc L st0 h := ev_callV hM rfl hq cod_X2_hasPlace ini_X2 (List.mem_filter.mpr ⟨List.mem_of_getElem? (i := 568) (by decide +kernel), by decide +kernel⟩) im_X2_hasPlace sel_X2_hasPlace (by decide +kernel) hlen hst hrm hd1 (by decide) hd kk
theorem c_X6_113 {b : Nat} {fs : List Value} {kc' ks' d' : Nat} {Q1 : Option Value → AH → Prop} {As rest st0 : List Value} (hM : CM E yX2_canBeFollowedBy cX2_canBeFollowedBy 5 (some .boolean) d' kc' ks' (.ref b :: As) h Q1) (hq : h b = some (ob 2 fs)) (hlen : As.length = 2) (hst : st0 = As.reverse ++ .ref b :: rest) (hrm : (rest.map fun v => v.category).sum ≤ 8) (hd1 : d' + 1 ≤ d) (hd : decode cc pc = .ok (.invokevirtual 113, 3)) (kk : ∀ r h', Q1 r h' → Ev E RX6 cc nL ret mn Q d kc ks (pc + 3) L (r.toList ++ rest) h') : Ev E RX6 cc nL ret mn Q d (kc + kc') (ks + ks') pc L st0 h := ev_callV hM rfl hq cod_X2_canBeFollowedBy ini_X2 (List.mem_filter.mpr ⟨List.mem_of_getElem? (i := 569) (by decide +kernel), by decide +kernel⟩) im_X2_canBeFollowedBy sel_X2_canBeFollowedBy (by decide +kernel) hlen hst hrm hd1 (by decide) hd kk
theorem c_X2_65 {b : Nat} {fs : List Value} {kc' ks' d' : Nat} {Q1 : Option Value → AH → Prop} {As rest st0 : List Value} (hM : CM E yX2_hasPlace cX2_hasPlace 1 (some .boolean) d' kc' ks' (.ref b :: As) h Q1) (hq : h b = some (ob 2 fs)) (hlen : As.length = 0) (hst : st0 = As.reverse ++ .ref b :: rest) (hrm : (rest.map fun v => v.category).sum ≤ 8) (hd1 : d' + 1 ≤ d) (hd : decode cc pc = .ok (.invokevirtual 65, 3)) (kk : ∀ r h', Q1 r h' → Ev E RX2 cc nL ret mn Q d kc ks (pc + 3) L (r.toList ++ rest) h') : Ev E RX2 cc nL ret mn Q d (kc + kc') (ks + ks') pc L st0 h := ev_callV hM rfl hq cod_X2_hasPlace ini_X2 (List.mem_filter.mpr ⟨List.mem_of_getElem? (i := 573) (by decide +kernel), by decide +kernel⟩) im_X2_hasPlace sel_X2_hasPlace (by decide +kernel) hlen hst hrm hd1 (by decide) hd kk
theorem c_X2_69 {kc' ks' d' : Nat} {Q1 : Option Value → AH → Prop} {As rest st0 : List Value} (hM : CM E yX2_squareOfFar cX2_squareOfFar 2 (some .long) d' kc' ks' As h Q1) (hlen : As.length = 2) (hst : st0 = As.reverse ++ rest) (hrm : (rest.map fun v => v.category).sum ≤ 8) (hd1 : d' + 1 ≤ d) (hd : decode cc pc = .ok (.invokestatic 69, 3)) (kk : ∀ r h', Q1 r h' → Ev E RX2 cc nL ret mn Q d kc ks (pc + 3) L (r.toList ++ rest) h') : Ev E RX2 cc nL ret mn Q d (kc + kc') (ks + ks') pc L st0 h := ev_callS hM cod_X2_squareOfFar ini_X2 (List.mem_filter.mpr ⟨List.mem_of_getElem? (i := 574) (by decide +kernel), by decide +kernel⟩) sta_X2_squareOfFar (by decide +kernel) hlen hst hrm hd1 (by decide) hd kk
theorem c_X6_66 {b : Nat} {fs : List Value} {kc' ks' d' : Nat} {Q1 : Option Value → AH → Prop} {As rest st0 : List Value} (hM : CM E yX6_mostLinks cX6_mostLinks 5 (some .int) d' kc' ks' (.ref b :: As) h Q1) (hq : h b = some (ob 6 fs)) (hlen : As.length = 2) (hst : st0 = As.reverse ++ .ref b :: rest) (hrm : (rest.map fun v => v.category).sum ≤ 8) (hd1 : d' + 1 ≤ d) (hd : decode cc pc = .ok (.invokevirtual 66, 3)) (kk : ∀ r h', Q1 r h' → Ev E RX6 cc nL ret mn Q d kc ks (pc + 3) L (r.toList ++ rest) h') : Ev E RX6 cc nL ret mn Q d (kc + kc') (ks + ks') pc L st0 h := ev_callV hM rfl hq cod_X6_mostLinks ini_X6 (List.mem_filter.mpr ⟨List.mem_of_getElem? (i := 577) (by decide +kernel), by decide +kernel⟩) im_X6_mostLinks sel_X6_mostLinks (by decide +kernel) hlen hst hrm hd1 (by decide) hd kk
theorem c_X6_70 {b : Nat} {fs : List Value} {kc' ks' d' : Nat} {Q1 : Option Value → AH → Prop} {As rest st0 : List Value} (hM : CM E yX6_firstFollower cX6_firstFollower 6 (some .int) d' kc' ks' (.ref b :: As) h Q1) (hq : h b = some (ob 6 fs)) (hlen : As.length = 3) (hst : st0 = As.reverse ++ .ref b :: rest) (hrm : (rest.map fun v => v.category).sum ≤ 8) (hd1 : d' + 1 ≤ d) (hd : decode cc pc = .ok (.invokevirtual 70, 3)) (kk : ∀ r h', Q1 r h' → Ev E RX6 cc nL ret mn Q d kc ks (pc + 3) L (r.toList ++ rest) h') : Ev E RX6 cc nL ret mn Q d (kc + kc') (ks + ks') pc L st0 h := ev_callV hM rfl hq cod_X6_firstFollower ini_X6 (List.mem_filter.mpr ⟨List.mem_of_getElem? (i := 581) (by decide +kernel), by decide +kernel⟩) im_X6_firstFollower sel_X6_firstFollower (by decide +kernel) hlen hst hrm hd1 (by decide) hd kk
theorem c_L_87 {b : Nat} {fs : List Value} {kc' ks' d' : Nat} {Q1 : Option Value → AH → Prop} {As rest st0 : List Value} (hM : CM E yX9_next cX9_next 4 (some .int) d' kc' ks' (.ref b :: As) h Q1) (hq : h b = some (ob 9 fs)) (hlen : As.length = 2) (hst : st0 = As.reverse ++ .ref b :: rest) (hrm : (rest.map fun v => v.category).sum ≤ 8) (hd1 : d' + 1 ≤ d) (hd : decode cc pc = .ok (.invokevirtual 87, 3)) (kk : ∀ r h', Q1 r h' → Ev E RL cc nL ret mn Q d kc ks (pc + 3) L (r.toList ++ rest) h') : Ev E RL cc nL ret mn Q d (kc + kc') (ks + ks') pc L st0 h := ev_callV hM rfl hq cod_X9_next ini_X9 (List.mem_filter.mpr ⟨List.mem_of_getElem? (i := 585) (by decide +kernel), by decide +kernel⟩) im_X9_next sel_X9_next (by decide +kernel) hlen hst hrm hd1 (by decide) hd kk
theorem c_L_91 {b : Nat} {fs : List Value} {kc' ks' d' : Nat} {Q1 : Option Value → AH → Prop} {As rest st0 : List Value} (hM : CM E yX9_overhead cX9_overhead 6 (some .int) d' kc' ks' (.ref b :: As) h Q1) (hq : h b = some (ob 9 fs)) (hlen : As.length = 3) (hst : st0 = As.reverse ++ .ref b :: rest) (hrm : (rest.map fun v => v.category).sum ≤ 8) (hd1 : d' + 1 ≤ d) (hd : decode cc pc = .ok (.invokevirtual 91, 3)) (kk : ∀ r h', Q1 r h' → Ev E RL cc nL ret mn Q d kc ks (pc + 3) L (r.toList ++ rest) h') : Ev E RL cc nL ret mn Q d (kc + kc') (ks + ks') pc L st0 h := ev_callV hM rfl hq cod_X9_overhead ini_X9 (List.mem_filter.mpr ⟨List.mem_of_getElem? (i := 589) (by decide +kernel), by decide +kernel⟩) im_X9_overhead sel_X9_overhead (by decide +kernel) hlen hst hrm hd1 (by decide) hd kk
theorem c_X9_207 {b : Nat} {fs : List Value} {kc' ks' d' : Nat} {Q1 : Option Value → AH → Prop} {As rest st0 : List Value} (hM : CM E yX9_next cX9_next 4 (some .int) d' kc' ks' (.ref b :: As) h Q1) (hq : h b = some (ob 9 fs)) (hlen : As.length = 2) (hst : st0 = As.reverse ++ .ref b :: rest) (hrm : (rest.map fun v => v.category).sum ≤ 8) (hd1 : d' + 1 ≤ d) (hd : decode cc pc = .ok (.invokevirtual 207, 3)) (kk : ∀ r h', Q1 r h' → Ev E RX9 cc nL ret mn Q d kc ks (pc + 3) L (r.toList ++ rest) h') : Ev E RX9 cc nL ret mn Q d (kc + kc') (ks + ks') pc L st0 h := ev_callV hM rfl hq cod_X9_next ini_X9 (List.mem_filter.mpr ⟨List.mem_of_getElem? (i := 593) (by decide +kernel), by decide +kernel⟩) im_X9_next sel_X9_next (by decide +kernel) hlen hst hrm hd1 (by decide) hd kk
theorem c_X9_211 {b : Nat} {fs : List Value} {kc' ks' d' : Nat} {Q1 : Option Value → AH → Prop} {As rest st0 : List Value} (hM : CM E yX2_nearestMinute cX2_nearestMinute 12 (some .int) d' kc' ks' (.ref b :: As) h Q1) (hq : h b = some (ob 2 fs)) (hlen : As.length = 2) (hst : st0 = As.reverse ++ .ref b :: rest) (hrm : (rest.map fun v => v.category).sum ≤ 8) (hd1 : d' + 1 ≤ d) (hd : decode cc pc = .ok (.invokevirtual 211, 3)) (kk : ∀ r h', Q1 r h' → Ev E RX9 cc nL ret mn Q d kc ks (pc + 3) L (r.toList ++ rest) h') : Ev E RX9 cc nL ret mn Q d (kc + kc') (ks + ks') pc L st0 h := ev_callV hM rfl hq cod_X2_nearestMinute ini_X2 (List.mem_filter.mpr ⟨List.mem_of_getElem? (i := 594) (by decide +kernel), by decide +kernel⟩) im_X2_nearestMinute sel_X2_nearestMinute (by decide +kernel) hlen hst hrm hd1 (by decide) hd kk
theorem c_L_95 {b : Nat} {fs : List Value} {kc' ks' d' : Nat} {Q1 : Option Value → AH → Prop} {As rest st0 : List Value} (hM : CM E yX9_watch cX9_watch 8 (some .int) d' kc' ks' (.ref b :: As) h Q1) (hq : h b = some (ob 9 fs)) (hlen : As.length = 5) (hst : st0 = As.reverse ++ .ref b :: rest) (hrm : (rest.map fun v => v.category).sum ≤ 8) (hd1 : d' + 1 ≤ d) (hd : decode cc pc = .ok (.invokevirtual 95, 3)) (kk : ∀ r h', Q1 r h' → Ev E RL cc nL ret mn Q d kc ks (pc + 3) L (r.toList ++ rest) h') : Ev E RL cc nL ret mn Q d (kc + kc') (ks + ks') pc L st0 h := ev_callV hM rfl hq cod_X9_watch ini_X9 (List.mem_filter.mpr ⟨List.mem_of_getElem? (i := 598) (by decide +kernel), by decide +kernel⟩) im_X9_watch sel_X9_watch (by decide +kernel) hlen hst hrm hd1 (by decide) hd kk
theorem c_X9_215 {b : Nat} {fs : List Value} {kc' ks' d' : Nat} {Q1 : Option Value → AH → Prop} {As rest st0 : List Value} (hM : CM E yX9_watchOf cX9_watchOf 5 (some (.object "NorthCurtains$Watch")) d' kc' ks' (.ref b :: As) h Q1) (hq : h b = some (ob 9 fs)) (hlen : As.length = 2) (hst : st0 = As.reverse ++ .ref b :: rest) (hrm : (rest.map fun v => v.category).sum ≤ 8) (hd1 : d' + 1 ≤ d) (hd : decode cc pc = .ok (.invokevirtual 215, 3)) (kk : ∀ r h', Q1 r h' → Ev E RX9 cc nL ret mn Q d kc ks (pc + 3) L (r.toList ++ rest) h') : Ev E RX9 cc nL ret mn Q d (kc + kc') (ks + ks') pc L st0 h := ev_callV hM rfl hq cod_X9_watchOf ini_X9 (List.mem_filter.mpr ⟨List.mem_of_getElem? (i := 602) (by decide +kernel), by decide +kernel⟩) im_X9_watchOf sel_X9_watchOf (by decide +kernel) hlen hst hrm hd1 (by decide) hd kk
theorem c_X9_222 {b : Nat} {kc' ks' d' : Nat} {Q1 : Option Value → AH → Prop} {As rest st0 : List Value} (hM : CM E yX8_init cX8_init 5 none d' kc' ks' (.ref b :: As) h Q1) (hlen : As.length = 4) (hst : st0 = As.reverse ++ .ref b :: rest) (hrm : (rest.map fun v => v.category).sum ≤ 8) (hd1 : d' + 1 ≤ d) (hd : decode cc pc = .ok (.invokespecial 222, 3)) (kk : ∀ r h', Q1 r h' → Ev E RX9 cc nL ret mn Q d kc ks (pc + 3) L (r.toList ++ rest) h') : Ev E RX9 cc nL ret mn Q d (kc + kc') (ks + ks') pc L st0 h := ev_callI hM cod_X8_init ini_X8 (List.mem_filter.mpr ⟨List.mem_of_getElem? (i := 607) (by decide +kernel), by decide +kernel⟩) im_X8_init rfl (by decide +kernel) hlen hst hrm hd1 (by decide) hd kk
theorem oi_X8 {q : Nat} (hd : decode cc pc = .ok (.invokespecial 1, 3)) (h1 : 1 ≤ d) (hst : (st.map fun v => v.category).sum ≤ 8) (kk : Ev E RX8 cc nL ret mn Q d kc ks (pc + 3) L st h) : Ev E RX8 cc nL ret mn Q d kc ks pc L (.ref q :: st) h := ev_objInit (List.mem_filter.mpr ⟨List.mem_of_getElem? (i := 610) (by decide +kernel), by decide +kernel⟩) im_object cod_object hd h1 hst kk
theorem c_L_99 {b : Nat} {fs : List Value} {kc' ks' d' : Nat} {Q1 : Option Value → AH → Prop} {As rest st0 : List Value} (hM : CM E yX9_seen cX9_seen 5 (some .int) d' kc' ks' (.ref b :: As) h Q1) (hq : h b = some (ob 9 fs)) (hlen : As.length = 2) (hst : st0 = As.reverse ++ .ref b :: rest) (hrm : (rest.map fun v => v.category).sum ≤ 8) (hd1 : d' + 1 ≤ d) (hd : decode cc pc = .ok (.invokevirtual 99, 3)) (kk : ∀ r h', Q1 r h' → Ev E RL cc nL ret mn Q d kc ks (pc + 3) L (r.toList ++ rest) h') : Ev E RL cc nL ret mn Q d (kc + kc') (ks + ks') pc L st0 h := ev_callV hM rfl hq cod_X9_seen ini_X9 (List.mem_filter.mpr ⟨List.mem_of_getElem? (i := 628) (by decide +kernel), by decide +kernel⟩) im_X9_seen sel_X9_seen (by decide +kernel) hlen hst hrm hd1 (by decide) hd kk
theorem c_X9_225 {b : Nat} {fs : List Value} {kc' ks' d' : Nat} {Q1 : Option Value → AH → Prop} {As rest st0 : List Value} (hM : CM E yX9_saw cX9_saw 5 (some .boolean) d' kc' ks' (.ref b :: As) h Q1) (hq : h b = some (ob 9 fs)) (hlen : As.length = 2) (hst : st0 = As.reverse ++ .ref b :: rest) (hrm : (rest.map fun v => v.category).sum ≤ 8) (hd1 : d' + 1 ≤ d) (hd : decode cc pc = .ok (.invokevirtual 225, 3)) (kk : ∀ r h', Q1 r h' → Ev E RX9 cc nL ret mn Q d kc ks (pc + 3) L (r.toList ++ rest) h') : Ev E RX9 cc nL ret mn Q d (kc + kc') (ks + ks') pc L st0 h := ev_callV hM rfl hq cod_X9_saw ini_X9 (List.mem_filter.mpr ⟨List.mem_of_getElem? (i := 632) (by decide +kernel), by decide +kernel⟩) im_X9_saw sel_X9_saw (by decide +kernel) hlen hst hrm hd1 (by decide) hd kk
theorem c_L_103 {b : Nat} {fs : List Value} {kc' ks' d' : Nat} {Q1 : Option Value → AH → Prop} {As rest st0 : List Value} (hM : CM E yX9_rate cX9_rate 11 (some .int) d' kc' ks' (.ref b :: As) h Q1) (hq : h b = some (ob 9 fs)) (hlen : As.length = 4) (hst : st0 = As.reverse ++ .ref b :: rest) (hrm : (rest.map fun v => v.category).sum ≤ 8) (hd1 : d' + 1 ≤ d) (hd : decode cc pc = .ok (.invokevirtual 103, 3)) (kk : ∀ r h', Q1 r h' → Ev E RL cc nL ret mn Q d kc ks (pc + 3) L (r.toList ++ rest) h') : Ev E RL cc nL ret mn Q d (kc + kc') (ks + ks') pc L st0 h := ev_callV hM rfl hq cod_X9_rate ini_X9 (List.mem_filter.mpr ⟨List.mem_of_getElem? (i := 636) (by decide +kernel), by decide +kernel⟩) im_X9_rate sel_X9_rate (by decide +kernel) hlen hst hrm hd1 (by decide) hd kk
theorem c_L_108 {b : Nat} {fs : List Value} {kc' ks' d' : Nat} {Q1 : Option Value → AH → Prop} {As rest st0 : List Value} (hM : CM E yX9_round cX9_round 2 (some .int) d' kc' ks' (.ref b :: As) h Q1) (hq : h b = some (ob 9 fs)) (hlen : As.length = 1) (hst : st0 = As.reverse ++ .ref b :: rest) (hrm : (rest.map fun v => v.category).sum ≤ 8) (hd1 : d' + 1 ≤ d) (hd : decode cc pc = .ok (.invokevirtual 108, 3)) (kk : ∀ r h', Q1 r h' → Ev E RL cc nL ret mn Q d kc ks (pc + 3) L (r.toList ++ rest) h') : Ev E RL cc nL ret mn Q d (kc + kc') (ks + ks') pc L st0 h := ev_callV hM rfl hq cod_X9_round ini_X9 (List.mem_filter.mpr ⟨List.mem_of_getElem? (i := 640) (by decide +kernel), by decide +kernel⟩) im_X9_round sel_X9_round (by decide +kernel) hlen hst hrm hd1 (by decide) hd kk
theorem c_X9_237 {b : Nat} {fs : List Value} {kc' ks' d' : Nat} {Q1 : Option Value → AH → Prop} {As rest st0 : List Value} (hM : CM E yX9_roundOf cX9_roundOf 4 (some .int) d' kc' ks' (.ref b :: As) h Q1) (hq : h b = some (ob 9 fs)) (hlen : As.length = 1) (hst : st0 = As.reverse ++ .ref b :: rest) (hrm : (rest.map fun v => v.category).sum ≤ 8) (hd1 : d' + 1 ≤ d) (hd : decode cc pc = .ok (.invokevirtual 237, 3)) (kk : ∀ r h', Q1 r h' → Ev E RX9 cc nL ret mn Q d kc ks (pc + 3) L (r.toList ++ rest) h') : Ev E RX9 cc nL ret mn Q d (kc + kc') (ks + ks') pc L st0 h := ev_callV hM rfl hq cod_X9_roundOf ini_X9 (List.mem_filter.mpr ⟨List.mem_of_getElem? (i := 644) (by decide +kernel), by decide +kernel⟩) im_X9_roundOf sel_X9_roundOf (by decide +kernel) hlen hst hrm hd1 (by decide) hd kk
theorem c_L_112 {b : Nat} {fs : List Value} {kc' ks' d' : Nat} {Q1 : Option Value → AH → Prop} {As rest st0 : List Value} (hM : CM E yX9_best cX9_best 5 (some .int) d' kc' ks' (.ref b :: As) h Q1) (hq : h b = some (ob 9 fs)) (hlen : As.length = 0) (hst : st0 = As.reverse ++ .ref b :: rest) (hrm : (rest.map fun v => v.category).sum ≤ 8) (hd1 : d' + 1 ≤ d) (hd : decode cc pc = .ok (.invokevirtual 112, 3)) (kk : ∀ r h', Q1 r h' → Ev E RL cc nL ret mn Q d kc ks (pc + 3) L (r.toList ++ rest) h') : Ev E RL cc nL ret mn Q d (kc + kc') (ks + ks') pc L st0 h := ev_callV hM rfl hq cod_X9_best ini_X9 (List.mem_filter.mpr ⟨List.mem_of_getElem? (i := 648) (by decide +kernel), by decide +kernel⟩) im_X9_best sel_X9_best (by decide +kernel) hlen hst hrm hd1 (by decide) hd kk
theorem c_L_117 {b : Nat} {fs : List Value} {kc' ks' d' : Nat} {Q1 : Option Value → AH → Prop} {As rest st0 : List Value} (hM : CM E yX9_share cX9_share 5 (some .int) d' kc' ks' (.ref b :: As) h Q1) (hq : h b = some (ob 9 fs)) (hlen : As.length = 2) (hst : st0 = As.reverse ++ .ref b :: rest) (hrm : (rest.map fun v => v.category).sum ≤ 8) (hd1 : d' + 1 ≤ d) (hd : decode cc pc = .ok (.invokevirtual 117, 3)) (kk : ∀ r h', Q1 r h' → Ev E RL cc nL ret mn Q d kc ks (pc + 3) L (r.toList ++ rest) h') : Ev E RL cc nL ret mn Q d (kc + kc') (ks + ks') pc L st0 h := ev_callV hM rfl hq cod_X9_share ini_X9 (List.mem_filter.mpr ⟨List.mem_of_getElem? (i := 652) (by decide +kernel), by decide +kernel⟩) im_X9_share sel_X9_share (by decide +kernel) hlen hst hrm hd1 (by decide) hd kk
theorem c_X9_243 {b : Nat} {fs : List Value} {kc' ks' d' : Nat} {Q1 : Option Value → AH → Prop} {As rest st0 : List Value} (hM : CM E yX9_areShared cX9_areShared 6 (some .boolean) d' kc' ks' (.ref b :: As) h Q1) (hq : h b = some (ob 9 fs)) (hlen : As.length = 2) (hst : st0 = As.reverse ++ .ref b :: rest) (hrm : (rest.map fun v => v.category).sum ≤ 8) (hd1 : d' + 1 ≤ d) (hd : decode cc pc = .ok (.invokevirtual 243, 3)) (kk : ∀ r h', Q1 r h' → Ev E RX9 cc nL ret mn Q d kc ks (pc + 3) L (r.toList ++ rest) h') : Ev E RX9 cc nL ret mn Q d (kc + kc') (ks + ks') pc L st0 h := ev_callV hM rfl hq cod_X9_areShared ini_X9 (List.mem_filter.mpr ⟨List.mem_of_getElem? (i := 656) (by decide +kernel), by decide +kernel⟩) im_X9_areShared sel_X9_areShared (by decide +kernel) hlen hst hrm hd1 (by decide) hd kk
theorem c_L_121 {b : Nat} {fs : List Value} {kc' ks' d' : Nat} {Q1 : Option Value → AH → Prop} {As rest st0 : List Value} (hM : CM E yX9_mended cX9_mended 12 (some .int) d' kc' ks' (.ref b :: As) h Q1) (hq : h b = some (ob 9 fs)) (hlen : As.length = 2) (hst : st0 = As.reverse ++ .ref b :: rest) (hrm : (rest.map fun v => v.category).sum ≤ 8) (hd1 : d' + 1 ≤ d) (hd : decode cc pc = .ok (.invokevirtual 121, 3)) (kk : ∀ r h', Q1 r h' → Ev E RL cc nL ret mn Q d kc ks (pc + 3) L (r.toList ++ rest) h') : Ev E RL cc nL ret mn Q d (kc + kc') (ks + ks') pc L st0 h := ev_callV hM rfl hq cod_X9_mended ini_X9 (List.mem_filter.mpr ⟨List.mem_of_getElem? (i := 660) (by decide +kernel), by decide +kernel⟩) im_X9_mended sel_X9_mended (by decide +kernel) hlen hst hrm hd1 (by decide) hd kk
theorem c_X9_250 {kc' ks' d' : Nat} {Q1 : Option Value → AH → Prop} {As rest st0 : List Value} (hM : CM E yJ9_max_7cf53 cJ9_max_7cf53 2 (some .int) d' kc' ks' As h Q1) (hlen : As.length = 2) (hst : st0 = As.reverse ++ rest) (hrm : (rest.map fun v => v.category).sum ≤ 8) (hd1 : d' + 1 ≤ d) (hd : decode cc pc = .ok (.invokestatic 250, 3)) (kk : ∀ r h', Q1 r h' → Ev E RX9 cc nL ret mn Q d kc ks (pc + 3) L (r.toList ++ rest) h') : Ev E RX9 cc nL ret mn Q d (kc + kc') (ks + ks') pc L st0 h := ev_callS hM cod_J9_max_7cf53 ini_J9 (List.mem_filter.mpr ⟨List.mem_of_getElem? (i := 664) (by decide +kernel), by decide +kernel⟩) sta_J9_max_7cf53 (by decide +kernel) hlen hst hrm hd1 (by decide) hd kk
theorem c_X9_255 {kc' ks' d' : Nat} {Q1 : Option Value → AH → Prop} {As rest st0 : List Value} (hM : CM E yJ9_min_7cf53 cJ9_min_7cf53 2 (some .int) d' kc' ks' As h Q1) (hlen : As.length = 2) (hst : st0 = As.reverse ++ rest) (hrm : (rest.map fun v => v.category).sum ≤ 8) (hd1 : d' + 1 ≤ d) (hd : decode cc pc = .ok (.invokestatic 255, 3)) (kk : ∀ r h', Q1 r h' → Ev E RX9 cc nL ret mn Q d kc ks (pc + 3) L (r.toList ++ rest) h') : Ev E RX9 cc nL ret mn Q d (kc + kc') (ks + ks') pc L st0 h := ev_callS hM cod_J9_min_7cf53 ini_J9 (List.mem_filter.mpr ⟨List.mem_of_getElem? (i := 665) (by decide +kernel), by decide +kernel⟩) sta_J9_min_7cf53 (by decide +kernel) hlen hst hrm hd1 (by decide) hd kk
theorem c_L_125 {b : Nat} {fs : List Value} {kc' ks' d' : Nat} {Q1 : Option Value → AH → Prop} {As rest st0 : List Value} (hM : CM E yX9_moved cX9_moved 10 (some .int) d' kc' ks' (.ref b :: As) h Q1) (hq : h b = some (ob 9 fs)) (hlen : As.length = 1) (hst : st0 = As.reverse ++ .ref b :: rest) (hrm : (rest.map fun v => v.category).sum ≤ 8) (hd1 : d' + 1 ≤ d) (hd : decode cc pc = .ok (.invokevirtual 125, 3)) (kk : ∀ r h', Q1 r h' → Ev E RL cc nL ret mn Q d kc ks (pc + 3) L (r.toList ++ rest) h') : Ev E RL cc nL ret mn Q d (kc + kc') (ks + ks') pc L st0 h := ev_callV hM rfl hq cod_X9_moved ini_X9 (List.mem_filter.mpr ⟨List.mem_of_getElem? (i := 666) (by decide +kernel), by decide +kernel⟩) im_X9_moved sel_X9_moved (by decide +kernel) hlen hst hrm hd1 (by decide) hd kk
theorem c_L_129 {b : Nat} {fs : List Value} {kc' ks' d' : Nat} {Q1 : Option Value → AH → Prop} {As rest st0 : List Value} (hM : CM E yX9_count cX9_count 2 (some .int) d' kc' ks' (.ref b :: As) h Q1) (hq : h b = some (ob 9 fs)) (hlen : As.length = 1) (hst : st0 = As.reverse ++ .ref b :: rest) (hrm : (rest.map fun v => v.category).sum ≤ 8) (hd1 : d' + 1 ≤ d) (hd : decode cc pc = .ok (.invokevirtual 129, 3)) (kk : ∀ r h', Q1 r h' → Ev E RL cc nL ret mn Q d kc ks (pc + 3) L (r.toList ++ rest) h') : Ev E RL cc nL ret mn Q d (kc + kc') (ks + ks') pc L st0 h := ev_callV hM rfl hq cod_X9_count ini_X9 (List.mem_filter.mpr ⟨List.mem_of_getElem? (i := 670) (by decide +kernel), by decide +kernel⟩) im_X9_count sel_X9_count (by decide +kernel) hlen hst hrm hd1 (by decide) hd kk
theorem c_L_133 {b : Nat} {fs : List Value} {kc' ks' d' : Nat} {Q1 : Option Value → AH → Prop} {As rest st0 : List Value} (hM : CM E yX9_sheet cX9_sheet 4 (some .int) d' kc' ks' (.ref b :: As) h Q1) (hq : h b = some (ob 9 fs)) (hlen : As.length = 3) (hst : st0 = As.reverse ++ .ref b :: rest) (hrm : (rest.map fun v => v.category).sum ≤ 8) (hd1 : d' + 1 ≤ d) (hd : decode cc pc = .ok (.invokevirtual 133, 3)) (kk : ∀ r h', Q1 r h' → Ev E RL cc nL ret mn Q d kc ks (pc + 3) L (r.toList ++ rest) h') : Ev E RL cc nL ret mn Q d (kc + kc') (ks + ks') pc L st0 h := ev_callV hM rfl hq cod_X9_sheet ini_X9 (List.mem_filter.mpr ⟨List.mem_of_getElem? (i := 674) (by decide +kernel), by decide +kernel⟩) im_X9_sheet sel_X9_sheet (by decide +kernel) hlen hst hrm hd1 (by decide) hd kk
theorem c_X9_258 {kc' ks' d' : Nat} {Q1 : Option Value → AH → Prop} {As rest st0 : List Value} (hM : CM E yX9_isSheet cX9_isSheet 1 (some .boolean) d' kc' ks' As h Q1) (hlen : As.length = 1) (hst : st0 = As.reverse ++ rest) (hrm : (rest.map fun v => v.category).sum ≤ 8) (hd1 : d' + 1 ≤ d) (hd : decode cc pc = .ok (.invokestatic 258, 3)) (kk : ∀ r h', Q1 r h' → Ev E RX9 cc nL ret mn Q d kc ks (pc + 3) L (r.toList ++ rest) h') : Ev E RX9 cc nL ret mn Q d (kc + kc') (ks + ks') pc L st0 h := ev_callS hM cod_X9_isSheet ini_X9 (List.mem_filter.mpr ⟨List.mem_of_getElem? (i := 678) (by decide +kernel), by decide +kernel⟩) sta_X9_isSheet (by decide +kernel) hlen hst hrm hd1 (by decide) hd kk
theorem c_X9_261 {kc' ks' d' : Nat} {Q1 : Option Value → AH → Prop} {As rest st0 : List Value} (hM : CM E yX9_isLane cX9_isLane 1 (some .boolean) d' kc' ks' As h Q1) (hlen : As.length = 1) (hst : st0 = As.reverse ++ rest) (hrm : (rest.map fun v => v.category).sum ≤ 8) (hd1 : d' + 1 ≤ d) (hd : decode cc pc = .ok (.invokestatic 261, 3)) (kk : ∀ r h', Q1 r h' → Ev E RX9 cc nL ret mn Q d kc ks (pc + 3) L (r.toList ++ rest) h') : Ev E RX9 cc nL ret mn Q d (kc + kc') (ks + ks') pc L st0 h := ev_callS hM cod_X9_isLane ini_X9 (List.mem_filter.mpr ⟨List.mem_of_getElem? (i := 681) (by decide +kernel), by decide +kernel⟩) sta_X9_isLane (by decide +kernel) hlen hst hrm hd1 (by decide) hd kk
theorem c_X9_264 {b : Nat} {kc' ks' d' : Nat} {Q1 : Option Value → AH → Prop} {As rest st0 : List Value} (hM : CM E yX5_init cX5_init 3 none d' kc' ks' (.ref b :: As) h Q1) (hlen : As.length = 2) (hst : st0 = As.reverse ++ .ref b :: rest) (hrm : (rest.map fun v => v.category).sum ≤ 8) (hd1 : d' + 1 ≤ d) (hd : decode cc pc = .ok (.invokespecial 264, 3)) (kk : ∀ r h', Q1 r h' → Ev E RX9 cc nL ret mn Q d kc ks (pc + 3) L (r.toList ++ rest) h') : Ev E RX9 cc nL ret mn Q d (kc + kc') (ks + ks') pc L st0 h := ev_callI hM cod_X5_init ini_X5 (List.mem_filter.mpr ⟨List.mem_of_getElem? (i := 685) (by decide +kernel), by decide +kernel⟩) im_X5_init rfl (by decide +kernel) hlen hst hrm hd1 (by decide) hd kk
theorem oi_X5 {q : Nat} (hd : decode cc pc = .ok (.invokespecial 1, 3)) (h1 : 1 ≤ d) (hst : (st.map fun v => v.category).sum ≤ 8) (kk : Ev E RX5 cc nL ret mn Q d kc ks (pc + 3) L st h) : Ev E RX5 cc nL ret mn Q d kc ks pc L (.ref q :: st) h := ev_objInit (List.mem_filter.mpr ⟨List.mem_of_getElem? (i := 688) (by decide +kernel), by decide +kernel⟩) im_object cod_object hd h1 hst kk
theorem c_L_137 {b : Nat} {fs : List Value} {kc' ks' d' : Nat} {Q1 : Option Value → AH → Prop} {As rest st0 : List Value} (hM : CM E yX9_drop cX9_drop 3 (some .int) d' kc' ks' (.ref b :: As) h Q1) (hq : h b = some (ob 9 fs)) (hlen : As.length = 1) (hst : st0 = As.reverse ++ .ref b :: rest) (hrm : (rest.map fun v => v.category).sum ≤ 8) (hd1 : d' + 1 ≤ d) (hd : decode cc pc = .ok (.invokevirtual 137, 3)) (kk : ∀ r h', Q1 r h' → Ev E RL cc nL ret mn Q d kc ks (pc + 3) L (r.toList ++ rest) h') : Ev E RL cc nL ret mn Q d (kc + kc') (ks + ks') pc L st0 h := ev_callV hM rfl hq cod_X9_drop ini_X9 (List.mem_filter.mpr ⟨List.mem_of_getElem? (i := 698) (by decide +kernel), by decide +kernel⟩) im_X9_drop sel_X9_drop (by decide +kernel) hlen hst hrm hd1 (by decide) hd kk
theorem c_L_141 {b : Nat} {fs : List Value} {kc' ks' d' : Nat} {Q1 : Option Value → AH → Prop} {As rest st0 : List Value} (hM : CM E yX9_item cX9_item 6 (some .int) d' kc' ks' (.ref b :: As) h Q1) (hq : h b = some (ob 9 fs)) (hlen : As.length = 4) (hst : st0 = As.reverse ++ .ref b :: rest) (hrm : (rest.map fun v => v.category).sum ≤ 8) (hd1 : d' + 1 ≤ d) (hd : decode cc pc = .ok (.invokevirtual 141, 3)) (kk : ∀ r h', Q1 r h' → Ev E RL cc nL ret mn Q d kc ks (pc + 3) L (r.toList ++ rest) h') : Ev E RL cc nL ret mn Q d (kc + kc') (ks + ks') pc L st0 h := ev_callV hM rfl hq cod_X9_item ini_X9 (List.mem_filter.mpr ⟨List.mem_of_getElem? (i := 702) (by decide +kernel), by decide +kernel⟩) im_X9_item sel_X9_item (by decide +kernel) hlen hst hrm hd1 (by decide) hd kk
theorem c_X9_273 {b : Nat} {fs : List Value} {kc' ks' d' : Nat} {Q1 : Option Value → AH → Prop} {As rest st0 : List Value} (hM : CM E yX5_holds cX5_holds 3 (some .boolean) d' kc' ks' (.ref b :: As) h Q1) (hq : h b = some (ob 5 fs)) (hlen : As.length = 2) (hst : st0 = As.reverse ++ .ref b :: rest) (hrm : (rest.map fun v => v.category).sum ≤ 8) (hd1 : d' + 1 ≤ d) (hd : decode cc pc = .ok (.invokevirtual 273, 3)) (kk : ∀ r h', Q1 r h' → Ev E RX9 cc nL ret mn Q d kc ks (pc + 3) L (r.toList ++ rest) h') : Ev E RX9 cc nL ret mn Q d (kc + kc') (ks + ks') pc L st0 h := ev_callV hM rfl hq cod_X5_holds ini_X5 (List.mem_filter.mpr ⟨List.mem_of_getElem? (i := 706) (by decide +kernel), by decide +kernel⟩) im_X5_holds sel_X5_holds (by decide +kernel) hlen hst hrm hd1 (by decide) hd kk
theorem c_L_145 {b : Nat} {fs : List Value} {kc' ks' d' : Nat} {Q1 : Option Value → AH → Prop} {As rest st0 : List Value} (hM : CM E yX9_arcs cX9_arcs 6 (some .int) d' kc' ks' (.ref b :: As) h Q1) (hq : h b = some (ob 9 fs)) (hlen : As.length = 4) (hst : st0 = As.reverse ++ .ref b :: rest) (hrm : (rest.map fun v => v.category).sum ≤ 8) (hd1 : d' + 1 ≤ d) (hd : decode cc pc = .ok (.invokevirtual 145, 3)) (kk : ∀ r h', Q1 r h' → Ev E RL cc nL ret mn Q d kc ks (pc + 3) L (r.toList ++ rest) h') : Ev E RL cc nL ret mn Q d (kc + kc') (ks + ks') pc L st0 h := ev_callV hM rfl hq cod_X9_arcs ini_X9 (List.mem_filter.mpr ⟨List.mem_of_getElem? (i := 710) (by decide +kernel), by decide +kernel⟩) im_X9_arcs sel_X9_arcs (by decide +kernel) hlen hst hrm hd1 (by decide) hd kk
theorem c_X9_276 {b : Nat} {fs : List Value} {kc' ks' d' : Nat} {Q1 : Option Value → AH → Prop} {As rest st0 : List Value} (hM : CM E yX9_keepArcs cX9_keepArcs 5 (some .int) d' kc' ks' (.ref b :: As) h Q1) (hq : h b = some (ob 9 fs)) (hlen : As.length = 3) (hst : st0 = As.reverse ++ .ref b :: rest) (hrm : (rest.map fun v => v.category).sum ≤ 8) (hd1 : d' + 1 ≤ d) (hd : decode cc pc = .ok (.invokevirtual 276, 3)) (kk : ∀ r h', Q1 r h' → Ev E RX9 cc nL ret mn Q d kc ks (pc + 3) L (r.toList ++ rest) h') : Ev E RX9 cc nL ret mn Q d (kc + kc') (ks + ks') pc L st0 h := ev_callV hM rfl hq cod_X9_keepArcs ini_X9 (List.mem_filter.mpr ⟨List.mem_of_getElem? (i := 714) (by decide +kernel), by decide +kernel⟩) im_X9_keepArcs sel_X9_keepArcs (by decide +kernel) hlen hst hrm hd1 (by decide) hd kk
theorem c_X9_292 {b : Nat} {fs : List Value} {kc' ks' d' : Nat} {Q1 : Option Value → AH → Prop} {As rest st0 : List Value} (hM : CM E yX9_isArcAt cX9_isArcAt 3 (some .boolean) d' kc' ks' (.ref b :: As) h Q1) (hq : h b = some (ob 9 fs)) (hlen : As.length = 2) (hst : st0 = As.reverse ++ .ref b :: rest) (hrm : (rest.map fun v => v.category).sum ≤ 8) (hd1 : d' + 1 ≤ d) (hd : decode cc pc = .ok (.invokevirtual 292, 3)) (kk : ∀ r h', Q1 r h' → Ev E RX9 cc nL ret mn Q d kc ks (pc + 3) L (r.toList ++ rest) h') : Ev E RX9 cc nL ret mn Q d (kc + kc') (ks + ks') pc L st0 h := ev_callV hM rfl hq cod_X9_isArcAt ini_X9 (List.mem_filter.mpr ⟨List.mem_of_getElem? (i := 718) (by decide +kernel), by decide +kernel⟩) im_X9_isArcAt sel_X9_isArcAt (by decide +kernel) hlen hst hrm hd1 (by decide) hd kk
theorem c_X9_296 {b : Nat} {fs : List Value} {kc' ks' d' : Nat} {Q1 : Option Value → AH → Prop} {As rest st0 : List Value} (hM : CM E yX9_keepArcAt cX9_keepArcAt 4 none d' kc' ks' (.ref b :: As) h Q1) (hq : h b = some (ob 9 fs)) (hlen : As.length = 2) (hst : st0 = As.reverse ++ .ref b :: rest) (hrm : (rest.map fun v => v.category).sum ≤ 8) (hd1 : d' + 1 ≤ d) (hd : decode cc pc = .ok (.invokevirtual 296, 3)) (kk : ∀ r h', Q1 r h' → Ev E RX9 cc nL ret mn Q d kc ks (pc + 3) L (r.toList ++ rest) h') : Ev E RX9 cc nL ret mn Q d (kc + kc') (ks + ks') pc L st0 h := ev_callV hM rfl hq cod_X9_keepArcAt ini_X9 (List.mem_filter.mpr ⟨List.mem_of_getElem? (i := 722) (by decide +kernel), by decide +kernel⟩) im_X9_keepArcAt sel_X9_keepArcAt (by decide +kernel) hlen hst hrm hd1 (by decide) hd kk
theorem c_L_12 {b : Nat} {kc' ks' d' : Nat} {Q1 : Option Value → AH → Prop} {As rest st0 : List Value} (hM : CM E yX10_init cX10_init 2 none d' kc' ks' (.ref b :: As) h Q1) (hlen : As.length = 0) (hst : st0 = As.reverse ++ .ref b :: rest) (hrm : (rest.map fun v => v.category).sum ≤ 8) (hd1 : d' + 1 ≤ d) (hd : decode cc pc = .ok (.invokespecial 12, 3)) (kk : ∀ r h', Q1 r h' → Ev E RL cc nL ret mn Q d kc ks (pc + 3) L (r.toList ++ rest) h') : Ev E RL cc nL ret mn Q d (kc + kc') (ks + ks') pc L st0 h := ev_callI hM cod_X10_init ini_X10 (List.mem_filter.mpr ⟨List.mem_of_getElem? (i := 728) (by decide +kernel), by decide +kernel⟩) im_X10_init rfl (by decide +kernel) hlen hst hrm hd1 (by decide) hd kk
theorem oi_X10 {q : Nat} (hd : decode cc pc = .ok (.invokespecial 1, 3)) (h1 : 1 ≤ d) (hst : (st.map fun v => v.category).sum ≤ 8) (kk : Ev E RX10 cc nL ret mn Q d kc ks (pc + 3) L st h) : Ev E RX10 cc nL ret mn Q d kc ks pc L (.ref q :: st) h := ev_objInit (List.mem_filter.mpr ⟨List.mem_of_getElem? (i := 731) (by decide +kernel), by decide +kernel⟩) im_object cod_object hd h1 hst kk
theorem c_X10_127 {kc' ks' d' : Nat} {Q1 : Option Value → AH → Prop} {As rest st0 : List Value} (hM : CM E yX10_sineOf cX10_sineOf 6 (some .double) d' kc' ks' As h Q1) (hlen : As.length = 1) (hst : st0 = As.reverse ++ rest) (hrm : (rest.map fun v => v.category).sum ≤ 8) (hd1 : d' + 1 ≤ d) (hd : decode cc pc = .ok (.invokestatic 127, 3)) (kk : ∀ r h', Q1 r h' → Ev E RX10 cc nL ret mn Q d kc ks (pc + 3) L (r.toList ++ rest) h') : Ev E RX10 cc nL ret mn Q d (kc + kc') (ks + ks') pc L st0 h := ev_callS hM cod_X10_sineOf ini_X10 (List.mem_filter.mpr ⟨List.mem_of_getElem? (i := 733) (by decide +kernel), by decide +kernel⟩) sta_X10_sineOf (by decide +kernel) hlen hst hrm hd1 (by decide) hd kk
theorem c_L_54 {b : Nat} {fs : List Value} {kc' ks' d' : Nat} {Q1 : Option Value → AH → Prop} {As rest st0 : List Value} (hM : CM E yX10_table cX10_table 3 (some .int) d' kc' ks' (.ref b :: As) h Q1) (hq : h b = some (ob 10 fs)) (hlen : As.length = 2) (hst : st0 = As.reverse ++ .ref b :: rest) (hrm : (rest.map fun v => v.category).sum ≤ 8) (hd1 : d' + 1 ≤ d) (hd : decode cc pc = .ok (.invokevirtual 54, 3)) (kk : ∀ r h', Q1 r h' → Ev E RL cc nL ret mn Q d kc ks (pc + 3) L (r.toList ++ rest) h') : Ev E RL cc nL ret mn Q d (kc + kc') (ks + ks') pc L st0 h := ev_callV hM rfl hq cod_X10_table ini_X10 (List.mem_filter.mpr ⟨List.mem_of_getElem? (i := 878) (by decide +kernel), by decide +kernel⟩) im_X10_table sel_X10_table (by decide +kernel) hlen hst hrm hd1 (by decide) hd kk
theorem c_X10_143 {kc' ks' d' : Nat} {Q1 : Option Value → AH → Prop} {As rest st0 : List Value} (hM : CM E yX10_in cX10_in 6 (some .boolean) d' kc' ks' As h Q1) (hlen : As.length = 3) (hst : st0 = As.reverse ++ rest) (hrm : (rest.map fun v => v.category).sum ≤ 8) (hd1 : d' + 1 ≤ d) (hd : decode cc pc = .ok (.invokestatic 143, 3)) (kk : ∀ r h', Q1 r h' → Ev E RX10 cc nL ret mn Q d kc ks (pc + 3) L (r.toList ++ rest) h') : Ev E RX10 cc nL ret mn Q d (kc + kc') (ks + ks') pc L st0 h := ev_callS hM cod_X10_in ini_X10 (List.mem_filter.mpr ⟨List.mem_of_getElem? (i := 883) (by decide +kernel), by decide +kernel⟩) sta_X10_in (by decide +kernel) hlen hst hrm hd1 (by decide) hd kk
theorem c_X10_137 {b : Nat} {fs : List Value} {kc' ks' d' : Nat} {Q1 : Option Value → AH → Prop} {As rest st0 : List Value} (hM : CM E yX10_sinOf cX10_sinOf 2 (some .int) d' kc' ks' (.ref b :: As) h Q1) (hq : h b = some (ob 10 fs)) (hlen : As.length = 1) (hst : st0 = As.reverse ++ .ref b :: rest) (hrm : (rest.map fun v => v.category).sum ≤ 8) (hd1 : d' + 1 ≤ d) (hd : decode cc pc = .ok (.invokevirtual 137, 3)) (kk : ∀ r h', Q1 r h' → Ev E RX10 cc nL ret mn Q d kc ks (pc + 3) L (r.toList ++ rest) h') : Ev E RX10 cc nL ret mn Q d (kc + kc') (ks + ks') pc L st0 h := ev_callV hM rfl hq cod_X10_sinOf ini_X10 (List.mem_filter.mpr ⟨List.mem_of_getElem? (i := 889) (by decide +kernel), by decide +kernel⟩) im_X10_sinOf sel_X10_sinOf (by decide +kernel) hlen hst hrm hd1 (by decide) hd kk
theorem c_X10_152 {b : Nat} {fs : List Value} {kc' ks' d' : Nat} {Q1 : Option Value → AH → Prop} {As rest st0 : List Value} (hM : CM E yX10_cosOf cX10_cosOf 2 (some .int) d' kc' ks' (.ref b :: As) h Q1) (hq : h b = some (ob 10 fs)) (hlen : As.length = 1) (hst : st0 = As.reverse ++ .ref b :: rest) (hrm : (rest.map fun v => v.category).sum ≤ 8) (hd1 : d' + 1 ≤ d) (hd : decode cc pc = .ok (.invokevirtual 152, 3)) (kk : ∀ r h', Q1 r h' → Ev E RX10 cc nL ret mn Q d kc ks (pc + 3) L (r.toList ++ rest) h') : Ev E RX10 cc nL ret mn Q d (kc + kc') (ks + ks') pc L st0 h := ev_callV hM rfl hq cod_X10_cosOf ini_X10 (List.mem_filter.mpr ⟨List.mem_of_getElem? (i := 893) (by decide +kernel), by decide +kernel⟩) im_X10_cosOf sel_X10_cosOf (by decide +kernel) hlen hst hrm hd1 (by decide) hd kk
theorem c_L_17 {b : Nat} {fs : List Value} {kc' ks' d' : Nat} {Q1 : Option Value → AH → Prop} {As rest st0 : List Value} (hM : CM E yX10_station cX10_station 3 (some .int) d' kc' ks' (.ref b :: As) h Q1) (hq : h b = some (ob 10 fs)) (hlen : As.length = 2) (hst : st0 = As.reverse ++ .ref b :: rest) (hrm : (rest.map fun v => v.category).sum ≤ 8) (hd1 : d' + 1 ≤ d) (hd : decode cc pc = .ok (.invokevirtual 17, 3)) (kk : ∀ r h', Q1 r h' → Ev E RL cc nL ret mn Q d kc ks (pc + 3) L (r.toList ++ rest) h') : Ev E RL cc nL ret mn Q d (kc + kc') (ks + ks') pc L st0 h := ev_callV hM rfl hq cod_X10_station ini_X10 (List.mem_filter.mpr ⟨List.mem_of_getElem? (i := 897) (by decide +kernel), by decide +kernel⟩) im_X10_station sel_X10_station (by decide +kernel) hlen hst hrm hd1 (by decide) hd kk
theorem c_L_22 {b : Nat} {fs : List Value} {kc' ks' d' : Nat} {Q1 : Option Value → AH → Prop} {As rest st0 : List Value} (hM : CM E yX10_clock cX10_clock 4 (some .int) d' kc' ks' (.ref b :: As) h Q1) (hq : h b = some (ob 10 fs)) (hlen : As.length = 3) (hst : st0 = As.reverse ++ .ref b :: rest) (hrm : (rest.map fun v => v.category).sum ≤ 8) (hd1 : d' + 1 ≤ d) (hd : decode cc pc = .ok (.invokevirtual 22, 3)) (kk : ∀ r h', Q1 r h' → Ev E RL cc nL ret mn Q d kc ks (pc + 3) L (r.toList ++ rest) h') : Ev E RL cc nL ret mn Q d (kc + kc') (ks + ks') pc L st0 h := ev_callV hM rfl hq cod_X10_clock ini_X10 (List.mem_filter.mpr ⟨List.mem_of_getElem? (i := 902) (by decide +kernel), by decide +kernel⟩) im_X10_clock sel_X10_clock (by decide +kernel) hlen hst hrm hd1 (by decide) hd kk
theorem c_X10_160 {b : Nat} {fs : List Value} {kc' ks' d' : Nat} {Q1 : Option Value → AH → Prop} {As rest st0 : List Value} (hM : CM E yX10_isStation cX10_isStation 2 (some .boolean) d' kc' ks' (.ref b :: As) h Q1) (hq : h b = some (ob 10 fs)) (hlen : As.length = 1) (hst : st0 = As.reverse ++ .ref b :: rest) (hrm : (rest.map fun v => v.category).sum ≤ 8) (hd1 : d' + 1 ≤ d) (hd : decode cc pc = .ok (.invokevirtual 160, 3)) (kk : ∀ r h', Q1 r h' → Ev E RX10 cc nL ret mn Q d kc ks (pc + 3) L (r.toList ++ rest) h') : Ev E RX10 cc nL ret mn Q d (kc + kc') (ks + ks') pc L st0 h := ev_callV hM rfl hq cod_X10_isStation ini_X10 (List.mem_filter.mpr ⟨List.mem_of_getElem? (i := 906) (by decide +kernel), by decide +kernel⟩) im_X10_isStation sel_X10_isStation (by decide +kernel) hlen hst hrm hd1 (by decide) hd kk
theorem c_L_27 {b : Nat} {fs : List Value} {kc' ks' d' : Nat} {Q1 : Option Value → AH → Prop} {As rest st0 : List Value} (hM : CM E yX10_glow cX10_glow 6 (some .int) d' kc' ks' (.ref b :: As) h Q1) (hq : h b = some (ob 10 fs)) (hlen : As.length = 5) (hst : st0 = As.reverse ++ .ref b :: rest) (hrm : (rest.map fun v => v.category).sum ≤ 8) (hd1 : d' + 1 ≤ d) (hd : decode cc pc = .ok (.invokevirtual 27, 3)) (kk : ∀ r h', Q1 r h' → Ev E RL cc nL ret mn Q d kc ks (pc + 3) L (r.toList ++ rest) h') : Ev E RL cc nL ret mn Q d (kc + kc') (ks + ks') pc L st0 h := ev_callV hM rfl hq cod_X10_glow ini_X10 (List.mem_filter.mpr ⟨List.mem_of_getElem? (i := 912) (by decide +kernel), by decide +kernel⟩) im_X10_glow sel_X10_glow (by decide +kernel) hlen hst hrm hd1 (by decide) hd kk
theorem c_X10_180 {b : Nat} {fs : List Value} {kc' ks' d' : Nat} {Q1 : Option Value → AH → Prop} {As rest st0 : List Value} (hM : CM E yX10_isTold cX10_isTold 6 (some .boolean) d' kc' ks' (.ref b :: As) h Q1) (hq : h b = some (ob 10 fs)) (hlen : As.length = 5) (hst : st0 = As.reverse ++ .ref b :: rest) (hrm : (rest.map fun v => v.category).sum ≤ 8) (hd1 : d' + 1 ≤ d) (hd : decode cc pc = .ok (.invokevirtual 180, 3)) (kk : ∀ r h', Q1 r h' → Ev E RX10 cc nL ret mn Q d kc ks (pc + 3) L (r.toList ++ rest) h') : Ev E RX10 cc nL ret mn Q d (kc + kc') (ks + ks') pc L st0 h := ev_callV hM rfl hq cod_X10_isTold ini_X10 (List.mem_filter.mpr ⟨List.mem_of_getElem? (i := 916) (by decide +kernel), by decide +kernel⟩) im_X10_isTold sel_X10_isTold (by decide +kernel) hlen hst hrm hd1 (by decide) hd kk
theorem c_X10_170 {kc' ks' d' : Nat} {Q1 : Option Value → AH → Prop} {As rest st0 : List Value} (hM : CM E yX10_isNight cX10_isNight 1 (some .boolean) d' kc' ks' As h Q1) (hlen : As.length = 1) (hst : st0 = As.reverse ++ rest) (hrm : (rest.map fun v => v.category).sum ≤ 8) (hd1 : d' + 1 ≤ d) (hd : decode cc pc = .ok (.invokestatic 170, 3)) (kk : ∀ r h', Q1 r h' → Ev E RX10 cc nL ret mn Q d kc ks (pc + 3) L (r.toList ++ rest) h') : Ev E RX10 cc nL ret mn Q d (kc + kc') (ks + ks') pc L st0 h := ev_callS hM cod_X10_isNight ini_X10 (List.mem_filter.mpr ⟨List.mem_of_getElem? (i := 920) (by decide +kernel), by decide +kernel⟩) sta_X10_isNight (by decide +kernel) hlen hst hrm hd1 (by decide) hd kk
theorem c_X10_184 {b : Nat} {fs : List Value} {kc' ks' d' : Nat} {Q1 : Option Value → AH → Prop} {As rest st0 : List Value} (hM : CM E yX10_add cX10_add 9 (some .int) d' kc' ks' (.ref b :: As) h Q1) (hq : h b = some (ob 10 fs)) (hlen : As.length = 8) (hst : st0 = As.reverse ++ .ref b :: rest) (hrm : (rest.map fun v => v.category).sum ≤ 8) (hd1 : d' + 1 ≤ d) (hd : decode cc pc = .ok (.invokevirtual 184, 3)) (kk : ∀ r h', Q1 r h' → Ev E RX10 cc nL ret mn Q d kc ks (pc + 3) L (r.toList ++ rest) h') : Ev E RX10 cc nL ret mn Q d (kc + kc') (ks + ks') pc L st0 h := ev_callV hM rfl hq cod_X10_add ini_X10 (List.mem_filter.mpr ⟨List.mem_of_getElem? (i := 926) (by decide +kernel), by decide +kernel⟩) im_X10_add sel_X10_add (by decide +kernel) hlen hst hrm hd1 (by decide) hd kk
theorem c_L_32 {b : Nat} {fs : List Value} {kc' ks' d' : Nat} {Q1 : Option Value → AH → Prop} {As rest st0 : List Value} (hM : CM E yX10_arc cX10_arc 8 (some .int) d' kc' ks' (.ref b :: As) h Q1) (hq : h b = some (ob 10 fs)) (hlen : As.length = 6) (hst : st0 = As.reverse ++ .ref b :: rest) (hrm : (rest.map fun v => v.category).sum ≤ 8) (hd1 : d' + 1 ≤ d) (hd : decode cc pc = .ok (.invokevirtual 32, 3)) (kk : ∀ r h', Q1 r h' → Ev E RL cc nL ret mn Q d kc ks (pc + 3) L (r.toList ++ rest) h') : Ev E RL cc nL ret mn Q d (kc + kc') (ks + ks') pc L st0 h := ev_callV hM rfl hq cod_X10_arc ini_X10 (List.mem_filter.mpr ⟨List.mem_of_getElem? (i := 930) (by decide +kernel), by decide +kernel⟩) im_X10_arc sel_X10_arc (by decide +kernel) hlen hst hrm hd1 (by decide) hd kk
theorem c_L_37 {b : Nat} {fs : List Value} {kc' ks' d' : Nat} {Q1 : Option Value → AH → Prop} {As rest st0 : List Value} (hM : CM E yX10_ray cX10_ray 9 (some .int) d' kc' ks' (.ref b :: As) h Q1) (hq : h b = some (ob 10 fs)) (hlen : As.length = 7) (hst : st0 = As.reverse ++ .ref b :: rest) (hrm : (rest.map fun v => v.category).sum ≤ 8) (hd1 : d' + 1 ≤ d) (hd : decode cc pc = .ok (.invokevirtual 37, 3)) (kk : ∀ r h', Q1 r h' → Ev E RL cc nL ret mn Q d kc ks (pc + 3) L (r.toList ++ rest) h') : Ev E RL cc nL ret mn Q d (kc + kc') (ks + ks') pc L st0 h := ev_callV hM rfl hq cod_X10_ray ini_X10 (List.mem_filter.mpr ⟨List.mem_of_getElem? (i := 935) (by decide +kernel), by decide +kernel⟩) im_X10_ray sel_X10_ray (by decide +kernel) hlen hst hrm hd1 (by decide) hd kk
theorem c_L_41 {b : Nat} {fs : List Value} {kc' ks' d' : Nat} {Q1 : Option Value → AH → Prop} {As rest st0 : List Value} (hM : CM E yX10_told cX10_told 3 (some .int) d' kc' ks' (.ref b :: As) h Q1) (hq : h b = some (ob 10 fs)) (hlen : As.length = 2) (hst : st0 = As.reverse ++ .ref b :: rest) (hrm : (rest.map fun v => v.category).sum ≤ 8) (hd1 : d' + 1 ≤ d) (hd : decode cc pc = .ok (.invokevirtual 41, 3)) (kk : ∀ r h', Q1 r h' → Ev E RL cc nL ret mn Q d kc ks (pc + 3) L (r.toList ++ rest) h') : Ev E RL cc nL ret mn Q d (kc + kc') (ks + ks') pc L st0 h := ev_callV hM rfl hq cod_X10_told ini_X10 (List.mem_filter.mpr ⟨List.mem_of_getElem? (i := 941) (by decide +kernel), by decide +kernel⟩) im_X10_told sel_X10_told (by decide +kernel) hlen hst hrm hd1 (by decide) hd kk
theorem c_X10_194 {b : Nat} {fs : List Value} {kc' ks' d' : Nat} {Q1 : Option Value → AH → Prop} {As rest st0 : List Value} (hM : CM E yX10_isSighting cX10_isSighting 2 (some .boolean) d' kc' ks' (.ref b :: As) h Q1) (hq : h b = some (ob 10 fs)) (hlen : As.length = 1) (hst : st0 = As.reverse ++ .ref b :: rest) (hrm : (rest.map fun v => v.category).sum ≤ 8) (hd1 : d' + 1 ≤ d) (hd : decode cc pc = .ok (.invokevirtual 194, 3)) (kk : ∀ r h', Q1 r h' → Ev E RX10 cc nL ret mn Q d kc ks (pc + 3) L (r.toList ++ rest) h') : Ev E RX10 cc nL ret mn Q d (kc + kc') (ks + ks') pc L st0 h := ev_callV hM rfl hq cod_X10_isSighting ini_X10 (List.mem_filter.mpr ⟨List.mem_of_getElem? (i := 945) (by decide +kernel), by decide +kernel⟩) im_X10_isSighting sel_X10_isSighting (by decide +kernel) hlen hst hrm hd1 (by decide) hd kk
theorem c_X10_197 {b : Nat} {fs : List Value} {kc' ks' d' : Nat} {Q1 : Option Value → AH → Prop} {As rest st0 : List Value} (hM : CM E yX10_firstOf cX10_firstOf 2 (some .int) d' kc' ks' (.ref b :: As) h Q1) (hq : h b = some (ob 10 fs)) (hlen : As.length = 1) (hst : st0 = As.reverse ++ .ref b :: rest) (hrm : (rest.map fun v => v.category).sum ≤ 8) (hd1 : d' + 1 ≤ d) (hd : decode cc pc = .ok (.invokevirtual 197, 3)) (kk : ∀ r h', Q1 r h' → Ev E RX10 cc nL ret mn Q d kc ks (pc + 3) L (r.toList ++ rest) h') : Ev E RX10 cc nL ret mn Q d (kc + kc') (ks + ks') pc L st0 h := ev_callV hM rfl hq cod_X10_firstOf ini_X10 (List.mem_filter.mpr ⟨List.mem_of_getElem? (i := 949) (by decide +kernel), by decide +kernel⟩) im_X10_firstOf sel_X10_firstOf (by decide +kernel) hlen hst hrm hd1 (by decide) hd kk
theorem c_X10_200 {b : Nat} {fs : List Value} {kc' ks' d' : Nat} {Q1 : Option Value → AH → Prop} {As rest st0 : List Value} (hM : CM E yX10_lastOf cX10_lastOf 2 (some .int) d' kc' ks' (.ref b :: As) h Q1) (hq : h b = some (ob 10 fs)) (hlen : As.length = 1) (hst : st0 = As.reverse ++ .ref b :: rest) (hrm : (rest.map fun v => v.category).sum ≤ 8) (hd1 : d' + 1 ≤ d) (hd : decode cc pc = .ok (.invokevirtual 200, 3)) (kk : ∀ r h', Q1 r h' → Ev E RX10 cc nL ret mn Q d kc ks (pc + 3) L (r.toList ++ rest) h') : Ev E RX10 cc nL ret mn Q d (kc + kc') (ks + ks') pc L st0 h := ev_callV hM rfl hq cod_X10_lastOf ini_X10 (List.mem_filter.mpr ⟨List.mem_of_getElem? (i := 953) (by decide +kernel), by decide +kernel⟩) im_X10_lastOf sel_X10_lastOf (by decide +kernel) hlen hst hrm hd1 (by decide) hd kk
theorem c_L_46 {b : Nat} {fs : List Value} {kc' ks' d' : Nat} {Q1 : Option Value → AH → Prop} {As rest st0 : List Value} (hM : CM E yX10_colour cX10_colour 2 (some .int) d' kc' ks' (.ref b :: As) h Q1) (hq : h b = some (ob 10 fs)) (hlen : As.length = 1) (hst : st0 = As.reverse ++ .ref b :: rest) (hrm : (rest.map fun v => v.category).sum ≤ 8) (hd1 : d' + 1 ≤ d) (hd : decode cc pc = .ok (.invokevirtual 46, 3)) (kk : ∀ r h', Q1 r h' → Ev E RL cc nL ret mn Q d kc ks (pc + 3) L (r.toList ++ rest) h') : Ev E RL cc nL ret mn Q d (kc + kc') (ks + ks') pc L st0 h := ev_callV hM rfl hq cod_X10_colour ini_X10 (List.mem_filter.mpr ⟨List.mem_of_getElem? (i := 957) (by decide +kernel), by decide +kernel⟩) im_X10_colour sel_X10_colour (by decide +kernel) hlen hst hrm hd1 (by decide) hd kk
theorem c_L_50 {b : Nat} {fs : List Value} {kc' ks' d' : Nat} {Q1 : Option Value → AH → Prop} {As rest st0 : List Value} (hM : CM E yX10_lean cX10_lean 2 (some .int) d' kc' ks' (.ref b :: As) h Q1) (hq : h b = some (ob 10 fs)) (hlen : As.length = 1) (hst : st0 = As.reverse ++ .ref b :: rest) (hrm : (rest.map fun v => v.category).sum ≤ 8) (hd1 : d' + 1 ≤ d) (hd : decode cc pc = .ok (.invokevirtual 50, 3)) (kk : ∀ r h', Q1 r h' → Ev E RL cc nL ret mn Q d kc ks (pc + 3) L (r.toList ++ rest) h') : Ev E RL cc nL ret mn Q d (kc + kc') (ks + ks') pc L st0 h := ev_callV hM rfl hq cod_X10_lean ini_X10 (List.mem_filter.mpr ⟨List.mem_of_getElem? (i := 961) (by decide +kernel), by decide +kernel⟩) im_X10_lean sel_X10_lean (by decide +kernel) hlen hst hrm hd1 (by decide) hd kk
theorem c_L_58 {b : Nat} {fs : List Value} {kc' ks' d' : Nat} {Q1 : Option Value → AH → Prop} {As rest st0 : List Value} (hM : CM E yX10_thick cX10_thick 3 (some .int) d' kc' ks' (.ref b :: As) h Q1) (hq : h b = some (ob 10 fs)) (hlen : As.length = 1) (hst : st0 = As.reverse ++ .ref b :: rest) (hrm : (rest.map fun v => v.category).sum ≤ 8) (hd1 : d' + 1 ≤ d) (hd : decode cc pc = .ok (.invokevirtual 58, 3)) (kk : ∀ r h', Q1 r h' → Ev E RL cc nL ret mn Q d kc ks (pc + 3) L (r.toList ++ rest) h') : Ev E RL cc nL ret mn Q d (kc + kc') (ks + ks') pc L st0 h := ev_callV hM rfl hq cod_X10_thick ini_X10 (List.mem_filter.mpr ⟨List.mem_of_getElem? (i := 965) (by decide +kernel), by decide +kernel⟩) im_X10_thick sel_X10_thick (by decide +kernel) hlen hst hrm hd1 (by decide) hd kk
theorem c_L_62 {b : Nat} {fs : List Value} {kc' ks' d' : Nat} {Q1 : Option Value → AH → Prop} {As rest st0 : List Value} (hM : CM E yX10_meets cX10_meets 3 (some .int) d' kc' ks' (.ref b :: As) h Q1) (hq : h b = some (ob 10 fs)) (hlen : As.length = 2) (hst : st0 = As.reverse ++ .ref b :: rest) (hrm : (rest.map fun v => v.category).sum ≤ 8) (hd1 : d' + 1 ≤ d) (hd : decode cc pc = .ok (.invokevirtual 62, 3)) (kk : ∀ r h', Q1 r h' → Ev E RL cc nL ret mn Q d kc ks (pc + 3) L (r.toList ++ rest) h') : Ev E RL cc nL ret mn Q d (kc + kc') (ks + ks') pc L st0 h := ev_callV hM rfl hq cod_X10_meets ini_X10 (List.mem_filter.mpr ⟨List.mem_of_getElem? (i := 970) (by decide +kernel), by decide +kernel⟩) im_X10_meets sel_X10_meets (by decide +kernel) hlen hst hrm hd1 (by decide) hd kk
theorem c_X10_227 {b : Nat} {fs : List Value} {kc' ks' d' : Nat} {Q1 : Option Value → AH → Prop} {As rest st0 : List Value} (hM : CM E yX10_areMet cX10_areMet 3 (some .boolean) d' kc' ks' (.ref b :: As) h Q1) (hq : h b = some (ob 10 fs)) (hlen : As.length = 2) (hst : st0 = As.reverse ++ .ref b :: rest) (hrm : (rest.map fun v => v.category).sum ≤ 8) (hd1 : d' + 1 ≤ d) (hd : decode cc pc = .ok (.invokevirtual 227, 3)) (kk : ∀ r h', Q1 r h' → Ev E RX10 cc nL ret mn Q d kc ks (pc + 3) L (r.toList ++ rest) h') : Ev E RX10 cc nL ret mn Q d (kc + kc') (ks + ks') pc L st0 h := ev_callV hM rfl hq cod_X10_areMet ini_X10 (List.mem_filter.mpr ⟨List.mem_of_getElem? (i := 974) (by decide +kernel), by decide +kernel⟩) im_X10_areMet sel_X10_areMet (by decide +kernel) hlen hst hrm hd1 (by decide) hd kk
theorem c_X10_223 {b : Nat} {fs : List Value} {kc' ks' d' : Nat} {Q1 : Option Value → AH → Prop} {As rest st0 : List Value} (hM : CM E yX10_crosses cX10_crosses 14 (some .boolean) d' kc' ks' (.ref b :: As) h Q1) (hq : h b = some (ob 10 fs)) (hlen : As.length = 2) (hst : st0 = As.reverse ++ .ref b :: rest) (hrm : (rest.map fun v => v.category).sum ≤ 8) (hd1 : d' + 1 ≤ d) (hd : decode cc pc = .ok (.invokevirtual 223, 3)) (kk : ∀ r h', Q1 r h' → Ev E RX10 cc nL ret mn Q d kc ks (pc + 3) L (r.toList ++ rest) h') : Ev E RX10 cc nL ret mn Q d (kc + kc') (ks + ks') pc L st0 h := ev_callV hM rfl hq cod_X10_crosses ini_X10 (List.mem_filter.mpr ⟨List.mem_of_getElem? (i := 978) (by decide +kernel), by decide +kernel⟩) im_X10_crosses sel_X10_crosses (by decide +kernel) hlen hst hrm hd1 (by decide) hd kk
theorem c_X10_219 {b : Nat} {fs : List Value} {kc' ks' d' : Nat} {Q1 : Option Value → AH → Prop} {As rest st0 : List Value} (hM : CM E yX10_rise cX10_rise 3 (some .int) d' kc' ks' (.ref b :: As) h Q1) (hq : h b = some (ob 10 fs)) (hlen : As.length = 2) (hst : st0 = As.reverse ++ .ref b :: rest) (hrm : (rest.map fun v => v.category).sum ≤ 8) (hd1 : d' + 1 ≤ d) (hd : decode cc pc = .ok (.invokevirtual 219, 3)) (kk : ∀ r h', Q1 r h' → Ev E RX10 cc nL ret mn Q d kc ks (pc + 3) L (r.toList ++ rest) h') : Ev E RX10 cc nL ret mn Q d (kc + kc') (ks + ks') pc L st0 h := ev_callV hM rfl hq cod_X10_rise ini_X10 (List.mem_filter.mpr ⟨List.mem_of_getElem? (i := 986) (by decide +kernel), by decide +kernel⟩) im_X10_rise sel_X10_rise (by decide +kernel) hlen hst hrm hd1 (by decide) hd kk
theorem c_L_66 {b : Nat} {fs : List Value} {kc' ks' d' : Nat} {Q1 : Option Value → AH → Prop} {As rest st0 : List Value} (hM : CM E yX10_cross cX10_cross 6 (some .int) d' kc' ks' (.ref b :: As) h Q1) (hq : h b = some (ob 10 fs)) (hlen : As.length = 3) (hst : st0 = As.reverse ++ .ref b :: rest) (hrm : (rest.map fun v => v.category).sum ≤ 8) (hd1 : d' + 1 ≤ d) (hd : decode cc pc = .ok (.invokevirtual 66, 3)) (kk : ∀ r h', Q1 r h' → Ev E RL cc nL ret mn Q d kc ks (pc + 3) L (r.toList ++ rest) h') : Ev E RL cc nL ret mn Q d (kc + kc') (ks + ks') pc L st0 h := ev_callV hM rfl hq cod_X10_cross ini_X10 (List.mem_filter.mpr ⟨List.mem_of_getElem? (i := 990) (by decide +kernel), by decide +kernel⟩) im_X10_cross sel_X10_cross (by decide +kernel) hlen hst hrm hd1 (by decide) hd kk
theorem c_X10_234 {b : Nat} {fs : List Value} {kc' ks' d' : Nat} {Q1 : Option Value → AH → Prop} {As rest st0 : List Value} (hM : CM E yX10_crossPart cX10_crossPart 7 (some .int) d' kc' ks' (.ref b :: As) h Q1) (hq : h b = some (ob 10 fs)) (hlen : As.length = 3) (hst : st0 = As.reverse ++ .ref b :: rest) (hrm : (rest.map fun v => v.category).sum ≤ 8) (hd1 : d' + 1 ≤ d) (hd : decode cc pc = .ok (.invokevirtual 234, 3)) (kk : ∀ r h', Q1 r h' → Ev E RX10 cc nL ret mn Q d kc ks (pc + 3) L (r.toList ++ rest) h') : Ev E RX10 cc nL ret mn Q d (kc + kc') (ks + ks') pc L st0 h := ev_callV hM rfl hq cod_X10_crossPart ini_X10 (List.mem_filter.mpr ⟨List.mem_of_getElem? (i := 997) (by decide +kernel), by decide +kernel⟩) im_X10_crossPart sel_X10_crossPart (by decide +kernel) hlen hst hrm hd1 (by decide) hd kk
theorem c_L_70 {b : Nat} {fs : List Value} {kc' ks' d' : Nat} {Q1 : Option Value → AH → Prop} {As rest st0 : List Value} (hM : CM E yX10_curtains cX10_curtains 2 (some .int) d' kc' ks' (.ref b :: As) h Q1) (hq : h b = some (ob 10 fs)) (hlen : As.length = 1) (hst : st0 = As.reverse ++ .ref b :: rest) (hrm : (rest.map fun v => v.category).sum ≤ 8) (hd1 : d' + 1 ≤ d) (hd : decode cc pc = .ok (.invokevirtual 70, 3)) (kk : ∀ r h', Q1 r h' → Ev E RL cc nL ret mn Q d kc ks (pc + 3) L (r.toList ++ rest) h') : Ev E RL cc nL ret mn Q d (kc + kc') (ks + ks') pc L st0 h := ev_callV hM rfl hq cod_X10_curtains ini_X10 (List.mem_filter.mpr ⟨List.mem_of_getElem? (i := 1001) (by decide +kernel), by decide +kernel⟩) im_X10_curtains sel_X10_curtains (by decide +kernel) hlen hst hrm hd1 (by decide) hd kk
theorem c_X10_260 {b : Nat} {fs : List Value} {kc' ks' d' : Nat} {Q1 : Option Value → AH → Prop} {As rest st0 : List Value} (hM : CM E yX10_findCurtains cX10_findCurtains 4 (some .int) d' kc' ks' (.ref b :: As) h Q1) (hq : h b = some (ob 10 fs)) (hlen : As.length = 1) (hst : st0 = As.reverse ++ .ref b :: rest) (hrm : (rest.map fun v => v.category).sum ≤ 8) (hd1 : d' + 1 ≤ d) (hd : decode cc pc = .ok (.invokevirtual 260, 3)) (kk : ∀ r h', Q1 r h' → Ev E RX10 cc nL ret mn Q d kc ks (pc + 3) L (r.toList ++ rest) h') : Ev E RX10 cc nL ret mn Q d (kc + kc') (ks + ks') pc L st0 h := ev_callV hM rfl hq cod_X10_findCurtains ini_X10 (List.mem_filter.mpr ⟨List.mem_of_getElem? (i := 1005) (by decide +kernel), by decide +kernel⟩) im_X10_findCurtains sel_X10_findCurtains (by decide +kernel) hlen hst hrm hd1 (by decide) hd kk
theorem c_X10_247 {b : Nat} {fs : List Value} {kc' ks' d' : Nat} {Q1 : Option Value → AH → Prop} {As rest st0 : List Value} (hM : CM E yX10_listNight cX10_listNight 3 none d' kc' ks' (.ref b :: As) h Q1) (hq : h b = some (ob 10 fs)) (hlen : As.length = 1) (hst : st0 = As.reverse ++ .ref b :: rest) (hrm : (rest.map fun v => v.category).sum ≤ 8) (hd1 : d' + 1 ≤ d) (hd : decode cc pc = .ok (.invokevirtual 247, 3)) (kk : ∀ r h', Q1 r h' → Ev E RX10 cc nL ret mn Q d kc ks (pc + 3) L (r.toList ++ rest) h') : Ev E RX10 cc nL ret mn Q d (kc + kc') (ks + ks') pc L st0 h := ev_callV hM rfl hq cod_X10_listNight ini_X10 (List.mem_filter.mpr ⟨List.mem_of_getElem? (i := 1009) (by decide +kernel), by decide +kernel⟩) im_X10_listNight sel_X10_listNight (by decide +kernel) hlen hst hrm hd1 (by decide) hd kk
theorem c_X10_251 {b : Nat} {fs : List Value} {kc' ks' d' : Nat} {Q1 : Option Value → AH → Prop} {As rest st0 : List Value} (hM : CM E yX10_part cX10_part 5 (some .boolean) d' kc' ks' (.ref b :: As) h Q1) (hq : h b = some (ob 10 fs)) (hlen : As.length = 1) (hst : st0 = As.reverse ++ .ref b :: rest) (hrm : (rest.map fun v => v.category).sum ≤ 8) (hd1 : d' + 1 ≤ d) (hd : decode cc pc = .ok (.invokevirtual 251, 3)) (kk : ∀ r h', Q1 r h' → Ev E RX10 cc nL ret mn Q d kc ks (pc + 3) L (r.toList ++ rest) h') : Ev E RX10 cc nL ret mn Q d (kc + kc') (ks + ks') pc L st0 h := ev_callV hM rfl hq cod_X10_part ini_X10 (List.mem_filter.mpr ⟨List.mem_of_getElem? (i := 1013) (by decide +kernel), by decide +kernel⟩) im_X10_part sel_X10_part (by decide +kernel) hlen hst hrm hd1 (by decide) hd kk
theorem c_X10_241 {b : Nat} {fs : List Value} {kc' ks' d' : Nat} {Q1 : Option Value → AH → Prop} {As rest st0 : List Value} (hM : CM E yX10_setsAhead cX10_setsAhead 4 (some .int) d' kc' ks' (.ref b :: As) h Q1) (hq : h b = some (ob 10 fs)) (hlen : As.length = 1) (hst : st0 = As.reverse ++ .ref b :: rest) (hrm : (rest.map fun v => v.category).sum ≤ 8) (hd1 : d' + 1 ≤ d) (hd : decode cc pc = .ok (.invokevirtual 241, 3)) (kk : ∀ r h', Q1 r h' → Ev E RX10 cc nL ret mn Q d kc ks (pc + 3) L (r.toList ++ rest) h') : Ev E RX10 cc nL ret mn Q d (kc + kc') (ks + ks') pc L st0 h := ev_callV hM rfl hq cod_X10_setsAhead ini_X10 (List.mem_filter.mpr ⟨List.mem_of_getElem? (i := 1017) (by decide +kernel), by decide +kernel⟩) im_X10_setsAhead sel_X10_setsAhead (by decide +kernel) hlen hst hrm hd1 (by decide) hd kk
theorem c_X10_244 {b : Nat} {fs : List Value} {kc' ks' d' : Nat} {Q1 : Option Value → AH → Prop} {As rest st0 : List Value} (hM : CM E yX10_canBeIn cX10_canBeIn 4 (some .boolean) d' kc' ks' (.ref b :: As) h Q1) (hq : h b = some (ob 10 fs)) (hlen : As.length = 2) (hst : st0 = As.reverse ++ .ref b :: rest) (hrm : (rest.map fun v => v.category).sum ≤ 8) (hd1 : d' + 1 ≤ d) (hd : decode cc pc = .ok (.invokevirtual 244, 3)) (kk : ∀ r h', Q1 r h' → Ev E RX10 cc nL ret mn Q d kc ks (pc + 3) L (r.toList ++ rest) h') : Ev E RX10 cc nL ret mn Q d (kc + kc') (ks + ks') pc L st0 h := ev_callV hM rfl hq cod_X10_canBeIn ini_X10 (List.mem_filter.mpr ⟨List.mem_of_getElem? (i := 1021) (by decide +kernel), by decide +kernel⟩) im_X10_canBeIn sel_X10_canBeIn (by decide +kernel) hlen hst hrm hd1 (by decide) hd kk
theorem c_X10_257 {b : Nat} {fs : List Value} {kc' ks' d' : Nat} {Q1 : Option Value → AH → Prop} {As rest st0 : List Value} (hM : CM E yX10_findPlace cX10_findPlace 11 none d' kc' ks' (.ref b :: As) h Q1) (hq : h b = some (ob 10 fs)) (hlen : As.length = 1) (hst : st0 = As.reverse ++ .ref b :: rest) (hrm : (rest.map fun v => v.category).sum ≤ 8) (hd1 : d' + 1 ≤ d) (hd : decode cc pc = .ok (.invokevirtual 257, 3)) (kk : ∀ r h', Q1 r h' → Ev E RX10 cc nL ret mn Q d kc ks (pc + 3) L (r.toList ++ rest) h') : Ev E RX10 cc nL ret mn Q d (kc + kc') (ks + ks') pc L st0 h := ev_callV hM rfl hq cod_X10_findPlace ini_X10 (List.mem_filter.mpr ⟨List.mem_of_getElem? (i := 1025) (by decide +kernel), by decide +kernel⟩) im_X10_findPlace sel_X10_findPlace (by decide +kernel) hlen hst hrm hd1 (by decide) hd kk
theorem c_L_74 {b : Nat} {fs : List Value} {kc' ks' d' : Nat} {Q1 : Option Value → AH → Prop} {As rest st0 : List Value} (hM : CM E yX10_curtain cX10_curtain 5 (some .int) d' kc' ks' (.ref b :: As) h Q1) (hq : h b = some (ob 10 fs)) (hlen : As.length = 3) (hst : st0 = As.reverse ++ .ref b :: rest) (hrm : (rest.map fun v => v.category).sum ≤ 8) (hd1 : d' + 1 ≤ d) (hd : decode cc pc = .ok (.invokevirtual 74, 3)) (kk : ∀ r h', Q1 r h' → Ev E RL cc nL ret mn Q d kc ks (pc + 3) L (r.toList ++ rest) h') : Ev E RL cc nL ret mn Q d (kc + kc') (ks + ks') pc L st0 h := ev_callV hM rfl hq cod_X10_curtain ini_X10 (List.mem_filter.mpr ⟨List.mem_of_getElem? (i := 1029) (by decide +kernel), by decide +kernel⟩) im_X10_curtain sel_X10_curtain (by decide +kernel) hlen hst hrm hd1 (by decide) hd kk
theorem c_L_78 {b : Nat} {fs : List Value} {kc' ks' d' : Nat} {Q1 : Option Value → AH → Prop} {As rest st0 : List Value} (hM : CM E yX10_curtainOf cX10_curtainOf 4 (some .int) d' kc' ks' (.ref b :: As) h Q1) (hq : h b = some (ob 10 fs)) (hlen : As.length = 1) (hst : st0 = As.reverse ++ .ref b :: rest) (hrm : (rest.map fun v => v.category).sum ≤ 8) (hd1 : d' + 1 ≤ d) (hd : decode cc pc = .ok (.invokevirtual 78, 3)) (kk : ∀ r h', Q1 r h' → Ev E RL cc nL ret mn Q d kc ks (pc + 3) L (r.toList ++ rest) h') : Ev E RL cc nL ret mn Q d (kc + kc') (ks + ks') pc L st0 h := ev_callV hM rfl hq cod_X10_curtainOf ini_X10 (List.mem_filter.mpr ⟨List.mem_of_getElem? (i := 1035) (by decide +kernel), by decide +kernel⟩) im_X10_curtainOf sel_X10_curtainOf (by decide +kernel) hlen hst hrm hd1 (by decide) hd kk
theorem c_L_82 {b : Nat} {fs : List Value} {kc' ks' d' : Nat} {Q1 : Option Value → AH → Prop} {As rest st0 : List Value} (hM : CM E yX10_speed cX10_speed 3 (some .int) d' kc' ks' (.ref b :: As) h Q1) (hq : h b = some (ob 10 fs)) (hlen : As.length = 1) (hst : st0 = As.reverse ++ .ref b :: rest) (hrm : (rest.map fun v => v.category).sum ≤ 8) (hd1 : d' + 1 ≤ d) (hd : decode cc pc = .ok (.invokevirtual 82, 3)) (kk : ∀ r h', Q1 r h' → Ev E RL cc nL ret mn Q d kc ks (pc + 3) L (r.toList ++ rest) h') : Ev E RL cc nL ret mn Q d (kc + kc') (ks + ks') pc L st0 h := ev_callV hM rfl hq cod_X10_speed ini_X10 (List.mem_filter.mpr ⟨List.mem_of_getElem? (i := 1039) (by decide +kernel), by decide +kernel⟩) im_X10_speed sel_X10_speed (by decide +kernel) hlen hst hrm hd1 (by decide) hd kk
theorem c_L_86 {b : Nat} {fs : List Value} {kc' ks' d' : Nat} {Q1 : Option Value → AH → Prop} {As rest st0 : List Value} (hM : CM E yX10_ways cX10_ways 3 (some .int) d' kc' ks' (.ref b :: As) h Q1) (hq : h b = some (ob 10 fs)) (hlen : As.length = 1) (hst : st0 = As.reverse ++ .ref b :: rest) (hrm : (rest.map fun v => v.category).sum ≤ 8) (hd1 : d' + 1 ≤ d) (hd : decode cc pc = .ok (.invokevirtual 86, 3)) (kk : ∀ r h', Q1 r h' → Ev E RL cc nL ret mn Q d kc ks (pc + 3) L (r.toList ++ rest) h') : Ev E RL cc nL ret mn Q d (kc + kc') (ks + ks') pc L st0 h := ev_callV hM rfl hq cod_X10_ways ini_X10 (List.mem_filter.mpr ⟨List.mem_of_getElem? (i := 1043) (by decide +kernel), by decide +kernel⟩) im_X10_ways sel_X10_ways (by decide +kernel) hlen hst hrm hd1 (by decide) hd kk
theorem c_X10_269 {b : Nat} {fs : List Value} {kc' ks' d' : Nat} {Q1 : Option Value → AH → Prop} {As rest st0 : List Value} (hM : CM E yX10_findWays cX10_findWays 7 (some .int) d' kc' ks' (.ref b :: As) h Q1) (hq : h b = some (ob 10 fs)) (hlen : As.length = 0) (hst : st0 = As.reverse ++ .ref b :: rest) (hrm : (rest.map fun v => v.category).sum ≤ 8) (hd1 : d' + 1 ≤ d) (hd : decode cc pc = .ok (.invokevirtual 269, 3)) (kk : ∀ r h', Q1 r h' → Ev E RX10 cc nL ret mn Q d kc ks (pc + 3) L (r.toList ++ rest) h') : Ev E RX10 cc nL ret mn Q d (kc + kc') (ks + ks') pc L st0 h := ev_callV hM rfl hq cod_X10_findWays ini_X10 (List.mem_filter.mpr ⟨List.mem_of_getElem? (i := 1047) (by decide +kernel), by decide +kernel⟩) im_X10_findWays sel_X10_findWays (by decide +kernel) hlen hst hrm hd1 (by decide) hd kk
theorem c_X10_266 {b : Nat} {fs : List Value} {kc' ks' d' : Nat} {Q1 : Option Value → AH → Prop} {As rest st0 : List Value} (hM : CM E yX10_canFollow cX10_canFollow 9 (some .boolean) d' kc' ks' (.ref b :: As) h Q1) (hq : h b = some (ob 10 fs)) (hlen : As.length = 2) (hst : st0 = As.reverse ++ .ref b :: rest) (hrm : (rest.map fun v => v.category).sum ≤ 8) (hd1 : d' + 1 ≤ d) (hd : decode cc pc = .ok (.invokevirtual 266, 3)) (kk : ∀ r h', Q1 r h' → Ev E RX10 cc nL ret mn Q d kc ks (pc + 3) L (r.toList ++ rest) h') : Ev E RX10 cc nL ret mn Q d (kc + kc') (ks + ks') pc L st0 h := ev_callV hM rfl hq cod_X10_canFollow ini_X10 (List.mem_filter.mpr ⟨List.mem_of_getElem? (i := 1051) (by decide +kernel), by decide +kernel⟩) im_X10_canFollow sel_X10_canFollow (by decide +kernel) hlen hst hrm hd1 (by decide) hd kk
theorem c_L_90 {b : Nat} {fs : List Value} {kc' ks' d' : Nat} {Q1 : Option Value → AH → Prop} {As rest st0 : List Value} (hM : CM E yX10_next cX10_next 3 (some .int) d' kc' ks' (.ref b :: As) h Q1) (hq : h b = some (ob 10 fs)) (hlen : As.length = 2) (hst : st0 = As.reverse ++ .ref b :: rest) (hrm : (rest.map fun v => v.category).sum ≤ 8) (hd1 : d' + 1 ≤ d) (hd : decode cc pc = .ok (.invokevirtual 90, 3)) (kk : ∀ r h', Q1 r h' → Ev E RL cc nL ret mn Q d kc ks (pc + 3) L (r.toList ++ rest) h') : Ev E RL cc nL ret mn Q d (kc + kc') (ks + ks') pc L st0 h := ev_callV hM rfl hq cod_X10_next ini_X10 (List.mem_filter.mpr ⟨List.mem_of_getElem? (i := 1055) (by decide +kernel), by decide +kernel⟩) im_X10_next sel_X10_next (by decide +kernel) hlen hst hrm hd1 (by decide) hd kk
theorem c_X10_273 {b : Nat} {fs : List Value} {kc' ks' d' : Nat} {Q1 : Option Value → AH → Prop} {As rest st0 : List Value} (hM : CM E yX10_nextOf cX10_nextOf 5 (some .int) d' kc' ks' (.ref b :: As) h Q1) (hq : h b = some (ob 10 fs)) (hlen : As.length = 2) (hst : st0 = As.reverse ++ .ref b :: rest) (hrm : (rest.map fun v => v.category).sum ≤ 8) (hd1 : d' + 1 ≤ d) (hd : decode cc pc = .ok (.invokevirtual 273, 3)) (kk : ∀ r h', Q1 r h' → Ev E RX10 cc nL ret mn Q d kc ks (pc + 3) L (r.toList ++ rest) h') : Ev E RX10 cc nL ret mn Q d (kc + kc') (ks + ks') pc L st0 h := ev_callV hM rfl hq cod_X10_nextOf ini_X10 (List.mem_filter.mpr ⟨List.mem_of_getElem? (i := 1059) (by decide +kernel), by decide +kernel⟩) im_X10_nextOf sel_X10_nextOf (by decide +kernel) hlen hst hrm hd1 (by decide) hd kk
theorem c_L_94 {b : Nat} {fs : List Value} {kc' ks' d' : Nat} {Q1 : Option Value → AH → Prop} {As rest st0 : List Value} (hM : CM E yX10_overhead cX10_overhead 16 (some .int) d' kc' ks' (.ref b :: As) h Q1) (hq : h b = some (ob 10 fs)) (hlen : As.length = 3) (hst : st0 = As.reverse ++ .ref b :: rest) (hrm : (rest.map fun v => v.category).sum ≤ 8) (hd1 : d' + 1 ≤ d) (hd : decode cc pc = .ok (.invokevirtual 94, 3)) (kk : ∀ r h', Q1 r h' → Ev E RL cc nL ret mn Q d kc ks (pc + 3) L (r.toList ++ rest) h') : Ev E RL cc nL ret mn Q d (kc + kc') (ks + ks') pc L st0 h := ev_callV hM rfl hq cod_X10_overhead ini_X10 (List.mem_filter.mpr ⟨List.mem_of_getElem? (i := 1063) (by decide +kernel), by decide +kernel⟩) im_X10_overhead sel_X10_overhead (by decide +kernel) hlen hst hrm hd1 (by decide) hd kk
theorem c_L_98 {b : Nat} {fs : List Value} {kc' ks' d' : Nat} {Q1 : Option Value → AH → Prop} {As rest st0 : List Value} (hM : CM E yX10_watch cX10_watch 6 (some .int) d' kc' ks' (.ref b :: As) h Q1) (hq : h b = some (ob 10 fs)) (hlen : As.length = 5) (hst : st0 = As.reverse ++ .ref b :: rest) (hrm : (rest.map fun v => v.category).sum ≤ 8) (hd1 : d' + 1 ≤ d) (hd : decode cc pc = .ok (.invokevirtual 98, 3)) (kk : ∀ r h', Q1 r h' → Ev E RL cc nL ret mn Q d kc ks (pc + 3) L (r.toList ++ rest) h') : Ev E RL cc nL ret mn Q d (kc + kc') (ks + ks') pc L st0 h := ev_callV hM rfl hq cod_X10_watch ini_X10 (List.mem_filter.mpr ⟨List.mem_of_getElem? (i := 1068) (by decide +kernel), by decide +kernel⟩) im_X10_watch sel_X10_watch (by decide +kernel) hlen hst hrm hd1 (by decide) hd kk
theorem c_X10_283 {b : Nat} {fs : List Value} {kc' ks' d' : Nat} {Q1 : Option Value → AH → Prop} {As rest st0 : List Value} (hM : CM E yX10_watchOf cX10_watchOf 4 (some .int) d' kc' ks' (.ref b :: As) h Q1) (hq : h b = some (ob 10 fs)) (hlen : As.length = 2) (hst : st0 = As.reverse ++ .ref b :: rest) (hrm : (rest.map fun v => v.category).sum ≤ 8) (hd1 : d' + 1 ≤ d) (hd : decode cc pc = .ok (.invokevirtual 283, 3)) (kk : ∀ r h', Q1 r h' → Ev E RX10 cc nL ret mn Q d kc ks (pc + 3) L (r.toList ++ rest) h') : Ev E RX10 cc nL ret mn Q d (kc + kc') (ks + ks') pc L st0 h := ev_callV hM rfl hq cod_X10_watchOf ini_X10 (List.mem_filter.mpr ⟨List.mem_of_getElem? (i := 1073) (by decide +kernel), by decide +kernel⟩) im_X10_watchOf sel_X10_watchOf (by decide +kernel) hlen hst hrm hd1 (by decide) hd kk
theorem c_L_102 {b : Nat} {fs : List Value} {kc' ks' d' : Nat} {Q1 : Option Value → AH → Prop} {As rest st0 : List Value} (hM : CM E yX10_seen cX10_seen 4 (some .int) d' kc' ks' (.ref b :: As) h Q1) (hq : h b = some (ob 10 fs)) (hlen : As.length = 2) (hst : st0 = As.reverse ++ .ref b :: rest) (hrm : (rest.map fun v => v.category).sum ≤ 8) (hd1 : d' + 1 ≤ d) (hd : decode cc pc = .ok (.invokevirtual 102, 3)) (kk : ∀ r h', Q1 r h' → Ev E RL cc nL ret mn Q d kc ks (pc + 3) L (r.toList ++ rest) h') : Ev E RL cc nL ret mn Q d (kc + kc') (ks + ks') pc L st0 h := ev_callV hM rfl hq cod_X10_seen ini_X10 (List.mem_filter.mpr ⟨List.mem_of_getElem? (i := 1077) (by decide +kernel), by decide +kernel⟩) im_X10_seen sel_X10_seen (by decide +kernel) hlen hst hrm hd1 (by decide) hd kk
theorem c_X10_286 {b : Nat} {fs : List Value} {kc' ks' d' : Nat} {Q1 : Option Value → AH → Prop} {As rest st0 : List Value} (hM : CM E yX10_isSeen cX10_isSeen 4 (some .boolean) d' kc' ks' (.ref b :: As) h Q1) (hq : h b = some (ob 10 fs)) (hlen : As.length = 2) (hst : st0 = As.reverse ++ .ref b :: rest) (hrm : (rest.map fun v => v.category).sum ≤ 8) (hd1 : d' + 1 ≤ d) (hd : decode cc pc = .ok (.invokevirtual 286, 3)) (kk : ∀ r h', Q1 r h' → Ev E RX10 cc nL ret mn Q d kc ks (pc + 3) L (r.toList ++ rest) h') : Ev E RX10 cc nL ret mn Q d (kc + kc') (ks + ks') pc L st0 h := ev_callV hM rfl hq cod_X10_isSeen ini_X10 (List.mem_filter.mpr ⟨List.mem_of_getElem? (i := 1081) (by decide +kernel), by decide +kernel⟩) im_X10_isSeen sel_X10_isSeen (by decide +kernel) hlen hst hrm hd1 (by decide) hd kk
theorem c_L_107 {b : Nat} {fs : List Value} {kc' ks' d' : Nat} {Q1 : Option Value → AH → Prop} {As rest st0 : List Value} (hM : CM E yX10_rate cX10_rate 9 (some .int) d' kc' ks' (.ref b :: As) h Q1) (hq : h b = some (ob 10 fs)) (hlen : As.length = 4) (hst : st0 = As.reverse ++ .ref b :: rest) (hrm : (rest.map fun v => v.category).sum ≤ 8) (hd1 : d' + 1 ≤ d) (hd : decode cc pc = .ok (.invokevirtual 107, 3)) (kk : ∀ r h', Q1 r h' → Ev E RL cc nL ret mn Q d kc ks (pc + 3) L (r.toList ++ rest) h') : Ev E RL cc nL ret mn Q d (kc + kc') (ks + ks') pc L st0 h := ev_callV hM rfl hq cod_X10_rate ini_X10 (List.mem_filter.mpr ⟨List.mem_of_getElem? (i := 1085) (by decide +kernel), by decide +kernel⟩) im_X10_rate sel_X10_rate (by decide +kernel) hlen hst hrm hd1 (by decide) hd kk
theorem c_L_111 {b : Nat} {fs : List Value} {kc' ks' d' : Nat} {Q1 : Option Value → AH → Prop} {As rest st0 : List Value} (hM : CM E yX10_round cX10_round 2 (some .int) d' kc' ks' (.ref b :: As) h Q1) (hq : h b = some (ob 10 fs)) (hlen : As.length = 1) (hst : st0 = As.reverse ++ .ref b :: rest) (hrm : (rest.map fun v => v.category).sum ≤ 8) (hd1 : d' + 1 ≤ d) (hd : decode cc pc = .ok (.invokevirtual 111, 3)) (kk : ∀ r h', Q1 r h' → Ev E RL cc nL ret mn Q d kc ks (pc + 3) L (r.toList ++ rest) h') : Ev E RL cc nL ret mn Q d (kc + kc') (ks + ks') pc L st0 h := ev_callV hM rfl hq cod_X10_round ini_X10 (List.mem_filter.mpr ⟨List.mem_of_getElem? (i := 1090) (by decide +kernel), by decide +kernel⟩) im_X10_round sel_X10_round (by decide +kernel) hlen hst hrm hd1 (by decide) hd kk
theorem c_X10_295 {b : Nat} {fs : List Value} {kc' ks' d' : Nat} {Q1 : Option Value → AH → Prop} {As rest st0 : List Value} (hM : CM E yX10_roundOf cX10_roundOf 4 (some .int) d' kc' ks' (.ref b :: As) h Q1) (hq : h b = some (ob 10 fs)) (hlen : As.length = 1) (hst : st0 = As.reverse ++ .ref b :: rest) (hrm : (rest.map fun v => v.category).sum ≤ 8) (hd1 : d' + 1 ≤ d) (hd : decode cc pc = .ok (.invokevirtual 295, 3)) (kk : ∀ r h', Q1 r h' → Ev E RX10 cc nL ret mn Q d kc ks (pc + 3) L (r.toList ++ rest) h') : Ev E RX10 cc nL ret mn Q d (kc + kc') (ks + ks') pc L st0 h := ev_callV hM rfl hq cod_X10_roundOf ini_X10 (List.mem_filter.mpr ⟨List.mem_of_getElem? (i := 1096) (by decide +kernel), by decide +kernel⟩) im_X10_roundOf sel_X10_roundOf (by decide +kernel) hlen hst hrm hd1 (by decide) hd kk
theorem c_L_116 {b : Nat} {fs : List Value} {kc' ks' d' : Nat} {Q1 : Option Value → AH → Prop} {As rest st0 : List Value} (hM : CM E yX10_best cX10_best 3 (some .int) d' kc' ks' (.ref b :: As) h Q1) (hq : h b = some (ob 10 fs)) (hlen : As.length = 0) (hst : st0 = As.reverse ++ .ref b :: rest) (hrm : (rest.map fun v => v.category).sum ≤ 8) (hd1 : d' + 1 ≤ d) (hd : decode cc pc = .ok (.invokevirtual 116, 3)) (kk : ∀ r h', Q1 r h' → Ev E RL cc nL ret mn Q d kc ks (pc + 3) L (r.toList ++ rest) h') : Ev E RL cc nL ret mn Q d (kc + kc') (ks + ks') pc L st0 h := ev_callV hM rfl hq cod_X10_best ini_X10 (List.mem_filter.mpr ⟨List.mem_of_getElem? (i := 1100) (by decide +kernel), by decide +kernel⟩) im_X10_best sel_X10_best (by decide +kernel) hlen hst hrm hd1 (by decide) hd kk
theorem c_X10_298 {b : Nat} {fs : List Value} {kc' ks' d' : Nat} {Q1 : Option Value → AH → Prop} {As rest st0 : List Value} (hM : CM E yX10_nightsSeen cX10_nightsSeen 3 (some .int) d' kc' ks' (.ref b :: As) h Q1) (hq : h b = some (ob 10 fs)) (hlen : As.length = 0) (hst : st0 = As.reverse ++ .ref b :: rest) (hrm : (rest.map fun v => v.category).sum ≤ 8) (hd1 : d' + 1 ≤ d) (hd : decode cc pc = .ok (.invokevirtual 298, 3)) (kk : ∀ r h', Q1 r h' → Ev E RX10 cc nL ret mn Q d kc ks (pc + 3) L (r.toList ++ rest) h') : Ev E RX10 cc nL ret mn Q d (kc + kc') (ks + ks') pc L st0 h := ev_callV hM rfl hq cod_X10_nightsSeen ini_X10 (List.mem_filter.mpr ⟨List.mem_of_getElem? (i := 1104) (by decide +kernel), by decide +kernel⟩) im_X10_nightsSeen sel_X10_nightsSeen (by decide +kernel) hlen hst hrm hd1 (by decide) hd kk
theorem c_L_120 {b : Nat} {fs : List Value} {kc' ks' d' : Nat} {Q1 : Option Value → AH → Prop} {As rest st0 : List Value} (hM : CM E yX10_share cX10_share 4 (some .int) d' kc' ks' (.ref b :: As) h Q1) (hq : h b = some (ob 10 fs)) (hlen : As.length = 2) (hst : st0 = As.reverse ++ .ref b :: rest) (hrm : (rest.map fun v => v.category).sum ≤ 8) (hd1 : d' + 1 ≤ d) (hd : decode cc pc = .ok (.invokevirtual 120, 3)) (kk : ∀ r h', Q1 r h' → Ev E RL cc nL ret mn Q d kc ks (pc + 3) L (r.toList ++ rest) h') : Ev E RL cc nL ret mn Q d (kc + kc') (ks + ks') pc L st0 h := ev_callV hM rfl hq cod_X10_share ini_X10 (List.mem_filter.mpr ⟨List.mem_of_getElem? (i := 1108) (by decide +kernel), by decide +kernel⟩) im_X10_share sel_X10_share (by decide +kernel) hlen hst hrm hd1 (by decide) hd kk
theorem c_L_124 {b : Nat} {fs : List Value} {kc' ks' d' : Nat} {Q1 : Option Value → AH → Prop} {As rest st0 : List Value} (hM : CM E yX10_mended cX10_mended 9 (some .int) d' kc' ks' (.ref b :: As) h Q1) (hq : h b = some (ob 10 fs)) (hlen : As.length = 2) (hst : st0 = As.reverse ++ .ref b :: rest) (hrm : (rest.map fun v => v.category).sum ≤ 8) (hd1 : d' + 1 ≤ d) (hd : decode cc pc = .ok (.invokevirtual 124, 3)) (kk : ∀ r h', Q1 r h' → Ev E RL cc nL ret mn Q d kc ks (pc + 3) L (r.toList ++ rest) h') : Ev E RL cc nL ret mn Q d (kc + kc') (ks + ks') pc L st0 h := ev_callV hM rfl hq cod_X10_mended ini_X10 (List.mem_filter.mpr ⟨List.mem_of_getElem? (i := 1112) (by decide +kernel), by decide +kernel⟩) im_X10_mended sel_X10_mended (by decide +kernel) hlen hst hrm hd1 (by decide) hd kk
theorem c_L_128 {b : Nat} {fs : List Value} {kc' ks' d' : Nat} {Q1 : Option Value → AH → Prop} {As rest st0 : List Value} (hM : CM E yX10_moved cX10_moved 7 (some .int) d' kc' ks' (.ref b :: As) h Q1) (hq : h b = some (ob 10 fs)) (hlen : As.length = 1) (hst : st0 = As.reverse ++ .ref b :: rest) (hrm : (rest.map fun v => v.category).sum ≤ 8) (hd1 : d' + 1 ≤ d) (hd : decode cc pc = .ok (.invokevirtual 128, 3)) (kk : ∀ r h', Q1 r h' → Ev E RL cc nL ret mn Q d kc ks (pc + 3) L (r.toList ++ rest) h') : Ev E RL cc nL ret mn Q d (kc + kc') (ks + ks') pc L st0 h := ev_callV hM rfl hq cod_X10_moved ini_X10 (List.mem_filter.mpr ⟨List.mem_of_getElem? (i := 1116) (by decide +kernel), by decide +kernel⟩) im_X10_moved sel_X10_moved (by decide +kernel) hlen hst hrm hd1 (by decide) hd kk
theorem c_L_132 {b : Nat} {fs : List Value} {kc' ks' d' : Nat} {Q1 : Option Value → AH → Prop} {As rest st0 : List Value} (hM : CM E yX10_count cX10_count 2 (some .int) d' kc' ks' (.ref b :: As) h Q1) (hq : h b = some (ob 10 fs)) (hlen : As.length = 1) (hst : st0 = As.reverse ++ .ref b :: rest) (hrm : (rest.map fun v => v.category).sum ≤ 8) (hd1 : d' + 1 ≤ d) (hd : decode cc pc = .ok (.invokevirtual 132, 3)) (kk : ∀ r h', Q1 r h' → Ev E RL cc nL ret mn Q d kc ks (pc + 3) L (r.toList ++ rest) h') : Ev E RL cc nL ret mn Q d (kc + kc') (ks + ks') pc L st0 h := ev_callV hM rfl hq cod_X10_count ini_X10 (List.mem_filter.mpr ⟨List.mem_of_getElem? (i := 1120) (by decide +kernel), by decide +kernel⟩) im_X10_count sel_X10_count (by decide +kernel) hlen hst hrm hd1 (by decide) hd kk
theorem c_L_136 {b : Nat} {fs : List Value} {kc' ks' d' : Nat} {Q1 : Option Value → AH → Prop} {As rest st0 : List Value} (hM : CM E yX10_sheet cX10_sheet 5 (some .int) d' kc' ks' (.ref b :: As) h Q1) (hq : h b = some (ob 10 fs)) (hlen : As.length = 3) (hst : st0 = As.reverse ++ .ref b :: rest) (hrm : (rest.map fun v => v.category).sum ≤ 8) (hd1 : d' + 1 ≤ d) (hd : decode cc pc = .ok (.invokevirtual 136, 3)) (kk : ∀ r h', Q1 r h' → Ev E RL cc nL ret mn Q d kc ks (pc + 3) L (r.toList ++ rest) h') : Ev E RL cc nL ret mn Q d (kc + kc') (ks + ks') pc L st0 h := ev_callV hM rfl hq cod_X10_sheet ini_X10 (List.mem_filter.mpr ⟨List.mem_of_getElem? (i := 1124) (by decide +kernel), by decide +kernel⟩) im_X10_sheet sel_X10_sheet (by decide +kernel) hlen hst hrm hd1 (by decide) hd kk
theorem c_X10_304 {kc' ks' d' : Nat} {Q1 : Option Value → AH → Prop} {As rest st0 : List Value} (hM : CM E yX10_isSheet cX10_isSheet 2 (some .boolean) d' kc' ks' As h Q1) (hlen : As.length = 2) (hst : st0 = As.reverse ++ rest) (hrm : (rest.map fun v => v.category).sum ≤ 8) (hd1 : d' + 1 ≤ d) (hd : decode cc pc = .ok (.invokestatic 304, 3)) (kk : ∀ r h', Q1 r h' → Ev E RX10 cc nL ret mn Q d kc ks (pc + 3) L (r.toList ++ rest) h') : Ev E RX10 cc nL ret mn Q d (kc + kc') (ks + ks') pc L st0 h := ev_callS hM cod_X10_isSheet ini_X10 (List.mem_filter.mpr ⟨List.mem_of_getElem? (i := 1128) (by decide +kernel), by decide +kernel⟩) sta_X10_isSheet (by decide +kernel) hlen hst hrm hd1 (by decide) hd kk
theorem c_L_140 {b : Nat} {fs : List Value} {kc' ks' d' : Nat} {Q1 : Option Value → AH → Prop} {As rest st0 : List Value} (hM : CM E yX10_drop cX10_drop 2 (some .int) d' kc' ks' (.ref b :: As) h Q1) (hq : h b = some (ob 10 fs)) (hlen : As.length = 1) (hst : st0 = As.reverse ++ .ref b :: rest) (hrm : (rest.map fun v => v.category).sum ≤ 8) (hd1 : d' + 1 ≤ d) (hd : decode cc pc = .ok (.invokevirtual 140, 3)) (kk : ∀ r h', Q1 r h' → Ev E RL cc nL ret mn Q d kc ks (pc + 3) L (r.toList ++ rest) h') : Ev E RL cc nL ret mn Q d (kc + kc') (ks + ks') pc L st0 h := ev_callV hM rfl hq cod_X10_drop ini_X10 (List.mem_filter.mpr ⟨List.mem_of_getElem? (i := 1131) (by decide +kernel), by decide +kernel⟩) im_X10_drop sel_X10_drop (by decide +kernel) hlen hst hrm hd1 (by decide) hd kk
theorem c_L_144 {b : Nat} {fs : List Value} {kc' ks' d' : Nat} {Q1 : Option Value → AH → Prop} {As rest st0 : List Value} (hM : CM E yX10_item cX10_item 5 (some .int) d' kc' ks' (.ref b :: As) h Q1) (hq : h b = some (ob 10 fs)) (hlen : As.length = 4) (hst : st0 = As.reverse ++ .ref b :: rest) (hrm : (rest.map fun v => v.category).sum ≤ 8) (hd1 : d' + 1 ≤ d) (hd : decode cc pc = .ok (.invokevirtual 144, 3)) (kk : ∀ r h', Q1 r h' → Ev E RL cc nL ret mn Q d kc ks (pc + 3) L (r.toList ++ rest) h') : Ev E RL cc nL ret mn Q d (kc + kc') (ks + ks') pc L st0 h := ev_callV hM rfl hq cod_X10_item ini_X10 (List.mem_filter.mpr ⟨List.mem_of_getElem? (i := 1135) (by decide +kernel), by decide +kernel⟩) im_X10_item sel_X10_item (by decide +kernel) hlen hst hrm hd1 (by decide) hd kk
theorem c_L_148 {b : Nat} {fs : List Value} {kc' ks' d' : Nat} {Q1 : Option Value → AH → Prop} {As rest st0 : List Value} (hM : CM E yX10_arcs cX10_arcs 8 (some .int) d' kc' ks' (.ref b :: As) h Q1) (hq : h b = some (ob 10 fs)) (hlen : As.length = 4) (hst : st0 = As.reverse ++ .ref b :: rest) (hrm : (rest.map fun v => v.category).sum ≤ 8) (hd1 : d' + 1 ≤ d) (hd : decode cc pc = .ok (.invokevirtual 148, 3)) (kk : ∀ r h', Q1 r h' → Ev E RL cc nL ret mn Q d kc ks (pc + 3) L (r.toList ++ rest) h') : Ev E RL cc nL ret mn Q d (kc + kc') (ks + ks') pc L st0 h := ev_callV hM rfl hq cod_X10_arcs ini_X10 (List.mem_filter.mpr ⟨List.mem_of_getElem? (i := 1139) (by decide +kernel), by decide +kernel⟩) im_X10_arcs sel_X10_arcs (by decide +kernel) hlen hst hrm hd1 (by decide) hd kk
theorem c_X9_119_3 {b : Nat} {fs : List Value} {kc' ks' d' : Nat} {Q1 : Option Value → AH → Prop} {As rest st0 : List Value} (hM : CM E yX3_kind cX3_kind 1 (some .int) d' kc' ks' (.ref b :: As) h Q1) (hq : h b = some (ob 3 fs)) (hlen : As.length = 0) (hst : st0 = As.reverse ++ .ref b :: rest) (hrm : (rest.map fun v => v.category).sum ≤ 8) (hd1 : d' + 1 ≤ d) (hd : decode cc pc = .ok (.invokevirtual 119, 3)) (kk : ∀ r h', Q1 r h' → Ev E RX9 cc nL ret mn Q d kc ks (pc + 3) L (r.toList ++ rest) h') : Ev E RX9 cc nL ret mn Q d (kc + kc') (ks + ks') pc L st0 h := ev_callU (x := ⟨"NorthCurtains$Glow", "kind", "()I"⟩) (owner := RX3) hM rfl hq cod_X3_kind ini_X3 (show Cond.methodLink RX9 119 ⟨"NorthCurtains$Glow", "kind", "()I"⟩ ∈ TB from List.mem_filter.mpr ⟨List.mem_of_getElem? (i := 364) (by decide +kernel), by decide +kernel⟩) (show Cond.sameMethod _ _ _ _ ∈ TB from List.mem_filter.mpr ⟨List.mem_of_getElem? (i := 367) (by decide +kernel), by decide +kernel⟩) im_X3_kind (show Cond.selects RX3 ⟨"NorthCurtains$Glow", "kind", "()I"⟩ yX3_kind ∈ TB from List.mem_filter.mpr ⟨List.mem_of_getElem? (i := 366) (by decide +kernel), by decide +kernel⟩) (show Cond.instanceMethod ⟨RX3, _, _⟩ ∈ TB from im_X3_kind) (show Cond.code ⟨RX3, _, _⟩ _ _ _ ∈ TB from cod_X3_kind) (by decide +kernel) hlen hst hrm hd1 (by decide) hd kk
theorem c_X9_119_0 {b : Nat} {fs : List Value} {kc' ks' d' : Nat} {Q1 : Option Value → AH → Prop} {As rest st0 : List Value} (hM : CM E yX0_kind cX0_kind 1 (some .int) d' kc' ks' (.ref b :: As) h Q1) (hq : h b = some (ob 0 fs)) (hlen : As.length = 0) (hst : st0 = As.reverse ++ .ref b :: rest) (hrm : (rest.map fun v => v.category).sum ≤ 8) (hd1 : d' + 1 ≤ d) (hd : decode cc pc = .ok (.invokevirtual 119, 3)) (kk : ∀ r h', Q1 r h' → Ev E RX9 cc nL ret mn Q d kc ks (pc + 3) L (r.toList ++ rest) h') : Ev E RX9 cc nL ret mn Q d (kc + kc') (ks + ks') pc L st0 h := ev_callU (x := ⟨"NorthCurtains$Glow", "kind", "()I"⟩) (owner := RX3) hM rfl hq cod_X0_kind ini_X0 (show Cond.methodLink RX9 119 ⟨"NorthCurtains$Glow", "kind", "()I"⟩ ∈ TB from List.mem_filter.mpr ⟨List.mem_of_getElem? (i := 364) (by decide +kernel), by decide +kernel⟩) (show Cond.sameMethod _ _ _ _ ∈ TB from List.mem_filter.mpr ⟨List.mem_of_getElem? (i := 367) (by decide +kernel), by decide +kernel⟩) im_X0_kind (show Cond.selects RX0 ⟨"NorthCurtains$Glow", "kind", "()I"⟩ yX0_kind ∈ TB from List.mem_filter.mpr ⟨List.mem_of_getElem? (i := 368) (by decide +kernel), by decide +kernel⟩) (show Cond.instanceMethod ⟨RX3, _, _⟩ ∈ TB from im_X3_kind) (show Cond.code ⟨RX3, _, _⟩ _ _ _ ∈ TB from cod_X3_kind) (by decide +kernel) hlen hst hrm hd1 (by decide) hd kk
theorem c_X9_119_4 {b : Nat} {fs : List Value} {kc' ks' d' : Nat} {Q1 : Option Value → AH → Prop} {As rest st0 : List Value} (hM : CM E yX4_kind cX4_kind 1 (some .int) d' kc' ks' (.ref b :: As) h Q1) (hq : h b = some (ob 4 fs)) (hlen : As.length = 0) (hst : st0 = As.reverse ++ .ref b :: rest) (hrm : (rest.map fun v => v.category).sum ≤ 8) (hd1 : d' + 1 ≤ d) (hd : decode cc pc = .ok (.invokevirtual 119, 3)) (kk : ∀ r h', Q1 r h' → Ev E RX9 cc nL ret mn Q d kc ks (pc + 3) L (r.toList ++ rest) h') : Ev E RX9 cc nL ret mn Q d (kc + kc') (ks + ks') pc L st0 h := ev_callU (x := ⟨"NorthCurtains$Glow", "kind", "()I"⟩) (owner := RX3) hM rfl hq cod_X4_kind ini_X4 (show Cond.methodLink RX9 119 ⟨"NorthCurtains$Glow", "kind", "()I"⟩ ∈ TB from List.mem_filter.mpr ⟨List.mem_of_getElem? (i := 364) (by decide +kernel), by decide +kernel⟩) (show Cond.sameMethod _ _ _ _ ∈ TB from List.mem_filter.mpr ⟨List.mem_of_getElem? (i := 367) (by decide +kernel), by decide +kernel⟩) im_X4_kind (show Cond.selects RX4 ⟨"NorthCurtains$Glow", "kind", "()I"⟩ yX4_kind ∈ TB from List.mem_filter.mpr ⟨List.mem_of_getElem? (i := 371) (by decide +kernel), by decide +kernel⟩) (show Cond.instanceMethod ⟨RX3, _, _⟩ ∈ TB from im_X3_kind) (show Cond.code ⟨RX3, _, _⟩ _ _ _ ∈ TB from cod_X3_kind) (by decide +kernel) hlen hst hrm hd1 (by decide) hd kk
theorem c_X9_142_3 {b : Nat} {fs : List Value} {kc' ks' d' : Nat} {Q1 : Option Value → AH → Prop} {As rest st0 : List Value} (hM : CM E yX3_earliest cX3_earliest 1 (some .int) d' kc' ks' (.ref b :: As) h Q1) (hq : h b = some (ob 3 fs)) (hlen : As.length = 0) (hst : st0 = As.reverse ++ .ref b :: rest) (hrm : (rest.map fun v => v.category).sum ≤ 8) (hd1 : d' + 1 ≤ d) (hd : decode cc pc = .ok (.invokevirtual 142, 3)) (kk : ∀ r h', Q1 r h' → Ev E RX9 cc nL ret mn Q d kc ks (pc + 3) L (r.toList ++ rest) h') : Ev E RX9 cc nL ret mn Q d (kc + kc') (ks + ks') pc L st0 h := ev_callU (x := ⟨"NorthCurtains$Glow", "earliest", "()I"⟩) (owner := RX3) hM rfl hq cod_X3_earliest ini_X3 (show Cond.methodLink RX9 142 ⟨"NorthCurtains$Glow", "earliest", "()I"⟩ ∈ TB from List.mem_filter.mpr ⟨List.mem_of_getElem? (i := 375) (by decide +kernel), by decide +kernel⟩) (show Cond.sameMethod _ _ _ _ ∈ TB from List.mem_filter.mpr ⟨List.mem_of_getElem? (i := 378) (by decide +kernel), by decide +kernel⟩) im_X3_earliest (show Cond.selects RX3 ⟨"NorthCurtains$Glow", "earliest", "()I"⟩ yX3_earliest ∈ TB from List.mem_filter.mpr ⟨List.mem_of_getElem? (i := 377) (by decide +kernel), by decide +kernel⟩) (show Cond.instanceMethod ⟨RX3, _, _⟩ ∈ TB from im_X3_earliest) (show Cond.code ⟨RX3, _, _⟩ _ _ _ ∈ TB from cod_X3_earliest) (by decide +kernel) hlen hst hrm hd1 (by decide) hd kk
theorem c_X9_142_0 {b : Nat} {fs : List Value} {kc' ks' d' : Nat} {Q1 : Option Value → AH → Prop} {As rest st0 : List Value} (hM : CM E yX3_earliest cX3_earliest 1 (some .int) d' kc' ks' (.ref b :: As) h Q1) (hq : h b = some (ob 0 fs)) (hlen : As.length = 0) (hst : st0 = As.reverse ++ .ref b :: rest) (hrm : (rest.map fun v => v.category).sum ≤ 8) (hd1 : d' + 1 ≤ d) (hd : decode cc pc = .ok (.invokevirtual 142, 3)) (kk : ∀ r h', Q1 r h' → Ev E RX9 cc nL ret mn Q d kc ks (pc + 3) L (r.toList ++ rest) h') : Ev E RX9 cc nL ret mn Q d (kc + kc') (ks + ks') pc L st0 h := ev_callU (x := ⟨"NorthCurtains$Glow", "earliest", "()I"⟩) (owner := RX3) hM rfl hq cod_X3_earliest ini_X3 (show Cond.methodLink RX9 142 ⟨"NorthCurtains$Glow", "earliest", "()I"⟩ ∈ TB from List.mem_filter.mpr ⟨List.mem_of_getElem? (i := 375) (by decide +kernel), by decide +kernel⟩) (show Cond.sameMethod _ _ _ _ ∈ TB from List.mem_filter.mpr ⟨List.mem_of_getElem? (i := 378) (by decide +kernel), by decide +kernel⟩) im_X3_earliest (show Cond.selects RX0 ⟨"NorthCurtains$Glow", "earliest", "()I"⟩ yX3_earliest ∈ TB from List.mem_filter.mpr ⟨List.mem_of_getElem? (i := 379) (by decide +kernel), by decide +kernel⟩) (show Cond.instanceMethod ⟨RX3, _, _⟩ ∈ TB from im_X3_earliest) (show Cond.code ⟨RX3, _, _⟩ _ _ _ ∈ TB from cod_X3_earliest) (by decide +kernel) hlen hst hrm hd1 (by decide) hd kk
theorem c_X9_142_4 {b : Nat} {fs : List Value} {kc' ks' d' : Nat} {Q1 : Option Value → AH → Prop} {As rest st0 : List Value} (hM : CM E yX3_earliest cX3_earliest 1 (some .int) d' kc' ks' (.ref b :: As) h Q1) (hq : h b = some (ob 4 fs)) (hlen : As.length = 0) (hst : st0 = As.reverse ++ .ref b :: rest) (hrm : (rest.map fun v => v.category).sum ≤ 8) (hd1 : d' + 1 ≤ d) (hd : decode cc pc = .ok (.invokevirtual 142, 3)) (kk : ∀ r h', Q1 r h' → Ev E RX9 cc nL ret mn Q d kc ks (pc + 3) L (r.toList ++ rest) h') : Ev E RX9 cc nL ret mn Q d (kc + kc') (ks + ks') pc L st0 h := ev_callU (x := ⟨"NorthCurtains$Glow", "earliest", "()I"⟩) (owner := RX3) hM rfl hq cod_X3_earliest ini_X3 (show Cond.methodLink RX9 142 ⟨"NorthCurtains$Glow", "earliest", "()I"⟩ ∈ TB from List.mem_filter.mpr ⟨List.mem_of_getElem? (i := 375) (by decide +kernel), by decide +kernel⟩) (show Cond.sameMethod _ _ _ _ ∈ TB from List.mem_filter.mpr ⟨List.mem_of_getElem? (i := 378) (by decide +kernel), by decide +kernel⟩) im_X3_earliest (show Cond.selects RX4 ⟨"NorthCurtains$Glow", "earliest", "()I"⟩ yX3_earliest ∈ TB from List.mem_filter.mpr ⟨List.mem_of_getElem? (i := 380) (by decide +kernel), by decide +kernel⟩) (show Cond.instanceMethod ⟨RX3, _, _⟩ ∈ TB from im_X3_earliest) (show Cond.code ⟨RX3, _, _⟩ _ _ _ ∈ TB from cod_X3_earliest) (by decide +kernel) hlen hst hrm hd1 (by decide) hd kk
theorem c_X9_145_3 {b : Nat} {fs : List Value} {kc' ks' d' : Nat} {Q1 : Option Value → AH → Prop} {As rest st0 : List Value} (hM : CM E yX3_latest cX3_latest 1 (some .int) d' kc' ks' (.ref b :: As) h Q1) (hq : h b = some (ob 3 fs)) (hlen : As.length = 0) (hst : st0 = As.reverse ++ .ref b :: rest) (hrm : (rest.map fun v => v.category).sum ≤ 8) (hd1 : d' + 1 ≤ d) (hd : decode cc pc = .ok (.invokevirtual 145, 3)) (kk : ∀ r h', Q1 r h' → Ev E RX9 cc nL ret mn Q d kc ks (pc + 3) L (r.toList ++ rest) h') : Ev E RX9 cc nL ret mn Q d (kc + kc') (ks + ks') pc L st0 h := ev_callU (x := ⟨"NorthCurtains$Glow", "latest", "()I"⟩) (owner := RX3) hM rfl hq cod_X3_latest ini_X3 (show Cond.methodLink RX9 145 ⟨"NorthCurtains$Glow", "latest", "()I"⟩ ∈ TB from List.mem_filter.mpr ⟨List.mem_of_getElem? (i := 382) (by decide +kernel), by decide +kernel⟩) (show Cond.sameMethod _ _ _ _ ∈ TB from List.mem_filter.mpr ⟨List.mem_of_getElem? (i := 385) (by decide +kernel), by decide +kernel⟩) im_X3_latest (show Cond.selects RX3 ⟨"NorthCurtains$Glow", "latest", "()I"⟩ yX3_latest ∈ TB from List.mem_filter.mpr ⟨List.mem_of_getElem? (i := 384) (by decide +kernel), by decide +kernel⟩) (show Cond.instanceMethod ⟨RX3, _, _⟩ ∈ TB from im_X3_latest) (show Cond.code ⟨RX3, _, _⟩ _ _ _ ∈ TB from cod_X3_latest) (by decide +kernel) hlen hst hrm hd1 (by decide) hd kk
theorem c_X9_145_0 {b : Nat} {fs : List Value} {kc' ks' d' : Nat} {Q1 : Option Value → AH → Prop} {As rest st0 : List Value} (hM : CM E yX3_latest cX3_latest 1 (some .int) d' kc' ks' (.ref b :: As) h Q1) (hq : h b = some (ob 0 fs)) (hlen : As.length = 0) (hst : st0 = As.reverse ++ .ref b :: rest) (hrm : (rest.map fun v => v.category).sum ≤ 8) (hd1 : d' + 1 ≤ d) (hd : decode cc pc = .ok (.invokevirtual 145, 3)) (kk : ∀ r h', Q1 r h' → Ev E RX9 cc nL ret mn Q d kc ks (pc + 3) L (r.toList ++ rest) h') : Ev E RX9 cc nL ret mn Q d (kc + kc') (ks + ks') pc L st0 h := ev_callU (x := ⟨"NorthCurtains$Glow", "latest", "()I"⟩) (owner := RX3) hM rfl hq cod_X3_latest ini_X3 (show Cond.methodLink RX9 145 ⟨"NorthCurtains$Glow", "latest", "()I"⟩ ∈ TB from List.mem_filter.mpr ⟨List.mem_of_getElem? (i := 382) (by decide +kernel), by decide +kernel⟩) (show Cond.sameMethod _ _ _ _ ∈ TB from List.mem_filter.mpr ⟨List.mem_of_getElem? (i := 385) (by decide +kernel), by decide +kernel⟩) im_X3_latest (show Cond.selects RX0 ⟨"NorthCurtains$Glow", "latest", "()I"⟩ yX3_latest ∈ TB from List.mem_filter.mpr ⟨List.mem_of_getElem? (i := 386) (by decide +kernel), by decide +kernel⟩) (show Cond.instanceMethod ⟨RX3, _, _⟩ ∈ TB from im_X3_latest) (show Cond.code ⟨RX3, _, _⟩ _ _ _ ∈ TB from cod_X3_latest) (by decide +kernel) hlen hst hrm hd1 (by decide) hd kk
theorem c_X9_145_4 {b : Nat} {fs : List Value} {kc' ks' d' : Nat} {Q1 : Option Value → AH → Prop} {As rest st0 : List Value} (hM : CM E yX3_latest cX3_latest 1 (some .int) d' kc' ks' (.ref b :: As) h Q1) (hq : h b = some (ob 4 fs)) (hlen : As.length = 0) (hst : st0 = As.reverse ++ .ref b :: rest) (hrm : (rest.map fun v => v.category).sum ≤ 8) (hd1 : d' + 1 ≤ d) (hd : decode cc pc = .ok (.invokevirtual 145, 3)) (kk : ∀ r h', Q1 r h' → Ev E RX9 cc nL ret mn Q d kc ks (pc + 3) L (r.toList ++ rest) h') : Ev E RX9 cc nL ret mn Q d (kc + kc') (ks + ks') pc L st0 h := ev_callU (x := ⟨"NorthCurtains$Glow", "latest", "()I"⟩) (owner := RX3) hM rfl hq cod_X3_latest ini_X3 (show Cond.methodLink RX9 145 ⟨"NorthCurtains$Glow", "latest", "()I"⟩ ∈ TB from List.mem_filter.mpr ⟨List.mem_of_getElem? (i := 382) (by decide +kernel), by decide +kernel⟩) (show Cond.sameMethod _ _ _ _ ∈ TB from List.mem_filter.mpr ⟨List.mem_of_getElem? (i := 385) (by decide +kernel), by decide +kernel⟩) im_X3_latest (show Cond.selects RX4 ⟨"NorthCurtains$Glow", "latest", "()I"⟩ yX3_latest ∈ TB from List.mem_filter.mpr ⟨List.mem_of_getElem? (i := 387) (by decide +kernel), by decide +kernel⟩) (show Cond.instanceMethod ⟨RX3, _, _⟩ ∈ TB from im_X3_latest) (show Cond.code ⟨RX3, _, _⟩ _ _ _ ∈ TB from cod_X3_latest) (by decide +kernel) hlen hst hrm hd1 (by decide) hd kk
theorem c_X9_169_0 {b : Nat} {fs : List Value} {kc' ks' d' : Nat} {Q1 : Option Value → AH → Prop} {As rest st0 : List Value} (hM : CM E yX0_mayBeAtOnceWith cX0_mayBeAtOnceWith 2 (some .boolean) d' kc' ks' (.ref b :: As) h Q1) (hq : h b = some (ob 0 fs)) (hlen : As.length = 1) (hst : st0 = As.reverse ++ .ref b :: rest) (hrm : (rest.map fun v => v.category).sum ≤ 8) (hd1 : d' + 1 ≤ d) (hd : decode cc pc = .ok (.invokevirtual 169, 3)) (kk : ∀ r h', Q1 r h' → Ev E RX9 cc nL ret mn Q d kc ks (pc + 3) L (r.toList ++ rest) h') : Ev E RX9 cc nL ret mn Q d (kc + kc') (ks + ks') pc L st0 h := ev_callU (x := ⟨"NorthCurtains$Arc", "mayBeAtOnceWith", "(LNorthCurtains$Arc;)Z"⟩) (owner := RX0) hM rfl hq cod_X0_mayBeAtOnceWith ini_X0 (show Cond.methodLink RX9 169 ⟨"NorthCurtains$Arc", "mayBeAtOnceWith", "(LNorthCurtains$Arc;)Z"⟩ ∈ TB from List.mem_filter.mpr ⟨List.mem_of_getElem? (i := 455) (by decide +kernel), by decide +kernel⟩) (show Cond.sameMethod _ _ _ _ ∈ TB from List.mem_filter.mpr ⟨List.mem_of_getElem? (i := 458) (by decide +kernel), by decide +kernel⟩) im_X0_mayBeAtOnceWith (show Cond.selects RX0 ⟨"NorthCurtains$Arc", "mayBeAtOnceWith", "(LNorthCurtains$Arc;)Z"⟩ yX0_mayBeAtOnceWith ∈ TB from List.mem_filter.mpr ⟨List.mem_of_getElem? (i := 457) (by decide +kernel), by decide +kernel⟩) (show Cond.instanceMethod ⟨RX0, _, _⟩ ∈ TB from im_X0_mayBeAtOnceWith) (show Cond.code ⟨RX0, _, _⟩ _ _ _ ∈ TB from cod_X0_mayBeAtOnceWith) (by decide +kernel) hlen hst hrm hd1 (by decide) hd kk
theorem c_X9_169_4 {b : Nat} {fs : List Value} {kc' ks' d' : Nat} {Q1 : Option Value → AH → Prop} {As rest st0 : List Value} (hM : CM E yX0_mayBeAtOnceWith cX0_mayBeAtOnceWith 2 (some .boolean) d' kc' ks' (.ref b :: As) h Q1) (hq : h b = some (ob 4 fs)) (hlen : As.length = 1) (hst : st0 = As.reverse ++ .ref b :: rest) (hrm : (rest.map fun v => v.category).sum ≤ 8) (hd1 : d' + 1 ≤ d) (hd : decode cc pc = .ok (.invokevirtual 169, 3)) (kk : ∀ r h', Q1 r h' → Ev E RX9 cc nL ret mn Q d kc ks (pc + 3) L (r.toList ++ rest) h') : Ev E RX9 cc nL ret mn Q d (kc + kc') (ks + ks') pc L st0 h := ev_callU (x := ⟨"NorthCurtains$Arc", "mayBeAtOnceWith", "(LNorthCurtains$Arc;)Z"⟩) (owner := RX0) hM rfl hq cod_X0_mayBeAtOnceWith ini_X0 (show Cond.methodLink RX9 169 ⟨"NorthCurtains$Arc", "mayBeAtOnceWith", "(LNorthCurtains$Arc;)Z"⟩ ∈ TB from List.mem_filter.mpr ⟨List.mem_of_getElem? (i := 455) (by decide +kernel), by decide +kernel⟩) (show Cond.sameMethod _ _ _ _ ∈ TB from List.mem_filter.mpr ⟨List.mem_of_getElem? (i := 458) (by decide +kernel), by decide +kernel⟩) im_X0_mayBeAtOnceWith (show Cond.selects RX4 ⟨"NorthCurtains$Arc", "mayBeAtOnceWith", "(LNorthCurtains$Arc;)Z"⟩ yX0_mayBeAtOnceWith ∈ TB from List.mem_filter.mpr ⟨List.mem_of_getElem? (i := 459) (by decide +kernel), by decide +kernel⟩) (show Cond.instanceMethod ⟨RX0, _, _⟩ ∈ TB from im_X0_mayBeAtOnceWith) (show Cond.code ⟨RX0, _, _⟩ _ _ _ ∈ TB from cod_X0_mayBeAtOnceWith) (by decide +kernel) hlen hst hrm hd1 (by decide) hd kk
theorem c_X0_16_0 {b : Nat} {fs : List Value} {kc' ks' d' : Nat} {Q1 : Option Value → AH → Prop} {As rest st0 : List Value} (hM : CM E yX3_earliest cX3_earliest 1 (some .int) d' kc' ks' (.ref b :: As) h Q1) (hq : h b = some (ob 0 fs)) (hlen : As.length = 0) (hst : st0 = As.reverse ++ .ref b :: rest) (hrm : (rest.map fun v => v.category).sum ≤ 8) (hd1 : d' + 1 ≤ d) (hd : decode cc pc = .ok (.invokevirtual 16, 3)) (kk : ∀ r h', Q1 r h' → Ev E RX0 cc nL ret mn Q d kc ks (pc + 3) L (r.toList ++ rest) h') : Ev E RX0 cc nL ret mn Q d (kc + kc') (ks + ks') pc L st0 h := ev_callU (x := ⟨"NorthCurtains$Arc", "earliest", "()I"⟩) (owner := RX3) hM rfl hq cod_X3_earliest ini_X3 (show Cond.methodLink RX0 16 ⟨"NorthCurtains$Arc", "earliest", "()I"⟩ ∈ TB from List.mem_filter.mpr ⟨List.mem_of_getElem? (i := 461) (by decide +kernel), by decide +kernel⟩) (show Cond.sameMethod _ _ _ _ ∈ TB from List.mem_filter.mpr ⟨List.mem_of_getElem? (i := 462) (by decide +kernel), by decide +kernel⟩) im_X3_earliest (show Cond.selects RX0 ⟨"NorthCurtains$Arc", "earliest", "()I"⟩ yX3_earliest ∈ TB from List.mem_filter.mpr ⟨List.mem_of_getElem? (i := 464) (by decide +kernel), by decide +kernel⟩) (show Cond.instanceMethod ⟨RX3, _, _⟩ ∈ TB from im_X3_earliest) (show Cond.code ⟨RX3, _, _⟩ _ _ _ ∈ TB from cod_X3_earliest) (by decide +kernel) hlen hst hrm hd1 (by decide) hd kk
theorem c_X0_16_4 {b : Nat} {fs : List Value} {kc' ks' d' : Nat} {Q1 : Option Value → AH → Prop} {As rest st0 : List Value} (hM : CM E yX3_earliest cX3_earliest 1 (some .int) d' kc' ks' (.ref b :: As) h Q1) (hq : h b = some (ob 4 fs)) (hlen : As.length = 0) (hst : st0 = As.reverse ++ .ref b :: rest) (hrm : (rest.map fun v => v.category).sum ≤ 8) (hd1 : d' + 1 ≤ d) (hd : decode cc pc = .ok (.invokevirtual 16, 3)) (kk : ∀ r h', Q1 r h' → Ev E RX0 cc nL ret mn Q d kc ks (pc + 3) L (r.toList ++ rest) h') : Ev E RX0 cc nL ret mn Q d (kc + kc') (ks + ks') pc L st0 h := ev_callU (x := ⟨"NorthCurtains$Arc", "earliest", "()I"⟩) (owner := RX3) hM rfl hq cod_X3_earliest ini_X3 (show Cond.methodLink RX0 16 ⟨"NorthCurtains$Arc", "earliest", "()I"⟩ ∈ TB from List.mem_filter.mpr ⟨List.mem_of_getElem? (i := 461) (by decide +kernel), by decide +kernel⟩) (show Cond.sameMethod _ _ _ _ ∈ TB from List.mem_filter.mpr ⟨List.mem_of_getElem? (i := 462) (by decide +kernel), by decide +kernel⟩) im_X3_earliest (show Cond.selects RX4 ⟨"NorthCurtains$Arc", "earliest", "()I"⟩ yX3_earliest ∈ TB from List.mem_filter.mpr ⟨List.mem_of_getElem? (i := 465) (by decide +kernel), by decide +kernel⟩) (show Cond.instanceMethod ⟨RX3, _, _⟩ ∈ TB from im_X3_earliest) (show Cond.code ⟨RX3, _, _⟩ _ _ _ ∈ TB from cod_X3_earliest) (by decide +kernel) hlen hst hrm hd1 (by decide) hd kk
theorem c_X0_20_0 {b : Nat} {fs : List Value} {kc' ks' d' : Nat} {Q1 : Option Value → AH → Prop} {As rest st0 : List Value} (hM : CM E yX3_latest cX3_latest 1 (some .int) d' kc' ks' (.ref b :: As) h Q1) (hq : h b = some (ob 0 fs)) (hlen : As.length = 0) (hst : st0 = As.reverse ++ .ref b :: rest) (hrm : (rest.map fun v => v.category).sum ≤ 8) (hd1 : d' + 1 ≤ d) (hd : decode cc pc = .ok (.invokevirtual 20, 3)) (kk : ∀ r h', Q1 r h' → Ev E RX0 cc nL ret mn Q d kc ks (pc + 3) L (r.toList ++ rest) h') : Ev E RX0 cc nL ret mn Q d (kc + kc') (ks + ks') pc L st0 h := ev_callU (x := ⟨"NorthCurtains$Arc", "latest", "()I"⟩) (owner := RX3) hM rfl hq cod_X3_latest ini_X3 (show Cond.methodLink RX0 20 ⟨"NorthCurtains$Arc", "latest", "()I"⟩ ∈ TB from List.mem_filter.mpr ⟨List.mem_of_getElem? (i := 466) (by decide +kernel), by decide +kernel⟩) (show Cond.sameMethod _ _ _ _ ∈ TB from List.mem_filter.mpr ⟨List.mem_of_getElem? (i := 467) (by decide +kernel), by decide +kernel⟩) im_X3_latest (show Cond.selects RX0 ⟨"NorthCurtains$Arc", "latest", "()I"⟩ yX3_latest ∈ TB from List.mem_filter.mpr ⟨List.mem_of_getElem? (i := 469) (by decide +kernel), by decide +kernel⟩) (show Cond.instanceMethod ⟨RX3, _, _⟩ ∈ TB from im_X3_latest) (show Cond.code ⟨RX3, _, _⟩ _ _ _ ∈ TB from cod_X3_latest) (by decide +kernel) hlen hst hrm hd1 (by decide) hd kk
theorem c_X0_20_4 {b : Nat} {fs : List Value} {kc' ks' d' : Nat} {Q1 : Option Value → AH → Prop} {As rest st0 : List Value} (hM : CM E yX3_latest cX3_latest 1 (some .int) d' kc' ks' (.ref b :: As) h Q1) (hq : h b = some (ob 4 fs)) (hlen : As.length = 0) (hst : st0 = As.reverse ++ .ref b :: rest) (hrm : (rest.map fun v => v.category).sum ≤ 8) (hd1 : d' + 1 ≤ d) (hd : decode cc pc = .ok (.invokevirtual 20, 3)) (kk : ∀ r h', Q1 r h' → Ev E RX0 cc nL ret mn Q d kc ks (pc + 3) L (r.toList ++ rest) h') : Ev E RX0 cc nL ret mn Q d (kc + kc') (ks + ks') pc L st0 h := ev_callU (x := ⟨"NorthCurtains$Arc", "latest", "()I"⟩) (owner := RX3) hM rfl hq cod_X3_latest ini_X3 (show Cond.methodLink RX0 20 ⟨"NorthCurtains$Arc", "latest", "()I"⟩ ∈ TB from List.mem_filter.mpr ⟨List.mem_of_getElem? (i := 466) (by decide +kernel), by decide +kernel⟩) (show Cond.sameMethod _ _ _ _ ∈ TB from List.mem_filter.mpr ⟨List.mem_of_getElem? (i := 467) (by decide +kernel), by decide +kernel⟩) im_X3_latest (show Cond.selects RX4 ⟨"NorthCurtains$Arc", "latest", "()I"⟩ yX3_latest ∈ TB from List.mem_filter.mpr ⟨List.mem_of_getElem? (i := 470) (by decide +kernel), by decide +kernel⟩) (show Cond.instanceMethod ⟨RX3, _, _⟩ ∈ TB from im_X3_latest) (show Cond.code ⟨RX3, _, _⟩ _ _ _ ∈ TB from cod_X3_latest) (by decide +kernel) hlen hst hrm hd1 (by decide) hd kk
theorem c_X6_77_0 {b : Nat} {fs : List Value} {kc' ks' d' : Nat} {Q1 : Option Value → AH → Prop} {As rest st0 : List Value} (hM : CM E yX0_mayBeAtOnceWith cX0_mayBeAtOnceWith 2 (some .boolean) d' kc' ks' (.ref b :: As) h Q1) (hq : h b = some (ob 0 fs)) (hlen : As.length = 1) (hst : st0 = As.reverse ++ .ref b :: rest) (hrm : (rest.map fun v => v.category).sum ≤ 8) (hd1 : d' + 1 ≤ d) (hd : decode cc pc = .ok (.invokevirtual 77, 3)) (kk : ∀ r h', Q1 r h' → Ev E RX6 cc nL ret mn Q d kc ks (pc + 3) L (r.toList ++ rest) h') : Ev E RX6 cc nL ret mn Q d (kc + kc') (ks + ks') pc L st0 h := ev_callU (x := ⟨"NorthCurtains$Arc", "mayBeAtOnceWith", "(LNorthCurtains$Arc;)Z"⟩) (owner := RX0) hM rfl hq cod_X0_mayBeAtOnceWith ini_X0 (show Cond.methodLink RX6 77 ⟨"NorthCurtains$Arc", "mayBeAtOnceWith", "(LNorthCurtains$Arc;)Z"⟩ ∈ TB from List.mem_filter.mpr ⟨List.mem_of_getElem? (i := 497) (by decide +kernel), by decide +kernel⟩) (show Cond.sameMethod _ _ _ _ ∈ TB from List.mem_filter.mpr ⟨List.mem_of_getElem? (i := 458) (by decide +kernel), by decide +kernel⟩) im_X0_mayBeAtOnceWith (show Cond.selects RX0 ⟨"NorthCurtains$Arc", "mayBeAtOnceWith", "(LNorthCurtains$Arc;)Z"⟩ yX0_mayBeAtOnceWith ∈ TB from List.mem_filter.mpr ⟨List.mem_of_getElem? (i := 457) (by decide +kernel), by decide +kernel⟩) (show Cond.instanceMethod ⟨RX0, _, _⟩ ∈ TB from im_X0_mayBeAtOnceWith) (show Cond.code ⟨RX0, _, _⟩ _ _ _ ∈ TB from cod_X0_mayBeAtOnceWith) (by decide +kernel) hlen hst hrm hd1 (by decide) hd kk
theorem c_X6_77_4 {b : Nat} {fs : List Value} {kc' ks' d' : Nat} {Q1 : Option Value → AH → Prop} {As rest st0 : List Value} (hM : CM E yX0_mayBeAtOnceWith cX0_mayBeAtOnceWith 2 (some .boolean) d' kc' ks' (.ref b :: As) h Q1) (hq : h b = some (ob 4 fs)) (hlen : As.length = 1) (hst : st0 = As.reverse ++ .ref b :: rest) (hrm : (rest.map fun v => v.category).sum ≤ 8) (hd1 : d' + 1 ≤ d) (hd : decode cc pc = .ok (.invokevirtual 77, 3)) (kk : ∀ r h', Q1 r h' → Ev E RX6 cc nL ret mn Q d kc ks (pc + 3) L (r.toList ++ rest) h') : Ev E RX6 cc nL ret mn Q d (kc + kc') (ks + ks') pc L st0 h := ev_callU (x := ⟨"NorthCurtains$Arc", "mayBeAtOnceWith", "(LNorthCurtains$Arc;)Z"⟩) (owner := RX0) hM rfl hq cod_X0_mayBeAtOnceWith ini_X0 (show Cond.methodLink RX6 77 ⟨"NorthCurtains$Arc", "mayBeAtOnceWith", "(LNorthCurtains$Arc;)Z"⟩ ∈ TB from List.mem_filter.mpr ⟨List.mem_of_getElem? (i := 497) (by decide +kernel), by decide +kernel⟩) (show Cond.sameMethod _ _ _ _ ∈ TB from List.mem_filter.mpr ⟨List.mem_of_getElem? (i := 458) (by decide +kernel), by decide +kernel⟩) im_X0_mayBeAtOnceWith (show Cond.selects RX4 ⟨"NorthCurtains$Arc", "mayBeAtOnceWith", "(LNorthCurtains$Arc;)Z"⟩ yX0_mayBeAtOnceWith ∈ TB from List.mem_filter.mpr ⟨List.mem_of_getElem? (i := 459) (by decide +kernel), by decide +kernel⟩) (show Cond.instanceMethod ⟨RX0, _, _⟩ ∈ TB from im_X0_mayBeAtOnceWith) (show Cond.code ⟨RX0, _, _⟩ _ _ _ ∈ TB from cod_X0_mayBeAtOnceWith) (by decide +kernel) hlen hst hrm hd1 (by decide) hd kk
theorem c_X2_33_0 {b : Nat} {fs : List Value} {kc' ks' d' : Nat} {Q1 : Option Value → AH → Prop} {As rest st0 : List Value} (hM : CM E yX3_earliest cX3_earliest 1 (some .int) d' kc' ks' (.ref b :: As) h Q1) (hq : h b = some (ob 0 fs)) (hlen : As.length = 0) (hst : st0 = As.reverse ++ .ref b :: rest) (hrm : (rest.map fun v => v.category).sum ≤ 8) (hd1 : d' + 1 ≤ d) (hd : decode cc pc = .ok (.invokevirtual 33, 3)) (kk : ∀ r h', Q1 r h' → Ev E RX2 cc nL ret mn Q d kc ks (pc + 3) L (r.toList ++ rest) h') : Ev E RX2 cc nL ret mn Q d (kc + kc') (ks + ks') pc L st0 h := ev_callU (x := ⟨"NorthCurtains$Arc", "earliest", "()I"⟩) (owner := RX3) hM rfl hq cod_X3_earliest ini_X3 (show Cond.methodLink RX2 33 ⟨"NorthCurtains$Arc", "earliest", "()I"⟩ ∈ TB from List.mem_filter.mpr ⟨List.mem_of_getElem? (i := 516) (by decide +kernel), by decide +kernel⟩) (show Cond.sameMethod _ _ _ _ ∈ TB from List.mem_filter.mpr ⟨List.mem_of_getElem? (i := 462) (by decide +kernel), by decide +kernel⟩) im_X3_earliest (show Cond.selects RX0 ⟨"NorthCurtains$Arc", "earliest", "()I"⟩ yX3_earliest ∈ TB from List.mem_filter.mpr ⟨List.mem_of_getElem? (i := 464) (by decide +kernel), by decide +kernel⟩) (show Cond.instanceMethod ⟨RX3, _, _⟩ ∈ TB from im_X3_earliest) (show Cond.code ⟨RX3, _, _⟩ _ _ _ ∈ TB from cod_X3_earliest) (by decide +kernel) hlen hst hrm hd1 (by decide) hd kk
theorem c_X2_33_4 {b : Nat} {fs : List Value} {kc' ks' d' : Nat} {Q1 : Option Value → AH → Prop} {As rest st0 : List Value} (hM : CM E yX3_earliest cX3_earliest 1 (some .int) d' kc' ks' (.ref b :: As) h Q1) (hq : h b = some (ob 4 fs)) (hlen : As.length = 0) (hst : st0 = As.reverse ++ .ref b :: rest) (hrm : (rest.map fun v => v.category).sum ≤ 8) (hd1 : d' + 1 ≤ d) (hd : decode cc pc = .ok (.invokevirtual 33, 3)) (kk : ∀ r h', Q1 r h' → Ev E RX2 cc nL ret mn Q d kc ks (pc + 3) L (r.toList ++ rest) h') : Ev E RX2 cc nL ret mn Q d (kc + kc') (ks + ks') pc L st0 h := ev_callU (x := ⟨"NorthCurtains$Arc", "earliest", "()I"⟩) (owner := RX3) hM rfl hq cod_X3_earliest ini_X3 (show Cond.methodLink RX2 33 ⟨"NorthCurtains$Arc", "earliest", "()I"⟩ ∈ TB from List.mem_filter.mpr ⟨List.mem_of_getElem? (i := 516) (by decide +kernel), by decide +kernel⟩) (show Cond.sameMethod _ _ _ _ ∈ TB from List.mem_filter.mpr ⟨List.mem_of_getElem? (i := 462) (by decide +kernel), by decide +kernel⟩) im_X3_earliest (show Cond.selects RX4 ⟨"NorthCurtains$Arc", "earliest", "()I"⟩ yX3_earliest ∈ TB from List.mem_filter.mpr ⟨List.mem_of_getElem? (i := 465) (by decide +kernel), by decide +kernel⟩) (show Cond.instanceMethod ⟨RX3, _, _⟩ ∈ TB from im_X3_earliest) (show Cond.code ⟨RX3, _, _⟩ _ _ _ ∈ TB from cod_X3_earliest) (by decide +kernel) hlen hst hrm hd1 (by decide) hd kk
theorem c_X2_48_0 {b : Nat} {fs : List Value} {kc' ks' d' : Nat} {Q1 : Option Value → AH → Prop} {As rest st0 : List Value} (hM : CM E yX3_latest cX3_latest 1 (some .int) d' kc' ks' (.ref b :: As) h Q1) (hq : h b = some (ob 0 fs)) (hlen : As.length = 0) (hst : st0 = As.reverse ++ .ref b :: rest) (hrm : (rest.map fun v => v.category).sum ≤ 8) (hd1 : d' + 1 ≤ d) (hd : decode cc pc = .ok (.invokevirtual 48, 3)) (kk : ∀ r h', Q1 r h' → Ev E RX2 cc nL ret mn Q d kc ks (pc + 3) L (r.toList ++ rest) h') : Ev E RX2 cc nL ret mn Q d (kc + kc') (ks + ks') pc L st0 h := ev_callU (x := ⟨"NorthCurtains$Arc", "latest", "()I"⟩) (owner := RX3) hM rfl hq cod_X3_latest ini_X3 (show Cond.methodLink RX2 48 ⟨"NorthCurtains$Arc", "latest", "()I"⟩ ∈ TB from List.mem_filter.mpr ⟨List.mem_of_getElem? (i := 518) (by decide +kernel), by decide +kernel⟩) (show Cond.sameMethod _ _ _ _ ∈ TB from List.mem_filter.mpr ⟨List.mem_of_getElem? (i := 467) (by decide +kernel), by decide +kernel⟩) im_X3_latest (show Cond.selects RX0 ⟨"NorthCurtains$Arc", "latest", "()I"⟩ yX3_latest ∈ TB from List.mem_filter.mpr ⟨List.mem_of_getElem? (i := 469) (by decide +kernel), by decide +kernel⟩) (show Cond.instanceMethod ⟨RX3, _, _⟩ ∈ TB from im_X3_latest) (show Cond.code ⟨RX3, _, _⟩ _ _ _ ∈ TB from cod_X3_latest) (by decide +kernel) hlen hst hrm hd1 (by decide) hd kk
theorem c_X2_48_4 {b : Nat} {fs : List Value} {kc' ks' d' : Nat} {Q1 : Option Value → AH → Prop} {As rest st0 : List Value} (hM : CM E yX3_latest cX3_latest 1 (some .int) d' kc' ks' (.ref b :: As) h Q1) (hq : h b = some (ob 4 fs)) (hlen : As.length = 0) (hst : st0 = As.reverse ++ .ref b :: rest) (hrm : (rest.map fun v => v.category).sum ≤ 8) (hd1 : d' + 1 ≤ d) (hd : decode cc pc = .ok (.invokevirtual 48, 3)) (kk : ∀ r h', Q1 r h' → Ev E RX2 cc nL ret mn Q d kc ks (pc + 3) L (r.toList ++ rest) h') : Ev E RX2 cc nL ret mn Q d (kc + kc') (ks + ks') pc L st0 h := ev_callU (x := ⟨"NorthCurtains$Arc", "latest", "()I"⟩) (owner := RX3) hM rfl hq cod_X3_latest ini_X3 (show Cond.methodLink RX2 48 ⟨"NorthCurtains$Arc", "latest", "()I"⟩ ∈ TB from List.mem_filter.mpr ⟨List.mem_of_getElem? (i := 518) (by decide +kernel), by decide +kernel⟩) (show Cond.sameMethod _ _ _ _ ∈ TB from List.mem_filter.mpr ⟨List.mem_of_getElem? (i := 467) (by decide +kernel), by decide +kernel⟩) im_X3_latest (show Cond.selects RX4 ⟨"NorthCurtains$Arc", "latest", "()I"⟩ yX3_latest ∈ TB from List.mem_filter.mpr ⟨List.mem_of_getElem? (i := 470) (by decide +kernel), by decide +kernel⟩) (show Cond.instanceMethod ⟨RX3, _, _⟩ ∈ TB from im_X3_latest) (show Cond.code ⟨RX3, _, _⟩ _ _ _ ∈ TB from cod_X3_latest) (by decide +kernel) hlen hst hrm hd1 (by decide) hd kk
end LINKS
end
