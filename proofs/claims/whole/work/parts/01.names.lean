-- ===== PART A: goes FIRST, ahead of the names: the tables' words, and 'selects' of the private methods out of them =====
/-- a private method of a class that the tables say can be made, by its rows of tables_1 -/
def lw_okq (q : MethodName × Nat) : Prop := (q.1.cls ≠ "java/lang/invoke/MethodHandle" ∧ q.1.cls ≠ "java/lang/invoke/VarHandle") ∧ Cond.instantiable q.1.cls q.2 ∈ tables_1 ∧ Cond.privateMethod q.1 ∈ tables_1 ∧ Cond.instanceMethod q.1 ∈ tables_1
theorem lw_p0 : lw_okq (⟨"NorthCurtains", "stationAt", "(I)LNorthCurtains$Station;"⟩, 17) := ⟨⟨by decide +kernel, by decide +kernel⟩, List.mem_of_getElem? (i := 14) (by decide +kernel), List.mem_of_getElem? (i := 212) (by decide +kernel), List.mem_of_getElem? (i := 213) (by decide +kernel)⟩
theorem lw_p1 : lw_okq (⟨"NorthCurtains", "keep", "(LNorthCurtains$Glow;)I"⟩, 17) := ⟨⟨by decide +kernel, by decide +kernel⟩, List.mem_of_getElem? (i := 14) (by decide +kernel), List.mem_of_getElem? (i := 259) (by decide +kernel), List.mem_of_getElem? (i := 260) (by decide +kernel)⟩
theorem lw_p2 : lw_okq (⟨"NorthCurtains", "isSeenNight", "(I)Z"⟩, 17) := ⟨⟨by decide +kernel, by decide +kernel⟩, List.mem_of_getElem? (i := 14) (by decide +kernel), List.mem_of_getElem? (i := 263) (by decide +kernel), List.mem_of_getElem? (i := 264) (by decide +kernel)⟩
theorem lw_p3 : lw_okq (⟨"NorthCurtains", "sightingAt", "(I)LNorthCurtains$Glow;"⟩, 17) := ⟨⟨by decide +kernel, by decide +kernel⟩, List.mem_of_getElem? (i := 14) (by decide +kernel), List.mem_of_getElem? (i := 337) (by decide +kernel), List.mem_of_getElem? (i := 338) (by decide +kernel)⟩
theorem lw_p4 : lw_okq (⟨"NorthCurtains$Crossing", "findHeights", "(LNorthCurtains$Arc;LNorthCurtains$Arc;I)Z"⟩, 1) := ⟨⟨by decide +kernel, by decide +kernel⟩, List.mem_of_getElem? (i := 30) (by decide +kernel), List.mem_of_getElem? (i := 400) (by decide +kernel), List.mem_of_getElem? (i := 401) (by decide +kernel)⟩
theorem lw_p5 : lw_okq (⟨"NorthCurtains", "lookAt", "(I)I"⟩, 17) := ⟨⟨by decide +kernel, by decide +kernel⟩, List.mem_of_getElem? (i := 14) (by decide +kernel), List.mem_of_getElem? (i := 440) (by decide +kernel), List.mem_of_getElem? (i := 441) (by decide +kernel)⟩
theorem lw_p6 : lw_okq (⟨"NorthCurtains$Sky", "findMeetings", "(LNorthCurtains$Crossing;I)V"⟩, 9) := ⟨⟨by decide +kernel, by decide +kernel⟩, List.mem_of_getElem? (i := 43) (by decide +kernel), List.mem_of_getElem? (i := 452) (by decide +kernel), List.mem_of_getElem? (i := 453) (by decide +kernel)⟩
theorem lw_p7 : lw_okq (⟨"NorthCurtains$Sky", "partFrom", "(III)Z"⟩, 9) := ⟨⟨by decide +kernel, by decide +kernel⟩, List.mem_of_getElem? (i := 43) (by decide +kernel), List.mem_of_getElem? (i := 458) (by decide +kernel), List.mem_of_getElem? (i := 459) (by decide +kernel)⟩
theorem lw_p8 : lw_okq (⟨"NorthCurtains$Sky", "tellCurtain", "(ILNorthCurtains$Crossing;I)V"⟩, 9) := ⟨⟨by decide +kernel, by decide +kernel⟩, List.mem_of_getElem? (i := 43) (by decide +kernel), List.mem_of_getElem? (i := 463) (by decide +kernel), List.mem_of_getElem? (i := 464) (by decide +kernel)⟩
theorem lw_p9 : lw_okq (⟨"NorthCurtains$Sky", "findFollowers", "(I)I"⟩, 9) := ⟨⟨by decide +kernel, by decide +kernel⟩, List.mem_of_getElem? (i := 43) (by decide +kernel), List.mem_of_getElem? (i := 523) (by decide +kernel), List.mem_of_getElem? (i := 524) (by decide +kernel)⟩
theorem lw_p10 : lw_okq (⟨"NorthCurtains$Sky", "mostLinks", "(II)I"⟩, 9) := ⟨⟨by decide +kernel, by decide +kernel⟩, List.mem_of_getElem? (i := 43) (by decide +kernel), List.mem_of_getElem? (i := 536) (by decide +kernel), List.mem_of_getElem? (i := 537) (by decide +kernel)⟩
theorem lw_p11 : lw_okq (⟨"NorthCurtains$Sky", "firstFollower", "(III)I"⟩, 9) := ⟨⟨by decide +kernel, by decide +kernel⟩, List.mem_of_getElem? (i := 43) (by decide +kernel), List.mem_of_getElem? (i := 540) (by decide +kernel), List.mem_of_getElem? (i := 541) (by decide +kernel)⟩
theorem lw_p12 : lw_okq (⟨"NorthCurtains", "watchOf", "(LNorthCurtains$Station;I)LNorthCurtains$Watch;"⟩, 17) := ⟨⟨by decide +kernel, by decide +kernel⟩, List.mem_of_getElem? (i := 14) (by decide +kernel), List.mem_of_getElem? (i := 561) (by decide +kernel), List.mem_of_getElem? (i := 562) (by decide +kernel)⟩
theorem lw_p13 : lw_okq (⟨"NorthCurtains", "saw", "(LNorthCurtains$Station;I)Z"⟩, 17) := ⟨⟨by decide +kernel, by decide +kernel⟩, List.mem_of_getElem? (i := 14) (by decide +kernel), List.mem_of_getElem? (i := 591) (by decide +kernel), List.mem_of_getElem? (i := 592) (by decide +kernel)⟩
theorem lw_p14 : lw_okq (⟨"NorthCurtains", "roundOf", "(I)I"⟩, 17) := ⟨⟨by decide +kernel, by decide +kernel⟩, List.mem_of_getElem? (i := 14) (by decide +kernel), List.mem_of_getElem? (i := 603) (by decide +kernel), List.mem_of_getElem? (i := 604) (by decide +kernel)⟩
theorem lw_p15 : lw_okq (⟨"NorthCurtains", "areShared", "(II)Z"⟩, 17) := ⟨⟨by decide +kernel, by decide +kernel⟩, List.mem_of_getElem? (i := 14) (by decide +kernel), List.mem_of_getElem? (i := 615) (by decide +kernel), List.mem_of_getElem? (i := 616) (by decide +kernel)⟩
def lw_privs_1 : List (MethodName × Nat) := [(⟨"NorthCurtains", "stationAt", "(I)LNorthCurtains$Station;"⟩, 17), (⟨"NorthCurtains", "keep", "(LNorthCurtains$Glow;)I"⟩, 17), (⟨"NorthCurtains", "isSeenNight", "(I)Z"⟩, 17), (⟨"NorthCurtains", "sightingAt", "(I)LNorthCurtains$Glow;"⟩, 17), (⟨"NorthCurtains$Crossing", "findHeights", "(LNorthCurtains$Arc;LNorthCurtains$Arc;I)Z"⟩, 1), (⟨"NorthCurtains", "lookAt", "(I)I"⟩, 17), (⟨"NorthCurtains$Sky", "findMeetings", "(LNorthCurtains$Crossing;I)V"⟩, 9), (⟨"NorthCurtains$Sky", "partFrom", "(III)Z"⟩, 9), (⟨"NorthCurtains$Sky", "tellCurtain", "(ILNorthCurtains$Crossing;I)V"⟩, 9), (⟨"NorthCurtains$Sky", "findFollowers", "(I)I"⟩, 9), (⟨"NorthCurtains$Sky", "mostLinks", "(II)I"⟩, 9), (⟨"NorthCurtains$Sky", "firstFollower", "(III)I"⟩, 9), (⟨"NorthCurtains", "watchOf", "(LNorthCurtains$Station;I)LNorthCurtains$Watch;"⟩, 17), (⟨"NorthCurtains", "saw", "(LNorthCurtains$Station;I)Z"⟩, 17), (⟨"NorthCurtains", "roundOf", "(I)I"⟩, 17), (⟨"NorthCurtains", "areShared", "(II)Z"⟩, 17)]
theorem lw_r1 : ∀ q ∈ lw_privs_1, lw_okq q := List.forall_mem_cons.mpr ⟨lw_p0, List.forall_mem_cons.mpr ⟨lw_p1, List.forall_mem_cons.mpr ⟨lw_p2, List.forall_mem_cons.mpr ⟨lw_p3, List.forall_mem_cons.mpr ⟨lw_p4, List.forall_mem_cons.mpr ⟨lw_p5, List.forall_mem_cons.mpr ⟨lw_p6, List.forall_mem_cons.mpr ⟨lw_p7, List.forall_mem_cons.mpr ⟨lw_p8, List.forall_mem_cons.mpr ⟨lw_p9, List.forall_mem_cons.mpr ⟨lw_p10, List.forall_mem_cons.mpr ⟨lw_p11, List.forall_mem_cons.mpr ⟨lw_p12, List.forall_mem_cons.mpr ⟨lw_p13, List.forall_mem_cons.mpr ⟨lw_p14, List.forall_mem_cons.mpr ⟨lw_p15, fun _ h => absurd h List.not_mem_nil⟩⟩⟩⟩⟩⟩⟩⟩⟩⟩⟩⟩⟩⟩⟩⟩
theorem lw_p16 : lw_okq (⟨"NorthCurtains", "keepArcs", "([III)I"⟩, 17) := ⟨⟨by decide +kernel, by decide +kernel⟩, List.mem_of_getElem? (i := 14) (by decide +kernel), List.mem_of_getElem? (i := 673) (by decide +kernel), List.mem_of_getElem? (i := 674) (by decide +kernel)⟩
theorem lw_p17 : lw_okq (⟨"NorthCurtains", "isArcAt", "([II)Z"⟩, 17) := ⟨⟨by decide +kernel, by decide +kernel⟩, List.mem_of_getElem? (i := 14) (by decide +kernel), List.mem_of_getElem? (i := 677) (by decide +kernel), List.mem_of_getElem? (i := 678) (by decide +kernel)⟩
theorem lw_p18 : lw_okq (⟨"NorthCurtains", "keepArcAt", "([II)V"⟩, 17) := ⟨⟨by decide +kernel, by decide +kernel⟩, List.mem_of_getElem? (i := 14) (by decide +kernel), List.mem_of_getElem? (i := 681) (by decide +kernel), List.mem_of_getElem? (i := 682) (by decide +kernel)⟩
theorem lw_p19 : lw_okq (⟨"NorthCurtainsModel", "sinOf", "(I)I"⟩, 46) := ⟨⟨by decide +kernel, by decide +kernel⟩, List.mem_of_getElem? (i := 685) (by decide +kernel), List.mem_of_getElem? (i := 848) (by decide +kernel), List.mem_of_getElem? (i := 849) (by decide +kernel)⟩
theorem lw_p20 : lw_okq (⟨"NorthCurtainsModel", "cosOf", "(I)I"⟩, 46) := ⟨⟨by decide +kernel, by decide +kernel⟩, List.mem_of_getElem? (i := 685) (by decide +kernel), List.mem_of_getElem? (i := 852) (by decide +kernel), List.mem_of_getElem? (i := 853) (by decide +kernel)⟩
theorem lw_p21 : lw_okq (⟨"NorthCurtainsModel", "isStation", "(I)Z"⟩, 46) := ⟨⟨by decide +kernel, by decide +kernel⟩, List.mem_of_getElem? (i := 685) (by decide +kernel), List.mem_of_getElem? (i := 865) (by decide +kernel), List.mem_of_getElem? (i := 866) (by decide +kernel)⟩
theorem lw_p22 : lw_okq (⟨"NorthCurtainsModel", "isTold", "(IIIII)Z"⟩, 46) := ⟨⟨by decide +kernel, by decide +kernel⟩, List.mem_of_getElem? (i := 685) (by decide +kernel), List.mem_of_getElem? (i := 875) (by decide +kernel), List.mem_of_getElem? (i := 876) (by decide +kernel)⟩
theorem lw_p23 : lw_okq (⟨"NorthCurtainsModel", "add", "(IIIIIIII)I"⟩, 46) := ⟨⟨by decide +kernel, by decide +kernel⟩, List.mem_of_getElem? (i := 685) (by decide +kernel), List.mem_of_getElem? (i := 885) (by decide +kernel), List.mem_of_getElem? (i := 886) (by decide +kernel)⟩
theorem lw_p24 : lw_okq (⟨"NorthCurtainsModel", "isSighting", "(I)Z"⟩, 46) := ⟨⟨by decide +kernel, by decide +kernel⟩, List.mem_of_getElem? (i := 685) (by decide +kernel), List.mem_of_getElem? (i := 904) (by decide +kernel), List.mem_of_getElem? (i := 905) (by decide +kernel)⟩
theorem lw_p25 : lw_okq (⟨"NorthCurtainsModel", "firstOf", "(I)I"⟩, 46) := ⟨⟨by decide +kernel, by decide +kernel⟩, List.mem_of_getElem? (i := 685) (by decide +kernel), List.mem_of_getElem? (i := 908) (by decide +kernel), List.mem_of_getElem? (i := 909) (by decide +kernel)⟩
theorem lw_p26 : lw_okq (⟨"NorthCurtainsModel", "lastOf", "(I)I"⟩, 46) := ⟨⟨by decide +kernel, by decide +kernel⟩, List.mem_of_getElem? (i := 685) (by decide +kernel), List.mem_of_getElem? (i := 912) (by decide +kernel), List.mem_of_getElem? (i := 913) (by decide +kernel)⟩
theorem lw_p27 : lw_okq (⟨"NorthCurtainsModel", "areMet", "(II)Z"⟩, 46) := ⟨⟨by decide +kernel, by decide +kernel⟩, List.mem_of_getElem? (i := 685) (by decide +kernel), List.mem_of_getElem? (i := 933) (by decide +kernel), List.mem_of_getElem? (i := 934) (by decide +kernel)⟩
theorem lw_p28 : lw_okq (⟨"NorthCurtainsModel", "crosses", "(II)Z"⟩, 46) := ⟨⟨by decide +kernel, by decide +kernel⟩, List.mem_of_getElem? (i := 685) (by decide +kernel), List.mem_of_getElem? (i := 937) (by decide +kernel), List.mem_of_getElem? (i := 938) (by decide +kernel)⟩
theorem lw_p29 : lw_okq (⟨"NorthCurtainsModel", "rise", "(II)I"⟩, 46) := ⟨⟨by decide +kernel, by decide +kernel⟩, List.mem_of_getElem? (i := 685) (by decide +kernel), List.mem_of_getElem? (i := 945) (by decide +kernel), List.mem_of_getElem? (i := 946) (by decide +kernel)⟩
theorem lw_p30 : lw_okq (⟨"NorthCurtainsModel", "crossPart", "(III)I"⟩, 46) := ⟨⟨by decide +kernel, by decide +kernel⟩, List.mem_of_getElem? (i := 685) (by decide +kernel), List.mem_of_getElem? (i := 956) (by decide +kernel), List.mem_of_getElem? (i := 957) (by decide +kernel)⟩
theorem lw_p31 : lw_okq (⟨"NorthCurtainsModel", "findCurtains", "(I)I"⟩, 46) := ⟨⟨by decide +kernel, by decide +kernel⟩, List.mem_of_getElem? (i := 685) (by decide +kernel), List.mem_of_getElem? (i := 964) (by decide +kernel), List.mem_of_getElem? (i := 965) (by decide +kernel)⟩
def lw_privs_2 : List (MethodName × Nat) := [(⟨"NorthCurtains", "keepArcs", "([III)I"⟩, 17), (⟨"NorthCurtains", "isArcAt", "([II)Z"⟩, 17), (⟨"NorthCurtains", "keepArcAt", "([II)V"⟩, 17), (⟨"NorthCurtainsModel", "sinOf", "(I)I"⟩, 46), (⟨"NorthCurtainsModel", "cosOf", "(I)I"⟩, 46), (⟨"NorthCurtainsModel", "isStation", "(I)Z"⟩, 46), (⟨"NorthCurtainsModel", "isTold", "(IIIII)Z"⟩, 46), (⟨"NorthCurtainsModel", "add", "(IIIIIIII)I"⟩, 46), (⟨"NorthCurtainsModel", "isSighting", "(I)Z"⟩, 46), (⟨"NorthCurtainsModel", "firstOf", "(I)I"⟩, 46), (⟨"NorthCurtainsModel", "lastOf", "(I)I"⟩, 46), (⟨"NorthCurtainsModel", "areMet", "(II)Z"⟩, 46), (⟨"NorthCurtainsModel", "crosses", "(II)Z"⟩, 46), (⟨"NorthCurtainsModel", "rise", "(II)I"⟩, 46), (⟨"NorthCurtainsModel", "crossPart", "(III)I"⟩, 46), (⟨"NorthCurtainsModel", "findCurtains", "(I)I"⟩, 46)]
theorem lw_r2 : ∀ q ∈ lw_privs_2, lw_okq q := List.forall_mem_cons.mpr ⟨lw_p16, List.forall_mem_cons.mpr ⟨lw_p17, List.forall_mem_cons.mpr ⟨lw_p18, List.forall_mem_cons.mpr ⟨lw_p19, List.forall_mem_cons.mpr ⟨lw_p20, List.forall_mem_cons.mpr ⟨lw_p21, List.forall_mem_cons.mpr ⟨lw_p22, List.forall_mem_cons.mpr ⟨lw_p23, List.forall_mem_cons.mpr ⟨lw_p24, List.forall_mem_cons.mpr ⟨lw_p25, List.forall_mem_cons.mpr ⟨lw_p26, List.forall_mem_cons.mpr ⟨lw_p27, List.forall_mem_cons.mpr ⟨lw_p28, List.forall_mem_cons.mpr ⟨lw_p29, List.forall_mem_cons.mpr ⟨lw_p30, List.forall_mem_cons.mpr ⟨lw_p31, fun _ h => absurd h List.not_mem_nil⟩⟩⟩⟩⟩⟩⟩⟩⟩⟩⟩⟩⟩⟩⟩⟩
theorem lw_p32 : lw_okq (⟨"NorthCurtainsModel", "listNight", "(I)V"⟩, 46) := ⟨⟨by decide +kernel, by decide +kernel⟩, List.mem_of_getElem? (i := 685) (by decide +kernel), List.mem_of_getElem? (i := 968) (by decide +kernel), List.mem_of_getElem? (i := 969) (by decide +kernel)⟩
theorem lw_p33 : lw_okq (⟨"NorthCurtainsModel", "part", "(I)Z"⟩, 46) := ⟨⟨by decide +kernel, by decide +kernel⟩, List.mem_of_getElem? (i := 685) (by decide +kernel), List.mem_of_getElem? (i := 972) (by decide +kernel), List.mem_of_getElem? (i := 973) (by decide +kernel)⟩
theorem lw_p34 : lw_okq (⟨"NorthCurtainsModel", "setsAhead", "(I)I"⟩, 46) := ⟨⟨by decide +kernel, by decide +kernel⟩, List.mem_of_getElem? (i := 685) (by decide +kernel), List.mem_of_getElem? (i := 976) (by decide +kernel), List.mem_of_getElem? (i := 977) (by decide +kernel)⟩
theorem lw_p35 : lw_okq (⟨"NorthCurtainsModel", "canBeIn", "(II)Z"⟩, 46) := ⟨⟨by decide +kernel, by decide +kernel⟩, List.mem_of_getElem? (i := 685) (by decide +kernel), List.mem_of_getElem? (i := 980) (by decide +kernel), List.mem_of_getElem? (i := 981) (by decide +kernel)⟩
theorem lw_p36 : lw_okq (⟨"NorthCurtainsModel", "findPlace", "(I)V"⟩, 46) := ⟨⟨by decide +kernel, by decide +kernel⟩, List.mem_of_getElem? (i := 685) (by decide +kernel), List.mem_of_getElem? (i := 984) (by decide +kernel), List.mem_of_getElem? (i := 985) (by decide +kernel)⟩
theorem lw_p37 : lw_okq (⟨"NorthCurtainsModel", "findWays", "()I"⟩, 46) := ⟨⟨by decide +kernel, by decide +kernel⟩, List.mem_of_getElem? (i := 685) (by decide +kernel), List.mem_of_getElem? (i := 1006) (by decide +kernel), List.mem_of_getElem? (i := 1007) (by decide +kernel)⟩
theorem lw_p38 : lw_okq (⟨"NorthCurtainsModel", "canFollow", "(II)Z"⟩, 46) := ⟨⟨by decide +kernel, by decide +kernel⟩, List.mem_of_getElem? (i := 685) (by decide +kernel), List.mem_of_getElem? (i := 1010) (by decide +kernel), List.mem_of_getElem? (i := 1011) (by decide +kernel)⟩
theorem lw_p39 : lw_okq (⟨"NorthCurtainsModel", "nextOf", "(II)I"⟩, 46) := ⟨⟨by decide +kernel, by decide +kernel⟩, List.mem_of_getElem? (i := 685) (by decide +kernel), List.mem_of_getElem? (i := 1018) (by decide +kernel), List.mem_of_getElem? (i := 1019) (by decide +kernel)⟩
theorem lw_p40 : lw_okq (⟨"NorthCurtainsModel", "watchOf", "(II)I"⟩, 46) := ⟨⟨by decide +kernel, by decide +kernel⟩, List.mem_of_getElem? (i := 685) (by decide +kernel), List.mem_of_getElem? (i := 1032) (by decide +kernel), List.mem_of_getElem? (i := 1033) (by decide +kernel)⟩
theorem lw_p41 : lw_okq (⟨"NorthCurtainsModel", "isSeen", "(II)Z"⟩, 46) := ⟨⟨by decide +kernel, by decide +kernel⟩, List.mem_of_getElem? (i := 685) (by decide +kernel), List.mem_of_getElem? (i := 1040) (by decide +kernel), List.mem_of_getElem? (i := 1041) (by decide +kernel)⟩
theorem lw_p42 : lw_okq (⟨"NorthCurtainsModel", "roundOf", "(I)I"⟩, 46) := ⟨⟨by decide +kernel, by decide +kernel⟩, List.mem_of_getElem? (i := 685) (by decide +kernel), List.mem_of_getElem? (i := 1055) (by decide +kernel), List.mem_of_getElem? (i := 1056) (by decide +kernel)⟩
theorem lw_p43 : lw_okq (⟨"NorthCurtainsModel", "nightsSeen", "()I"⟩, 46) := ⟨⟨by decide +kernel, by decide +kernel⟩, List.mem_of_getElem? (i := 685) (by decide +kernel), List.mem_of_getElem? (i := 1063) (by decide +kernel), List.mem_of_getElem? (i := 1064) (by decide +kernel)⟩
def lw_privs_3 : List (MethodName × Nat) := [(⟨"NorthCurtainsModel", "listNight", "(I)V"⟩, 46), (⟨"NorthCurtainsModel", "part", "(I)Z"⟩, 46), (⟨"NorthCurtainsModel", "setsAhead", "(I)I"⟩, 46), (⟨"NorthCurtainsModel", "canBeIn", "(II)Z"⟩, 46), (⟨"NorthCurtainsModel", "findPlace", "(I)V"⟩, 46), (⟨"NorthCurtainsModel", "findWays", "()I"⟩, 46), (⟨"NorthCurtainsModel", "canFollow", "(II)Z"⟩, 46), (⟨"NorthCurtainsModel", "nextOf", "(II)I"⟩, 46), (⟨"NorthCurtainsModel", "watchOf", "(II)I"⟩, 46), (⟨"NorthCurtainsModel", "isSeen", "(II)Z"⟩, 46), (⟨"NorthCurtainsModel", "roundOf", "(I)I"⟩, 46), (⟨"NorthCurtainsModel", "nightsSeen", "()I"⟩, 46)]
theorem lw_r3 : ∀ q ∈ lw_privs_3, lw_okq q := List.forall_mem_cons.mpr ⟨lw_p32, List.forall_mem_cons.mpr ⟨lw_p33, List.forall_mem_cons.mpr ⟨lw_p34, List.forall_mem_cons.mpr ⟨lw_p35, List.forall_mem_cons.mpr ⟨lw_p36, List.forall_mem_cons.mpr ⟨lw_p37, List.forall_mem_cons.mpr ⟨lw_p38, List.forall_mem_cons.mpr ⟨lw_p39, List.forall_mem_cons.mpr ⟨lw_p40, List.forall_mem_cons.mpr ⟨lw_p41, List.forall_mem_cons.mpr ⟨lw_p42, List.forall_mem_cons.mpr ⟨lw_p43, fun _ h => absurd h List.not_mem_nil⟩⟩⟩⟩⟩⟩⟩⟩⟩⟩⟩⟩
def lw_privs : List (MethodName × Nat) := lw_privs_1 ++ (lw_privs_2 ++ (lw_privs_3))
def lw_tbl : List Cond := k2_sels lw_privs ++ tables_1
theorem lw_privs_ok : ∀ q ∈ lw_privs, lw_okq q := by
  show ∀ q ∈ lw_privs_1 ++ (lw_privs_2 ++ (lw_privs_3)), lw_okq q
  exact List.forall_mem_append.mpr ⟨lw_r1, List.forall_mem_append.mpr ⟨lw_r2, lw_r3⟩⟩
/-- the streams that the claim lets the run draw from -/
abbrev lw_cs : List Choice := [Jvm.Choice.named "NaN.bits"]
theorem lw_bits : nanBits ∈ lw_cs := by first | decide | exact List.mem_cons_self | simp [lw_cs, nanBits]

def RX0 : String := "NorthCurtains$Arc"
def TX0 : u_T := fun k => match k with
  | 0 => ("NorthCurtains$Glow", "at", "LNorthCurtains$Station;", true)
  | 1 => ("NorthCurtains$Glow", "night", "I", true)
  | 2 => ("NorthCurtains$Glow", "minute", "I", true)
  | 3 => ("NorthCurtains$Glow", "bearing", "I", true)
  | 4 => ("NorthCurtains$Glow", "height", "I", true)
  | 5 => ("NorthCurtains$Arc", "hue", "I", true)
  | 6 => ("NorthCurtains$Arc", "east", "I", true)
  | _ => ("NorthCurtains$Arc", "north", "I", true)
def tyX0 : Nat → FieldType := fun k => match k with
  | 0 => .object "NorthCurtains$Station"
  | 1 => .int
  | 2 => .int
  | 3 => .int
  | 4 => .int
  | 5 => .int
  | 6 => .int
  | _ => .int
theorem nmX0 : ∀ a, a < 8 → ∀ b, b < 8 → a ≠ b → (TX0 a).2.1 ≠ (TX0 b).2.1 := by decide +kernel
theorem tyX0_ok : ∀ k, k < 8 → parseFieldDescriptor (TX0 k).2.2.1 = some (tyX0 k) := by decide +kernel
abbrev cX0_init : ByteArray := prog_2_method_1_code
def yX0_init : MethodName := ⟨RX0, "<init>", "(LNorthCurtains$Station;IIIII)V"⟩
abbrev cX0_kind : ByteArray := prog_2_method_2_code
def yX0_kind : MethodName := ⟨RX0, "kind", "()I"⟩
abbrev cX0_mayBeAtOnceWith : ByteArray := prog_2_method_3_code
def yX0_mayBeAtOnceWith : MethodName := ⟨RX0, "mayBeAtOnceWith", "(LNorthCurtains$Arc;)Z"⟩
def RX1 : String := "NorthCurtains$Crossing"
def TX1 : u_T := fun k => match k with
  | _ => ("NorthCurtains$Crossing", "values", "[I", true)
def tyX1 : Nat → FieldType := fun k => match k with
  | _ => .array .int
theorem nmX1 : ∀ a, a < 1 → ∀ b, b < 1 → a ≠ b → (TX1 a).2.1 ≠ (TX1 b).2.1 := by decide +kernel
theorem tyX1_ok : ∀ k, k < 1 → parseFieldDescriptor (TX1 k).2.2.1 = some (tyX1 k) := by decide +kernel
abbrev cX1_init : ByteArray := prog_3_method_1_code
def yX1_init : MethodName := ⟨RX1, "<init>", "()V"⟩
abbrev cX1_find : ByteArray := prog_3_method_2_code
def yX1_find : MethodName := ⟨RX1, "find", "(LNorthCurtains$Arc;LNorthCurtains$Arc;I)Z"⟩
abbrev cX1_findHeights : ByteArray := prog_3_method_3_code
def yX1_findHeights : MethodName := ⟨RX1, "findHeights", "(LNorthCurtains$Arc;LNorthCurtains$Arc;I)Z"⟩
abbrev cX1_rise : ByteArray := prog_3_method_4_code
def yX1_rise : MethodName := ⟨RX1, "rise", "(II)I"⟩
def RX2 : String := "NorthCurtains$Curtain"
def TX2 : u_T := fun k => match k with
  | 0 => ("NorthCurtains$Curtain", "size", "I", false)
  | 1 => ("NorthCurtains$Curtain", "time", "I", false)
  | 2 => ("NorthCurtains$Curtain", "x", "I", false)
  | 3 => ("NorthCurtains$Curtain", "y", "I", false)
  | 4 => ("NorthCurtains$Curtain", "height", "I", false)
  | 5 => ("NorthCurtains$Curtain", "firstSighting", "I", false)
  | 6 => ("NorthCurtains$Curtain", "follower", "I", false)
  | 7 => ("NorthCurtains$Curtain", "latestBeginning", "I", false)
  | 8 => ("NorthCurtains$Curtain", "earliestEnd", "I", false)
  | _ => ("NorthCurtains$Curtain", "pairs", "I", false)
def tyX2 : Nat → FieldType := fun k => match k with
  | 0 => .int
  | 1 => .int
  | 2 => .int
  | 3 => .int
  | 4 => .int
  | 5 => .int
  | 6 => .int
  | 7 => .int
  | 8 => .int
  | _ => .int
theorem nmX2 : ∀ a, a < 10 → ∀ b, b < 10 → a ≠ b → (TX2 a).2.1 ≠ (TX2 b).2.1 := by decide +kernel
theorem tyX2_ok : ∀ k, k < 10 → parseFieldDescriptor (TX2 k).2.2.1 = some (tyX2 k) := by decide +kernel
abbrev cX2_init : ByteArray := prog_4_method_1_code
def yX2_init : MethodName := ⟨RX2, "<init>", "()V"⟩
abbrev cX2_clear : ByteArray := prog_4_method_2_code
def yX2_clear : MethodName := ⟨RX2, "clear", "()V"⟩
abbrev cX2_take : ByteArray := prog_4_method_3_code
def yX2_take : MethodName := ⟨RX2, "take", "(ILNorthCurtains$Arc;)V"⟩
abbrev cX2_takePair : ByteArray := prog_4_method_4_code
def yX2_takePair : MethodName := ⟨RX2, "takePair", "([I)V"⟩
abbrev cX2_finish : ByteArray := prog_4_method_5_code
def yX2_finish : MethodName := ⟨RX2, "finish", "()V"⟩
abbrev cX2_hasPlace : ByteArray := prog_4_method_6_code
def yX2_hasPlace : MethodName := ⟨RX2, "hasPlace", "()Z"⟩
abbrev cX2_answer : ByteArray := prog_4_method_7_code
def yX2_answer : MethodName := ⟨RX2, "answer", "(I)I"⟩
abbrev cX2_canBeFollowedBy : ByteArray := prog_4_method_8_code
def yX2_canBeFollowedBy : MethodName := ⟨RX2, "canBeFollowedBy", "(LNorthCurtains$Curtain;I)Z"⟩
abbrev cX2_nearestMinute : ByteArray := prog_4_method_9_code
def yX2_nearestMinute : MethodName := ⟨RX2, "nearestMinute", "(LNorthCurtains$Curtain;LNorthCurtains$Station;)I"⟩
abbrev cX2_squareOfFar : ByteArray := prog_4_method_10_code
def yX2_squareOfFar : MethodName := ⟨RX2, "squareOfFar", "(II)J"⟩
def RX3 : String := "NorthCurtains$Glow"
def TX3 : u_T := fun k => match k with
  | 0 => ("NorthCurtains$Glow", "at", "LNorthCurtains$Station;", true)
  | 1 => ("NorthCurtains$Glow", "night", "I", true)
  | 2 => ("NorthCurtains$Glow", "minute", "I", true)
  | 3 => ("NorthCurtains$Glow", "bearing", "I", true)
  | _ => ("NorthCurtains$Glow", "height", "I", true)
def tyX3 : Nat → FieldType := fun k => match k with
  | 0 => .object "NorthCurtains$Station"
  | 1 => .int
  | 2 => .int
  | 3 => .int
  | _ => .int
theorem nmX3 : ∀ a, a < 5 → ∀ b, b < 5 → a ≠ b → (TX3 a).2.1 ≠ (TX3 b).2.1 := by decide +kernel
theorem tyX3_ok : ∀ k, k < 5 → parseFieldDescriptor (TX3 k).2.2.1 = some (tyX3 k) := by decide +kernel
abbrev cX3_init : ByteArray := prog_5_method_1_code
def yX3_init : MethodName := ⟨RX3, "<init>", "(LNorthCurtains$Station;IIII)V"⟩
abbrev cX3_kind : ByteArray := prog_5_method_2_code
def yX3_kind : MethodName := ⟨RX3, "kind", "()I"⟩
abbrev cX3_earliest : ByteArray := prog_5_method_3_code
def yX3_earliest : MethodName := ⟨RX3, "earliest", "()I"⟩
abbrev cX3_latest : ByteArray := prog_5_method_4_code
def yX3_latest : MethodName := ⟨RX3, "latest", "()I"⟩
def RX4 : String := "NorthCurtains$Ray"
def TX4 : u_T := fun k => match k with
  | 0 => ("NorthCurtains$Arc", "hue", "I", true)
  | 1 => ("NorthCurtains$Arc", "east", "I", true)
  | 2 => ("NorthCurtains$Arc", "north", "I", true)
  | 3 => ("NorthCurtains$Glow", "at", "LNorthCurtains$Station;", true)
  | 4 => ("NorthCurtains$Glow", "night", "I", true)
  | 5 => ("NorthCurtains$Glow", "minute", "I", true)
  | 6 => ("NorthCurtains$Glow", "bearing", "I", true)
  | 7 => ("NorthCurtains$Glow", "height", "I", true)
  | _ => ("NorthCurtains$Ray", "slant", "I", true)
def tyX4 : Nat → FieldType := fun k => match k with
  | 0 => .int
  | 1 => .int
  | 2 => .int
  | 3 => .object "NorthCurtains$Station"
  | 4 => .int
  | 5 => .int
  | 6 => .int
  | 7 => .int
  | _ => .int
theorem nmX4 : ∀ a, a < 9 → ∀ b, b < 9 → a ≠ b → (TX4 a).2.1 ≠ (TX4 b).2.1 := by decide +kernel
theorem tyX4_ok : ∀ k, k < 9 → parseFieldDescriptor (TX4 k).2.2.1 = some (tyX4 k) := by decide +kernel
abbrev cX4_init : ByteArray := prog_6_method_1_code
def yX4_init : MethodName := ⟨RX4, "<init>", "(LNorthCurtains$Station;IIIIII)V"⟩
abbrev cX4_kind : ByteArray := prog_6_method_2_code
def yX4_kind : MethodName := ⟨RX4, "kind", "()I"⟩
def RX5 : String := "NorthCurtains$Row"
def TX5 : u_T := fun k => match k with
  | 0 => ("NorthCurtains$Row", "lane", "I", true)
  | _ => ("NorthCurtains$Row", "items", "[I", true)
def tyX5 : Nat → FieldType := fun k => match k with
  | 0 => .int
  | _ => .array .int
theorem nmX5 : ∀ a, a < 2 → ∀ b, b < 2 → a ≠ b → (TX5 a).2.1 ≠ (TX5 b).2.1 := by decide +kernel
theorem tyX5_ok : ∀ k, k < 2 → parseFieldDescriptor (TX5 k).2.2.1 = some (tyX5 k) := by decide +kernel
abbrev cX5_init : ByteArray := prog_7_method_1_code
def yX5_init : MethodName := ⟨RX5, "<init>", "(II)V"⟩
abbrev cX5_holds : ByteArray := prog_7_method_2_code
def yX5_holds : MethodName := ⟨RX5, "holds", "(II)Z"⟩
def RX6 : String := "NorthCurtains$Sky"
def TX6 : u_T := fun k => match k with
  | 0 => ("NorthCurtains$Sky", "curtains", "[LNorthCurtains$Curtain;", true)
  | 1 => ("NorthCurtains$Sky", "arcs", "[LNorthCurtains$Arc;", true)
  | 2 => ("NorthCurtains$Sky", "numbers", "[I", true)
  | 3 => ("NorthCurtains$Sky", "meeting", "[I", true)
  | 4 => ("NorthCurtains$Sky", "members", "[I", true)
  | 5 => ("NorthCurtains$Sky", "followers", "[I", true)
  | 6 => ("NorthCurtains$Sky", "setOf", "[I", true)
  | 7 => ("NorthCurtains$Sky", "arcCount", "I", false)
  | _ => ("NorthCurtains$Sky", "curtainCount", "I", false)
def tyX6 : Nat → FieldType := fun k => match k with
  | 0 => .array (.object "NorthCurtains$Curtain")
  | 1 => .array (.object "NorthCurtains$Arc")
  | 2 => .array .int
  | 3 => .array .int
  | 4 => .array .int
  | 5 => .array .int
  | 6 => .array .int
  | 7 => .int
  | _ => .int
theorem nmX6 : ∀ a, a < 9 → ∀ b, b < 9 → a ≠ b → (TX6 a).2.1 ≠ (TX6 b).2.1 := by decide +kernel
theorem tyX6_ok : ∀ k, k < 9 → parseFieldDescriptor (TX6 k).2.2.1 = some (tyX6 k) := by decide +kernel
abbrev cX6_init : ByteArray := prog_8_method_1_code
def yX6_init : MethodName := ⟨RX6, "<init>", "()V"⟩
abbrev cX6_gather : ByteArray := prog_8_method_2_code
def yX6_gather : MethodName := ⟨RX6, "gather", "([LNorthCurtains$Glow;II)Z"⟩
abbrev cX6_partCurtains : ByteArray := prog_8_method_3_code
def yX6_partCurtains : MethodName := ⟨RX6, "partCurtains", "(LNorthCurtains$Crossing;I)I"⟩
abbrev cX6_setOfSighting : ByteArray := prog_8_method_4_code
def yX6_setOfSighting : MethodName := ⟨RX6, "setOfSighting", "(I)I"⟩
abbrev cX6_joinWays : ByteArray := prog_8_method_5_code
def yX6_joinWays : MethodName := ⟨RX6, "joinWays", "(I)I"⟩
abbrev cX6_findMeetings : ByteArray := prog_8_method_6_code
def yX6_findMeetings : MethodName := ⟨RX6, "findMeetings", "(LNorthCurtains$Crossing;I)V"⟩
abbrev cX6_partFrom : ByteArray := prog_8_method_7_code
def yX6_partFrom : MethodName := ⟨RX6, "partFrom", "(III)Z"⟩
abbrev cX6_tellCurtain : ByteArray := prog_8_method_8_code
def yX6_tellCurtain : MethodName := ⟨RX6, "tellCurtain", "(ILNorthCurtains$Crossing;I)V"⟩
abbrev cX6_findFollowers : ByteArray := prog_8_method_9_code
def yX6_findFollowers : MethodName := ⟨RX6, "findFollowers", "(I)I"⟩
abbrev cX6_mostLinks : ByteArray := prog_8_method_10_code
def yX6_mostLinks : MethodName := ⟨RX6, "mostLinks", "(II)I"⟩
abbrev cX6_firstFollower : ByteArray := prog_8_method_11_code
def yX6_firstFollower : MethodName := ⟨RX6, "firstFollower", "(III)I"⟩
def RX7 : String := "NorthCurtains$Station"
def TX7 : u_T := fun k => match k with
  | 0 => ("NorthCurtains$Station", "number", "I", true)
  | 1 => ("NorthCurtains$Station", "x", "I", true)
  | 2 => ("NorthCurtains$Station", "y", "I", true)
  | 3 => ("NorthCurtains$Station", "low", "I", false)
  | _ => ("NorthCurtains$Station", "high", "I", false)
def tyX7 : Nat → FieldType := fun k => match k with
  | 0 => .int
  | 1 => .int
  | 2 => .int
  | 3 => .int
  | _ => .int
theorem nmX7 : ∀ a, a < 5 → ∀ b, b < 5 → a ≠ b → (TX7 a).2.1 ≠ (TX7 b).2.1 := by decide +kernel
theorem tyX7_ok : ∀ k, k < 5 → parseFieldDescriptor (TX7 k).2.2.1 = some (tyX7 k) := by decide +kernel
abbrev cX7_init : ByteArray := prog_9_method_1_code
def yX7_init : MethodName := ⟨RX7, "<init>", "(III)V"⟩
def RX8 : String := "NorthCurtains$Watch"
def TX8 : u_T := fun k => match k with
  | 0 => ("NorthCurtains$Watch", "at", "LNorthCurtains$Station;", true)
  | 1 => ("NorthCurtains$Watch", "night", "I", true)
  | 2 => ("NorthCurtains$Watch", "clear", "I", true)
  | _ => ("NorthCurtains$Watch", "dark", "I", true)
def tyX8 : Nat → FieldType := fun k => match k with
  | 0 => .object "NorthCurtains$Station"
  | 1 => .int
  | 2 => .int
  | _ => .int
theorem nmX8 : ∀ a, a < 4 → ∀ b, b < 4 → a ≠ b → (TX8 a).2.1 ≠ (TX8 b).2.1 := by decide +kernel
theorem tyX8_ok : ∀ k, k < 4 → parseFieldDescriptor (TX8 k).2.2.1 = some (tyX8 k) := by decide +kernel
abbrev cX8_init : ByteArray := prog_10_method_1_code
def yX8_init : MethodName := ⟨RX8, "<init>", "(LNorthCurtains$Station;III)V"⟩
def RX9 : String := "NorthCurtains"
def TX9 : u_T := fun k => match k with
  | 0 => ("NorthCurtains", "stations", "[LNorthCurtains$Station;", true)
  | 1 => ("NorthCurtains", "sightings", "[LNorthCurtains$Glow;", true)
  | 2 => ("NorthCurtains", "watches", "[LNorthCurtains$Watch;", true)
  | 3 => ("NorthCurtains", "sharedFirst", "[I", true)
  | 4 => ("NorthCurtains", "sharedSecond", "[I", true)
  | 5 => ("NorthCurtains", "nightsSeen", "[I", true)
  | 6 => ("NorthCurtains", "rests", "[I", true)
  | 7 => ("NorthCurtains", "rows", "[LNorthCurtains$Row;", true)
  | 8 => ("NorthCurtains", "crossing", "LNorthCurtains$Crossing;", true)
  | 9 => ("NorthCurtains", "sky", "LNorthCurtains$Sky;", true)
  | 10 => ("NorthCurtains", "stationCount", "I", false)
  | 11 => ("NorthCurtains", "sightingCount", "I", false)
  | 12 => ("NorthCurtains", "watchCount", "I", false)
  | 13 => ("NorthCurtains", "sharedCount", "I", false)
  | 14 => ("NorthCurtains", "nightsSeenCount", "I", false)
  | 15 => ("NorthCurtains", "thickness", "I", false)
  | _ => ("NorthCurtains", "pace", "I", false)
def tyX9 : Nat → FieldType := fun k => match k with
  | 0 => .array (.object "NorthCurtains$Station")
  | 1 => .array (.object "NorthCurtains$Glow")
  | 2 => .array (.object "NorthCurtains$Watch")
  | 3 => .array .int
  | 4 => .array .int
  | 5 => .array .int
  | 6 => .array .int
  | 7 => .array (.object "NorthCurtains$Row")
  | 8 => .object "NorthCurtains$Crossing"
  | 9 => .object "NorthCurtains$Sky"
  | 10 => .int
  | 11 => .int
  | 12 => .int
  | 13 => .int
  | 14 => .int
  | 15 => .int
  | _ => .int
theorem nmX9 : ∀ a, a < 17 → ∀ b, b < 17 → a ≠ b → (TX9 a).2.1 ≠ (TX9 b).2.1 := by decide +kernel
theorem tyX9_ok : ∀ k, k < 17 → parseFieldDescriptor (TX9 k).2.2.1 = some (tyX9 k) := by decide +kernel
abbrev cX9_init : ByteArray := prog_1_method_1_code
def yX9_init : MethodName := ⟨RX9, "<init>", "()V"⟩
abbrev cX9_station : ByteArray := prog_1_method_2_code
def yX9_station : MethodName := ⟨RX9, "station", "(II)I"⟩
abbrev cX9_clock : ByteArray := prog_1_method_3_code
def yX9_clock : MethodName := ⟨RX9, "clock", "(III)I"⟩
abbrev cX9_glow : ByteArray := prog_1_method_4_code
def yX9_glow : MethodName := ⟨RX9, "glow", "(IIIII)I"⟩
abbrev cX9_arc : ByteArray := prog_1_method_5_code
def yX9_arc : MethodName := ⟨RX9, "arc", "(IIIIII)I"⟩
abbrev cX9_ray : ByteArray := prog_1_method_6_code
def yX9_ray : MethodName := ⟨RX9, "ray", "(IIIIIII)I"⟩
abbrev cX9_told : ByteArray := prog_1_method_7_code
def yX9_told : MethodName := ⟨RX9, "told", "(II)I"⟩
abbrev cX9_colour : ByteArray := prog_1_method_8_code
def yX9_colour : MethodName := ⟨RX9, "colour", "(I)I"⟩
abbrev cX9_lean : ByteArray := prog_1_method_9_code
def yX9_lean : MethodName := ⟨RX9, "lean", "(I)I"⟩
abbrev cX9_table : ByteArray := prog_1_method_10_code
def yX9_table : MethodName := ⟨RX9, "table", "(II)I"⟩
abbrev cX9_thick : ByteArray := prog_1_method_11_code
def yX9_thick : MethodName := ⟨RX9, "thick", "(I)I"⟩
abbrev cX9_meets : ByteArray := prog_1_method_12_code
def yX9_meets : MethodName := ⟨RX9, "meets", "(II)I"⟩
abbrev cX9_cross : ByteArray := prog_1_method_13_code
def yX9_cross : MethodName := ⟨RX9, "cross", "(III)I"⟩
abbrev cX9_curtains : ByteArray := prog_1_method_14_code
def yX9_curtains : MethodName := ⟨RX9, "curtains", "(I)I"⟩
abbrev cX9_curtain : ByteArray := prog_1_method_15_code
def yX9_curtain : MethodName := ⟨RX9, "curtain", "(III)I"⟩
abbrev cX9_curtainOf : ByteArray := prog_1_method_16_code
def yX9_curtainOf : MethodName := ⟨RX9, "curtainOf", "(I)I"⟩
abbrev cX9_speed : ByteArray := prog_1_method_17_code
def yX9_speed : MethodName := ⟨RX9, "speed", "(I)I"⟩
abbrev cX9_ways : ByteArray := prog_1_method_18_code
def yX9_ways : MethodName := ⟨RX9, "ways", "(I)I"⟩
abbrev cX9_next : ByteArray := prog_1_method_19_code
def yX9_next : MethodName := ⟨RX9, "next", "(II)I"⟩
abbrev cX9_overhead : ByteArray := prog_1_method_20_code
def yX9_overhead : MethodName := ⟨RX9, "overhead", "(III)I"⟩
abbrev cX9_watch : ByteArray := prog_1_method_21_code
def yX9_watch : MethodName := ⟨RX9, "watch", "(IIIII)I"⟩
abbrev cX9_seen : ByteArray := prog_1_method_22_code
def yX9_seen : MethodName := ⟨RX9, "seen", "(II)I"⟩
abbrev cX9_rate : ByteArray := prog_1_method_23_code
def yX9_rate : MethodName := ⟨RX9, "rate", "(IIII)I"⟩
abbrev cX9_round : ByteArray := prog_1_method_24_code
def yX9_round : MethodName := ⟨RX9, "round", "(I)I"⟩
abbrev cX9_best : ByteArray := prog_1_method_25_code
def yX9_best : MethodName := ⟨RX9, "best", "()I"⟩
abbrev cX9_share : ByteArray := prog_1_method_26_code
def yX9_share : MethodName := ⟨RX9, "share", "(II)I"⟩
abbrev cX9_mended : ByteArray := prog_1_method_27_code
def yX9_mended : MethodName := ⟨RX9, "mended", "(II)I"⟩
abbrev cX9_moved : ByteArray := prog_1_method_28_code
def yX9_moved : MethodName := ⟨RX9, "moved", "(I)I"⟩
abbrev cX9_count : ByteArray := prog_1_method_29_code
def yX9_count : MethodName := ⟨RX9, "count", "(I)I"⟩
abbrev cX9_sheet : ByteArray := prog_1_method_30_code
def yX9_sheet : MethodName := ⟨RX9, "sheet", "(III)I"⟩
abbrev cX9_drop : ByteArray := prog_1_method_31_code
def yX9_drop : MethodName := ⟨RX9, "drop", "(I)I"⟩
abbrev cX9_item : ByteArray := prog_1_method_32_code
def yX9_item : MethodName := ⟨RX9, "item", "(IIII)I"⟩
abbrev cX9_arcs : ByteArray := prog_1_method_33_code
def yX9_arcs : MethodName := ⟨RX9, "arcs", "(IIII)I"⟩
abbrev cX9_isWithin : ByteArray := prog_1_method_34_code
def yX9_isWithin : MethodName := ⟨RX9, "isWithin", "(III)Z"⟩
abbrev cX9_isNight : ByteArray := prog_1_method_35_code
def yX9_isNight : MethodName := ⟨RX9, "isNight", "(I)Z"⟩
abbrev cX9_isInSky : ByteArray := prog_1_method_36_code
def yX9_isInSky : MethodName := ⟨RX9, "isInSky", "(IIII)Z"⟩
abbrev cX9_isColour : ByteArray := prog_1_method_37_code
def yX9_isColour : MethodName := ⟨RX9, "isColour", "(I)Z"⟩
abbrev cX9_isSheet : ByteArray := prog_1_method_38_code
def yX9_isSheet : MethodName := ⟨RX9, "isSheet", "(I)Z"⟩
abbrev cX9_isLane : ByteArray := prog_1_method_39_code
def yX9_isLane : MethodName := ⟨RX9, "isLane", "(I)Z"⟩
abbrev cX9_sine : ByteArray := prog_1_method_40_code
def yX9_sine : MethodName := ⟨RX9, "sine", "(I)I"⟩
abbrev cX9_cosine : ByteArray := prog_1_method_41_code
def yX9_cosine : MethodName := ⟨RX9, "cosine", "(I)I"⟩
abbrev cX9_stationAt : ByteArray := prog_1_method_42_code
def yX9_stationAt : MethodName := ⟨RX9, "stationAt", "(I)LNorthCurtains$Station;"⟩
abbrev cX9_sightingAt : ByteArray := prog_1_method_43_code
def yX9_sightingAt : MethodName := ⟨RX9, "sightingAt", "(I)LNorthCurtains$Glow;"⟩
abbrev cX9_keep : ByteArray := prog_1_method_44_code
def yX9_keep : MethodName := ⟨RX9, "keep", "(LNorthCurtains$Glow;)I"⟩
abbrev cX9_isSeenNight : ByteArray := prog_1_method_45_code
def yX9_isSeenNight : MethodName := ⟨RX9, "isSeenNight", "(I)Z"⟩
abbrev cX9_keepArcs : ByteArray := prog_1_method_46_code
def yX9_keepArcs : MethodName := ⟨RX9, "keepArcs", "([III)I"⟩
abbrev cX9_isArcAt : ByteArray := prog_1_method_47_code
def yX9_isArcAt : MethodName := ⟨RX9, "isArcAt", "([II)Z"⟩
abbrev cX9_keepArcAt : ByteArray := prog_1_method_48_code
def yX9_keepArcAt : MethodName := ⟨RX9, "keepArcAt", "([II)V"⟩
abbrev cX9_lookAt : ByteArray := prog_1_method_49_code
def yX9_lookAt : MethodName := ⟨RX9, "lookAt", "(I)I"⟩
abbrev cX9_watchOf : ByteArray := prog_1_method_50_code
def yX9_watchOf : MethodName := ⟨RX9, "watchOf", "(LNorthCurtains$Station;I)LNorthCurtains$Watch;"⟩
abbrev cX9_saw : ByteArray := prog_1_method_51_code
def yX9_saw : MethodName := ⟨RX9, "saw", "(LNorthCurtains$Station;I)Z"⟩
abbrev cX9_roundOf : ByteArray := prog_1_method_52_code
def yX9_roundOf : MethodName := ⟨RX9, "roundOf", "(I)I"⟩
abbrev cX9_areShared : ByteArray := prog_1_method_53_code
def yX9_areShared : MethodName := ⟨RX9, "areShared", "(II)Z"⟩
def RX10 : String := "NorthCurtainsModel"
def TX10 : u_T := fun k => match k with
  | 0 => ("NorthCurtainsModel", "sines", "[I", true)
  | 1 => ("NorthCurtainsModel", "tangents", "[I", true)
  | 2 => ("NorthCurtainsModel", "stations", "I", false)
  | 3 => ("NorthCurtainsModel", "xs", "[I", true)
  | 4 => ("NorthCurtainsModel", "ys", "[I", true)
  | 5 => ("NorthCurtainsModel", "lows", "[I", true)
  | 6 => ("NorthCurtainsModel", "highs", "[I", true)
  | 7 => ("NorthCurtainsModel", "sightings", "I", false)
  | 8 => ("NorthCurtainsModel", "kinds", "[I", true)
  | 9 => ("NorthCurtainsModel", "at", "[I", true)
  | 10 => ("NorthCurtainsModel", "nights", "[I", true)
  | 11 => ("NorthCurtainsModel", "minutes", "[I", true)
  | 12 => ("NorthCurtainsModel", "bearings", "[I", true)
  | 13 => ("NorthCurtainsModel", "heights", "[I", true)
  | 14 => ("NorthCurtainsModel", "colours", "[I", true)
  | 15 => ("NorthCurtainsModel", "leans", "[I", true)
  | 16 => ("NorthCurtainsModel", "thick", "I", false)
  | 17 => ("NorthCurtainsModel", "\x72", "I", false)
  | 18 => ("NorthCurtainsModel", "s", "I", false)
  | 19 => ("NorthCurtainsModel", "listed", "I", false)
  | 20 => ("NorthCurtainsModel", "list", "[I", true)
  | 21 => ("NorthCurtainsModel", "curtains", "I", false)
  | 22 => ("NorthCurtainsModel", "curtainIs", "[I", true)
  | 23 => ("NorthCurtainsModel", "meetBits", "[I", true)
  | 24 => ("NorthCurtainsModel", "sets", "[I", true)
  | 25 => ("NorthCurtainsModel", "members", "[I", true)
  | 26 => ("NorthCurtainsModel", "times", "[I", true)
  | 27 => ("NorthCurtainsModel", "placeX", "[I", true)
  | 28 => ("NorthCurtainsModel", "placeY", "[I", true)
  | 29 => ("NorthCurtainsModel", "placeHeight", "[I", true)
  | 30 => ("NorthCurtainsModel", "firsts", "[I", true)
  | 31 => ("NorthCurtainsModel", "speed", "I", false)
  | 32 => ("NorthCurtainsModel", "follows", "[I", true)
  | 33 => ("NorthCurtainsModel", "nexts", "[I", true)
  | 34 => ("NorthCurtainsModel", "watches", "I", false)
  | 35 => ("NorthCurtainsModel", "watchers", "[I", true)
  | 36 => ("NorthCurtainsModel", "watchNights", "[I", true)
  | 37 => ("NorthCurtainsModel", "clears", "[I", true)
  | 38 => ("NorthCurtainsModel", "darks", "[I", true)
  | 39 => ("NorthCurtainsModel", "rests", "[I", true)
  | 40 => ("NorthCurtainsModel", "shares", "I", false)
  | 41 => ("NorthCurtainsModel", "shareOne", "[I", true)
  | 42 => ("NorthCurtainsModel", "shareOther", "[I", true)
  | 43 => ("NorthCurtainsModel", "lanes", "[I", true)
  | 44 => ("NorthCurtainsModel", "sizes", "[I", true)
  | _ => ("NorthCurtainsModel", "items", "[I", true)
def tyX10 : Nat → FieldType := fun k => match k with
  | 0 => .array .int
  | 1 => .array .int
  | 2 => .int
  | 3 => .array .int
  | 4 => .array .int
  | 5 => .array .int
  | 6 => .array .int
  | 7 => .int
  | 8 => .array .int
  | 9 => .array .int
  | 10 => .array .int
  | 11 => .array .int
  | 12 => .array .int
  | 13 => .array .int
  | 14 => .array .int
  | 15 => .array .int
  | 16 => .int
  | 17 => .int
  | 18 => .int
  | 19 => .int
  | 20 => .array .int
  | 21 => .int
  | 22 => .array .int
  | 23 => .array .int
  | 24 => .array .int
  | 25 => .array .int
  | 26 => .array .int
  | 27 => .array .int
  | 28 => .array .int
  | 29 => .array .int
  | 30 => .array .int
  | 31 => .int
  | 32 => .array .int
  | 33 => .array .int
  | 34 => .int
  | 35 => .array .int
  | 36 => .array .int
  | 37 => .array .int
  | 38 => .array .int
  | 39 => .array .int
  | 40 => .int
  | 41 => .array .int
  | 42 => .array .int
  | 43 => .array .int
  | 44 => .array .int
  | _ => .array .int
theorem nmX10 : ∀ a, a < 46 → ∀ b, b < 46 → a ≠ b → (TX10 a).2.1 ≠ (TX10 b).2.1 := by decide +kernel
theorem tyX10_ok : ∀ k, k < 46 → parseFieldDescriptor (TX10 k).2.2.1 = some (tyX10 k) := by decide +kernel
abbrev cX10_in : ByteArray := prog_12_method_1_code
def yX10_in : MethodName := ⟨RX10, "in", "(JJJ)Z"⟩
abbrev cX10_init : ByteArray := prog_12_method_2_code
def yX10_init : MethodName := ⟨RX10, "<init>", "()V"⟩
abbrev cX10_sineOf : ByteArray := prog_12_method_3_code
def yX10_sineOf : MethodName := ⟨RX10, "sineOf", "(I)D"⟩
abbrev cX10_sinOf : ByteArray := prog_12_method_4_code
def yX10_sinOf : MethodName := ⟨RX10, "sinOf", "(I)I"⟩
abbrev cX10_cosOf : ByteArray := prog_12_method_5_code
def yX10_cosOf : MethodName := ⟨RX10, "cosOf", "(I)I"⟩
abbrev cX10_table : ByteArray := prog_12_method_6_code
def yX10_table : MethodName := ⟨RX10, "table", "(II)I"⟩
abbrev cX10_isStation : ByteArray := prog_12_method_7_code
def yX10_isStation : MethodName := ⟨RX10, "isStation", "(I)Z"⟩
abbrev cX10_station : ByteArray := prog_12_method_8_code
def yX10_station : MethodName := ⟨RX10, "station", "(II)I"⟩
abbrev cX10_clock : ByteArray := prog_12_method_9_code
def yX10_clock : MethodName := ⟨RX10, "clock", "(III)I"⟩
abbrev cX10_isNight : ByteArray := prog_12_method_10_code
def yX10_isNight : MethodName := ⟨RX10, "isNight", "(I)Z"⟩
abbrev cX10_isTold : ByteArray := prog_12_method_11_code
def yX10_isTold : MethodName := ⟨RX10, "isTold", "(IIIII)Z"⟩
abbrev cX10_add : ByteArray := prog_12_method_12_code
def yX10_add : MethodName := ⟨RX10, "add", "(IIIIIIII)I"⟩
abbrev cX10_glow : ByteArray := prog_12_method_13_code
def yX10_glow : MethodName := ⟨RX10, "glow", "(IIIII)I"⟩
abbrev cX10_arc : ByteArray := prog_12_method_14_code
def yX10_arc : MethodName := ⟨RX10, "arc", "(IIIIII)I"⟩
abbrev cX10_ray : ByteArray := prog_12_method_15_code
def yX10_ray : MethodName := ⟨RX10, "ray", "(IIIIIII)I"⟩
abbrev cX10_isSighting : ByteArray := prog_12_method_16_code
def yX10_isSighting : MethodName := ⟨RX10, "isSighting", "(I)Z"⟩
abbrev cX10_firstOf : ByteArray := prog_12_method_17_code
def yX10_firstOf : MethodName := ⟨RX10, "firstOf", "(I)I"⟩
abbrev cX10_lastOf : ByteArray := prog_12_method_18_code
def yX10_lastOf : MethodName := ⟨RX10, "lastOf", "(I)I"⟩
abbrev cX10_told : ByteArray := prog_12_method_19_code
def yX10_told : MethodName := ⟨RX10, "told", "(II)I"⟩
abbrev cX10_colour : ByteArray := prog_12_method_20_code
def yX10_colour : MethodName := ⟨RX10, "colour", "(I)I"⟩
abbrev cX10_lean : ByteArray := prog_12_method_21_code
def yX10_lean : MethodName := ⟨RX10, "lean", "(I)I"⟩
abbrev cX10_thick : ByteArray := prog_12_method_22_code
def yX10_thick : MethodName := ⟨RX10, "thick", "(I)I"⟩
abbrev cX10_crosses : ByteArray := prog_12_method_23_code
def yX10_crosses : MethodName := ⟨RX10, "crosses", "(II)Z"⟩
abbrev cX10_rise : ByteArray := prog_12_method_24_code
def yX10_rise : MethodName := ⟨RX10, "rise", "(II)I"⟩
abbrev cX10_areMet : ByteArray := prog_12_method_25_code
def yX10_areMet : MethodName := ⟨RX10, "areMet", "(II)Z"⟩
abbrev cX10_meets : ByteArray := prog_12_method_26_code
def yX10_meets : MethodName := ⟨RX10, "meets", "(II)I"⟩
abbrev cX10_crossPart : ByteArray := prog_12_method_27_code
def yX10_crossPart : MethodName := ⟨RX10, "crossPart", "(III)I"⟩
abbrev cX10_cross : ByteArray := prog_12_method_28_code
def yX10_cross : MethodName := ⟨RX10, "cross", "(III)I"⟩
abbrev cX10_listNight : ByteArray := prog_12_method_29_code
def yX10_listNight : MethodName := ⟨RX10, "listNight", "(I)V"⟩
abbrev cX10_canBeIn : ByteArray := prog_12_method_30_code
def yX10_canBeIn : MethodName := ⟨RX10, "canBeIn", "(II)Z"⟩
abbrev cX10_setsAhead : ByteArray := prog_12_method_31_code
def yX10_setsAhead : MethodName := ⟨RX10, "setsAhead", "(I)I"⟩
abbrev cX10_part : ByteArray := prog_12_method_32_code
def yX10_part : MethodName := ⟨RX10, "part", "(I)Z"⟩
abbrev cX10_findCurtains : ByteArray := prog_12_method_33_code
def yX10_findCurtains : MethodName := ⟨RX10, "findCurtains", "(I)I"⟩
abbrev cX10_curtains : ByteArray := prog_12_method_34_code
def yX10_curtains : MethodName := ⟨RX10, "curtains", "(I)I"⟩
abbrev cX10_findPlace : ByteArray := prog_12_method_35_code
def yX10_findPlace : MethodName := ⟨RX10, "findPlace", "(I)V"⟩
abbrev cX10_curtain : ByteArray := prog_12_method_36_code
def yX10_curtain : MethodName := ⟨RX10, "curtain", "(III)I"⟩
abbrev cX10_curtainOf : ByteArray := prog_12_method_37_code
def yX10_curtainOf : MethodName := ⟨RX10, "curtainOf", "(I)I"⟩
abbrev cX10_speed : ByteArray := prog_12_method_38_code
def yX10_speed : MethodName := ⟨RX10, "speed", "(I)I"⟩
abbrev cX10_canFollow : ByteArray := prog_12_method_39_code
def yX10_canFollow : MethodName := ⟨RX10, "canFollow", "(II)Z"⟩
abbrev cX10_findWays : ByteArray := prog_12_method_40_code
def yX10_findWays : MethodName := ⟨RX10, "findWays", "()I"⟩
abbrev cX10_ways : ByteArray := prog_12_method_41_code
def yX10_ways : MethodName := ⟨RX10, "ways", "(I)I"⟩
abbrev cX10_nextOf : ByteArray := prog_12_method_42_code
def yX10_nextOf : MethodName := ⟨RX10, "nextOf", "(II)I"⟩
abbrev cX10_next : ByteArray := prog_12_method_43_code
def yX10_next : MethodName := ⟨RX10, "next", "(II)I"⟩
abbrev cX10_overhead : ByteArray := prog_12_method_44_code
def yX10_overhead : MethodName := ⟨RX10, "overhead", "(III)I"⟩
abbrev cX10_watchOf : ByteArray := prog_12_method_45_code
def yX10_watchOf : MethodName := ⟨RX10, "watchOf", "(II)I"⟩
abbrev cX10_watch : ByteArray := prog_12_method_46_code
def yX10_watch : MethodName := ⟨RX10, "watch", "(IIIII)I"⟩
abbrev cX10_isSeen : ByteArray := prog_12_method_47_code
def yX10_isSeen : MethodName := ⟨RX10, "isSeen", "(II)Z"⟩
abbrev cX10_seen : ByteArray := prog_12_method_48_code
def yX10_seen : MethodName := ⟨RX10, "seen", "(II)I"⟩
abbrev cX10_rate : ByteArray := prog_12_method_49_code
def yX10_rate : MethodName := ⟨RX10, "rate", "(IIII)I"⟩
abbrev cX10_roundOf : ByteArray := prog_12_method_50_code
def yX10_roundOf : MethodName := ⟨RX10, "roundOf", "(I)I"⟩
abbrev cX10_nightsSeen : ByteArray := prog_12_method_51_code
def yX10_nightsSeen : MethodName := ⟨RX10, "nightsSeen", "()I"⟩
abbrev cX10_round : ByteArray := prog_12_method_52_code
def yX10_round : MethodName := ⟨RX10, "round", "(I)I"⟩
abbrev cX10_best : ByteArray := prog_12_method_53_code
def yX10_best : MethodName := ⟨RX10, "best", "()I"⟩
abbrev cX10_share : ByteArray := prog_12_method_54_code
def yX10_share : MethodName := ⟨RX10, "share", "(II)I"⟩
abbrev cX10_mended : ByteArray := prog_12_method_55_code
def yX10_mended : MethodName := ⟨RX10, "mended", "(II)I"⟩
abbrev cX10_moved : ByteArray := prog_12_method_56_code
def yX10_moved : MethodName := ⟨RX10, "moved", "(I)I"⟩
abbrev cX10_count : ByteArray := prog_12_method_57_code
def yX10_count : MethodName := ⟨RX10, "count", "(I)I"⟩
abbrev cX10_isSheet : ByteArray := prog_12_method_58_code
def yX10_isSheet : MethodName := ⟨RX10, "isSheet", "(II)Z"⟩
abbrev cX10_sheet : ByteArray := prog_12_method_59_code
def yX10_sheet : MethodName := ⟨RX10, "sheet", "(III)I"⟩
abbrev cX10_drop : ByteArray := prog_12_method_60_code
def yX10_drop : MethodName := ⟨RX10, "drop", "(I)I"⟩
abbrev cX10_item : ByteArray := prog_12_method_61_code
def yX10_item : MethodName := ⟨RX10, "item", "(IIII)I"⟩
abbrev cX10_arcs : ByteArray := prog_12_method_62_code
def yX10_arcs : MethodName := ⟨RX10, "arcs", "(IIII)I"⟩
def RJ9 : String := "java/lang/Math"
def TJ9 : u_T := fun k => match k with
  | _ => ("", "", "", false)
def tyJ9 : Nat → FieldType := fun k => match k with
  | _ => .int
theorem nmJ9 : ∀ a, a < 0 → ∀ b, b < 0 → a ≠ b → (TJ9 a).2.1 ≠ (TJ9 b).2.1 := by decide +kernel
theorem tyJ9_ok : ∀ k, k < 0 → parseFieldDescriptor (TJ9 k).2.2.1 = some (tyJ9 k) := by decide +kernel
abbrev cJ9_floorDiv_7cf53 : ByteArray := prog_13_method_47_code
def yJ9_floorDiv_7cf53 : MethodName := ⟨RJ9, "floorDiv", "(II)I"⟩
abbrev cJ9_floorMod_7cf53 : ByteArray := prog_13_method_50_code
def yJ9_floorMod_7cf53 : MethodName := ⟨RJ9, "floorMod", "(II)I"⟩
abbrev cJ9_abs_0f7a4 : ByteArray := prog_13_method_59_code
def yJ9_abs_0f7a4 : MethodName := ⟨RJ9, "abs", "(I)I"⟩
abbrev cJ9_max_7cf53 : ByteArray := prog_13_method_65_code
def yJ9_max_7cf53 : MethodName := ⟨RJ9, "max", "(II)I"⟩
abbrev cJ9_min_7cf53 : ByteArray := prog_13_method_69_code
def yJ9_min_7cf53 : MethodName := ⟨RJ9, "min", "(II)I"⟩
def RL : String := "NorthCurtainsLaw"
abbrev cL_law : ByteArray := code
def yL_law : MethodName := ⟨RL, "law", "([I)Z"⟩
abbrev vwCl : List vw_C := [(RX0, TX0, 8), (RX1, TX1, 1), (RX2, TX2, 10), (RX3, TX3, 5), (RX4, TX4, 9), (RX5, TX5, 2), (RX6, TX6, 9), (RX7, TX7, 5), (RX8, TX8, 4), (RX9, TX9, 17), (RX10, TX10, 46)]
