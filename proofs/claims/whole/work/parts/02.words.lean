/-! the tables' words that a call keeps -/
def TB : List Cond := lw_tbl.filter goodWord
theorem TB_in {w : Cond} (h : w ∈ TB) : w ∈ lw_tbl := (List.mem_filter.mp h).1
theorem TB_good {y : MethodName} {cc : ByteArray} {n : Nat} {ret : Option FieldType} (h : Cond.code y cc n ret ∈ TB) : GoodIn TB (Cond.code y cc n ret :: TB) := by
  intro w hw
  have hm : w ∈ TB := (List.mem_cons.mp hw).elim (fun e => e ▸ h) id
  exact ⟨hm, good_of_word (List.mem_filter.mp hm).2⟩
theorem aI_ok : Cond.arrayClass .int ∈ TB := List.mem_filter.mpr ⟨List.mem_of_getElem? (i := 85) (by decide +kernel), by decide +kernel⟩
theorem inX0 : ∀ w ∈ u_ws RX0 TX0 8, w ∈ TB := fun w h => List.mem_filter.mpr ⟨(by decide +kernel : ∀ w ∈ u_ws RX0 TX0 8, w ∈ lw_tbl) w h, (by decide +kernel : ∀ w ∈ u_ws RX0 TX0 8, goodWord w = true) w h⟩
theorem inX1 : ∀ w ∈ u_ws RX1 TX1 1, w ∈ TB := fun w h => List.mem_filter.mpr ⟨(by decide +kernel : ∀ w ∈ u_ws RX1 TX1 1, w ∈ lw_tbl) w h, (by decide +kernel : ∀ w ∈ u_ws RX1 TX1 1, goodWord w = true) w h⟩
theorem inX2 : ∀ w ∈ u_ws RX2 TX2 10, w ∈ TB := fun w h => List.mem_filter.mpr ⟨(by decide +kernel : ∀ w ∈ u_ws RX2 TX2 10, w ∈ lw_tbl) w h, (by decide +kernel : ∀ w ∈ u_ws RX2 TX2 10, goodWord w = true) w h⟩
theorem inX3 : ∀ w ∈ u_ws RX3 TX3 5, w ∈ TB := fun w h => List.mem_filter.mpr ⟨(by decide +kernel : ∀ w ∈ u_ws RX3 TX3 5, w ∈ lw_tbl) w h, (by decide +kernel : ∀ w ∈ u_ws RX3 TX3 5, goodWord w = true) w h⟩
theorem inX4 : ∀ w ∈ u_ws RX4 TX4 9, w ∈ TB := fun w h => List.mem_filter.mpr ⟨(by decide +kernel : ∀ w ∈ u_ws RX4 TX4 9, w ∈ lw_tbl) w h, (by decide +kernel : ∀ w ∈ u_ws RX4 TX4 9, goodWord w = true) w h⟩
theorem inX5 : ∀ w ∈ u_ws RX5 TX5 2, w ∈ TB := fun w h => List.mem_filter.mpr ⟨(by decide +kernel : ∀ w ∈ u_ws RX5 TX5 2, w ∈ lw_tbl) w h, (by decide +kernel : ∀ w ∈ u_ws RX5 TX5 2, goodWord w = true) w h⟩
theorem inX6 : ∀ w ∈ u_ws RX6 TX6 9, w ∈ TB := fun w h => List.mem_filter.mpr ⟨(by decide +kernel : ∀ w ∈ u_ws RX6 TX6 9, w ∈ lw_tbl) w h, (by decide +kernel : ∀ w ∈ u_ws RX6 TX6 9, goodWord w = true) w h⟩
theorem inX7 : ∀ w ∈ u_ws RX7 TX7 5, w ∈ TB := fun w h => List.mem_filter.mpr ⟨(by decide +kernel : ∀ w ∈ u_ws RX7 TX7 5, w ∈ lw_tbl) w h, (by decide +kernel : ∀ w ∈ u_ws RX7 TX7 5, goodWord w = true) w h⟩
theorem inX8 : ∀ w ∈ u_ws RX8 TX8 4, w ∈ TB := fun w h => List.mem_filter.mpr ⟨(by decide +kernel : ∀ w ∈ u_ws RX8 TX8 4, w ∈ lw_tbl) w h, (by decide +kernel : ∀ w ∈ u_ws RX8 TX8 4, goodWord w = true) w h⟩
theorem inX9 : ∀ w ∈ u_ws RX9 TX9 17, w ∈ TB := fun w h => List.mem_filter.mpr ⟨(by decide +kernel : ∀ w ∈ u_ws RX9 TX9 17, w ∈ lw_tbl) w h, (by decide +kernel : ∀ w ∈ u_ws RX9 TX9 17, goodWord w = true) w h⟩
theorem inX10 : ∀ w ∈ u_ws RX10 TX10 46, w ∈ TB := fun w h => List.mem_filter.mpr ⟨(by decide +kernel : ∀ w ∈ u_ws RX10 TX10 46, w ∈ lw_tbl) w h, (by decide +kernel : ∀ w ∈ u_ws RX10 TX10 46, goodWord w = true) w h⟩
theorem sel_X9_stationAt : Cond.selects RX9 yX9_stationAt yX9_stationAt ∈ TB := List.mem_filter.mpr ⟨List.mem_of_getElem? (i := 0) (by decide +kernel), by decide +kernel⟩
theorem sel_X9_keep : Cond.selects RX9 yX9_keep yX9_keep ∈ TB := List.mem_filter.mpr ⟨List.mem_of_getElem? (i := 1) (by decide +kernel), by decide +kernel⟩
theorem sel_X9_isSeenNight : Cond.selects RX9 yX9_isSeenNight yX9_isSeenNight ∈ TB := List.mem_filter.mpr ⟨List.mem_of_getElem? (i := 2) (by decide +kernel), by decide +kernel⟩
theorem sel_X9_sightingAt : Cond.selects RX9 yX9_sightingAt yX9_sightingAt ∈ TB := List.mem_filter.mpr ⟨List.mem_of_getElem? (i := 3) (by decide +kernel), by decide +kernel⟩
theorem sel_X1_findHeights : Cond.selects RX1 yX1_findHeights yX1_findHeights ∈ TB := List.mem_filter.mpr ⟨List.mem_of_getElem? (i := 4) (by decide +kernel), by decide +kernel⟩
theorem sel_X9_lookAt : Cond.selects RX9 yX9_lookAt yX9_lookAt ∈ TB := List.mem_filter.mpr ⟨List.mem_of_getElem? (i := 5) (by decide +kernel), by decide +kernel⟩
theorem sel_X6_findMeetings : Cond.selects RX6 yX6_findMeetings yX6_findMeetings ∈ TB := List.mem_filter.mpr ⟨List.mem_of_getElem? (i := 6) (by decide +kernel), by decide +kernel⟩
theorem sel_X6_partFrom : Cond.selects RX6 yX6_partFrom yX6_partFrom ∈ TB := List.mem_filter.mpr ⟨List.mem_of_getElem? (i := 7) (by decide +kernel), by decide +kernel⟩
theorem sel_X6_tellCurtain : Cond.selects RX6 yX6_tellCurtain yX6_tellCurtain ∈ TB := List.mem_filter.mpr ⟨List.mem_of_getElem? (i := 8) (by decide +kernel), by decide +kernel⟩
theorem sel_X6_findFollowers : Cond.selects RX6 yX6_findFollowers yX6_findFollowers ∈ TB := List.mem_filter.mpr ⟨List.mem_of_getElem? (i := 9) (by decide +kernel), by decide +kernel⟩
theorem sel_X6_mostLinks : Cond.selects RX6 yX6_mostLinks yX6_mostLinks ∈ TB := List.mem_filter.mpr ⟨List.mem_of_getElem? (i := 10) (by decide +kernel), by decide +kernel⟩
theorem sel_X6_firstFollower : Cond.selects RX6 yX6_firstFollower yX6_firstFollower ∈ TB := List.mem_filter.mpr ⟨List.mem_of_getElem? (i := 11) (by decide +kernel), by decide +kernel⟩
theorem sel_X9_watchOf : Cond.selects RX9 yX9_watchOf yX9_watchOf ∈ TB := List.mem_filter.mpr ⟨List.mem_of_getElem? (i := 12) (by decide +kernel), by decide +kernel⟩
theorem sel_X9_saw : Cond.selects RX9 yX9_saw yX9_saw ∈ TB := List.mem_filter.mpr ⟨List.mem_of_getElem? (i := 13) (by decide +kernel), by decide +kernel⟩
theorem sel_X9_roundOf : Cond.selects RX9 yX9_roundOf yX9_roundOf ∈ TB := List.mem_filter.mpr ⟨List.mem_of_getElem? (i := 14) (by decide +kernel), by decide +kernel⟩
theorem sel_X9_areShared : Cond.selects RX9 yX9_areShared yX9_areShared ∈ TB := List.mem_filter.mpr ⟨List.mem_of_getElem? (i := 15) (by decide +kernel), by decide +kernel⟩
theorem sel_X9_keepArcs : Cond.selects RX9 yX9_keepArcs yX9_keepArcs ∈ TB := List.mem_filter.mpr ⟨List.mem_of_getElem? (i := 16) (by decide +kernel), by decide +kernel⟩
theorem sel_X9_isArcAt : Cond.selects RX9 yX9_isArcAt yX9_isArcAt ∈ TB := List.mem_filter.mpr ⟨List.mem_of_getElem? (i := 17) (by decide +kernel), by decide +kernel⟩
theorem sel_X9_keepArcAt : Cond.selects RX9 yX9_keepArcAt yX9_keepArcAt ∈ TB := List.mem_filter.mpr ⟨List.mem_of_getElem? (i := 18) (by decide +kernel), by decide +kernel⟩
theorem sel_X10_sinOf : Cond.selects RX10 yX10_sinOf yX10_sinOf ∈ TB := List.mem_filter.mpr ⟨List.mem_of_getElem? (i := 19) (by decide +kernel), by decide +kernel⟩
theorem sel_X10_cosOf : Cond.selects RX10 yX10_cosOf yX10_cosOf ∈ TB := List.mem_filter.mpr ⟨List.mem_of_getElem? (i := 20) (by decide +kernel), by decide +kernel⟩
theorem sel_X10_isStation : Cond.selects RX10 yX10_isStation yX10_isStation ∈ TB := List.mem_filter.mpr ⟨List.mem_of_getElem? (i := 21) (by decide +kernel), by decide +kernel⟩
theorem sel_X10_isTold : Cond.selects RX10 yX10_isTold yX10_isTold ∈ TB := List.mem_filter.mpr ⟨List.mem_of_getElem? (i := 22) (by decide +kernel), by decide +kernel⟩
theorem sel_X10_add : Cond.selects RX10 yX10_add yX10_add ∈ TB := List.mem_filter.mpr ⟨List.mem_of_getElem? (i := 23) (by decide +kernel), by decide +kernel⟩
theorem sel_X10_isSighting : Cond.selects RX10 yX10_isSighting yX10_isSighting ∈ TB := List.mem_filter.mpr ⟨List.mem_of_getElem? (i := 24) (by decide +kernel), by decide +kernel⟩
theorem sel_X10_firstOf : Cond.selects RX10 yX10_firstOf yX10_firstOf ∈ TB := List.mem_filter.mpr ⟨List.mem_of_getElem? (i := 25) (by decide +kernel), by decide +kernel⟩
theorem sel_X10_lastOf : Cond.selects RX10 yX10_lastOf yX10_lastOf ∈ TB := List.mem_filter.mpr ⟨List.mem_of_getElem? (i := 26) (by decide +kernel), by decide +kernel⟩
theorem sel_X10_areMet : Cond.selects RX10 yX10_areMet yX10_areMet ∈ TB := List.mem_filter.mpr ⟨List.mem_of_getElem? (i := 27) (by decide +kernel), by decide +kernel⟩
theorem sel_X10_crosses : Cond.selects RX10 yX10_crosses yX10_crosses ∈ TB := List.mem_filter.mpr ⟨List.mem_of_getElem? (i := 28) (by decide +kernel), by decide +kernel⟩
theorem sel_X10_rise : Cond.selects RX10 yX10_rise yX10_rise ∈ TB := List.mem_filter.mpr ⟨List.mem_of_getElem? (i := 29) (by decide +kernel), by decide +kernel⟩
theorem sel_X10_crossPart : Cond.selects RX10 yX10_crossPart yX10_crossPart ∈ TB := List.mem_filter.mpr ⟨List.mem_of_getElem? (i := 30) (by decide +kernel), by decide +kernel⟩
theorem sel_X10_findCurtains : Cond.selects RX10 yX10_findCurtains yX10_findCurtains ∈ TB := List.mem_filter.mpr ⟨List.mem_of_getElem? (i := 31) (by decide +kernel), by decide +kernel⟩
theorem sel_X10_listNight : Cond.selects RX10 yX10_listNight yX10_listNight ∈ TB := List.mem_filter.mpr ⟨List.mem_of_getElem? (i := 32) (by decide +kernel), by decide +kernel⟩
theorem sel_X10_part : Cond.selects RX10 yX10_part yX10_part ∈ TB := List.mem_filter.mpr ⟨List.mem_of_getElem? (i := 33) (by decide +kernel), by decide +kernel⟩
theorem sel_X10_setsAhead : Cond.selects RX10 yX10_setsAhead yX10_setsAhead ∈ TB := List.mem_filter.mpr ⟨List.mem_of_getElem? (i := 34) (by decide +kernel), by decide +kernel⟩
theorem sel_X10_canBeIn : Cond.selects RX10 yX10_canBeIn yX10_canBeIn ∈ TB := List.mem_filter.mpr ⟨List.mem_of_getElem? (i := 35) (by decide +kernel), by decide +kernel⟩
theorem sel_X10_findPlace : Cond.selects RX10 yX10_findPlace yX10_findPlace ∈ TB := List.mem_filter.mpr ⟨List.mem_of_getElem? (i := 36) (by decide +kernel), by decide +kernel⟩
theorem sel_X10_findWays : Cond.selects RX10 yX10_findWays yX10_findWays ∈ TB := List.mem_filter.mpr ⟨List.mem_of_getElem? (i := 37) (by decide +kernel), by decide +kernel⟩
theorem sel_X10_canFollow : Cond.selects RX10 yX10_canFollow yX10_canFollow ∈ TB := List.mem_filter.mpr ⟨List.mem_of_getElem? (i := 38) (by decide +kernel), by decide +kernel⟩
theorem sel_X10_nextOf : Cond.selects RX10 yX10_nextOf yX10_nextOf ∈ TB := List.mem_filter.mpr ⟨List.mem_of_getElem? (i := 39) (by decide +kernel), by decide +kernel⟩
theorem sel_X10_watchOf : Cond.selects RX10 yX10_watchOf yX10_watchOf ∈ TB := List.mem_filter.mpr ⟨List.mem_of_getElem? (i := 40) (by decide +kernel), by decide +kernel⟩
theorem sel_X10_isSeen : Cond.selects RX10 yX10_isSeen yX10_isSeen ∈ TB := List.mem_filter.mpr ⟨List.mem_of_getElem? (i := 41) (by decide +kernel), by decide +kernel⟩
theorem sel_X10_roundOf : Cond.selects RX10 yX10_roundOf yX10_roundOf ∈ TB := List.mem_filter.mpr ⟨List.mem_of_getElem? (i := 42) (by decide +kernel), by decide +kernel⟩
theorem sel_X10_nightsSeen : Cond.selects RX10 yX10_nightsSeen yX10_nightsSeen ∈ TB := List.mem_filter.mpr ⟨List.mem_of_getElem? (i := 43) (by decide +kernel), by decide +kernel⟩
theorem ini_L : Cond.initialized RL ∈ TB := List.mem_filter.mpr ⟨List.mem_of_getElem? (i := 44) (by decide +kernel), by decide +kernel⟩
theorem ini_X9 : Cond.initialized RX9 ∈ TB := List.mem_filter.mpr ⟨List.mem_of_getElem? (i := 45) (by decide +kernel), by decide +kernel⟩
theorem ini_X1 : Cond.initialized RX1 ∈ TB := List.mem_filter.mpr ⟨List.mem_of_getElem? (i := 46) (by decide +kernel), by decide +kernel⟩
theorem ini_X6 : Cond.initialized RX6 ∈ TB := List.mem_filter.mpr ⟨List.mem_of_getElem? (i := 47) (by decide +kernel), by decide +kernel⟩
theorem ini_X2 : Cond.initialized RX2 ∈ TB := List.mem_filter.mpr ⟨List.mem_of_getElem? (i := 48) (by decide +kernel), by decide +kernel⟩
theorem ini_X10 : Cond.initialized RX10 ∈ TB := List.mem_filter.mpr ⟨List.mem_of_getElem? (i := 49) (by decide +kernel), by decide +kernel⟩
theorem ini_X7 : Cond.initialized RX7 ∈ TB := List.mem_filter.mpr ⟨List.mem_of_getElem? (i := 50) (by decide +kernel), by decide +kernel⟩
theorem ini_X3 : Cond.initialized RX3 ∈ TB := List.mem_filter.mpr ⟨List.mem_of_getElem? (i := 51) (by decide +kernel), by decide +kernel⟩
theorem ini_X0 : Cond.initialized RX0 ∈ TB := List.mem_filter.mpr ⟨List.mem_of_getElem? (i := 52) (by decide +kernel), by decide +kernel⟩
theorem ini_J9 : Cond.initialized RJ9 ∈ TB := List.mem_filter.mpr ⟨List.mem_of_getElem? (i := 53) (by decide +kernel), by decide +kernel⟩
theorem ini_X4 : Cond.initialized RX4 ∈ TB := List.mem_filter.mpr ⟨List.mem_of_getElem? (i := 54) (by decide +kernel), by decide +kernel⟩
theorem ini_X8 : Cond.initialized RX8 ∈ TB := List.mem_filter.mpr ⟨List.mem_of_getElem? (i := 55) (by decide +kernel), by decide +kernel⟩
theorem ini_X5 : Cond.initialized RX5 ∈ TB := List.mem_filter.mpr ⟨List.mem_of_getElem? (i := 56) (by decide +kernel), by decide +kernel⟩
theorem inst_X9 : Cond.instantiable RX9 17 ∈ TB := List.mem_filter.mpr ⟨List.mem_of_getElem? (i := 58) (by decide +kernel), by decide +kernel⟩
theorem im_X9_init : Cond.instanceMethod yX9_init ∈ TB := List.mem_filter.mpr ⟨List.mem_of_getElem? (i := 60) (by decide +kernel), by decide +kernel⟩
theorem cod_X9_init : Cond.code yX9_init cX9_init 1 none ∈ TB := List.mem_filter.mpr ⟨List.mem_of_getElem? (i := 61) (by decide +kernel), by decide +kernel⟩
theorem im_object : Cond.instanceMethod objectInit ∈ TB := List.mem_filter.mpr ⟨List.mem_of_getElem? (i := 63) (by decide +kernel), by decide +kernel⟩
theorem inst_X1 : Cond.instantiable RX1 1 ∈ TB := List.mem_filter.mpr ⟨List.mem_of_getElem? (i := 74) (by decide +kernel), by decide +kernel⟩
theorem im_X1_init : Cond.instanceMethod yX1_init ∈ TB := List.mem_filter.mpr ⟨List.mem_of_getElem? (i := 76) (by decide +kernel), by decide +kernel⟩
theorem cod_X1_init : Cond.code yX1_init cX1_init 1 none ∈ TB := List.mem_filter.mpr ⟨List.mem_of_getElem? (i := 77) (by decide +kernel), by decide +kernel⟩
theorem inst_X6 : Cond.instantiable RX6 9 ∈ TB := List.mem_filter.mpr ⟨List.mem_of_getElem? (i := 87) (by decide +kernel), by decide +kernel⟩
theorem im_X6_init : Cond.instanceMethod yX6_init ∈ TB := List.mem_filter.mpr ⟨List.mem_of_getElem? (i := 89) (by decide +kernel), by decide +kernel⟩
theorem cod_X6_init : Cond.code yX6_init cX6_init 2 none ∈ TB := List.mem_filter.mpr ⟨List.mem_of_getElem? (i := 90) (by decide +kernel), by decide +kernel⟩
theorem inst_X2 : Cond.instantiable RX2 10 ∈ TB := List.mem_filter.mpr ⟨List.mem_of_getElem? (i := 96) (by decide +kernel), by decide +kernel⟩
theorem im_X2_init : Cond.instanceMethod yX2_init ∈ TB := List.mem_filter.mpr ⟨List.mem_of_getElem? (i := 98) (by decide +kernel), by decide +kernel⟩
theorem cod_X2_init : Cond.code yX2_init cX2_init 1 none ∈ TB := List.mem_filter.mpr ⟨List.mem_of_getElem? (i := 99) (by decide +kernel), by decide +kernel⟩
theorem im_X9_station : Cond.instanceMethod yX9_station ∈ TB := List.mem_filter.mpr ⟨List.mem_of_getElem? (i := 216) (by decide +kernel), by decide +kernel⟩
theorem sel_X9_station : Cond.selects RX9 yX9_station yX9_station ∈ TB := List.mem_filter.mpr ⟨List.mem_of_getElem? (i := 217) (by decide +kernel), by decide +kernel⟩
theorem cod_X9_station : Cond.code yX9_station cX9_station 4 (some .int) ∈ TB := List.mem_filter.mpr ⟨List.mem_of_getElem? (i := 218) (by decide +kernel), by decide +kernel⟩
theorem sta_X9_isWithin : Cond.static yX9_isWithin ∈ TB := List.mem_filter.mpr ⟨List.mem_of_getElem? (i := 220) (by decide +kernel), by decide +kernel⟩
theorem cod_X9_isWithin : Cond.code yX9_isWithin cX9_isWithin 3 (some .boolean) ∈ TB := List.mem_filter.mpr ⟨List.mem_of_getElem? (i := 221) (by decide +kernel), by decide +kernel⟩
theorem inst_X7 : Cond.instantiable RX7 5 ∈ TB := List.mem_filter.mpr ⟨List.mem_of_getElem? (i := 222) (by decide +kernel), by decide +kernel⟩
theorem im_X7_init : Cond.instanceMethod yX7_init ∈ TB := List.mem_filter.mpr ⟨List.mem_of_getElem? (i := 224) (by decide +kernel), by decide +kernel⟩
theorem cod_X7_init : Cond.code yX7_init cX7_init 4 none ∈ TB := List.mem_filter.mpr ⟨List.mem_of_getElem? (i := 225) (by decide +kernel), by decide +kernel⟩
theorem im_X9_clock : Cond.instanceMethod yX9_clock ∈ TB := List.mem_filter.mpr ⟨List.mem_of_getElem? (i := 252) (by decide +kernel), by decide +kernel⟩
theorem sel_X9_clock : Cond.selects RX9 yX9_clock yX9_clock ∈ TB := List.mem_filter.mpr ⟨List.mem_of_getElem? (i := 253) (by decide +kernel), by decide +kernel⟩
theorem cod_X9_clock : Cond.code yX9_clock cX9_clock 5 (some .int) ∈ TB := List.mem_filter.mpr ⟨List.mem_of_getElem? (i := 254) (by decide +kernel), by decide +kernel⟩
theorem im_X9_stationAt : Cond.instanceMethod yX9_stationAt ∈ TB := List.mem_filter.mpr ⟨List.mem_of_getElem? (i := 257) (by decide +kernel), by decide +kernel⟩
theorem im_X9_glow : Cond.instanceMethod yX9_glow ∈ TB := List.mem_filter.mpr ⟨List.mem_of_getElem? (i := 260) (by decide +kernel), by decide +kernel⟩
theorem sel_X9_glow : Cond.selects RX9 yX9_glow yX9_glow ∈ TB := List.mem_filter.mpr ⟨List.mem_of_getElem? (i := 261) (by decide +kernel), by decide +kernel⟩
theorem cod_X9_glow : Cond.code yX9_glow cX9_glow 7 (some .int) ∈ TB := List.mem_filter.mpr ⟨List.mem_of_getElem? (i := 262) (by decide +kernel), by decide +kernel⟩
theorem sta_X9_isInSky : Cond.static yX9_isInSky ∈ TB := List.mem_filter.mpr ⟨List.mem_of_getElem? (i := 264) (by decide +kernel), by decide +kernel⟩
theorem cod_X9_isInSky : Cond.code yX9_isInSky cX9_isInSky 4 (some .boolean) ∈ TB := List.mem_filter.mpr ⟨List.mem_of_getElem? (i := 265) (by decide +kernel), by decide +kernel⟩
theorem sta_X9_isNight : Cond.static yX9_isNight ∈ TB := List.mem_filter.mpr ⟨List.mem_of_getElem? (i := 267) (by decide +kernel), by decide +kernel⟩
theorem cod_X9_isNight : Cond.code yX9_isNight cX9_isNight 1 (some .boolean) ∈ TB := List.mem_filter.mpr ⟨List.mem_of_getElem? (i := 268) (by decide +kernel), by decide +kernel⟩
theorem inst_X3 : Cond.instantiable RX3 5 ∈ TB := List.mem_filter.mpr ⟨List.mem_of_getElem? (i := 269) (by decide +kernel), by decide +kernel⟩
theorem im_X3_init : Cond.instanceMethod yX3_init ∈ TB := List.mem_filter.mpr ⟨List.mem_of_getElem? (i := 271) (by decide +kernel), by decide +kernel⟩
theorem cod_X3_init : Cond.code yX3_init cX3_init 6 none ∈ TB := List.mem_filter.mpr ⟨List.mem_of_getElem? (i := 272) (by decide +kernel), by decide +kernel⟩
theorem im_X9_keep : Cond.instanceMethod yX9_keep ∈ TB := List.mem_filter.mpr ⟨List.mem_of_getElem? (i := 304) (by decide +kernel), by decide +kernel⟩
theorem cod_X9_keep : Cond.code yX9_keep cX9_keep 3 (some .int) ∈ TB := List.mem_filter.mpr ⟨List.mem_of_getElem? (i := 305) (by decide +kernel), by decide +kernel⟩
theorem im_X9_isSeenNight : Cond.instanceMethod yX9_isSeenNight ∈ TB := List.mem_filter.mpr ⟨List.mem_of_getElem? (i := 308) (by decide +kernel), by decide +kernel⟩
theorem cod_X9_isSeenNight : Cond.code yX9_isSeenNight cX9_isSeenNight 3 (some .boolean) ∈ TB := List.mem_filter.mpr ⟨List.mem_of_getElem? (i := 309) (by decide +kernel), by decide +kernel⟩
theorem im_X9_arc : Cond.instanceMethod yX9_arc ∈ TB := List.mem_filter.mpr ⟨List.mem_of_getElem? (i := 311) (by decide +kernel), by decide +kernel⟩
theorem sel_X9_arc : Cond.selects RX9 yX9_arc yX9_arc ∈ TB := List.mem_filter.mpr ⟨List.mem_of_getElem? (i := 312) (by decide +kernel), by decide +kernel⟩
theorem cod_X9_arc : Cond.code yX9_arc cX9_arc 8 (some .int) ∈ TB := List.mem_filter.mpr ⟨List.mem_of_getElem? (i := 313) (by decide +kernel), by decide +kernel⟩
theorem sta_X9_isColour : Cond.static yX9_isColour ∈ TB := List.mem_filter.mpr ⟨List.mem_of_getElem? (i := 315) (by decide +kernel), by decide +kernel⟩
theorem cod_X9_isColour : Cond.code yX9_isColour cX9_isColour 1 (some .boolean) ∈ TB := List.mem_filter.mpr ⟨List.mem_of_getElem? (i := 316) (by decide +kernel), by decide +kernel⟩
theorem inst_X0 : Cond.instantiable RX0 8 ∈ TB := List.mem_filter.mpr ⟨List.mem_of_getElem? (i := 318) (by decide +kernel), by decide +kernel⟩
theorem im_X0_init : Cond.instanceMethod yX0_init ∈ TB := List.mem_filter.mpr ⟨List.mem_of_getElem? (i := 320) (by decide +kernel), by decide +kernel⟩
theorem cod_X0_init : Cond.code yX0_init cX0_init 7 none ∈ TB := List.mem_filter.mpr ⟨List.mem_of_getElem? (i := 321) (by decide +kernel), by decide +kernel⟩
theorem sta_X9_sine : Cond.static yX9_sine ∈ TB := List.mem_filter.mpr ⟨List.mem_of_getElem? (i := 324) (by decide +kernel), by decide +kernel⟩
theorem cod_X9_sine : Cond.code yX9_sine cX9_sine 4 (some .int) ∈ TB := List.mem_filter.mpr ⟨List.mem_of_getElem? (i := 325) (by decide +kernel), by decide +kernel⟩
theorem sta_J9_floorMod_7cf53 : Cond.static yJ9_floorMod_7cf53 ∈ TB := List.mem_filter.mpr ⟨List.mem_of_getElem? (i := 327) (by decide +kernel), by decide +kernel⟩
theorem cod_J9_floorMod_7cf53 : Cond.code yJ9_floorMod_7cf53 cJ9_floorMod_7cf53 3 (some .int) ∈ TB := List.mem_filter.mpr ⟨List.mem_of_getElem? (i := 328) (by decide +kernel), by decide +kernel⟩
theorem sta_X9_cosine : Cond.static yX9_cosine ∈ TB := List.mem_filter.mpr ⟨List.mem_of_getElem? (i := 332) (by decide +kernel), by decide +kernel⟩
theorem cod_X9_cosine : Cond.code yX9_cosine cX9_cosine 1 (some .int) ∈ TB := List.mem_filter.mpr ⟨List.mem_of_getElem? (i := 333) (by decide +kernel), by decide +kernel⟩
theorem im_X9_ray : Cond.instanceMethod yX9_ray ∈ TB := List.mem_filter.mpr ⟨List.mem_of_getElem? (i := 354) (by decide +kernel), by decide +kernel⟩
theorem sel_X9_ray : Cond.selects RX9 yX9_ray yX9_ray ∈ TB := List.mem_filter.mpr ⟨List.mem_of_getElem? (i := 355) (by decide +kernel), by decide +kernel⟩
theorem cod_X9_ray : Cond.code yX9_ray cX9_ray 9 (some .int) ∈ TB := List.mem_filter.mpr ⟨List.mem_of_getElem? (i := 356) (by decide +kernel), by decide +kernel⟩
theorem inst_X4 : Cond.instantiable RX4 9 ∈ TB := List.mem_filter.mpr ⟨List.mem_of_getElem? (i := 358) (by decide +kernel), by decide +kernel⟩
theorem im_X4_init : Cond.instanceMethod yX4_init ∈ TB := List.mem_filter.mpr ⟨List.mem_of_getElem? (i := 360) (by decide +kernel), by decide +kernel⟩
theorem cod_X4_init : Cond.code yX4_init cX4_init 8 none ∈ TB := List.mem_filter.mpr ⟨List.mem_of_getElem? (i := 361) (by decide +kernel), by decide +kernel⟩
theorem im_X9_told : Cond.instanceMethod yX9_told ∈ TB := List.mem_filter.mpr ⟨List.mem_of_getElem? (i := 377) (by decide +kernel), by decide +kernel⟩
theorem sel_X9_told : Cond.selects RX9 yX9_told yX9_told ∈ TB := List.mem_filter.mpr ⟨List.mem_of_getElem? (i := 378) (by decide +kernel), by decide +kernel⟩
theorem cod_X9_told : Cond.code yX9_told cX9_told 4 (some .int) ∈ TB := List.mem_filter.mpr ⟨List.mem_of_getElem? (i := 379) (by decide +kernel), by decide +kernel⟩
theorem im_X9_sightingAt : Cond.instanceMethod yX9_sightingAt ∈ TB := List.mem_filter.mpr ⟨List.mem_of_getElem? (i := 382) (by decide +kernel), by decide +kernel⟩
theorem im_X3_kind : Cond.instanceMethod yX3_kind ∈ TB := List.mem_filter.mpr ⟨List.mem_of_getElem? (i := 385) (by decide +kernel), by decide +kernel⟩
theorem sel_X3_kind : Cond.selects RX3 yX3_kind yX3_kind ∈ TB := List.mem_filter.mpr ⟨List.mem_of_getElem? (i := 386) (by decide +kernel), by decide +kernel⟩
theorem im_X0_kind : Cond.instanceMethod yX0_kind ∈ TB := List.mem_filter.mpr ⟨List.mem_of_getElem? (i := 389) (by decide +kernel), by decide +kernel⟩
theorem cod_X0_kind : Cond.code yX0_kind cX0_kind 1 (some .int) ∈ TB := List.mem_filter.mpr ⟨List.mem_of_getElem? (i := 390) (by decide +kernel), by decide +kernel⟩
theorem im_X4_kind : Cond.instanceMethod yX4_kind ∈ TB := List.mem_filter.mpr ⟨List.mem_of_getElem? (i := 392) (by decide +kernel), by decide +kernel⟩
theorem cod_X4_kind : Cond.code yX4_kind cX4_kind 1 (some .int) ∈ TB := List.mem_filter.mpr ⟨List.mem_of_getElem? (i := 393) (by decide +kernel), by decide +kernel⟩
theorem cod_X3_kind : Cond.code yX3_kind cX3_kind 1 (some .int) ∈ TB := List.mem_filter.mpr ⟨List.mem_of_getElem? (i := 394) (by decide +kernel), by decide +kernel⟩
theorem im_X3_earliest : Cond.instanceMethod yX3_earliest ∈ TB := List.mem_filter.mpr ⟨List.mem_of_getElem? (i := 396) (by decide +kernel), by decide +kernel⟩
theorem sel_X3_earliest : Cond.selects RX3 yX3_earliest yX3_earliest ∈ TB := List.mem_filter.mpr ⟨List.mem_of_getElem? (i := 397) (by decide +kernel), by decide +kernel⟩
theorem cod_X3_earliest : Cond.code yX3_earliest cX3_earliest 1 (some .int) ∈ TB := List.mem_filter.mpr ⟨List.mem_of_getElem? (i := 401) (by decide +kernel), by decide +kernel⟩
theorem im_X3_latest : Cond.instanceMethod yX3_latest ∈ TB := List.mem_filter.mpr ⟨List.mem_of_getElem? (i := 403) (by decide +kernel), by decide +kernel⟩
theorem sel_X3_latest : Cond.selects RX3 yX3_latest yX3_latest ∈ TB := List.mem_filter.mpr ⟨List.mem_of_getElem? (i := 404) (by decide +kernel), by decide +kernel⟩
theorem cod_X3_latest : Cond.code yX3_latest cX3_latest 1 (some .int) ∈ TB := List.mem_filter.mpr ⟨List.mem_of_getElem? (i := 408) (by decide +kernel), by decide +kernel⟩
theorem im_X9_colour : Cond.instanceMethod yX9_colour ∈ TB := List.mem_filter.mpr ⟨List.mem_of_getElem? (i := 410) (by decide +kernel), by decide +kernel⟩
theorem sel_X9_colour : Cond.selects RX9 yX9_colour yX9_colour ∈ TB := List.mem_filter.mpr ⟨List.mem_of_getElem? (i := 411) (by decide +kernel), by decide +kernel⟩
theorem cod_X9_colour : Cond.code yX9_colour cX9_colour 4 (some .int) ∈ TB := List.mem_filter.mpr ⟨List.mem_of_getElem? (i := 412) (by decide +kernel), by decide +kernel⟩
theorem im_X9_lean : Cond.instanceMethod yX9_lean ∈ TB := List.mem_filter.mpr ⟨List.mem_of_getElem? (i := 414) (by decide +kernel), by decide +kernel⟩
theorem sel_X9_lean : Cond.selects RX9 yX9_lean yX9_lean ∈ TB := List.mem_filter.mpr ⟨List.mem_of_getElem? (i := 415) (by decide +kernel), by decide +kernel⟩
theorem cod_X9_lean : Cond.code yX9_lean cX9_lean 4 (some .int) ∈ TB := List.mem_filter.mpr ⟨List.mem_of_getElem? (i := 416) (by decide +kernel), by decide +kernel⟩
theorem im_X9_table : Cond.instanceMethod yX9_table ∈ TB := List.mem_filter.mpr ⟨List.mem_of_getElem? (i := 418) (by decide +kernel), by decide +kernel⟩
theorem sel_X9_table : Cond.selects RX9 yX9_table yX9_table ∈ TB := List.mem_filter.mpr ⟨List.mem_of_getElem? (i := 419) (by decide +kernel), by decide +kernel⟩
theorem cod_X9_table : Cond.code yX9_table cX9_table 3 (some .int) ∈ TB := List.mem_filter.mpr ⟨List.mem_of_getElem? (i := 420) (by decide +kernel), by decide +kernel⟩
theorem k_X9_164 : Cond.constant RX9 164 (-100001) ∈ TB := List.mem_filter.mpr ⟨List.mem_of_getElem? (i := 424) (by decide +kernel), by decide +kernel⟩
theorem im_X9_thick : Cond.instanceMethod yX9_thick ∈ TB := List.mem_filter.mpr ⟨List.mem_of_getElem? (i := 426) (by decide +kernel), by decide +kernel⟩
theorem sel_X9_thick : Cond.selects RX9 yX9_thick yX9_thick ∈ TB := List.mem_filter.mpr ⟨List.mem_of_getElem? (i := 427) (by decide +kernel), by decide +kernel⟩
theorem cod_X9_thick : Cond.code yX9_thick cX9_thick 3 (some .int) ∈ TB := List.mem_filter.mpr ⟨List.mem_of_getElem? (i := 428) (by decide +kernel), by decide +kernel⟩
theorem im_X9_meets : Cond.instanceMethod yX9_meets ∈ TB := List.mem_filter.mpr ⟨List.mem_of_getElem? (i := 430) (by decide +kernel), by decide +kernel⟩
theorem sel_X9_meets : Cond.selects RX9 yX9_meets yX9_meets ∈ TB := List.mem_filter.mpr ⟨List.mem_of_getElem? (i := 431) (by decide +kernel), by decide +kernel⟩
theorem cod_X9_meets : Cond.code yX9_meets cX9_meets 7 (some .int) ∈ TB := List.mem_filter.mpr ⟨List.mem_of_getElem? (i := 432) (by decide +kernel), by decide +kernel⟩
theorem im_X1_find : Cond.instanceMethod yX1_find ∈ TB := List.mem_filter.mpr ⟨List.mem_of_getElem? (i := 434) (by decide +kernel), by decide +kernel⟩
theorem sel_X1_find : Cond.selects RX1 yX1_find yX1_find ∈ TB := List.mem_filter.mpr ⟨List.mem_of_getElem? (i := 435) (by decide +kernel), by decide +kernel⟩
theorem cod_X1_find : Cond.code yX1_find cX1_find 11 (some .boolean) ∈ TB := List.mem_filter.mpr ⟨List.mem_of_getElem? (i := 436) (by decide +kernel), by decide +kernel⟩
theorem sta_J9_abs_0f7a4 : Cond.static yJ9_abs_0f7a4 ∈ TB := List.mem_filter.mpr ⟨List.mem_of_getElem? (i := 438) (by decide +kernel), by decide +kernel⟩
theorem cod_J9_abs_0f7a4 : Cond.code yJ9_abs_0f7a4 cJ9_abs_0f7a4 1 (some .int) ∈ TB := List.mem_filter.mpr ⟨List.mem_of_getElem? (i := 439) (by decide +kernel), by decide +kernel⟩
theorem k_X1_37 : Cond.constant RX1 37 (50000) ∈ TB := List.mem_filter.mpr ⟨List.mem_of_getElem? (i := 440) (by decide +kernel), by decide +kernel⟩
theorem k_X1_44 : Cond.constantLong RX1 44 (1000) ∈ TB := List.mem_filter.mpr ⟨List.mem_of_getElem? (i := 441) (by decide +kernel), by decide +kernel⟩
theorem k_X1_46 : Cond.constantLong RX1 46 (1500) ∈ TB := List.mem_filter.mpr ⟨List.mem_of_getElem? (i := 442) (by decide +kernel), by decide +kernel⟩
theorem im_X1_findHeights : Cond.instanceMethod yX1_findHeights ∈ TB := List.mem_filter.mpr ⟨List.mem_of_getElem? (i := 445) (by decide +kernel), by decide +kernel⟩
theorem cod_X1_findHeights : Cond.code yX1_findHeights cX1_findHeights 8 (some .boolean) ∈ TB := List.mem_filter.mpr ⟨List.mem_of_getElem? (i := 446) (by decide +kernel), by decide +kernel⟩
theorem sta_X1_rise : Cond.static yX1_rise ∈ TB := List.mem_filter.mpr ⟨List.mem_of_getElem? (i := 448) (by decide +kernel), by decide +kernel⟩
theorem cod_X1_rise : Cond.code yX1_rise cX1_rise 2 (some .int) ∈ TB := List.mem_filter.mpr ⟨List.mem_of_getElem? (i := 449) (by decide +kernel), by decide +kernel⟩
theorem sta_J9_max_7cf53 : Cond.static yJ9_max_7cf53 ∈ TB := List.mem_filter.mpr ⟨List.mem_of_getElem? (i := 452) (by decide +kernel), by decide +kernel⟩
theorem cod_J9_max_7cf53 : Cond.code yJ9_max_7cf53 cJ9_max_7cf53 2 (some .int) ∈ TB := List.mem_filter.mpr ⟨List.mem_of_getElem? (i := 453) (by decide +kernel), by decide +kernel⟩
theorem sta_J9_min_7cf53 : Cond.static yJ9_min_7cf53 ∈ TB := List.mem_filter.mpr ⟨List.mem_of_getElem? (i := 455) (by decide +kernel), by decide +kernel⟩
theorem cod_J9_min_7cf53 : Cond.code yJ9_min_7cf53 cJ9_min_7cf53 2 (some .int) ∈ TB := List.mem_filter.mpr ⟨List.mem_of_getElem? (i := 456) (by decide +kernel), by decide +kernel⟩
theorem im_X0_mayBeAtOnceWith : Cond.instanceMethod yX0_mayBeAtOnceWith ∈ TB := List.mem_filter.mpr ⟨List.mem_of_getElem? (i := 458) (by decide +kernel), by decide +kernel⟩
theorem sel_X0_mayBeAtOnceWith : Cond.selects RX0 yX0_mayBeAtOnceWith yX0_mayBeAtOnceWith ∈ TB := List.mem_filter.mpr ⟨List.mem_of_getElem? (i := 459) (by decide +kernel), by decide +kernel⟩
theorem cod_X0_mayBeAtOnceWith : Cond.code yX0_mayBeAtOnceWith cX0_mayBeAtOnceWith 2 (some .boolean) ∈ TB := List.mem_filter.mpr ⟨List.mem_of_getElem? (i := 462) (by decide +kernel), by decide +kernel⟩
theorem im_X9_cross : Cond.instanceMethod yX9_cross ∈ TB := List.mem_filter.mpr ⟨List.mem_of_getElem? (i := 474) (by decide +kernel), by decide +kernel⟩
theorem sel_X9_cross : Cond.selects RX9 yX9_cross yX9_cross ∈ TB := List.mem_filter.mpr ⟨List.mem_of_getElem? (i := 475) (by decide +kernel), by decide +kernel⟩
theorem cod_X9_cross : Cond.code yX9_cross cX9_cross 8 (some .int) ∈ TB := List.mem_filter.mpr ⟨List.mem_of_getElem? (i := 476) (by decide +kernel), by decide +kernel⟩
theorem k_X9_176 : Cond.constant RX9 176 (-100004) ∈ TB := List.mem_filter.mpr ⟨List.mem_of_getElem? (i := 477) (by decide +kernel), by decide +kernel⟩
theorem k_X9_177 : Cond.constant RX9 177 (-100012) ∈ TB := List.mem_filter.mpr ⟨List.mem_of_getElem? (i := 478) (by decide +kernel), by decide +kernel⟩
theorem im_X9_curtains : Cond.instanceMethod yX9_curtains ∈ TB := List.mem_filter.mpr ⟨List.mem_of_getElem? (i := 480) (by decide +kernel), by decide +kernel⟩
theorem sel_X9_curtains : Cond.selects RX9 yX9_curtains yX9_curtains ∈ TB := List.mem_filter.mpr ⟨List.mem_of_getElem? (i := 481) (by decide +kernel), by decide +kernel⟩
theorem cod_X9_curtains : Cond.code yX9_curtains cX9_curtains 2 (some .int) ∈ TB := List.mem_filter.mpr ⟨List.mem_of_getElem? (i := 482) (by decide +kernel), by decide +kernel⟩
theorem im_X9_lookAt : Cond.instanceMethod yX9_lookAt ∈ TB := List.mem_filter.mpr ⟨List.mem_of_getElem? (i := 485) (by decide +kernel), by decide +kernel⟩
theorem cod_X9_lookAt : Cond.code yX9_lookAt cX9_lookAt 2 (some .int) ∈ TB := List.mem_filter.mpr ⟨List.mem_of_getElem? (i := 486) (by decide +kernel), by decide +kernel⟩
theorem im_X6_gather : Cond.instanceMethod yX6_gather ∈ TB := List.mem_filter.mpr ⟨List.mem_of_getElem? (i := 488) (by decide +kernel), by decide +kernel⟩
theorem sel_X6_gather : Cond.selects RX6 yX6_gather yX6_gather ∈ TB := List.mem_filter.mpr ⟨List.mem_of_getElem? (i := 489) (by decide +kernel), by decide +kernel⟩
theorem cod_X6_gather : Cond.code yX6_gather cX6_gather 7 (some .boolean) ∈ TB := List.mem_filter.mpr ⟨List.mem_of_getElem? (i := 490) (by decide +kernel), by decide +kernel⟩
theorem im_X6_partCurtains : Cond.instanceMethod yX6_partCurtains ∈ TB := List.mem_filter.mpr ⟨List.mem_of_getElem? (i := 492) (by decide +kernel), by decide +kernel⟩
theorem sel_X6_partCurtains : Cond.selects RX6 yX6_partCurtains yX6_partCurtains ∈ TB := List.mem_filter.mpr ⟨List.mem_of_getElem? (i := 493) (by decide +kernel), by decide +kernel⟩
theorem cod_X6_partCurtains : Cond.code yX6_partCurtains cX6_partCurtains 5 (some .int) ∈ TB := List.mem_filter.mpr ⟨List.mem_of_getElem? (i := 494) (by decide +kernel), by decide +kernel⟩
theorem im_X6_findMeetings : Cond.instanceMethod yX6_findMeetings ∈ TB := List.mem_filter.mpr ⟨List.mem_of_getElem? (i := 497) (by decide +kernel), by decide +kernel⟩
theorem cod_X6_findMeetings : Cond.code yX6_findMeetings cX6_findMeetings 5 none ∈ TB := List.mem_filter.mpr ⟨List.mem_of_getElem? (i := 498) (by decide +kernel), by decide +kernel⟩
theorem im_X6_partFrom : Cond.instanceMethod yX6_partFrom ∈ TB := List.mem_filter.mpr ⟨List.mem_of_getElem? (i := 503) (by decide +kernel), by decide +kernel⟩
theorem cod_X6_partFrom : Cond.code yX6_partFrom cX6_partFrom 6 (some .boolean) ∈ TB := List.mem_filter.mpr ⟨List.mem_of_getElem? (i := 504) (by decide +kernel), by decide +kernel⟩
theorem im_X6_tellCurtain : Cond.instanceMethod yX6_tellCurtain ∈ TB := List.mem_filter.mpr ⟨List.mem_of_getElem? (i := 508) (by decide +kernel), by decide +kernel⟩
theorem cod_X6_tellCurtain : Cond.code yX6_tellCurtain cX6_tellCurtain 7 none ∈ TB := List.mem_filter.mpr ⟨List.mem_of_getElem? (i := 509) (by decide +kernel), by decide +kernel⟩
theorem im_X2_clear : Cond.instanceMethod yX2_clear ∈ TB := List.mem_filter.mpr ⟨List.mem_of_getElem? (i := 511) (by decide +kernel), by decide +kernel⟩
theorem sel_X2_clear : Cond.selects RX2 yX2_clear yX2_clear ∈ TB := List.mem_filter.mpr ⟨List.mem_of_getElem? (i := 512) (by decide +kernel), by decide +kernel⟩
theorem cod_X2_clear : Cond.code yX2_clear cX2_clear 1 none ∈ TB := List.mem_filter.mpr ⟨List.mem_of_getElem? (i := 513) (by decide +kernel), by decide +kernel⟩
theorem im_X2_take : Cond.instanceMethod yX2_take ∈ TB := List.mem_filter.mpr ⟨List.mem_of_getElem? (i := 515) (by decide +kernel), by decide +kernel⟩
theorem sel_X2_take : Cond.selects RX2 yX2_take yX2_take ∈ TB := List.mem_filter.mpr ⟨List.mem_of_getElem? (i := 516) (by decide +kernel), by decide +kernel⟩
theorem cod_X2_take : Cond.code yX2_take cX2_take 4 none ∈ TB := List.mem_filter.mpr ⟨List.mem_of_getElem? (i := 517) (by decide +kernel), by decide +kernel⟩
theorem im_X2_takePair : Cond.instanceMethod yX2_takePair ∈ TB := List.mem_filter.mpr ⟨List.mem_of_getElem? (i := 523) (by decide +kernel), by decide +kernel⟩
theorem sel_X2_takePair : Cond.selects RX2 yX2_takePair yX2_takePair ∈ TB := List.mem_filter.mpr ⟨List.mem_of_getElem? (i := 524) (by decide +kernel), by decide +kernel⟩
theorem cod_X2_takePair : Cond.code yX2_takePair cX2_takePair 2 none ∈ TB := List.mem_filter.mpr ⟨List.mem_of_getElem? (i := 525) (by decide +kernel), by decide +kernel⟩
theorem im_X2_finish : Cond.instanceMethod yX2_finish ∈ TB := List.mem_filter.mpr ⟨List.mem_of_getElem? (i := 527) (by decide +kernel), by decide +kernel⟩
theorem sel_X2_finish : Cond.selects RX2 yX2_finish yX2_finish ∈ TB := List.mem_filter.mpr ⟨List.mem_of_getElem? (i := 528) (by decide +kernel), by decide +kernel⟩
theorem cod_X2_finish : Cond.code yX2_finish cX2_finish 1 none ∈ TB := List.mem_filter.mpr ⟨List.mem_of_getElem? (i := 529) (by decide +kernel), by decide +kernel⟩
theorem sta_J9_floorDiv_7cf53 : Cond.static yJ9_floorDiv_7cf53 ∈ TB := List.mem_filter.mpr ⟨List.mem_of_getElem? (i := 531) (by decide +kernel), by decide +kernel⟩
theorem cod_J9_floorDiv_7cf53 : Cond.code yJ9_floorDiv_7cf53 cJ9_floorDiv_7cf53 3 (some .int) ∈ TB := List.mem_filter.mpr ⟨List.mem_of_getElem? (i := 532) (by decide +kernel), by decide +kernel⟩
theorem im_X9_curtain : Cond.instanceMethod yX9_curtain ∈ TB := List.mem_filter.mpr ⟨List.mem_of_getElem? (i := 534) (by decide +kernel), by decide +kernel⟩
theorem sel_X9_curtain : Cond.selects RX9 yX9_curtain yX9_curtain ∈ TB := List.mem_filter.mpr ⟨List.mem_of_getElem? (i := 535) (by decide +kernel), by decide +kernel⟩
theorem cod_X9_curtain : Cond.code yX9_curtain cX9_curtain 6 (some .int) ∈ TB := List.mem_filter.mpr ⟨List.mem_of_getElem? (i := 536) (by decide +kernel), by decide +kernel⟩
theorem k_X9_184 : Cond.constant RX9 184 (-100003) ∈ TB := List.mem_filter.mpr ⟨List.mem_of_getElem? (i := 537) (by decide +kernel), by decide +kernel⟩
theorem im_X2_hasPlace : Cond.instanceMethod yX2_hasPlace ∈ TB := List.mem_filter.mpr ⟨List.mem_of_getElem? (i := 539) (by decide +kernel), by decide +kernel⟩
theorem sel_X2_hasPlace : Cond.selects RX2 yX2_hasPlace yX2_hasPlace ∈ TB := List.mem_filter.mpr ⟨List.mem_of_getElem? (i := 540) (by decide +kernel), by decide +kernel⟩
theorem cod_X2_hasPlace : Cond.code yX2_hasPlace cX2_hasPlace 1 (some .boolean) ∈ TB := List.mem_filter.mpr ⟨List.mem_of_getElem? (i := 541) (by decide +kernel), by decide +kernel⟩
theorem im_X2_answer : Cond.instanceMethod yX2_answer ∈ TB := List.mem_filter.mpr ⟨List.mem_of_getElem? (i := 543) (by decide +kernel), by decide +kernel⟩
theorem sel_X2_answer : Cond.selects RX2 yX2_answer yX2_answer ∈ TB := List.mem_filter.mpr ⟨List.mem_of_getElem? (i := 544) (by decide +kernel), by decide +kernel⟩
theorem cod_X2_answer : Cond.code yX2_answer cX2_answer 2 (some .int) ∈ TB := List.mem_filter.mpr ⟨List.mem_of_getElem? (i := 545) (by decide +kernel), by decide +kernel⟩
theorem im_X9_curtainOf : Cond.instanceMethod yX9_curtainOf ∈ TB := List.mem_filter.mpr ⟨List.mem_of_getElem? (i := 547) (by decide +kernel), by decide +kernel⟩
theorem sel_X9_curtainOf : Cond.selects RX9 yX9_curtainOf yX9_curtainOf ∈ TB := List.mem_filter.mpr ⟨List.mem_of_getElem? (i := 548) (by decide +kernel), by decide +kernel⟩
theorem cod_X9_curtainOf : Cond.code yX9_curtainOf cX9_curtainOf 3 (some .int) ∈ TB := List.mem_filter.mpr ⟨List.mem_of_getElem? (i := 549) (by decide +kernel), by decide +kernel⟩
theorem im_X6_setOfSighting : Cond.instanceMethod yX6_setOfSighting ∈ TB := List.mem_filter.mpr ⟨List.mem_of_getElem? (i := 551) (by decide +kernel), by decide +kernel⟩
theorem sel_X6_setOfSighting : Cond.selects RX6 yX6_setOfSighting yX6_setOfSighting ∈ TB := List.mem_filter.mpr ⟨List.mem_of_getElem? (i := 552) (by decide +kernel), by decide +kernel⟩
theorem cod_X6_setOfSighting : Cond.code yX6_setOfSighting cX6_setOfSighting 3 (some .int) ∈ TB := List.mem_filter.mpr ⟨List.mem_of_getElem? (i := 553) (by decide +kernel), by decide +kernel⟩
theorem im_X9_speed : Cond.instanceMethod yX9_speed ∈ TB := List.mem_filter.mpr ⟨List.mem_of_getElem? (i := 555) (by decide +kernel), by decide +kernel⟩
theorem sel_X9_speed : Cond.selects RX9 yX9_speed yX9_speed ∈ TB := List.mem_filter.mpr ⟨List.mem_of_getElem? (i := 556) (by decide +kernel), by decide +kernel⟩
theorem cod_X9_speed : Cond.code yX9_speed cX9_speed 3 (some .int) ∈ TB := List.mem_filter.mpr ⟨List.mem_of_getElem? (i := 557) (by decide +kernel), by decide +kernel⟩
theorem im_X9_ways : Cond.instanceMethod yX9_ways ∈ TB := List.mem_filter.mpr ⟨List.mem_of_getElem? (i := 559) (by decide +kernel), by decide +kernel⟩
theorem sel_X9_ways : Cond.selects RX9 yX9_ways yX9_ways ∈ TB := List.mem_filter.mpr ⟨List.mem_of_getElem? (i := 560) (by decide +kernel), by decide +kernel⟩
theorem cod_X9_ways : Cond.code yX9_ways cX9_ways 2 (some .int) ∈ TB := List.mem_filter.mpr ⟨List.mem_of_getElem? (i := 561) (by decide +kernel), by decide +kernel⟩
theorem im_X6_joinWays : Cond.instanceMethod yX6_joinWays ∈ TB := List.mem_filter.mpr ⟨List.mem_of_getElem? (i := 563) (by decide +kernel), by decide +kernel⟩
theorem sel_X6_joinWays : Cond.selects RX6 yX6_joinWays yX6_joinWays ∈ TB := List.mem_filter.mpr ⟨List.mem_of_getElem? (i := 564) (by decide +kernel), by decide +kernel⟩
theorem cod_X6_joinWays : Cond.code yX6_joinWays cX6_joinWays 8 (some .int) ∈ TB := List.mem_filter.mpr ⟨List.mem_of_getElem? (i := 565) (by decide +kernel), by decide +kernel⟩
theorem im_X6_findFollowers : Cond.instanceMethod yX6_findFollowers ∈ TB := List.mem_filter.mpr ⟨List.mem_of_getElem? (i := 568) (by decide +kernel), by decide +kernel⟩
theorem cod_X6_findFollowers : Cond.code yX6_findFollowers cX6_findFollowers 5 (some .int) ∈ TB := List.mem_filter.mpr ⟨List.mem_of_getElem? (i := 569) (by decide +kernel), by decide +kernel⟩
theorem im_X2_canBeFollowedBy : Cond.instanceMethod yX2_canBeFollowedBy ∈ TB := List.mem_filter.mpr ⟨List.mem_of_getElem? (i := 572) (by decide +kernel), by decide +kernel⟩
theorem sel_X2_canBeFollowedBy : Cond.selects RX2 yX2_canBeFollowedBy yX2_canBeFollowedBy ∈ TB := List.mem_filter.mpr ⟨List.mem_of_getElem? (i := 573) (by decide +kernel), by decide +kernel⟩
theorem cod_X2_canBeFollowedBy : Cond.code yX2_canBeFollowedBy cX2_canBeFollowedBy 5 (some .boolean) ∈ TB := List.mem_filter.mpr ⟨List.mem_of_getElem? (i := 574) (by decide +kernel), by decide +kernel⟩
theorem sta_X2_squareOfFar : Cond.static yX2_squareOfFar ∈ TB := List.mem_filter.mpr ⟨List.mem_of_getElem? (i := 577) (by decide +kernel), by decide +kernel⟩
theorem cod_X2_squareOfFar : Cond.code yX2_squareOfFar cX2_squareOfFar 2 (some .long) ∈ TB := List.mem_filter.mpr ⟨List.mem_of_getElem? (i := 578) (by decide +kernel), by decide +kernel⟩
theorem im_X6_mostLinks : Cond.instanceMethod yX6_mostLinks ∈ TB := List.mem_filter.mpr ⟨List.mem_of_getElem? (i := 581) (by decide +kernel), by decide +kernel⟩
theorem cod_X6_mostLinks : Cond.code yX6_mostLinks cX6_mostLinks 5 (some .int) ∈ TB := List.mem_filter.mpr ⟨List.mem_of_getElem? (i := 582) (by decide +kernel), by decide +kernel⟩
theorem im_X6_firstFollower : Cond.instanceMethod yX6_firstFollower ∈ TB := List.mem_filter.mpr ⟨List.mem_of_getElem? (i := 585) (by decide +kernel), by decide +kernel⟩
theorem cod_X6_firstFollower : Cond.code yX6_firstFollower cX6_firstFollower 6 (some .int) ∈ TB := List.mem_filter.mpr ⟨List.mem_of_getElem? (i := 586) (by decide +kernel), by decide +kernel⟩
theorem im_X9_next : Cond.instanceMethod yX9_next ∈ TB := List.mem_filter.mpr ⟨List.mem_of_getElem? (i := 588) (by decide +kernel), by decide +kernel⟩
theorem sel_X9_next : Cond.selects RX9 yX9_next yX9_next ∈ TB := List.mem_filter.mpr ⟨List.mem_of_getElem? (i := 589) (by decide +kernel), by decide +kernel⟩
theorem cod_X9_next : Cond.code yX9_next cX9_next 4 (some .int) ∈ TB := List.mem_filter.mpr ⟨List.mem_of_getElem? (i := 590) (by decide +kernel), by decide +kernel⟩
theorem im_X9_overhead : Cond.instanceMethod yX9_overhead ∈ TB := List.mem_filter.mpr ⟨List.mem_of_getElem? (i := 592) (by decide +kernel), by decide +kernel⟩
theorem sel_X9_overhead : Cond.selects RX9 yX9_overhead yX9_overhead ∈ TB := List.mem_filter.mpr ⟨List.mem_of_getElem? (i := 593) (by decide +kernel), by decide +kernel⟩
theorem cod_X9_overhead : Cond.code yX9_overhead cX9_overhead 6 (some .int) ∈ TB := List.mem_filter.mpr ⟨List.mem_of_getElem? (i := 594) (by decide +kernel), by decide +kernel⟩
theorem im_X2_nearestMinute : Cond.instanceMethod yX2_nearestMinute ∈ TB := List.mem_filter.mpr ⟨List.mem_of_getElem? (i := 597) (by decide +kernel), by decide +kernel⟩
theorem sel_X2_nearestMinute : Cond.selects RX2 yX2_nearestMinute yX2_nearestMinute ∈ TB := List.mem_filter.mpr ⟨List.mem_of_getElem? (i := 598) (by decide +kernel), by decide +kernel⟩
theorem cod_X2_nearestMinute : Cond.code yX2_nearestMinute cX2_nearestMinute 12 (some .int) ∈ TB := List.mem_filter.mpr ⟨List.mem_of_getElem? (i := 599) (by decide +kernel), by decide +kernel⟩
theorem im_X9_watch : Cond.instanceMethod yX9_watch ∈ TB := List.mem_filter.mpr ⟨List.mem_of_getElem? (i := 601) (by decide +kernel), by decide +kernel⟩
theorem sel_X9_watch : Cond.selects RX9 yX9_watch yX9_watch ∈ TB := List.mem_filter.mpr ⟨List.mem_of_getElem? (i := 602) (by decide +kernel), by decide +kernel⟩
theorem cod_X9_watch : Cond.code yX9_watch cX9_watch 8 (some .int) ∈ TB := List.mem_filter.mpr ⟨List.mem_of_getElem? (i := 603) (by decide +kernel), by decide +kernel⟩
theorem im_X9_watchOf : Cond.instanceMethod yX9_watchOf ∈ TB := List.mem_filter.mpr ⟨List.mem_of_getElem? (i := 606) (by decide +kernel), by decide +kernel⟩
theorem inst_X8 : Cond.instantiable RX8 4 ∈ TB := List.mem_filter.mpr ⟨List.mem_of_getElem? (i := 608) (by decide +kernel), by decide +kernel⟩
theorem im_X8_init : Cond.instanceMethod yX8_init ∈ TB := List.mem_filter.mpr ⟨List.mem_of_getElem? (i := 610) (by decide +kernel), by decide +kernel⟩
theorem cod_X8_init : Cond.code yX8_init cX8_init 5 none ∈ TB := List.mem_filter.mpr ⟨List.mem_of_getElem? (i := 611) (by decide +kernel), by decide +kernel⟩
theorem im_X9_seen : Cond.instanceMethod yX9_seen ∈ TB := List.mem_filter.mpr ⟨List.mem_of_getElem? (i := 631) (by decide +kernel), by decide +kernel⟩
theorem sel_X9_seen : Cond.selects RX9 yX9_seen yX9_seen ∈ TB := List.mem_filter.mpr ⟨List.mem_of_getElem? (i := 632) (by decide +kernel), by decide +kernel⟩
theorem cod_X9_seen : Cond.code yX9_seen cX9_seen 5 (some .int) ∈ TB := List.mem_filter.mpr ⟨List.mem_of_getElem? (i := 633) (by decide +kernel), by decide +kernel⟩
theorem im_X9_saw : Cond.instanceMethod yX9_saw ∈ TB := List.mem_filter.mpr ⟨List.mem_of_getElem? (i := 636) (by decide +kernel), by decide +kernel⟩
theorem cod_X9_saw : Cond.code yX9_saw cX9_saw 5 (some .boolean) ∈ TB := List.mem_filter.mpr ⟨List.mem_of_getElem? (i := 637) (by decide +kernel), by decide +kernel⟩
theorem im_X9_rate : Cond.instanceMethod yX9_rate ∈ TB := List.mem_filter.mpr ⟨List.mem_of_getElem? (i := 639) (by decide +kernel), by decide +kernel⟩
theorem sel_X9_rate : Cond.selects RX9 yX9_rate yX9_rate ∈ TB := List.mem_filter.mpr ⟨List.mem_of_getElem? (i := 640) (by decide +kernel), by decide +kernel⟩
theorem cod_X9_rate : Cond.code yX9_rate cX9_rate 11 (some .int) ∈ TB := List.mem_filter.mpr ⟨List.mem_of_getElem? (i := 641) (by decide +kernel), by decide +kernel⟩
theorem im_X9_round : Cond.instanceMethod yX9_round ∈ TB := List.mem_filter.mpr ⟨List.mem_of_getElem? (i := 643) (by decide +kernel), by decide +kernel⟩
theorem sel_X9_round : Cond.selects RX9 yX9_round yX9_round ∈ TB := List.mem_filter.mpr ⟨List.mem_of_getElem? (i := 644) (by decide +kernel), by decide +kernel⟩
theorem cod_X9_round : Cond.code yX9_round cX9_round 2 (some .int) ∈ TB := List.mem_filter.mpr ⟨List.mem_of_getElem? (i := 645) (by decide +kernel), by decide +kernel⟩
theorem im_X9_roundOf : Cond.instanceMethod yX9_roundOf ∈ TB := List.mem_filter.mpr ⟨List.mem_of_getElem? (i := 648) (by decide +kernel), by decide +kernel⟩
theorem cod_X9_roundOf : Cond.code yX9_roundOf cX9_roundOf 4 (some .int) ∈ TB := List.mem_filter.mpr ⟨List.mem_of_getElem? (i := 649) (by decide +kernel), by decide +kernel⟩
theorem im_X9_best : Cond.instanceMethod yX9_best ∈ TB := List.mem_filter.mpr ⟨List.mem_of_getElem? (i := 651) (by decide +kernel), by decide +kernel⟩
theorem sel_X9_best : Cond.selects RX9 yX9_best yX9_best ∈ TB := List.mem_filter.mpr ⟨List.mem_of_getElem? (i := 652) (by decide +kernel), by decide +kernel⟩
theorem cod_X9_best : Cond.code yX9_best cX9_best 5 (some .int) ∈ TB := List.mem_filter.mpr ⟨List.mem_of_getElem? (i := 653) (by decide +kernel), by decide +kernel⟩
theorem im_X9_share : Cond.instanceMethod yX9_share ∈ TB := List.mem_filter.mpr ⟨List.mem_of_getElem? (i := 655) (by decide +kernel), by decide +kernel⟩
theorem sel_X9_share : Cond.selects RX9 yX9_share yX9_share ∈ TB := List.mem_filter.mpr ⟨List.mem_of_getElem? (i := 656) (by decide +kernel), by decide +kernel⟩
theorem cod_X9_share : Cond.code yX9_share cX9_share 5 (some .int) ∈ TB := List.mem_filter.mpr ⟨List.mem_of_getElem? (i := 657) (by decide +kernel), by decide +kernel⟩
theorem im_X9_areShared : Cond.instanceMethod yX9_areShared ∈ TB := List.mem_filter.mpr ⟨List.mem_of_getElem? (i := 660) (by decide +kernel), by decide +kernel⟩
theorem cod_X9_areShared : Cond.code yX9_areShared cX9_areShared 6 (some .boolean) ∈ TB := List.mem_filter.mpr ⟨List.mem_of_getElem? (i := 661) (by decide +kernel), by decide +kernel⟩
theorem im_X9_mended : Cond.instanceMethod yX9_mended ∈ TB := List.mem_filter.mpr ⟨List.mem_of_getElem? (i := 663) (by decide +kernel), by decide +kernel⟩
theorem sel_X9_mended : Cond.selects RX9 yX9_mended yX9_mended ∈ TB := List.mem_filter.mpr ⟨List.mem_of_getElem? (i := 664) (by decide +kernel), by decide +kernel⟩
theorem cod_X9_mended : Cond.code yX9_mended cX9_mended 12 (some .int) ∈ TB := List.mem_filter.mpr ⟨List.mem_of_getElem? (i := 665) (by decide +kernel), by decide +kernel⟩
theorem im_X9_moved : Cond.instanceMethod yX9_moved ∈ TB := List.mem_filter.mpr ⟨List.mem_of_getElem? (i := 669) (by decide +kernel), by decide +kernel⟩
theorem sel_X9_moved : Cond.selects RX9 yX9_moved yX9_moved ∈ TB := List.mem_filter.mpr ⟨List.mem_of_getElem? (i := 670) (by decide +kernel), by decide +kernel⟩
theorem cod_X9_moved : Cond.code yX9_moved cX9_moved 10 (some .int) ∈ TB := List.mem_filter.mpr ⟨List.mem_of_getElem? (i := 671) (by decide +kernel), by decide +kernel⟩
theorem im_X9_count : Cond.instanceMethod yX9_count ∈ TB := List.mem_filter.mpr ⟨List.mem_of_getElem? (i := 673) (by decide +kernel), by decide +kernel⟩
theorem sel_X9_count : Cond.selects RX9 yX9_count yX9_count ∈ TB := List.mem_filter.mpr ⟨List.mem_of_getElem? (i := 674) (by decide +kernel), by decide +kernel⟩
theorem cod_X9_count : Cond.code yX9_count cX9_count 2 (some .int) ∈ TB := List.mem_filter.mpr ⟨List.mem_of_getElem? (i := 675) (by decide +kernel), by decide +kernel⟩
theorem im_X9_sheet : Cond.instanceMethod yX9_sheet ∈ TB := List.mem_filter.mpr ⟨List.mem_of_getElem? (i := 677) (by decide +kernel), by decide +kernel⟩
theorem sel_X9_sheet : Cond.selects RX9 yX9_sheet yX9_sheet ∈ TB := List.mem_filter.mpr ⟨List.mem_of_getElem? (i := 678) (by decide +kernel), by decide +kernel⟩
theorem cod_X9_sheet : Cond.code yX9_sheet cX9_sheet 4 (some .int) ∈ TB := List.mem_filter.mpr ⟨List.mem_of_getElem? (i := 679) (by decide +kernel), by decide +kernel⟩
theorem sta_X9_isSheet : Cond.static yX9_isSheet ∈ TB := List.mem_filter.mpr ⟨List.mem_of_getElem? (i := 681) (by decide +kernel), by decide +kernel⟩
theorem cod_X9_isSheet : Cond.code yX9_isSheet cX9_isSheet 1 (some .boolean) ∈ TB := List.mem_filter.mpr ⟨List.mem_of_getElem? (i := 682) (by decide +kernel), by decide +kernel⟩
theorem sta_X9_isLane : Cond.static yX9_isLane ∈ TB := List.mem_filter.mpr ⟨List.mem_of_getElem? (i := 684) (by decide +kernel), by decide +kernel⟩
theorem cod_X9_isLane : Cond.code yX9_isLane cX9_isLane 1 (some .boolean) ∈ TB := List.mem_filter.mpr ⟨List.mem_of_getElem? (i := 685) (by decide +kernel), by decide +kernel⟩
theorem inst_X5 : Cond.instantiable RX5 2 ∈ TB := List.mem_filter.mpr ⟨List.mem_of_getElem? (i := 686) (by decide +kernel), by decide +kernel⟩
theorem im_X5_init : Cond.instanceMethod yX5_init ∈ TB := List.mem_filter.mpr ⟨List.mem_of_getElem? (i := 688) (by decide +kernel), by decide +kernel⟩
theorem cod_X5_init : Cond.code yX5_init cX5_init 3 none ∈ TB := List.mem_filter.mpr ⟨List.mem_of_getElem? (i := 689) (by decide +kernel), by decide +kernel⟩
theorem im_X9_drop : Cond.instanceMethod yX9_drop ∈ TB := List.mem_filter.mpr ⟨List.mem_of_getElem? (i := 701) (by decide +kernel), by decide +kernel⟩
theorem sel_X9_drop : Cond.selects RX9 yX9_drop yX9_drop ∈ TB := List.mem_filter.mpr ⟨List.mem_of_getElem? (i := 702) (by decide +kernel), by decide +kernel⟩
theorem cod_X9_drop : Cond.code yX9_drop cX9_drop 3 (some .int) ∈ TB := List.mem_filter.mpr ⟨List.mem_of_getElem? (i := 703) (by decide +kernel), by decide +kernel⟩
theorem im_X9_item : Cond.instanceMethod yX9_item ∈ TB := List.mem_filter.mpr ⟨List.mem_of_getElem? (i := 705) (by decide +kernel), by decide +kernel⟩
theorem sel_X9_item : Cond.selects RX9 yX9_item yX9_item ∈ TB := List.mem_filter.mpr ⟨List.mem_of_getElem? (i := 706) (by decide +kernel), by decide +kernel⟩
theorem cod_X9_item : Cond.code yX9_item cX9_item 6 (some .int) ∈ TB := List.mem_filter.mpr ⟨List.mem_of_getElem? (i := 707) (by decide +kernel), by decide +kernel⟩
theorem im_X5_holds : Cond.instanceMethod yX5_holds ∈ TB := List.mem_filter.mpr ⟨List.mem_of_getElem? (i := 709) (by decide +kernel), by decide +kernel⟩
theorem sel_X5_holds : Cond.selects RX5 yX5_holds yX5_holds ∈ TB := List.mem_filter.mpr ⟨List.mem_of_getElem? (i := 710) (by decide +kernel), by decide +kernel⟩
theorem cod_X5_holds : Cond.code yX5_holds cX5_holds 3 (some .boolean) ∈ TB := List.mem_filter.mpr ⟨List.mem_of_getElem? (i := 711) (by decide +kernel), by decide +kernel⟩
theorem im_X9_arcs : Cond.instanceMethod yX9_arcs ∈ TB := List.mem_filter.mpr ⟨List.mem_of_getElem? (i := 713) (by decide +kernel), by decide +kernel⟩
theorem sel_X9_arcs : Cond.selects RX9 yX9_arcs yX9_arcs ∈ TB := List.mem_filter.mpr ⟨List.mem_of_getElem? (i := 714) (by decide +kernel), by decide +kernel⟩
theorem cod_X9_arcs : Cond.code yX9_arcs cX9_arcs 6 (some .int) ∈ TB := List.mem_filter.mpr ⟨List.mem_of_getElem? (i := 715) (by decide +kernel), by decide +kernel⟩
theorem im_X9_keepArcs : Cond.instanceMethod yX9_keepArcs ∈ TB := List.mem_filter.mpr ⟨List.mem_of_getElem? (i := 718) (by decide +kernel), by decide +kernel⟩
theorem cod_X9_keepArcs : Cond.code yX9_keepArcs cX9_keepArcs 5 (some .int) ∈ TB := List.mem_filter.mpr ⟨List.mem_of_getElem? (i := 719) (by decide +kernel), by decide +kernel⟩
theorem im_X9_isArcAt : Cond.instanceMethod yX9_isArcAt ∈ TB := List.mem_filter.mpr ⟨List.mem_of_getElem? (i := 722) (by decide +kernel), by decide +kernel⟩
theorem cod_X9_isArcAt : Cond.code yX9_isArcAt cX9_isArcAt 3 (some .boolean) ∈ TB := List.mem_filter.mpr ⟨List.mem_of_getElem? (i := 723) (by decide +kernel), by decide +kernel⟩
theorem im_X9_keepArcAt : Cond.instanceMethod yX9_keepArcAt ∈ TB := List.mem_filter.mpr ⟨List.mem_of_getElem? (i := 726) (by decide +kernel), by decide +kernel⟩
theorem cod_X9_keepArcAt : Cond.code yX9_keepArcAt cX9_keepArcAt 4 none ∈ TB := List.mem_filter.mpr ⟨List.mem_of_getElem? (i := 727) (by decide +kernel), by decide +kernel⟩
theorem inst_X10 : Cond.instantiable RX10 46 ∈ TB := List.mem_filter.mpr ⟨List.mem_of_getElem? (i := 729) (by decide +kernel), by decide +kernel⟩
theorem im_X10_init : Cond.instanceMethod yX10_init ∈ TB := List.mem_filter.mpr ⟨List.mem_of_getElem? (i := 731) (by decide +kernel), by decide +kernel⟩
theorem cod_X10_init : Cond.code yX10_init cX10_init 2 none ∈ TB := List.mem_filter.mpr ⟨List.mem_of_getElem? (i := 732) (by decide +kernel), by decide +kernel⟩
theorem k_X10_125 : Cond.constantDouble RX10 125 (4652007308841189376) ∈ TB := List.mem_filter.mpr ⟨List.mem_of_getElem? (i := 734) (by decide +kernel), by decide +kernel⟩
theorem sta_X10_sineOf : Cond.static yX10_sineOf ∈ TB := List.mem_filter.mpr ⟨List.mem_of_getElem? (i := 736) (by decide +kernel), by decide +kernel⟩
theorem cod_X10_sineOf : Cond.code yX10_sineOf cX10_sineOf 6 (some .double) ∈ TB := List.mem_filter.mpr ⟨List.mem_of_getElem? (i := 737) (by decide +kernel), by decide +kernel⟩
theorem k_X10_133 : Cond.constantDouble RX10 133 (4614256656552045848) ∈ TB := List.mem_filter.mpr ⟨List.mem_of_getElem? (i := 738) (by decide +kernel), by decide +kernel⟩
theorem k_X10_135 : Cond.constantDouble RX10 135 (4640537203540230144) ∈ TB := List.mem_filter.mpr ⟨List.mem_of_getElem? (i := 739) (by decide +kernel), by decide +kernel⟩
theorem k_X10_131 : Cond.constantDouble RX10 131 (4602678819172646912) ∈ TB := List.mem_filter.mpr ⟨List.mem_of_getElem? (i := 740) (by decide +kernel), by decide +kernel⟩
theorem im_X10_table : Cond.instanceMethod yX10_table ∈ TB := List.mem_filter.mpr ⟨List.mem_of_getElem? (i := 881) (by decide +kernel), by decide +kernel⟩
theorem sel_X10_table : Cond.selects RX10 yX10_table yX10_table ∈ TB := List.mem_filter.mpr ⟨List.mem_of_getElem? (i := 882) (by decide +kernel), by decide +kernel⟩
theorem cod_X10_table : Cond.code yX10_table cX10_table 3 (some .int) ∈ TB := List.mem_filter.mpr ⟨List.mem_of_getElem? (i := 883) (by decide +kernel), by decide +kernel⟩
theorem k_X10_141 : Cond.constantLong RX10 141 (2) ∈ TB := List.mem_filter.mpr ⟨List.mem_of_getElem? (i := 884) (by decide +kernel), by decide +kernel⟩
theorem sta_X10_in : Cond.static yX10_in ∈ TB := List.mem_filter.mpr ⟨List.mem_of_getElem? (i := 886) (by decide +kernel), by decide +kernel⟩
theorem cod_X10_in : Cond.code yX10_in cX10_in 6 (some .boolean) ∈ TB := List.mem_filter.mpr ⟨List.mem_of_getElem? (i := 887) (by decide +kernel), by decide +kernel⟩
theorem k_X10_147 : Cond.constantLong RX10 147 (89) ∈ TB := List.mem_filter.mpr ⟨List.mem_of_getElem? (i := 888) (by decide +kernel), by decide +kernel⟩
theorem k_X10_149 : Cond.constantLong RX10 149 (359) ∈ TB := List.mem_filter.mpr ⟨List.mem_of_getElem? (i := 889) (by decide +kernel), by decide +kernel⟩
theorem k_X10_151 : Cond.constant RX10 151 (-100001) ∈ TB := List.mem_filter.mpr ⟨List.mem_of_getElem? (i := 890) (by decide +kernel), by decide +kernel⟩
theorem im_X10_sinOf : Cond.instanceMethod yX10_sinOf ∈ TB := List.mem_filter.mpr ⟨List.mem_of_getElem? (i := 893) (by decide +kernel), by decide +kernel⟩
theorem cod_X10_sinOf : Cond.code yX10_sinOf cX10_sinOf 2 (some .int) ∈ TB := List.mem_filter.mpr ⟨List.mem_of_getElem? (i := 894) (by decide +kernel), by decide +kernel⟩
theorem im_X10_cosOf : Cond.instanceMethod yX10_cosOf ∈ TB := List.mem_filter.mpr ⟨List.mem_of_getElem? (i := 897) (by decide +kernel), by decide +kernel⟩
theorem cod_X10_cosOf : Cond.code yX10_cosOf cX10_cosOf 2 (some .int) ∈ TB := List.mem_filter.mpr ⟨List.mem_of_getElem? (i := 898) (by decide +kernel), by decide +kernel⟩
theorem im_X10_station : Cond.instanceMethod yX10_station ∈ TB := List.mem_filter.mpr ⟨List.mem_of_getElem? (i := 900) (by decide +kernel), by decide +kernel⟩
theorem sel_X10_station : Cond.selects RX10 yX10_station yX10_station ∈ TB := List.mem_filter.mpr ⟨List.mem_of_getElem? (i := 901) (by decide +kernel), by decide +kernel⟩
theorem cod_X10_station : Cond.code yX10_station cX10_station 3 (some .int) ∈ TB := List.mem_filter.mpr ⟨List.mem_of_getElem? (i := 902) (by decide +kernel), by decide +kernel⟩
theorem k_X10_158 : Cond.constantLong RX10 158 (2000) ∈ TB := List.mem_filter.mpr ⟨List.mem_of_getElem? (i := 903) (by decide +kernel), by decide +kernel⟩
theorem im_X10_clock : Cond.instanceMethod yX10_clock ∈ TB := List.mem_filter.mpr ⟨List.mem_of_getElem? (i := 905) (by decide +kernel), by decide +kernel⟩
theorem sel_X10_clock : Cond.selects RX10 yX10_clock yX10_clock ∈ TB := List.mem_filter.mpr ⟨List.mem_of_getElem? (i := 906) (by decide +kernel), by decide +kernel⟩
theorem cod_X10_clock : Cond.code yX10_clock cX10_clock 4 (some .int) ∈ TB := List.mem_filter.mpr ⟨List.mem_of_getElem? (i := 907) (by decide +kernel), by decide +kernel⟩
theorem im_X10_isStation : Cond.instanceMethod yX10_isStation ∈ TB := List.mem_filter.mpr ⟨List.mem_of_getElem? (i := 910) (by decide +kernel), by decide +kernel⟩
theorem cod_X10_isStation : Cond.code yX10_isStation cX10_isStation 2 (some .boolean) ∈ TB := List.mem_filter.mpr ⟨List.mem_of_getElem? (i := 911) (by decide +kernel), by decide +kernel⟩
theorem k_X10_164 : Cond.constantLong RX10 164 (-60) ∈ TB := List.mem_filter.mpr ⟨List.mem_of_getElem? (i := 912) (by decide +kernel), by decide +kernel⟩
theorem k_X10_166 : Cond.constantLong RX10 166 (60) ∈ TB := List.mem_filter.mpr ⟨List.mem_of_getElem? (i := 913) (by decide +kernel), by decide +kernel⟩
theorem im_X10_glow : Cond.instanceMethod yX10_glow ∈ TB := List.mem_filter.mpr ⟨List.mem_of_getElem? (i := 915) (by decide +kernel), by decide +kernel⟩
theorem sel_X10_glow : Cond.selects RX10 yX10_glow yX10_glow ∈ TB := List.mem_filter.mpr ⟨List.mem_of_getElem? (i := 916) (by decide +kernel), by decide +kernel⟩
theorem cod_X10_glow : Cond.code yX10_glow cX10_glow 6 (some .int) ∈ TB := List.mem_filter.mpr ⟨List.mem_of_getElem? (i := 917) (by decide +kernel), by decide +kernel⟩
theorem im_X10_isTold : Cond.instanceMethod yX10_isTold ∈ TB := List.mem_filter.mpr ⟨List.mem_of_getElem? (i := 920) (by decide +kernel), by decide +kernel⟩
theorem cod_X10_isTold : Cond.code yX10_isTold cX10_isTold 6 (some .boolean) ∈ TB := List.mem_filter.mpr ⟨List.mem_of_getElem? (i := 921) (by decide +kernel), by decide +kernel⟩
theorem sta_X10_isNight : Cond.static yX10_isNight ∈ TB := List.mem_filter.mpr ⟨List.mem_of_getElem? (i := 923) (by decide +kernel), by decide +kernel⟩
theorem cod_X10_isNight : Cond.code yX10_isNight cX10_isNight 1 (some .boolean) ∈ TB := List.mem_filter.mpr ⟨List.mem_of_getElem? (i := 924) (by decide +kernel), by decide +kernel⟩
theorem k_X10_168 : Cond.constantLong RX10 168 (399) ∈ TB := List.mem_filter.mpr ⟨List.mem_of_getElem? (i := 925) (by decide +kernel), by decide +kernel⟩
theorem k_X10_173 : Cond.constantLong RX10 173 (1439) ∈ TB := List.mem_filter.mpr ⟨List.mem_of_getElem? (i := 926) (by decide +kernel), by decide +kernel⟩
theorem k_X10_175 : Cond.constantLong RX10 175 (88) ∈ TB := List.mem_filter.mpr ⟨List.mem_of_getElem? (i := 927) (by decide +kernel), by decide +kernel⟩
theorem im_X10_add : Cond.instanceMethod yX10_add ∈ TB := List.mem_filter.mpr ⟨List.mem_of_getElem? (i := 930) (by decide +kernel), by decide +kernel⟩
theorem cod_X10_add : Cond.code yX10_add cX10_add 9 (some .int) ∈ TB := List.mem_filter.mpr ⟨List.mem_of_getElem? (i := 931) (by decide +kernel), by decide +kernel⟩
theorem im_X10_arc : Cond.instanceMethod yX10_arc ∈ TB := List.mem_filter.mpr ⟨List.mem_of_getElem? (i := 933) (by decide +kernel), by decide +kernel⟩
theorem sel_X10_arc : Cond.selects RX10 yX10_arc yX10_arc ∈ TB := List.mem_filter.mpr ⟨List.mem_of_getElem? (i := 934) (by decide +kernel), by decide +kernel⟩
theorem cod_X10_arc : Cond.code yX10_arc cX10_arc 8 (some .int) ∈ TB := List.mem_filter.mpr ⟨List.mem_of_getElem? (i := 935) (by decide +kernel), by decide +kernel⟩
theorem k_X10_188 : Cond.constantLong RX10 188 (4) ∈ TB := List.mem_filter.mpr ⟨List.mem_of_getElem? (i := 936) (by decide +kernel), by decide +kernel⟩
theorem im_X10_ray : Cond.instanceMethod yX10_ray ∈ TB := List.mem_filter.mpr ⟨List.mem_of_getElem? (i := 938) (by decide +kernel), by decide +kernel⟩
theorem sel_X10_ray : Cond.selects RX10 yX10_ray yX10_ray ∈ TB := List.mem_filter.mpr ⟨List.mem_of_getElem? (i := 939) (by decide +kernel), by decide +kernel⟩
theorem cod_X10_ray : Cond.code yX10_ray cX10_ray 9 (some .int) ∈ TB := List.mem_filter.mpr ⟨List.mem_of_getElem? (i := 940) (by decide +kernel), by decide +kernel⟩
theorem k_X10_190 : Cond.constantLong RX10 190 (-45) ∈ TB := List.mem_filter.mpr ⟨List.mem_of_getElem? (i := 941) (by decide +kernel), by decide +kernel⟩
theorem k_X10_192 : Cond.constantLong RX10 192 (45) ∈ TB := List.mem_filter.mpr ⟨List.mem_of_getElem? (i := 942) (by decide +kernel), by decide +kernel⟩
theorem im_X10_told : Cond.instanceMethod yX10_told ∈ TB := List.mem_filter.mpr ⟨List.mem_of_getElem? (i := 944) (by decide +kernel), by decide +kernel⟩
theorem sel_X10_told : Cond.selects RX10 yX10_told yX10_told ∈ TB := List.mem_filter.mpr ⟨List.mem_of_getElem? (i := 945) (by decide +kernel), by decide +kernel⟩
theorem cod_X10_told : Cond.code yX10_told cX10_told 3 (some .int) ∈ TB := List.mem_filter.mpr ⟨List.mem_of_getElem? (i := 946) (by decide +kernel), by decide +kernel⟩
theorem im_X10_isSighting : Cond.instanceMethod yX10_isSighting ∈ TB := List.mem_filter.mpr ⟨List.mem_of_getElem? (i := 949) (by decide +kernel), by decide +kernel⟩
theorem cod_X10_isSighting : Cond.code yX10_isSighting cX10_isSighting 2 (some .boolean) ∈ TB := List.mem_filter.mpr ⟨List.mem_of_getElem? (i := 950) (by decide +kernel), by decide +kernel⟩
theorem im_X10_firstOf : Cond.instanceMethod yX10_firstOf ∈ TB := List.mem_filter.mpr ⟨List.mem_of_getElem? (i := 953) (by decide +kernel), by decide +kernel⟩
theorem cod_X10_firstOf : Cond.code yX10_firstOf cX10_firstOf 2 (some .int) ∈ TB := List.mem_filter.mpr ⟨List.mem_of_getElem? (i := 954) (by decide +kernel), by decide +kernel⟩
theorem im_X10_lastOf : Cond.instanceMethod yX10_lastOf ∈ TB := List.mem_filter.mpr ⟨List.mem_of_getElem? (i := 957) (by decide +kernel), by decide +kernel⟩
theorem cod_X10_lastOf : Cond.code yX10_lastOf cX10_lastOf 2 (some .int) ∈ TB := List.mem_filter.mpr ⟨List.mem_of_getElem? (i := 958) (by decide +kernel), by decide +kernel⟩
theorem im_X10_colour : Cond.instanceMethod yX10_colour ∈ TB := List.mem_filter.mpr ⟨List.mem_of_getElem? (i := 960) (by decide +kernel), by decide +kernel⟩
theorem sel_X10_colour : Cond.selects RX10 yX10_colour yX10_colour ∈ TB := List.mem_filter.mpr ⟨List.mem_of_getElem? (i := 961) (by decide +kernel), by decide +kernel⟩
theorem cod_X10_colour : Cond.code yX10_colour cX10_colour 2 (some .int) ∈ TB := List.mem_filter.mpr ⟨List.mem_of_getElem? (i := 962) (by decide +kernel), by decide +kernel⟩
theorem im_X10_lean : Cond.instanceMethod yX10_lean ∈ TB := List.mem_filter.mpr ⟨List.mem_of_getElem? (i := 964) (by decide +kernel), by decide +kernel⟩
theorem sel_X10_lean : Cond.selects RX10 yX10_lean yX10_lean ∈ TB := List.mem_filter.mpr ⟨List.mem_of_getElem? (i := 965) (by decide +kernel), by decide +kernel⟩
theorem cod_X10_lean : Cond.code yX10_lean cX10_lean 2 (some .int) ∈ TB := List.mem_filter.mpr ⟨List.mem_of_getElem? (i := 966) (by decide +kernel), by decide +kernel⟩
theorem im_X10_thick : Cond.instanceMethod yX10_thick ∈ TB := List.mem_filter.mpr ⟨List.mem_of_getElem? (i := 968) (by decide +kernel), by decide +kernel⟩
theorem sel_X10_thick : Cond.selects RX10 yX10_thick yX10_thick ∈ TB := List.mem_filter.mpr ⟨List.mem_of_getElem? (i := 969) (by decide +kernel), by decide +kernel⟩
theorem cod_X10_thick : Cond.code yX10_thick cX10_thick 3 (some .int) ∈ TB := List.mem_filter.mpr ⟨List.mem_of_getElem? (i := 970) (by decide +kernel), by decide +kernel⟩
theorem k_X10_203 : Cond.constantLong RX10 203 (200) ∈ TB := List.mem_filter.mpr ⟨List.mem_of_getElem? (i := 971) (by decide +kernel), by decide +kernel⟩
theorem im_X10_meets : Cond.instanceMethod yX10_meets ∈ TB := List.mem_filter.mpr ⟨List.mem_of_getElem? (i := 973) (by decide +kernel), by decide +kernel⟩
theorem sel_X10_meets : Cond.selects RX10 yX10_meets yX10_meets ∈ TB := List.mem_filter.mpr ⟨List.mem_of_getElem? (i := 974) (by decide +kernel), by decide +kernel⟩
theorem cod_X10_meets : Cond.code yX10_meets cX10_meets 3 (some .int) ∈ TB := List.mem_filter.mpr ⟨List.mem_of_getElem? (i := 975) (by decide +kernel), by decide +kernel⟩
theorem im_X10_areMet : Cond.instanceMethod yX10_areMet ∈ TB := List.mem_filter.mpr ⟨List.mem_of_getElem? (i := 978) (by decide +kernel), by decide +kernel⟩
theorem cod_X10_areMet : Cond.code yX10_areMet cX10_areMet 3 (some .boolean) ∈ TB := List.mem_filter.mpr ⟨List.mem_of_getElem? (i := 979) (by decide +kernel), by decide +kernel⟩
theorem im_X10_crosses : Cond.instanceMethod yX10_crosses ∈ TB := List.mem_filter.mpr ⟨List.mem_of_getElem? (i := 982) (by decide +kernel), by decide +kernel⟩
theorem cod_X10_crosses : Cond.code yX10_crosses cX10_crosses 14 (some .boolean) ∈ TB := List.mem_filter.mpr ⟨List.mem_of_getElem? (i := 983) (by decide +kernel), by decide +kernel⟩
theorem k_X10_205 : Cond.constantLong RX10 205 (-49999) ∈ TB := List.mem_filter.mpr ⟨List.mem_of_getElem? (i := 984) (by decide +kernel), by decide +kernel⟩
theorem k_X10_207 : Cond.constantLong RX10 207 (49999) ∈ TB := List.mem_filter.mpr ⟨List.mem_of_getElem? (i := 985) (by decide +kernel), by decide +kernel⟩
theorem k_X10_209 : Cond.constantLong RX10 209 (1000) ∈ TB := List.mem_filter.mpr ⟨List.mem_of_getElem? (i := 986) (by decide +kernel), by decide +kernel⟩
theorem k_X10_211 : Cond.constantLong RX10 211 (1500) ∈ TB := List.mem_filter.mpr ⟨List.mem_of_getElem? (i := 987) (by decide +kernel), by decide +kernel⟩
theorem im_X10_rise : Cond.instanceMethod yX10_rise ∈ TB := List.mem_filter.mpr ⟨List.mem_of_getElem? (i := 990) (by decide +kernel), by decide +kernel⟩
theorem cod_X10_rise : Cond.code yX10_rise cX10_rise 3 (some .int) ∈ TB := List.mem_filter.mpr ⟨List.mem_of_getElem? (i := 991) (by decide +kernel), by decide +kernel⟩
theorem im_X10_cross : Cond.instanceMethod yX10_cross ∈ TB := List.mem_filter.mpr ⟨List.mem_of_getElem? (i := 993) (by decide +kernel), by decide +kernel⟩
theorem sel_X10_cross : Cond.selects RX10 yX10_cross yX10_cross ∈ TB := List.mem_filter.mpr ⟨List.mem_of_getElem? (i := 994) (by decide +kernel), by decide +kernel⟩
theorem cod_X10_cross : Cond.code yX10_cross cX10_cross 6 (some .int) ∈ TB := List.mem_filter.mpr ⟨List.mem_of_getElem? (i := 995) (by decide +kernel), by decide +kernel⟩
theorem k_X10_230 : Cond.constantLong RX10 230 (6) ∈ TB := List.mem_filter.mpr ⟨List.mem_of_getElem? (i := 996) (by decide +kernel), by decide +kernel⟩
theorem k_X10_232 : Cond.constant RX10 232 (-100012) ∈ TB := List.mem_filter.mpr ⟨List.mem_of_getElem? (i := 997) (by decide +kernel), by decide +kernel⟩
theorem k_X10_233 : Cond.constant RX10 233 (-100004) ∈ TB := List.mem_filter.mpr ⟨List.mem_of_getElem? (i := 998) (by decide +kernel), by decide +kernel⟩
theorem im_X10_crossPart : Cond.instanceMethod yX10_crossPart ∈ TB := List.mem_filter.mpr ⟨List.mem_of_getElem? (i := 1001) (by decide +kernel), by decide +kernel⟩
theorem cod_X10_crossPart : Cond.code yX10_crossPart cX10_crossPart 7 (some .int) ∈ TB := List.mem_filter.mpr ⟨List.mem_of_getElem? (i := 1002) (by decide +kernel), by decide +kernel⟩
theorem im_X10_curtains : Cond.instanceMethod yX10_curtains ∈ TB := List.mem_filter.mpr ⟨List.mem_of_getElem? (i := 1004) (by decide +kernel), by decide +kernel⟩
theorem sel_X10_curtains : Cond.selects RX10 yX10_curtains yX10_curtains ∈ TB := List.mem_filter.mpr ⟨List.mem_of_getElem? (i := 1005) (by decide +kernel), by decide +kernel⟩
theorem cod_X10_curtains : Cond.code yX10_curtains cX10_curtains 2 (some .int) ∈ TB := List.mem_filter.mpr ⟨List.mem_of_getElem? (i := 1006) (by decide +kernel), by decide +kernel⟩
theorem im_X10_findCurtains : Cond.instanceMethod yX10_findCurtains ∈ TB := List.mem_filter.mpr ⟨List.mem_of_getElem? (i := 1009) (by decide +kernel), by decide +kernel⟩
theorem cod_X10_findCurtains : Cond.code yX10_findCurtains cX10_findCurtains 4 (some .int) ∈ TB := List.mem_filter.mpr ⟨List.mem_of_getElem? (i := 1010) (by decide +kernel), by decide +kernel⟩
theorem im_X10_listNight : Cond.instanceMethod yX10_listNight ∈ TB := List.mem_filter.mpr ⟨List.mem_of_getElem? (i := 1013) (by decide +kernel), by decide +kernel⟩
theorem cod_X10_listNight : Cond.code yX10_listNight cX10_listNight 3 none ∈ TB := List.mem_filter.mpr ⟨List.mem_of_getElem? (i := 1014) (by decide +kernel), by decide +kernel⟩
theorem im_X10_part : Cond.instanceMethod yX10_part ∈ TB := List.mem_filter.mpr ⟨List.mem_of_getElem? (i := 1017) (by decide +kernel), by decide +kernel⟩
theorem cod_X10_part : Cond.code yX10_part cX10_part 5 (some .boolean) ∈ TB := List.mem_filter.mpr ⟨List.mem_of_getElem? (i := 1018) (by decide +kernel), by decide +kernel⟩
theorem im_X10_setsAhead : Cond.instanceMethod yX10_setsAhead ∈ TB := List.mem_filter.mpr ⟨List.mem_of_getElem? (i := 1021) (by decide +kernel), by decide +kernel⟩
theorem cod_X10_setsAhead : Cond.code yX10_setsAhead cX10_setsAhead 4 (some .int) ∈ TB := List.mem_filter.mpr ⟨List.mem_of_getElem? (i := 1022) (by decide +kernel), by decide +kernel⟩
theorem im_X10_canBeIn : Cond.instanceMethod yX10_canBeIn ∈ TB := List.mem_filter.mpr ⟨List.mem_of_getElem? (i := 1025) (by decide +kernel), by decide +kernel⟩
theorem cod_X10_canBeIn : Cond.code yX10_canBeIn cX10_canBeIn 4 (some .boolean) ∈ TB := List.mem_filter.mpr ⟨List.mem_of_getElem? (i := 1026) (by decide +kernel), by decide +kernel⟩
theorem im_X10_findPlace : Cond.instanceMethod yX10_findPlace ∈ TB := List.mem_filter.mpr ⟨List.mem_of_getElem? (i := 1029) (by decide +kernel), by decide +kernel⟩
theorem cod_X10_findPlace : Cond.code yX10_findPlace cX10_findPlace 11 none ∈ TB := List.mem_filter.mpr ⟨List.mem_of_getElem? (i := 1030) (by decide +kernel), by decide +kernel⟩
theorem im_X10_curtain : Cond.instanceMethod yX10_curtain ∈ TB := List.mem_filter.mpr ⟨List.mem_of_getElem? (i := 1032) (by decide +kernel), by decide +kernel⟩
theorem sel_X10_curtain : Cond.selects RX10 yX10_curtain yX10_curtain ∈ TB := List.mem_filter.mpr ⟨List.mem_of_getElem? (i := 1033) (by decide +kernel), by decide +kernel⟩
theorem cod_X10_curtain : Cond.code yX10_curtain cX10_curtain 5 (some .int) ∈ TB := List.mem_filter.mpr ⟨List.mem_of_getElem? (i := 1034) (by decide +kernel), by decide +kernel⟩
theorem k_X10_263 : Cond.constantLong RX10 263 (5) ∈ TB := List.mem_filter.mpr ⟨List.mem_of_getElem? (i := 1035) (by decide +kernel), by decide +kernel⟩
theorem k_X10_265 : Cond.constant RX10 265 (100000) ∈ TB := List.mem_filter.mpr ⟨List.mem_of_getElem? (i := 1036) (by decide +kernel), by decide +kernel⟩
theorem im_X10_curtainOf : Cond.instanceMethod yX10_curtainOf ∈ TB := List.mem_filter.mpr ⟨List.mem_of_getElem? (i := 1038) (by decide +kernel), by decide +kernel⟩
theorem sel_X10_curtainOf : Cond.selects RX10 yX10_curtainOf yX10_curtainOf ∈ TB := List.mem_filter.mpr ⟨List.mem_of_getElem? (i := 1039) (by decide +kernel), by decide +kernel⟩
theorem cod_X10_curtainOf : Cond.code yX10_curtainOf cX10_curtainOf 4 (some .int) ∈ TB := List.mem_filter.mpr ⟨List.mem_of_getElem? (i := 1040) (by decide +kernel), by decide +kernel⟩
theorem im_X10_speed : Cond.instanceMethod yX10_speed ∈ TB := List.mem_filter.mpr ⟨List.mem_of_getElem? (i := 1042) (by decide +kernel), by decide +kernel⟩
theorem sel_X10_speed : Cond.selects RX10 yX10_speed yX10_speed ∈ TB := List.mem_filter.mpr ⟨List.mem_of_getElem? (i := 1043) (by decide +kernel), by decide +kernel⟩
theorem cod_X10_speed : Cond.code yX10_speed cX10_speed 3 (some .int) ∈ TB := List.mem_filter.mpr ⟨List.mem_of_getElem? (i := 1044) (by decide +kernel), by decide +kernel⟩
theorem im_X10_ways : Cond.instanceMethod yX10_ways ∈ TB := List.mem_filter.mpr ⟨List.mem_of_getElem? (i := 1046) (by decide +kernel), by decide +kernel⟩
theorem sel_X10_ways : Cond.selects RX10 yX10_ways yX10_ways ∈ TB := List.mem_filter.mpr ⟨List.mem_of_getElem? (i := 1047) (by decide +kernel), by decide +kernel⟩
theorem cod_X10_ways : Cond.code yX10_ways cX10_ways 3 (some .int) ∈ TB := List.mem_filter.mpr ⟨List.mem_of_getElem? (i := 1048) (by decide +kernel), by decide +kernel⟩
theorem im_X10_findWays : Cond.instanceMethod yX10_findWays ∈ TB := List.mem_filter.mpr ⟨List.mem_of_getElem? (i := 1051) (by decide +kernel), by decide +kernel⟩
theorem cod_X10_findWays : Cond.code yX10_findWays cX10_findWays 7 (some .int) ∈ TB := List.mem_filter.mpr ⟨List.mem_of_getElem? (i := 1052) (by decide +kernel), by decide +kernel⟩
theorem im_X10_canFollow : Cond.instanceMethod yX10_canFollow ∈ TB := List.mem_filter.mpr ⟨List.mem_of_getElem? (i := 1055) (by decide +kernel), by decide +kernel⟩
theorem cod_X10_canFollow : Cond.code yX10_canFollow cX10_canFollow 9 (some .boolean) ∈ TB := List.mem_filter.mpr ⟨List.mem_of_getElem? (i := 1056) (by decide +kernel), by decide +kernel⟩
theorem im_X10_next : Cond.instanceMethod yX10_next ∈ TB := List.mem_filter.mpr ⟨List.mem_of_getElem? (i := 1058) (by decide +kernel), by decide +kernel⟩
theorem sel_X10_next : Cond.selects RX10 yX10_next yX10_next ∈ TB := List.mem_filter.mpr ⟨List.mem_of_getElem? (i := 1059) (by decide +kernel), by decide +kernel⟩
theorem cod_X10_next : Cond.code yX10_next cX10_next 3 (some .int) ∈ TB := List.mem_filter.mpr ⟨List.mem_of_getElem? (i := 1060) (by decide +kernel), by decide +kernel⟩
theorem im_X10_nextOf : Cond.instanceMethod yX10_nextOf ∈ TB := List.mem_filter.mpr ⟨List.mem_of_getElem? (i := 1063) (by decide +kernel), by decide +kernel⟩
theorem cod_X10_nextOf : Cond.code yX10_nextOf cX10_nextOf 5 (some .int) ∈ TB := List.mem_filter.mpr ⟨List.mem_of_getElem? (i := 1064) (by decide +kernel), by decide +kernel⟩
theorem im_X10_overhead : Cond.instanceMethod yX10_overhead ∈ TB := List.mem_filter.mpr ⟨List.mem_of_getElem? (i := 1066) (by decide +kernel), by decide +kernel⟩
theorem sel_X10_overhead : Cond.selects RX10 yX10_overhead yX10_overhead ∈ TB := List.mem_filter.mpr ⟨List.mem_of_getElem? (i := 1067) (by decide +kernel), by decide +kernel⟩
theorem cod_X10_overhead : Cond.code yX10_overhead cX10_overhead 16 (some .int) ∈ TB := List.mem_filter.mpr ⟨List.mem_of_getElem? (i := 1068) (by decide +kernel), by decide +kernel⟩
theorem k_X10_276 : Cond.constantLong RX10 276 (-1) ∈ TB := List.mem_filter.mpr ⟨List.mem_of_getElem? (i := 1069) (by decide +kernel), by decide +kernel⟩
theorem im_X10_watch : Cond.instanceMethod yX10_watch ∈ TB := List.mem_filter.mpr ⟨List.mem_of_getElem? (i := 1071) (by decide +kernel), by decide +kernel⟩
theorem sel_X10_watch : Cond.selects RX10 yX10_watch yX10_watch ∈ TB := List.mem_filter.mpr ⟨List.mem_of_getElem? (i := 1072) (by decide +kernel), by decide +kernel⟩
theorem cod_X10_watch : Cond.code yX10_watch cX10_watch 6 (some .int) ∈ TB := List.mem_filter.mpr ⟨List.mem_of_getElem? (i := 1073) (by decide +kernel), by decide +kernel⟩
theorem k_X10_281 : Cond.constantLong RX10 281 (24) ∈ TB := List.mem_filter.mpr ⟨List.mem_of_getElem? (i := 1074) (by decide +kernel), by decide +kernel⟩
theorem im_X10_watchOf : Cond.instanceMethod yX10_watchOf ∈ TB := List.mem_filter.mpr ⟨List.mem_of_getElem? (i := 1077) (by decide +kernel), by decide +kernel⟩
theorem cod_X10_watchOf : Cond.code yX10_watchOf cX10_watchOf 4 (some .int) ∈ TB := List.mem_filter.mpr ⟨List.mem_of_getElem? (i := 1078) (by decide +kernel), by decide +kernel⟩
theorem im_X10_seen : Cond.instanceMethod yX10_seen ∈ TB := List.mem_filter.mpr ⟨List.mem_of_getElem? (i := 1080) (by decide +kernel), by decide +kernel⟩
theorem sel_X10_seen : Cond.selects RX10 yX10_seen yX10_seen ∈ TB := List.mem_filter.mpr ⟨List.mem_of_getElem? (i := 1081) (by decide +kernel), by decide +kernel⟩
theorem cod_X10_seen : Cond.code yX10_seen cX10_seen 4 (some .int) ∈ TB := List.mem_filter.mpr ⟨List.mem_of_getElem? (i := 1082) (by decide +kernel), by decide +kernel⟩
theorem im_X10_isSeen : Cond.instanceMethod yX10_isSeen ∈ TB := List.mem_filter.mpr ⟨List.mem_of_getElem? (i := 1085) (by decide +kernel), by decide +kernel⟩
theorem cod_X10_isSeen : Cond.code yX10_isSeen cX10_isSeen 4 (some .boolean) ∈ TB := List.mem_filter.mpr ⟨List.mem_of_getElem? (i := 1086) (by decide +kernel), by decide +kernel⟩
theorem im_X10_rate : Cond.instanceMethod yX10_rate ∈ TB := List.mem_filter.mpr ⟨List.mem_of_getElem? (i := 1088) (by decide +kernel), by decide +kernel⟩
theorem sel_X10_rate : Cond.selects RX10 yX10_rate yX10_rate ∈ TB := List.mem_filter.mpr ⟨List.mem_of_getElem? (i := 1089) (by decide +kernel), by decide +kernel⟩
theorem cod_X10_rate : Cond.code yX10_rate cX10_rate 9 (some .int) ∈ TB := List.mem_filter.mpr ⟨List.mem_of_getElem? (i := 1090) (by decide +kernel), by decide +kernel⟩
theorem k_X10_289 : Cond.constantLong RX10 289 (3) ∈ TB := List.mem_filter.mpr ⟨List.mem_of_getElem? (i := 1091) (by decide +kernel), by decide +kernel⟩
theorem im_X10_round : Cond.instanceMethod yX10_round ∈ TB := List.mem_filter.mpr ⟨List.mem_of_getElem? (i := 1093) (by decide +kernel), by decide +kernel⟩
theorem sel_X10_round : Cond.selects RX10 yX10_round yX10_round ∈ TB := List.mem_filter.mpr ⟨List.mem_of_getElem? (i := 1094) (by decide +kernel), by decide +kernel⟩
theorem cod_X10_round : Cond.code yX10_round cX10_round 2 (some .int) ∈ TB := List.mem_filter.mpr ⟨List.mem_of_getElem? (i := 1095) (by decide +kernel), by decide +kernel⟩
theorem k_X10_291 : Cond.constantLong RX10 291 (20) ∈ TB := List.mem_filter.mpr ⟨List.mem_of_getElem? (i := 1096) (by decide +kernel), by decide +kernel⟩
theorem k_X10_293 : Cond.constantLong RX10 293 (40) ∈ TB := List.mem_filter.mpr ⟨List.mem_of_getElem? (i := 1097) (by decide +kernel), by decide +kernel⟩
theorem im_X10_roundOf : Cond.instanceMethod yX10_roundOf ∈ TB := List.mem_filter.mpr ⟨List.mem_of_getElem? (i := 1100) (by decide +kernel), by decide +kernel⟩
theorem cod_X10_roundOf : Cond.code yX10_roundOf cX10_roundOf 4 (some .int) ∈ TB := List.mem_filter.mpr ⟨List.mem_of_getElem? (i := 1101) (by decide +kernel), by decide +kernel⟩
theorem im_X10_best : Cond.instanceMethod yX10_best ∈ TB := List.mem_filter.mpr ⟨List.mem_of_getElem? (i := 1103) (by decide +kernel), by decide +kernel⟩
theorem sel_X10_best : Cond.selects RX10 yX10_best yX10_best ∈ TB := List.mem_filter.mpr ⟨List.mem_of_getElem? (i := 1104) (by decide +kernel), by decide +kernel⟩
theorem cod_X10_best : Cond.code yX10_best cX10_best 3 (some .int) ∈ TB := List.mem_filter.mpr ⟨List.mem_of_getElem? (i := 1105) (by decide +kernel), by decide +kernel⟩
theorem im_X10_nightsSeen : Cond.instanceMethod yX10_nightsSeen ∈ TB := List.mem_filter.mpr ⟨List.mem_of_getElem? (i := 1108) (by decide +kernel), by decide +kernel⟩
theorem cod_X10_nightsSeen : Cond.code yX10_nightsSeen cX10_nightsSeen 3 (some .int) ∈ TB := List.mem_filter.mpr ⟨List.mem_of_getElem? (i := 1109) (by decide +kernel), by decide +kernel⟩
theorem im_X10_share : Cond.instanceMethod yX10_share ∈ TB := List.mem_filter.mpr ⟨List.mem_of_getElem? (i := 1111) (by decide +kernel), by decide +kernel⟩
theorem sel_X10_share : Cond.selects RX10 yX10_share yX10_share ∈ TB := List.mem_filter.mpr ⟨List.mem_of_getElem? (i := 1112) (by decide +kernel), by decide +kernel⟩
theorem cod_X10_share : Cond.code yX10_share cX10_share 4 (some .int) ∈ TB := List.mem_filter.mpr ⟨List.mem_of_getElem? (i := 1113) (by decide +kernel), by decide +kernel⟩
theorem im_X10_mended : Cond.instanceMethod yX10_mended ∈ TB := List.mem_filter.mpr ⟨List.mem_of_getElem? (i := 1115) (by decide +kernel), by decide +kernel⟩
theorem sel_X10_mended : Cond.selects RX10 yX10_mended yX10_mended ∈ TB := List.mem_filter.mpr ⟨List.mem_of_getElem? (i := 1116) (by decide +kernel), by decide +kernel⟩
theorem cod_X10_mended : Cond.code yX10_mended cX10_mended 9 (some .int) ∈ TB := List.mem_filter.mpr ⟨List.mem_of_getElem? (i := 1117) (by decide +kernel), by decide +kernel⟩
theorem im_X10_moved : Cond.instanceMethod yX10_moved ∈ TB := List.mem_filter.mpr ⟨List.mem_of_getElem? (i := 1119) (by decide +kernel), by decide +kernel⟩
theorem sel_X10_moved : Cond.selects RX10 yX10_moved yX10_moved ∈ TB := List.mem_filter.mpr ⟨List.mem_of_getElem? (i := 1120) (by decide +kernel), by decide +kernel⟩
theorem cod_X10_moved : Cond.code yX10_moved cX10_moved 7 (some .int) ∈ TB := List.mem_filter.mpr ⟨List.mem_of_getElem? (i := 1121) (by decide +kernel), by decide +kernel⟩
theorem im_X10_count : Cond.instanceMethod yX10_count ∈ TB := List.mem_filter.mpr ⟨List.mem_of_getElem? (i := 1123) (by decide +kernel), by decide +kernel⟩
theorem sel_X10_count : Cond.selects RX10 yX10_count yX10_count ∈ TB := List.mem_filter.mpr ⟨List.mem_of_getElem? (i := 1124) (by decide +kernel), by decide +kernel⟩
theorem cod_X10_count : Cond.code yX10_count cX10_count 2 (some .int) ∈ TB := List.mem_filter.mpr ⟨List.mem_of_getElem? (i := 1125) (by decide +kernel), by decide +kernel⟩
theorem im_X10_sheet : Cond.instanceMethod yX10_sheet ∈ TB := List.mem_filter.mpr ⟨List.mem_of_getElem? (i := 1127) (by decide +kernel), by decide +kernel⟩
theorem sel_X10_sheet : Cond.selects RX10 yX10_sheet yX10_sheet ∈ TB := List.mem_filter.mpr ⟨List.mem_of_getElem? (i := 1128) (by decide +kernel), by decide +kernel⟩
theorem cod_X10_sheet : Cond.code yX10_sheet cX10_sheet 5 (some .int) ∈ TB := List.mem_filter.mpr ⟨List.mem_of_getElem? (i := 1129) (by decide +kernel), by decide +kernel⟩
theorem sta_X10_isSheet : Cond.static yX10_isSheet ∈ TB := List.mem_filter.mpr ⟨List.mem_of_getElem? (i := 1131) (by decide +kernel), by decide +kernel⟩
theorem cod_X10_isSheet : Cond.code yX10_isSheet cX10_isSheet 2 (some .boolean) ∈ TB := List.mem_filter.mpr ⟨List.mem_of_getElem? (i := 1132) (by decide +kernel), by decide +kernel⟩
theorem im_X10_drop : Cond.instanceMethod yX10_drop ∈ TB := List.mem_filter.mpr ⟨List.mem_of_getElem? (i := 1134) (by decide +kernel), by decide +kernel⟩
theorem sel_X10_drop : Cond.selects RX10 yX10_drop yX10_drop ∈ TB := List.mem_filter.mpr ⟨List.mem_of_getElem? (i := 1135) (by decide +kernel), by decide +kernel⟩
theorem cod_X10_drop : Cond.code yX10_drop cX10_drop 2 (some .int) ∈ TB := List.mem_filter.mpr ⟨List.mem_of_getElem? (i := 1136) (by decide +kernel), by decide +kernel⟩
theorem im_X10_item : Cond.instanceMethod yX10_item ∈ TB := List.mem_filter.mpr ⟨List.mem_of_getElem? (i := 1138) (by decide +kernel), by decide +kernel⟩
theorem sel_X10_item : Cond.selects RX10 yX10_item yX10_item ∈ TB := List.mem_filter.mpr ⟨List.mem_of_getElem? (i := 1139) (by decide +kernel), by decide +kernel⟩
theorem cod_X10_item : Cond.code yX10_item cX10_item 5 (some .int) ∈ TB := List.mem_filter.mpr ⟨List.mem_of_getElem? (i := 1140) (by decide +kernel), by decide +kernel⟩
theorem im_X10_arcs : Cond.instanceMethod yX10_arcs ∈ TB := List.mem_filter.mpr ⟨List.mem_of_getElem? (i := 1142) (by decide +kernel), by decide +kernel⟩
theorem sel_X10_arcs : Cond.selects RX10 yX10_arcs yX10_arcs ∈ TB := List.mem_filter.mpr ⟨List.mem_of_getElem? (i := 1143) (by decide +kernel), by decide +kernel⟩
theorem cod_X10_arcs : Cond.code yX10_arcs cX10_arcs 8 (some .int) ∈ TB := List.mem_filter.mpr ⟨List.mem_of_getElem? (i := 1144) (by decide +kernel), by decide +kernel⟩
theorem cod_object : Cond.code objectInit ⟨#[0xb1]⟩ 1 none ∈ TB := List.mem_filter.mpr ⟨List.mem_of_getElem? (i := 64) (by decide +kernel), by decide +kernel⟩
