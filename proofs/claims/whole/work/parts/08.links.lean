abbrev mX0_init : MInf := (cX0_init, 3, RX0, none, { frames := 0, cells := 0, slots := 0, locals := 0 })
abbrev mX0_next : MInf := (cX0_next, 2, RX0, some .int, { frames := 0, cells := 0, slots := 0, locals := 0 })
abbrev mX1_init : MInf := (cX1_init, 1, RX1, none, { frames := 0, cells := 0, slots := 0, locals := 0 })
abbrev mX1_add : MInf := (cX1_add, 3, RX1, some .int, { frames := 0, cells := 0, slots := 0, locals := 0 })
abbrev mX1_isFree : MInf := (cX1_isFree, 5, RX1, some .boolean, { frames := 0, cells := 0, slots := 0, locals := 0 })
abbrev mX1_pickedFor : MInf := (cX1_pickedFor, 4, RX1, some .int, { frames := 0, cells := 0, slots := 0, locals := 0 })
abbrev mX1_refillsFor : MInf := (cX1_refillsFor, 3, RX1, some .int, { frames := 0, cells := 0, slots := 0, locals := 0 })
abbrev mX2_init : MInf := (cX2_init, 1, RX2, none, { frames := 1, cells := 0, slots := 0, locals := 23 })
abbrev mX2_clear : MInf := (cX2_clear, 1, RX2, none, { frames := 1, cells := 0, slots := 0, locals := 23 })
abbrev mX2_hasNozzle : MInf := (cX2_hasNozzle, 2, RX2, some .boolean, { frames := 0, cells := 0, slots := 0, locals := 0 })
abbrev mX2_insert : MInf := (cX2_insert, 4, RX2, none, { frames := 1, cells := 0, slots := 0, locals := 22 })
abbrev mX2_partAt : MInf := (cX2_partAt, 2, RX2, some .int, { frames := 0, cells := 0, slots := 0, locals := 0 })
abbrev mX2_placeOf : MInf := (cX2_placeOf, 3, RX2, some .int, { frames := 0, cells := 0, slots := 0, locals := 0 })
abbrev mX2_tripAt : MInf := (cX2_tripAt, 2, RX2, some .int, { frames := 0, cells := 0, slots := 0, locals := 0 })
abbrev mX2_tripCount : MInf := (cX2_tripCount, 1, RX2, some .int, { frames := 1, cells := 0, slots := 0, locals := 21 })
abbrev mX3_init : MInf := (cX3_init, 1, RX3, none, { frames := 0, cells := 0, slots := 0, locals := 0 })
abbrev mX3_add : MInf := (cX3_add, 5, RX3, some .int, { frames := 0, cells := 0, slots := 0, locals := 0 })
abbrev mX3_has : MInf := (cX3_has, 2, RX3, some .boolean, { frames := 0, cells := 0, slots := 0, locals := 0 })
abbrev mX3_countOf : MInf := (cX3_countOf, 4, RX3, some .int, { frames := 0, cells := 0, slots := 0, locals := 0 })
abbrev mX3_sameHeight : MInf := (cX3_sameHeight, 3, RX3, some .boolean, { frames := 0, cells := 0, slots := 0, locals := 0 })
abbrev mX3_standsAhead : MInf := (cX3_standsAhead, 3, RX3, some .boolean, { frames := 0, cells := 0, slots := 0, locals := 0 })
abbrev mX3_wayBetween : MInf := (cX3_wayBetween, 5, RX3, some .int, { frames := 1, cells := 0, slots := 0, locals := 24 })
abbrev mX4_init : MInf := (cX4_init, 1, RX4, none, { frames := 0, cells := 0, slots := 0, locals := 0 })
abbrev mX4_clear : MInf := (cX4_clear, 1, RX4, none, { frames := 1, cells := 0, slots := 0, locals := 23 })
abbrev mX4_add : MInf := (cX4_add, 4, RX4, none, { frames := 0, cells := 0, slots := 0, locals := 0 })
abbrev mX4_settle : MInf := (cX4_settle, 3, RX4, none, { frames := 3, cells := 0, slots := 0, locals := 73 })
abbrev mX4_canKeepTo : MInf := (cX4_canKeepTo, 4, RX4, some .boolean, { frames := 2, cells := 0, slots := 0, locals := 50 })
abbrev mX4_lastLoads : MInf := (cX4_lastLoads, 7, RX4, some .long, { frames := 1, cells := 0, slots := 0, locals := 24 })
abbrev mX4_loadsBefore : MInf := (cX4_loadsBefore, 5, RX4, some .long, { frames := 1, cells := 0, slots := 0, locals := 22 })
abbrev mX4_isHost : MInf := (cX4_isHost, 3, RX4, some .boolean, { frames := 0, cells := 0, slots := 0, locals := 0 })
abbrev mX4_chooseHomes : MInf := (cX4_chooseHomes, 5, RX4, none, { frames := 1, cells := 0, slots := 0, locals := 23 })
abbrev mX4_canEnd : MInf := (cX4_canEnd, 4, RX4, some .boolean, { frames := 0, cells := 0, slots := 0, locals := 0 })
abbrev mX5_init : MInf := (cX5_init, 1, RX5, none, { frames := 0, cells := 0, slots := 0, locals := 0 })
abbrev mX5_arrange : MInf := (cX5_arrange, 7, RX5, none, { frames := 3, cells := 0, slots := 0, locals := 76 })
abbrev mX5_takeIn : MInf := (cX5_takeIn, 3, RX5, none, { frames := 0, cells := 0, slots := 0, locals := 0 })
abbrev mX5_measure : MInf := (cX5_measure, 4, RX5, none, { frames := 2, cells := 0, slots := 0, locals := 48 })
abbrev mX5_weigh : MInf := (cX5_weigh, 5, RX5, none, { frames := 2, cells := 0, slots := 0, locals := 50 })
abbrev mX5_layOut : MInf := (cX5_layOut, 7, RX5, none, { frames := 2, cells := 0, slots := 0, locals := 50 })
abbrev mX5_followersOf : MInf := (cX5_followersOf, 4, RX5, some .int, { frames := 0, cells := 0, slots := 0, locals := 0 })
abbrev mX5_bestNext : MInf := (cX5_bestNext, 8, RX5, some .int, { frames := 1, cells := 0, slots := 0, locals := 23 })
abbrev mX5_wayOver : MInf := (cX5_wayOver, 4, RX5, some .int, { frames := 0, cells := 0, slots := 0, locals := 0 })
abbrev mX6_init : MInf := (cX6_init, 4, RX6, none, { frames := 2, cells := 0, slots := 0, locals := 43 })
abbrev mX6_kind : MInf := (cX6_kind, 3, RX6, some .int, { frames := 8, cells := 1, slots := 6, locals := 200 })
abbrev mX6_part : MInf := (cX6_part, 8, RX6, some .int, { frames := 9, cells := 1, slots := 6, locals := 221 })
abbrev mX6_machine : MInf := (cX6_machine, 3, RX6, some .int, { frames := 8, cells := 1, slots := 6, locals := 200 })
abbrev mX6_fixed : MInf := (cX6_fixed, 4, RX6, some .boolean, { frames := 9, cells := 1, slots := 6, locals := 221 })
abbrev mX6_run : MInf := (cX6_run, 5, RX6, some .int, { frames := 8, cells := 1, slots := 6, locals := 200 })
abbrev mX6_slot : MInf := (cX6_slot, 3, RX6, some .int, { frames := 9, cells := 1, slots := 6, locals := 221 })
abbrev mX6_order : MInf := (cX6_order, 3, RX6, some .int, { frames := 9, cells := 1, slots := 6, locals := 221 })
abbrev mX6_trip : MInf := (cX6_trip, 4, RX6, some .int, { frames := 9, cells := 1, slots := 6, locals := 221 })
abbrev mX6_proved : MInf := (cX6_proved, 2, RX6, some .boolean, { frames := 2, cells := 0, slots := 0, locals := 41 })
abbrev mX6_bound : MInf := (cX6_bound, 4, RX6, some .long, { frames := 2, cells := 0, slots := 0, locals := 47 })
abbrev mX6_lower : MInf := (cX6_lower, 5, RX6, some .boolean, { frames := 9, cells := 1, slots := 6, locals := 221 })
abbrev mX6_refill : MInf := (cX6_refill, 4, RX6, some .boolean, { frames := 9, cells := 1, slots := 6, locals := 221 })
abbrev mX6_reject : MInf := (cX6_reject, 7, RX6, some .boolean, { frames := 9, cells := 1, slots := 6, locals := 221 })
abbrev mX6_machineOf : MInf := (cX6_machineOf, 2, RX6, some .int, { frames := 9, cells := 1, slots := 6, locals := 221 })
abbrev mX6_improve : MInf := (cX6_improve, 2, RX6, some .int, { frames := 8, cells := 1, slots := 6, locals := 200 })
abbrev mX6_common : MInf := (cX6_common, 7, RX6, some .boolean, { frames := 9, cells := 1, slots := 6, locals := 221 })
abbrev mX6_changes : MInf := (cX6_changes, 2, RX6, some .int, { frames := 9, cells := 1, slots := 6, locals := 221 })
abbrev mX6_requireKind : MInf := (cX6_requireKind, 2, RX6, none, { frames := 8, cells := 1, slots := 6, locals := 200 })
abbrev mX6_requirePart : MInf := (cX6_requirePart, 2, RX6, none, { frames := 8, cells := 1, slots := 6, locals := 200 })
abbrev mX6_requireMachine : MInf := (cX6_requireMachine, 2, RX6, none, { frames := 8, cells := 1, slots := 6, locals := 200 })
abbrev mX6_hostOf : MInf := (cX6_hostOf, 3, RX6, some .int, { frames := 1, cells := 0, slots := 0, locals := 22 })
abbrev mX6_shareKinds : MInf := (cX6_shareKinds, 4, RX6, none, { frames := 4, cells := 0, slots := 0, locals := 95 })
abbrev mX6_hostsFor : MInf := (cX6_hostsFor, 4, RX6, some .int, { frames := 1, cells := 0, slots := 0, locals := 21 })
abbrev mX6_setUp : MInf := (cX6_setUp, 4, RX6, none, { frames := 4, cells := 0, slots := 0, locals := 102 })
abbrev mX6_placeFixedFeeders : MInf := (cX6_placeFixedFeeders, 4, RX6, none, { frames := 0, cells := 0, slots := 0, locals := 0 })
abbrev mX6_placeOtherFeeders : MInf := (cX6_placeOtherFeeders, 4, RX6, none, { frames := 2, cells := 0, slots := 0, locals := 47 })
abbrev mX6_lowestRoom : MInf := (cX6_lowestRoom, 4, RX6, some .int, { frames := 1, cells := 0, slots := 0, locals := 24 })
abbrev mX6_exchangeParts : MInf := (cX6_exchangeParts, 4, RX6, some .int, { frames := 5, cells := 0, slots := 0, locals := 126 })
abbrev mX6_exchangeOnce : MInf := (cX6_exchangeOnce, 5, RX6, some .boolean, { frames := 4, cells := 0, slots := 0, locals := 102 })
abbrev mX6_greatestTime : MInf := (cX6_greatestTime, 3, RX6, some .int, { frames := 2, cells := 0, slots := 0, locals := 47 })
abbrev mX6_moveTime : MInf := (cX6_moveTime, 5, RX6, some .int, { frames := 2, cells := 0, slots := 0, locals := 48 })
abbrev mX6_countChanges : MInf := (cX6_countChanges, 4, RX6, some .int, { frames := 1, cells := 0, slots := 0, locals := 21 })
abbrev mX6_nozzleFor : MInf := (cX6_nozzleFor, 2, RX6, some .int, { frames := 0, cells := 0, slots := 0, locals := 0 })
abbrev mX6_supplyTime : MInf := (cX6_supplyTime, 5, RX6, some .int, { frames := 1, cells := 0, slots := 0, locals := 23 })
abbrev mX6_leastChangeTime : MInf := (cX6_leastChangeTime, 4, RX6, some .int, { frames := 1, cells := 0, slots := 0, locals := 24 })
abbrev mX7_init : MInf := (cX7_init, 5, RX7, none, { frames := 0, cells := 0, slots := 0, locals := 0 })
abbrev mX7_thrown : MInf := (cX7_thrown, 1, RX7, some .int, { frames := 0, cells := 0, slots := 0, locals := 0 })
abbrev mX7_isKind : MInf := (cX7_isKind, 2, RX7, some .boolean, { frames := 0, cells := 0, slots := 0, locals := 0 })
abbrev mX7_isPart : MInf := (cX7_isPart, 2, RX7, some .boolean, { frames := 0, cells := 0, slots := 0, locals := 0 })
abbrev mX7_isMachine : MInf := (cX7_isMachine, 2, RX7, some .boolean, { frames := 0, cells := 0, slots := 0, locals := 0 })
abbrev mX7_kind : MInf := (cX7_kind, 3, RX7, some .int, { frames := 0, cells := 0, slots := 0, locals := 0 })
abbrev mX7_isSpot : MInf := (cX7_isSpot, 2, RX7, some .boolean, { frames := 0, cells := 0, slots := 0, locals := 0 })
abbrev mX7_part : MInf := (cX7_part, 8, RX7, some .int, { frames := 1, cells := 0, slots := 0, locals := 21 })
abbrev mX7_machine : MInf := (cX7_machine, 3, RX7, some .int, { frames := 0, cells := 0, slots := 0, locals := 0 })
abbrev mX7_fixed : MInf := (cX7_fixed, 5, RX7, some .boolean, { frames := 1, cells := 0, slots := 0, locals := 21 })
abbrev mX7_refill : MInf := (cX7_refill, 3, RX7, some .boolean, { frames := 1, cells := 0, slots := 0, locals := 21 })
abbrev mX7_reject : MInf := (cX7_reject, 7, RX7, some .boolean, { frames := 1, cells := 0, slots := 0, locals := 21 })
abbrev mX7_partsOf : MInf := (cX7_partsOf, 4, RX7, some .int, { frames := 0, cells := 0, slots := 0, locals := 0 })
abbrev mX7_mayGo : MInf := (cX7_mayGo, 3, RX7, some .boolean, { frames := 0, cells := 0, slots := 0, locals := 0 })
abbrev mX7_nextMachine : MInf := (cX7_nextMachine, 4, RX7, some .int, { frames := 1, cells := 0, slots := 0, locals := 22 })
abbrev mX7_greatest : MInf := (cX7_greatest, 5, RX7, some .int, { frames := 1, cells := 0, slots := 0, locals := 23 })
abbrev mX7_goOn : MInf := (cX7_goOn, 3, RX7, some .boolean, { frames := 2, cells := 0, slots := 0, locals := 45 })
abbrev mX7_findShares : MInf := (cX7_findShares, 4, RX7, none, { frames := 3, cells := 0, slots := 0, locals := 67 })
abbrev mX7_hasRoom : MInf := (cX7_hasRoom, 5, RX7, some .boolean, { frames := 0, cells := 0, slots := 0, locals := 0 })
abbrev mX7_stand : MInf := (cX7_stand, 5, RX7, none, { frames := 0, cells := 0, slots := 0, locals := 0 })
abbrev mX7_findFeeders : MInf := (cX7_findFeeders, 4, RX7, none, { frames := 1, cells := 0, slots := 0, locals := 24 })
abbrev mX7_isAhead : MInf := (cX7_isAhead, 3, RX7, some .boolean, { frames := 0, cells := 0, slots := 0, locals := 0 })
abbrev mX7_line : MInf := (cX7_line, 4, RX7, none, { frames := 1, cells := 0, slots := 0, locals := 22 })
abbrev mX7_size : MInf := (cX7_size, 2, RX7, some .long, { frames := 0, cells := 0, slots := 0, locals := 0 })
abbrev mX7_greater : MInf := (cX7_greater, 4, RX7, some .long, { frames := 0, cells := 0, slots := 0, locals := 0 })
abbrev mX7_fromHome : MInf := (cX7_fromHome, 2, RX7, some .long, { frames := 1, cells := 0, slots := 0, locals := 23 })
abbrev mX7_between : MInf := (cX7_between, 3, RX7, some .long, { frames := 1, cells := 0, slots := 0, locals := 23 })
abbrev mX7_mayCome : MInf := (cX7_mayCome, 5, RX7, some .boolean, { frames := 0, cells := 0, slots := 0, locals := 0 })
abbrev mX7_measure : MInf := (cX7_measure, 9, RX7, none, { frames := 2, cells := 0, slots := 0, locals := 45 })
abbrev mX7_arrange : MInf := (cX7_arrange, 13, RX7, none, { frames := 3, cells := 0, slots := 0, locals := 73 })
abbrev mX7_countOf : MInf := (cX7_countOf, 5, RX7, some .int, { frames := 0, cells := 0, slots := 0, locals := 0 })
abbrev mX7_placing : MInf := (cX7_placing, 9, RX7, some .long, { frames := 1, cells := 0, slots := 0, locals := 24 })
abbrev mX7_changesOf : MInf := (cX7_changesOf, 4, RX7, some .int, { frames := 0, cells := 0, slots := 0, locals := 0 })
abbrev mX7_timeOf : MInf := (cX7_timeOf, 8, RX7, some .long, { frames := 2, cells := 0, slots := 0, locals := 52 })
abbrev mX7_draw : MInf := (cX7_draw, 2, RX7, some .int, { frames := 0, cells := 0, slots := 0, locals := 0 })
abbrev mX7_exchange : MInf := (cX7_exchange, 10, RX7, some .boolean, { frames := 4, cells := 0, slots := 0, locals := 105 })
abbrev mX7_exchanges : MInf := (cX7_exchanges, 6, RX7, some .int, { frames := 5, cells := 0, slots := 0, locals := 134 })
abbrev mX7_run : MInf := (cX7_run, 7, RX7, some .int, { frames := 6, cells := 0, slots := 0, locals := 159 })
abbrev mX7_improve : MInf := (cX7_improve, 2, RX7, some .int, { frames := 6, cells := 0, slots := 0, locals := 159 })
abbrev mX7_slot : MInf := (cX7_slot, 3, RX7, some .int, { frames := 1, cells := 0, slots := 0, locals := 21 })
abbrev mX7_order : MInf := (cX7_order, 3, RX7, some .int, { frames := 1, cells := 0, slots := 0, locals := 21 })
abbrev mX7_placeOf : MInf := (cX7_placeOf, 4, RX7, some .int, { frames := 0, cells := 0, slots := 0, locals := 0 })
abbrev mX7_trip : MInf := (cX7_trip, 4, RX7, some .int, { frames := 1, cells := 0, slots := 0, locals := 23 })
abbrev mX7_proved : MInf := (cX7_proved, 3, RX7, some .boolean, { frames := 0, cells := 0, slots := 0, locals := 0 })
abbrev mX7_bound : MInf := (cX7_bound, 8, RX7, some .long, { frames := 2, cells := 0, slots := 0, locals := 52 })
abbrev mX7_machineFor : MInf := (cX7_machineFor, 3, RX7, some .int, { frames := 1, cells := 0, slots := 0, locals := 23 })
abbrev mX7_machineOf : MInf := (cX7_machineOf, 2, RX7, some .int, { frames := 2, cells := 0, slots := 0, locals := 45 })
abbrev mX7_lower : MInf := (cX7_lower, 5, RX7, some .boolean, { frames := 2, cells := 0, slots := 0, locals := 45 })
abbrev mX7_common : MInf := (cX7_common, 6, RX7, some .boolean, { frames := 1, cells := 0, slots := 0, locals := 22 })
abbrev mX7_changes : MInf := (cX7_changes, 2, RX7, some .int, { frames := 1, cells := 0, slots := 0, locals := 23 })
theorem fX0_7 : FLg RX0 7 0 0 := ⟨RX0, TX0, 1, rfl, by decide, tm_1 (List.mem_of_getElem? (i := 198) rfl) rfl, inX0⟩
theorem pX0_7 : FLp RX0 7 0 0 .long := ⟨RX0, TX0, 1, tyX0, rfl, by decide, tm_1 (List.mem_of_getElem? (i := 198) rfl) rfl, inX0, tyX0_ok, nmX0, rfl, tyX0_ok 0 (by decide)⟩
theorem kX0_13 : Cond.constantLong RX0 13 6364136223846793005 ∈ gw := tm_3 (List.mem_of_getElem? (i := 94) rfl) rfl
theorem kX0_15 : Cond.constantLong RX0 15 1442695040888963407 ∈ gw := tm_3 (List.mem_of_getElem? (i := 95) rfl) rfl
theorem fX1_9 : FLg RX1 9 1 0 := ⟨RX1, TX1, 7, rfl, by decide, tm_1 (List.mem_of_getElem? (i := 32) rfl) rfl, inX1⟩
theorem fX1_15 : FLg RX1 15 1 1 := ⟨RX1, TX1, 7, rfl, by decide, tm_1 (List.mem_of_getElem? (i := 34) rfl) rfl, inX1⟩
theorem fX1_18 : FLg RX1 18 1 2 := ⟨RX1, TX1, 7, rfl, by decide, tm_1 (List.mem_of_getElem? (i := 36) rfl) rfl, inX1⟩
theorem fX1_21 : FLg RX1 21 1 3 := ⟨RX1, TX1, 7, rfl, by decide, tm_1 (List.mem_of_getElem? (i := 38) rfl) rfl, inX1⟩
theorem fX1_24 : FLg RX1 24 1 4 := ⟨RX1, TX1, 7, rfl, by decide, tm_1 (List.mem_of_getElem? (i := 40) rfl) rfl, inX1⟩
theorem fX1_27 : FLg RX1 27 1 5 := ⟨RX1, TX1, 7, rfl, by decide, tm_1 (List.mem_of_getElem? (i := 42) rfl) rfl, inX1⟩
theorem fX1_30 : FLg RX1 30 1 6 := ⟨RX1, TX1, 7, rfl, by decide, tm_1 (List.mem_of_getElem? (i := 44) rfl) rfl, inX1⟩
theorem pX1_30 : FLp RX1 30 1 6 .int := ⟨RX1, TX1, 7, tyX1, rfl, by decide, tm_1 (List.mem_of_getElem? (i := 44) rfl) rfl, inX1, tyX1_ok, nmX1, rfl, tyX1_ok 6 (by decide)⟩
theorem fX2_9 : FLg RX2 9 2 0 := ⟨RX2, TX2, 7, rfl, by decide, tm_1 (List.mem_of_getElem? (i := 98) rfl) rfl, inX2⟩
theorem fX2_15 : FLg RX2 15 2 1 := ⟨RX2, TX2, 7, rfl, by decide, tm_1 (List.mem_of_getElem? (i := 101) rfl) rfl, inX2⟩
theorem fX2_18 : FLg RX2 18 2 2 := ⟨RX2, TX2, 7, rfl, by decide, tm_1 (List.mem_of_getElem? (i := 103) rfl) rfl, inX2⟩
theorem fX2_21 : FLg RX2 21 2 3 := ⟨RX2, TX2, 7, rfl, by decide, tm_1 (List.mem_of_getElem? (i := 105) rfl) rfl, inX2⟩
theorem pX2_21 : FLp RX2 21 2 3 .int := ⟨RX2, TX2, 7, tyX2, rfl, by decide, tm_1 (List.mem_of_getElem? (i := 105) rfl) rfl, inX2, tyX2_ok, nmX2, rfl, tyX2_ok 3 (by decide)⟩
theorem fX2_25 : FLg RX2 25 2 4 := ⟨RX2, TX2, 7, rfl, by decide, tm_1 (List.mem_of_getElem? (i := 107) rfl) rfl, inX2⟩
theorem pX2_25 : FLp RX2 25 2 4 .int := ⟨RX2, TX2, 7, tyX2, rfl, by decide, tm_1 (List.mem_of_getElem? (i := 107) rfl) rfl, inX2, tyX2_ok, nmX2, rfl, tyX2_ok 4 (by decide)⟩
theorem fX2_28 : FLg RX2 28 2 5 := ⟨RX2, TX2, 7, rfl, by decide, tm_1 (List.mem_of_getElem? (i := 110) rfl) rfl, inX2⟩
theorem pX2_28 : FLp RX2 28 2 5 .int := ⟨RX2, TX2, 7, tyX2, rfl, by decide, tm_1 (List.mem_of_getElem? (i := 110) rfl) rfl, inX2, tyX2_ok, nmX2, rfl, tyX2_ok 5 (by decide)⟩
theorem fX2_31 : FLg RX2 31 2 6 := ⟨RX2, TX2, 7, rfl, by decide, tm_1 (List.mem_of_getElem? (i := 113) rfl) rfl, inX2⟩
theorem pX2_31 : FLp RX2 31 2 6 .int := ⟨RX2, TX2, 7, tyX2, rfl, by decide, tm_1 (List.mem_of_getElem? (i := 113) rfl) rfl, inX2, tyX2_ok, nmX2, rfl, tyX2_ok 6 (by decide)⟩
theorem vX2_40 : LkV RX2 40 yX3_standsAhead mX3_standsAhead 2 := ⟨tm_3 (List.mem_of_getElem? (i := 23) rfl) rfl, tm_3 (List.mem_of_getElem? (i := 24) rfl) rfl, tm_3 (List.mem_of_getElem? (i := 25) rfl) rfl, tm_1 (List.mem_of_getElem? (i := 3) rfl) rfl, tm_3 (List.mem_of_getElem? (i := 26) rfl) rfl, by decide +kernel, by decide +kernel, by decide +kernel⟩
theorem fX2_46 : FLg RX2 46 3 0 := ⟨RX3, TX3, 5, rfl, by decide, tm_1 (List.mem_of_getElem? (i := 69) rfl) rfl, inX3⟩
theorem vX2_49 : LkV RX2 49 yX2_tripAt mX2_tripAt 1 := ⟨tm_2 (List.mem_of_getElem? (i := 1) rfl) rfl, tm_2 (List.mem_of_getElem? (i := 2) rfl) rfl, tm_2 (List.mem_of_getElem? (i := 3) rfl) rfl, tm_1 (List.mem_of_getElem? (i := 4) rfl) rfl, tm_2 (List.mem_of_getElem? (i := 4) rfl) rfl, by decide +kernel, by decide +kernel, by decide +kernel⟩
theorem fX3_9 : FLg RX3 9 3 0 := ⟨RX3, TX3, 5, rfl, by decide, tm_1 (List.mem_of_getElem? (i := 68) rfl) rfl, inX3⟩
theorem fX3_15 : FLg RX3 15 3 1 := ⟨RX3, TX3, 5, rfl, by decide, tm_1 (List.mem_of_getElem? (i := 71) rfl) rfl, inX3⟩
theorem fX3_18 : FLg RX3 18 3 2 := ⟨RX3, TX3, 5, rfl, by decide, tm_1 (List.mem_of_getElem? (i := 72) rfl) rfl, inX3⟩
theorem fX3_21 : FLg RX3 21 3 3 := ⟨RX3, TX3, 5, rfl, by decide, tm_1 (List.mem_of_getElem? (i := 73) rfl) rfl, inX3⟩
theorem fX3_24 : FLg RX3 24 3 4 := ⟨RX3, TX3, 5, rfl, by decide, tm_1 (List.mem_of_getElem? (i := 75) rfl) rfl, inX3⟩
theorem pX3_24 : FLp RX3 24 3 4 .int := ⟨RX3, TX3, 5, tyX3, rfl, by decide, tm_1 (List.mem_of_getElem? (i := 75) rfl) rfl, inX3, tyX3_ok, nmX3, rfl, tyX3_ok 4 (by decide)⟩
theorem vX3_28 : LkV RX3 28 yX3_has mX3_has 1 := ⟨tm_3 (List.mem_of_getElem? (i := 44) rfl) rfl, tm_3 (List.mem_of_getElem? (i := 45) rfl) rfl, tm_3 (List.mem_of_getElem? (i := 46) rfl) rfl, tm_1 (List.mem_of_getElem? (i := 3) rfl) rfl, tm_3 (List.mem_of_getElem? (i := 47) rfl) rfl, by decide +kernel, by decide +kernel, by decide +kernel⟩
theorem jX3_32 : LkM RX3 32 Lib.Math.abs.name Lib.Math.abs.code 1 .int := ⟨tm_3 (List.mem_of_getElem? (i := 48) rfl) rfl, tm_3 (List.mem_of_getElem? (i := 49) rfl) rfl, tm_1 (List.mem_of_getElem? (i := 8) rfl) rfl, tm_3 (List.mem_of_getElem? (i := 50) rfl) rfl⟩
theorem jX3_38 : LkM RX3 38 Lib.Math.max.name Lib.Math.max.code 2 .int := ⟨tm_3 (List.mem_of_getElem? (i := 51) rfl) rfl, tm_1 (List.mem_of_getElem? (i := 190) rfl) rfl, tm_1 (List.mem_of_getElem? (i := 8) rfl) rfl, tm_1 (List.mem_of_getElem? (i := 191) rfl) rfl⟩
theorem fX4_9 : FLg RX4 9 4 0 := ⟨RX4, TX4, 7, rfl, by decide, tm_1 (List.mem_of_getElem? (i := 138) rfl) rfl, inX4⟩
theorem fX4_15 : FLg RX4 15 4 1 := ⟨RX4, TX4, 7, rfl, by decide, tm_1 (List.mem_of_getElem? (i := 140) rfl) rfl, inX4⟩
theorem fX4_18 : FLg RX4 18 4 2 := ⟨RX4, TX4, 7, rfl, by decide, tm_1 (List.mem_of_getElem? (i := 141) rfl) rfl, inX4⟩
theorem fX4_21 : FLg RX4 21 4 3 := ⟨RX4, TX4, 7, rfl, by decide, tm_1 (List.mem_of_getElem? (i := 142) rfl) rfl, inX4⟩
theorem fX4_26 : FLg RX4 26 4 4 := ⟨RX4, TX4, 7, rfl, by decide, tm_1 (List.mem_of_getElem? (i := 143) rfl) rfl, inX4⟩
theorem fX4_29 : FLg RX4 29 4 5 := ⟨RX4, TX4, 7, rfl, by decide, tm_1 (List.mem_of_getElem? (i := 144) rfl) rfl, inX4⟩
theorem pX4_29 : FLp RX4 29 4 5 .int := ⟨RX4, TX4, 7, tyX4, rfl, by decide, tm_1 (List.mem_of_getElem? (i := 144) rfl) rfl, inX4, tyX4_ok, nmX4, rfl, tyX4_ok 5 (by decide)⟩
theorem fX4_33 : FLg RX4 33 4 6 := ⟨RX4, TX4, 7, rfl, by decide, tm_1 (List.mem_of_getElem? (i := 145) rfl) rfl, inX4⟩
theorem pX4_33 : FLp RX4 33 4 6 .int := ⟨RX4, TX4, 7, tyX4, rfl, by decide, tm_1 (List.mem_of_getElem? (i := 145) rfl) rfl, inX4, tyX4_ok, nmX4, rfl, tyX4_ok 6 (by decide)⟩
theorem vX4_42 : LkV RX4 42 yX4_canKeepTo mX4_canKeepTo 1 := ⟨tm_2 (List.mem_of_getElem? (i := 213) rfl) rfl, tm_2 (List.mem_of_getElem? (i := 215) rfl) rfl, tm_0 (List.mem_of_getElem? (i := 6) rfl) rfl, tm_1 (List.mem_of_getElem? (i := 6) rfl) rfl, tm_2 (List.mem_of_getElem? (i := 216) rfl) rfl, by decide +kernel, by decide +kernel, by decide +kernel⟩
theorem vX4_46 : LkV RX4 46 yX4_chooseHomes mX4_chooseHomes 0 := ⟨tm_2 (List.mem_of_getElem? (i := 231) rfl) rfl, tm_2 (List.mem_of_getElem? (i := 233) rfl) rfl, tm_0 (List.mem_of_getElem? (i := 10) rfl) rfl, tm_1 (List.mem_of_getElem? (i := 6) rfl) rfl, tm_2 (List.mem_of_getElem? (i := 234) rfl) rfl, by decide +kernel, by decide +kernel, by decide +kernel⟩
theorem vX4_49 : LkV RX4 49 yX4_lastLoads mX4_lastLoads 2 := ⟨tm_2 (List.mem_of_getElem? (i := 217) rfl) rfl, tm_2 (List.mem_of_getElem? (i := 219) rfl) rfl, tm_0 (List.mem_of_getElem? (i := 7) rfl) rfl, tm_1 (List.mem_of_getElem? (i := 6) rfl) rfl, tm_2 (List.mem_of_getElem? (i := 220) rfl) rfl, by decide +kernel, by decide +kernel, by decide +kernel⟩
theorem vX4_53 : LkV RX4 53 yX4_loadsBefore mX4_loadsBefore 2 := ⟨tm_2 (List.mem_of_getElem? (i := 223) rfl) rfl, tm_2 (List.mem_of_getElem? (i := 225) rfl) rfl, tm_0 (List.mem_of_getElem? (i := 8) rfl) rfl, tm_1 (List.mem_of_getElem? (i := 6) rfl) rfl, tm_2 (List.mem_of_getElem? (i := 226) rfl) rfl, by decide +kernel, by decide +kernel, by decide +kernel⟩
theorem jX4_56 : LkM RX4 56 Lib.Math.min.name Lib.Math.min.code 2 .int := ⟨tm_2 (List.mem_of_getElem? (i := 221) rfl) rfl, tm_1 (List.mem_of_getElem? (i := 187) rfl) rfl, tm_1 (List.mem_of_getElem? (i := 8) rfl) rfl, tm_1 (List.mem_of_getElem? (i := 188) rfl) rfl⟩
theorem jX4_62 : LkM RX4 62 Lib.Math.max.name Lib.Math.max.code 2 .int := ⟨tm_2 (List.mem_of_getElem? (i := 222) rfl) rfl, tm_1 (List.mem_of_getElem? (i := 190) rfl) rfl, tm_1 (List.mem_of_getElem? (i := 8) rfl) rfl, tm_1 (List.mem_of_getElem? (i := 191) rfl) rfl⟩
theorem vX4_65 : LkV RX4 65 yX4_isHost mX4_isHost 2 := ⟨tm_2 (List.mem_of_getElem? (i := 227) rfl) rfl, tm_2 (List.mem_of_getElem? (i := 229) rfl) rfl, tm_0 (List.mem_of_getElem? (i := 9) rfl) rfl, tm_1 (List.mem_of_getElem? (i := 6) rfl) rfl, tm_2 (List.mem_of_getElem? (i := 230) rfl) rfl, by decide +kernel, by decide +kernel, by decide +kernel⟩
theorem vX4_69 : LkV RX4 69 yX4_canEnd mX4_canEnd 3 := ⟨tm_2 (List.mem_of_getElem? (i := 235) rfl) rfl, tm_2 (List.mem_of_getElem? (i := 237) rfl) rfl, tm_0 (List.mem_of_getElem? (i := 11) rfl) rfl, tm_1 (List.mem_of_getElem? (i := 6) rfl) rfl, tm_2 (List.mem_of_getElem? (i := 238) rfl) rfl, by decide +kernel, by decide +kernel, by decide +kernel⟩
theorem fX5_9 : FLg RX5 9 5 0 := ⟨RX5, TX5, 5, rfl, by decide, tm_1 (List.mem_of_getElem? (i := 170) rfl) rfl, inX5⟩
theorem fX5_15 : FLg RX5 15 5 1 := ⟨RX5, TX5, 5, rfl, by decide, tm_1 (List.mem_of_getElem? (i := 171) rfl) rfl, inX5⟩
theorem fX5_20 : FLg RX5 20 5 2 := ⟨RX5, TX5, 5, rfl, by decide, tm_1 (List.mem_of_getElem? (i := 172) rfl) rfl, inX5⟩
theorem fX5_23 : FLg RX5 23 5 3 := ⟨RX5, TX5, 5, rfl, by decide, tm_1 (List.mem_of_getElem? (i := 173) rfl) rfl, inX5⟩
theorem fX5_26 : FLg RX5 26 5 4 := ⟨RX5, TX5, 5, rfl, by decide, tm_1 (List.mem_of_getElem? (i := 174) rfl) rfl, inX5⟩
theorem pX5_26 : FLp RX5 26 5 4 .int := ⟨RX5, TX5, 5, tyX5, rfl, by decide, tm_1 (List.mem_of_getElem? (i := 174) rfl) rfl, inX5, tyX5_ok, nmX5, rfl, tyX5_ok 4 (by decide)⟩
theorem fX5_30 : FLg RX5 30 2 4 := ⟨RX2, TX2, 7, rfl, by decide, tm_1 (List.mem_of_getElem? (i := 108) rfl) rfl, inX2⟩
theorem fX5_35 : FLg RX5 35 2 5 := ⟨RX2, TX2, 7, rfl, by decide, tm_1 (List.mem_of_getElem? (i := 111) rfl) rfl, inX2⟩
theorem jX5_36 : LkM RX5 36 Lib.Math.min.name Lib.Math.min.code 2 .int := ⟨tm_3 (List.mem_of_getElem? (i := 31) rfl) rfl, tm_1 (List.mem_of_getElem? (i := 187) rfl) rfl, tm_1 (List.mem_of_getElem? (i := 8) rfl) rfl, tm_1 (List.mem_of_getElem? (i := 188) rfl) rfl⟩
theorem fX5_42 : FLg RX5 42 2 0 := ⟨RX2, TX2, 7, rfl, by decide, tm_1 (List.mem_of_getElem? (i := 99) rfl) rfl, inX2⟩
theorem vX5_45 : LkV RX5 45 yX5_takeIn mX5_takeIn 1 := ⟨tm_3 (List.mem_of_getElem? (i := 32) rfl) rfl, tm_3 (List.mem_of_getElem? (i := 34) rfl) rfl, tm_0 (List.mem_of_getElem? (i := 16) rfl) rfl, tm_1 (List.mem_of_getElem? (i := 7) rfl) rfl, tm_3 (List.mem_of_getElem? (i := 35) rfl) rfl, by decide +kernel, by decide +kernel, by decide +kernel⟩
theorem vX5_49 : LkV RX5 49 yX5_measure mX5_measure 1 := ⟨tm_3 (List.mem_of_getElem? (i := 36) rfl) rfl, tm_3 (List.mem_of_getElem? (i := 38) rfl) rfl, tm_0 (List.mem_of_getElem? (i := 17) rfl) rfl, tm_1 (List.mem_of_getElem? (i := 7) rfl) rfl, tm_3 (List.mem_of_getElem? (i := 39) rfl) rfl, by decide +kernel, by decide +kernel, by decide +kernel⟩
theorem vX5_53 : LkV RX5 53 yX5_weigh mX5_weigh 0 := ⟨tm_3 (List.mem_of_getElem? (i := 52) rfl) rfl, tm_3 (List.mem_of_getElem? (i := 54) rfl) rfl, tm_0 (List.mem_of_getElem? (i := 18) rfl) rfl, tm_1 (List.mem_of_getElem? (i := 7) rfl) rfl, tm_3 (List.mem_of_getElem? (i := 55) rfl) rfl, by decide +kernel, by decide +kernel, by decide +kernel⟩
theorem vX5_56 : LkV RX5 56 yX5_layOut mX5_layOut 2 := ⟨tm_3 (List.mem_of_getElem? (i := 68) rfl) rfl, tm_3 (List.mem_of_getElem? (i := 70) rfl) rfl, tm_0 (List.mem_of_getElem? (i := 22) rfl) rfl, tm_1 (List.mem_of_getElem? (i := 7) rfl) rfl, tm_3 (List.mem_of_getElem? (i := 71) rfl) rfl, by decide +kernel, by decide +kernel, by decide +kernel⟩
theorem vX5_60 : LkV RX5 60 yX3_wayBetween mX3_wayBetween 2 := ⟨tm_3 (List.mem_of_getElem? (i := 40) rfl) rfl, tm_3 (List.mem_of_getElem? (i := 41) rfl) rfl, tm_3 (List.mem_of_getElem? (i := 42) rfl) rfl, tm_1 (List.mem_of_getElem? (i := 3) rfl) rfl, tm_3 (List.mem_of_getElem? (i := 43) rfl) rfl, by decide +kernel, by decide +kernel, by decide +kernel⟩
theorem fX5_65 : FLg RX5 65 3 3 := ⟨RX3, TX3, 5, rfl, by decide, tm_1 (List.mem_of_getElem? (i := 74) rfl) rfl, inX3⟩
theorem vX5_68 : LkV RX5 68 yX5_followersOf mX5_followersOf 1 := ⟨tm_3 (List.mem_of_getElem? (i := 56) rfl) rfl, tm_3 (List.mem_of_getElem? (i := 58) rfl) rfl, tm_0 (List.mem_of_getElem? (i := 19) rfl) rfl, tm_1 (List.mem_of_getElem? (i := 7) rfl) rfl, tm_3 (List.mem_of_getElem? (i := 59) rfl) rfl, by decide +kernel, by decide +kernel, by decide +kernel⟩
theorem vX5_72 : LkV RX5 72 yX5_bestNext mX5_bestNext 3 := ⟨tm_3 (List.mem_of_getElem? (i := 60) rfl) rfl, tm_3 (List.mem_of_getElem? (i := 62) rfl) rfl, tm_0 (List.mem_of_getElem? (i := 20) rfl) rfl, tm_1 (List.mem_of_getElem? (i := 7) rfl) rfl, tm_3 (List.mem_of_getElem? (i := 63) rfl) rfl, by decide +kernel, by decide +kernel, by decide +kernel⟩
theorem vX5_76 : LkV RX5 76 yX5_wayOver mX5_wayOver 3 := ⟨tm_3 (List.mem_of_getElem? (i := 64) rfl) rfl, tm_3 (List.mem_of_getElem? (i := 66) rfl) rfl, tm_0 (List.mem_of_getElem? (i := 21) rfl) rfl, tm_1 (List.mem_of_getElem? (i := 7) rfl) rfl, tm_3 (List.mem_of_getElem? (i := 67) rfl) rfl, by decide +kernel, by decide +kernel, by decide +kernel⟩
theorem fX6_10 : FLg RX6 10 6 2 := ⟨RX6, TX6, 10, rfl, by decide, tm_1 (List.mem_of_getElem? (i := 204) rfl) rfl, inX6⟩
theorem fX6_19 : FLg RX6 19 6 3 := ⟨RX6, TX6, 10, rfl, by decide, tm_1 (List.mem_of_getElem? (i := 205) rfl) rfl, inX6⟩
theorem fX6_26 : FLg RX6 26 6 4 := ⟨RX6, TX6, 10, rfl, by decide, tm_1 (List.mem_of_getElem? (i := 206) rfl) rfl, inX6⟩
theorem fX6_33 : FLg RX6 33 6 5 := ⟨RX6, TX6, 10, rfl, by decide, tm_1 (List.mem_of_getElem? (i := 207) rfl) rfl, inX6⟩
theorem fX6_40 : FLg RX6 40 6 6 := ⟨RX6, TX6, 10, rfl, by decide, tm_1 (List.mem_of_getElem? (i := 208) rfl) rfl, inX6⟩
theorem fX6_44 : FLg RX6 44 6 7 := ⟨RX6, TX6, 10, rfl, by decide, tm_1 (List.mem_of_getElem? (i := 209) rfl) rfl, inX6⟩
theorem fX6_48 : FLg RX6 48 6 8 := ⟨RX6, TX6, 10, rfl, by decide, tm_1 (List.mem_of_getElem? (i := 210) rfl) rfl, inX6⟩
theorem pX6_48 : FLp RX6 48 6 8 .int := ⟨RX6, TX6, 10, tyX6, rfl, by decide, tm_1 (List.mem_of_getElem? (i := 210) rfl) rfl, inX6, tyX6_ok, nmX6, rfl, tyX6_ok 8 (by decide)⟩
theorem fX6_52 : FLg RX6 52 6 9 := ⟨RX6, TX6, 10, rfl, by decide, tm_1 (List.mem_of_getElem? (i := 211) rfl) rfl, inX6⟩
theorem pX6_52 : FLp RX6 52 6 9 .int := ⟨RX6, TX6, 10, tyX6, rfl, by decide, tm_1 (List.mem_of_getElem? (i := 211) rfl) rfl, inX6, tyX6_ok, nmX6, rfl, tyX6_ok 9 (by decide)⟩
theorem jX6_55 : LkM RX6 55 Lib.Math.min.name Lib.Math.min.code 2 .int := ⟨tm_1 (List.mem_of_getElem? (i := 186) rfl) rfl, tm_1 (List.mem_of_getElem? (i := 187) rfl) rfl, tm_1 (List.mem_of_getElem? (i := 8) rfl) rfl, tm_1 (List.mem_of_getElem? (i := 188) rfl) rfl⟩
theorem jX6_61 : LkM RX6 61 Lib.Math.max.name Lib.Math.max.code 2 .int := ⟨tm_1 (List.mem_of_getElem? (i := 189) rfl) rfl, tm_1 (List.mem_of_getElem? (i := 190) rfl) rfl, tm_1 (List.mem_of_getElem? (i := 8) rfl) rfl, tm_1 (List.mem_of_getElem? (i := 191) rfl) rfl⟩
theorem fX6_64 : FLg RX6 64 6 0 := ⟨RX6, TX6, 10, rfl, by decide, tm_1 (List.mem_of_getElem? (i := 202) rfl) rfl, inX6⟩
theorem fX6_72 : FLg RX6 72 6 1 := ⟨RX6, TX6, 10, rfl, by decide, tm_1 (List.mem_of_getElem? (i := 203) rfl) rfl, inX6⟩
theorem vX6_85 : LkV RX6 85 yX1_add mX1_add 2 := ⟨tm_2 (List.mem_of_getElem? (i := 113) rfl) rfl, tm_2 (List.mem_of_getElem? (i := 114) rfl) rfl, tm_2 (List.mem_of_getElem? (i := 115) rfl) rfl, tm_1 (List.mem_of_getElem? (i := 2) rfl) rfl, tm_2 (List.mem_of_getElem? (i := 116) rfl) rfl, by decide +kernel, by decide +kernel, by decide +kernel⟩
theorem vX6_88 : LkV RX6 88 yX6_requireKind mX6_requireKind 1 := ⟨tm_2 (List.mem_of_getElem? (i := 125) rfl) rfl, tm_2 (List.mem_of_getElem? (i := 127) rfl) rfl, tm_0 (List.mem_of_getElem? (i := 3) rfl) rfl, tm_1 (List.mem_of_getElem? (i := 1) rfl) rfl, tm_2 (List.mem_of_getElem? (i := 128) rfl) rfl, by decide +kernel, by decide +kernel, by decide +kernel⟩
theorem kX6_92 : Cond.constantLong RX6 92 100000 ∈ gw := tm_2 (List.mem_of_getElem? (i := 145) rfl) rfl
theorem kX6_96 : Cond.constantLong RX6 96 10000 ∈ gw := tm_2 (List.mem_of_getElem? (i := 147) rfl) rfl
theorem vX6_100 : LkV RX6 100 yX3_add mX3_add 4 := ⟨tm_2 (List.mem_of_getElem? (i := 149) rfl) rfl, tm_2 (List.mem_of_getElem? (i := 150) rfl) rfl, tm_2 (List.mem_of_getElem? (i := 151) rfl) rfl, tm_1 (List.mem_of_getElem? (i := 3) rfl) rfl, tm_2 (List.mem_of_getElem? (i := 152) rfl) rfl, by decide +kernel, by decide +kernel, by decide +kernel⟩
theorem fX6_107 : FLg RX6 107 2 3 := ⟨RX2, TX2, 7, rfl, by decide, tm_1 (List.mem_of_getElem? (i := 106) rfl) rfl, inX2⟩
theorem pX6_107 : FLp RX6 107 2 3 .int := ⟨RX2, TX2, 7, tyX2, rfl, by decide, tm_1 (List.mem_of_getElem? (i := 106) rfl) rfl, inX2, tyX2_ok, nmX2, rfl, tyX2_ok 3 (by decide)⟩
theorem fX6_110 : FLg RX6 110 2 4 := ⟨RX2, TX2, 7, rfl, by decide, tm_1 (List.mem_of_getElem? (i := 109) rfl) rfl, inX2⟩
theorem pX6_110 : FLp RX6 110 2 4 .int := ⟨RX2, TX2, 7, tyX2, rfl, by decide, tm_1 (List.mem_of_getElem? (i := 109) rfl) rfl, inX2, tyX2_ok, nmX2, rfl, tyX2_ok 4 (by decide)⟩
theorem fX6_118 : FLg RX6 118 1 0 := ⟨RX1, TX1, 7, rfl, by decide, tm_1 (List.mem_of_getElem? (i := 33) rfl) rfl, inX1⟩
theorem fX6_121 : FLg RX6 121 1 2 := ⟨RX1, TX1, 7, rfl, by decide, tm_1 (List.mem_of_getElem? (i := 37) rfl) rfl, inX1⟩
theorem vX6_124 : LkV RX6 124 yX1_isFree mX1_isFree 3 := ⟨tm_2 (List.mem_of_getElem? (i := 170) rfl) rfl, tm_2 (List.mem_of_getElem? (i := 171) rfl) rfl, tm_2 (List.mem_of_getElem? (i := 172) rfl) rfl, tm_1 (List.mem_of_getElem? (i := 2) rfl) rfl, tm_2 (List.mem_of_getElem? (i := 173) rfl) rfl, by decide +kernel, by decide +kernel, by decide +kernel⟩
theorem kX6_130 : Cond.constantLong RX6 130 200 ∈ gw := tm_2 (List.mem_of_getElem? (i := 182) rfl) rfl
theorem vX6_134 : LkV RX6 134 yX6_shareKinds mX6_shareKinds 0 := ⟨tm_2 (List.mem_of_getElem? (i := 184) rfl) rfl, tm_2 (List.mem_of_getElem? (i := 186) rfl) rfl, tm_0 (List.mem_of_getElem? (i := 4) rfl) rfl, tm_1 (List.mem_of_getElem? (i := 1) rfl) rfl, tm_2 (List.mem_of_getElem? (i := 187) rfl) rfl, by decide +kernel, by decide +kernel, by decide +kernel⟩
theorem vX6_137 : LkV RX6 137 yX6_setUp mX6_setUp 1 := ⟨tm_2 (List.mem_of_getElem? (i := 239) rfl) rfl, tm_3 (List.mem_of_getElem? (i := 1) rfl) rfl, tm_0 (List.mem_of_getElem? (i := 12) rfl) rfl, tm_1 (List.mem_of_getElem? (i := 1) rfl) rfl, tm_3 (List.mem_of_getElem? (i := 2) rfl) rfl, by decide +kernel, by decide +kernel, by decide +kernel⟩
theorem vX6_140 : LkV RX6 140 yX6_exchangeParts mX6_exchangeParts 1 := ⟨tm_3 (List.mem_of_getElem? (i := 86) rfl) rfl, tm_3 (List.mem_of_getElem? (i := 88) rfl) rfl, tm_0 (List.mem_of_getElem? (i := 26) rfl) rfl, tm_1 (List.mem_of_getElem? (i := 1) rfl) rfl, tm_3 (List.mem_of_getElem? (i := 89) rfl) rfl, by decide +kernel, by decide +kernel, by decide +kernel⟩
theorem vX6_144 : LkV RX6 144 yX6_greatestTime mX6_greatestTime 0 := ⟨tm_3 (List.mem_of_getElem? (i := 107) rfl) rfl, tm_3 (List.mem_of_getElem? (i := 109) rfl) rfl, tm_0 (List.mem_of_getElem? (i := 28) rfl) rfl, tm_1 (List.mem_of_getElem? (i := 1) rfl) rfl, tm_3 (List.mem_of_getElem? (i := 110) rfl) rfl, by decide +kernel, by decide +kernel, by decide +kernel⟩
theorem vX6_148 : LkV RX6 148 yX6_requireMachine mX6_requireMachine 1 := ⟨tm_3 (List.mem_of_getElem? (i := 118) rfl) rfl, tm_3 (List.mem_of_getElem? (i := 120) rfl) rfl, tm_0 (List.mem_of_getElem? (i := 29) rfl) rfl, tm_1 (List.mem_of_getElem? (i := 1) rfl) rfl, tm_3 (List.mem_of_getElem? (i := 121) rfl) rfl, by decide +kernel, by decide +kernel, by decide +kernel⟩
theorem fX6_151 : FLg RX6 151 2 1 := ⟨RX2, TX2, 7, rfl, by decide, tm_1 (List.mem_of_getElem? (i := 102) rfl) rfl, inX2⟩
theorem vX6_154 : LkV RX6 154 yX2_partAt mX2_partAt 1 := ⟨tm_3 (List.mem_of_getElem? (i := 130) rfl) rfl, tm_3 (List.mem_of_getElem? (i := 131) rfl) rfl, tm_3 (List.mem_of_getElem? (i := 132) rfl) rfl, tm_1 (List.mem_of_getElem? (i := 4) rfl) rfl, tm_3 (List.mem_of_getElem? (i := 133) rfl) rfl, by decide +kernel, by decide +kernel, by decide +kernel⟩
theorem vX6_157 : LkV RX6 157 yX6_requirePart mX6_requirePart 1 := ⟨tm_3 (List.mem_of_getElem? (i := 141) rfl) rfl, tm_3 (List.mem_of_getElem? (i := 143) rfl) rfl, tm_0 (List.mem_of_getElem? (i := 30) rfl) rfl, tm_1 (List.mem_of_getElem? (i := 1) rfl) rfl, tm_3 (List.mem_of_getElem? (i := 144) rfl) rfl, by decide +kernel, by decide +kernel, by decide +kernel⟩
theorem vX6_160 : LkV RX6 160 yX2_placeOf mX2_placeOf 1 := ⟨tm_3 (List.mem_of_getElem? (i := 147) rfl) rfl, tm_3 (List.mem_of_getElem? (i := 148) rfl) rfl, tm_3 (List.mem_of_getElem? (i := 149) rfl) rfl, tm_1 (List.mem_of_getElem? (i := 4) rfl) rfl, tm_3 (List.mem_of_getElem? (i := 150) rfl) rfl, by decide +kernel, by decide +kernel, by decide +kernel⟩
theorem vX6_163 : LkV RX6 163 yX2_tripAt mX2_tripAt 1 := ⟨tm_3 (List.mem_of_getElem? (i := 76) rfl) rfl, tm_2 (List.mem_of_getElem? (i := 2) rfl) rfl, tm_2 (List.mem_of_getElem? (i := 3) rfl) rfl, tm_1 (List.mem_of_getElem? (i := 4) rfl) rfl, tm_2 (List.mem_of_getElem? (i := 4) rfl) rfl, by decide +kernel, by decide +kernel, by decide +kernel⟩
theorem vX6_166 : LkV RX6 166 yX2_tripCount mX2_tripCount 0 := ⟨tm_1 (List.mem_of_getElem? (i := 237) rfl) rfl, tm_1 (List.mem_of_getElem? (i := 238) rfl) rfl, tm_1 (List.mem_of_getElem? (i := 239) rfl) rfl, tm_1 (List.mem_of_getElem? (i := 4) rfl) rfl, tm_2 (List.mem_of_getElem? (i := 0) rfl) rfl, by decide +kernel, by decide +kernel, by decide +kernel⟩
theorem vX6_169 : LkV RX6 169 yX6_supplyTime mX6_supplyTime 1 := ⟨tm_2 (List.mem_of_getElem? (i := 9) rfl) rfl, tm_2 (List.mem_of_getElem? (i := 11) rfl) rfl, tm_0 (List.mem_of_getElem? (i := 0) rfl) rfl, tm_1 (List.mem_of_getElem? (i := 1) rfl) rfl, tm_2 (List.mem_of_getElem? (i := 12) rfl) rfl, by decide +kernel, by decide +kernel, by decide +kernel⟩
theorem vX6_173 : LkV RX6 173 yX6_leastChangeTime mX6_leastChangeTime 1 := ⟨tm_2 (List.mem_of_getElem? (i := 21) rfl) rfl, tm_2 (List.mem_of_getElem? (i := 23) rfl) rfl, tm_0 (List.mem_of_getElem? (i := 1) rfl) rfl, tm_1 (List.mem_of_getElem? (i := 1) rfl) rfl, tm_2 (List.mem_of_getElem? (i := 24) rfl) rfl, by decide +kernel, by decide +kernel, by decide +kernel⟩
theorem jX6_176 : LkM RX6 176 Lib.MathLoose.max_long.x Lib.MathLoose.max_long.code 4 .long := ⟨tm_2 (List.mem_of_getElem? (i := 31) rfl) rfl, tm_2 (List.mem_of_getElem? (i := 32) rfl) rfl, tm_1 (List.mem_of_getElem? (i := 8) rfl) rfl, tm_2 (List.mem_of_getElem? (i := 33) rfl) rfl⟩
theorem vX6_179 : LkV RX6 179 yX6_hostOf mX6_hostOf 1 := ⟨tm_3 (List.mem_of_getElem? (i := 158) rfl) rfl, tm_3 (List.mem_of_getElem? (i := 160) rfl) rfl, tm_0 (List.mem_of_getElem? (i := 31) rfl) rfl, tm_1 (List.mem_of_getElem? (i := 1) rfl) rfl, tm_3 (List.mem_of_getElem? (i := 161) rfl) rfl, by decide +kernel, by decide +kernel, by decide +kernel⟩
theorem fX6_184 : FLg RX6 184 1 3 := ⟨RX1, TX1, 7, rfl, by decide, tm_1 (List.mem_of_getElem? (i := 39) rfl) rfl, inX1⟩
theorem kX6_187 : Cond.constantLong RX6 187 1000 ∈ gw := tm_3 (List.mem_of_getElem? (i := 177) rfl) rfl
theorem fX6_193 : FLg RX6 193 1 4 := ⟨RX1, TX1, 7, rfl, by decide, tm_1 (List.mem_of_getElem? (i := 41) rfl) rfl, inX1⟩
theorem fX6_196 : FLg RX6 196 1 5 := ⟨RX1, TX1, 7, rfl, by decide, tm_1 (List.mem_of_getElem? (i := 43) rfl) rfl, inX1⟩
theorem fX6_199 : FLg RX6 199 1 6 := ⟨RX1, TX1, 7, rfl, by decide, tm_1 (List.mem_of_getElem? (i := 45) rfl) rfl, inX1⟩
theorem fX6_202 : FLg RX6 202 1 1 := ⟨RX1, TX1, 7, rfl, by decide, tm_1 (List.mem_of_getElem? (i := 35) rfl) rfl, inX1⟩
theorem vX6_204 : LkV RX6 204 yX2_hasNozzle mX2_hasNozzle 1 := ⟨tm_2 (List.mem_of_getElem? (i := 201) rfl) rfl, tm_2 (List.mem_of_getElem? (i := 202) rfl) rfl, tm_2 (List.mem_of_getElem? (i := 203) rfl) rfl, tm_1 (List.mem_of_getElem? (i := 4) rfl) rfl, tm_2 (List.mem_of_getElem? (i := 204) rfl) rfl, by decide +kernel, by decide +kernel, by decide +kernel⟩
theorem vX6_208 : LkV RX6 208 yX6_countChanges mX6_countChanges 1 := ⟨tm_3 (List.mem_of_getElem? (i := 78) rfl) rfl, tm_3 (List.mem_of_getElem? (i := 80) rfl) rfl, tm_0 (List.mem_of_getElem? (i := 24) rfl) rfl, tm_1 (List.mem_of_getElem? (i := 1) rfl) rfl, tm_3 (List.mem_of_getElem? (i := 81) rfl) rfl, by decide +kernel, by decide +kernel, by decide +kernel⟩
theorem vX6_213 : LkV RX6 213 yX3_has mX3_has 1 := ⟨tm_3 (List.mem_of_getElem? (i := 145) rfl) rfl, tm_3 (List.mem_of_getElem? (i := 45) rfl) rfl, tm_3 (List.mem_of_getElem? (i := 46) rfl) rfl, tm_1 (List.mem_of_getElem? (i := 3) rfl) rfl, tm_3 (List.mem_of_getElem? (i := 47) rfl) rfl, by decide +kernel, by decide +kernel, by decide +kernel⟩
theorem vX6_220 : LkV RX6 220 yX4_clear mX4_clear 0 := ⟨tm_2 (List.mem_of_getElem? (i := 188) rfl) rfl, tm_2 (List.mem_of_getElem? (i := 189) rfl) rfl, tm_2 (List.mem_of_getElem? (i := 190) rfl) rfl, tm_1 (List.mem_of_getElem? (i := 6) rfl) rfl, tm_2 (List.mem_of_getElem? (i := 191) rfl) rfl, by decide +kernel, by decide +kernel, by decide +kernel⟩
theorem vX6_223 : LkV RX6 223 yX3_countOf mX3_countOf 1 := ⟨tm_2 (List.mem_of_getElem? (i := 193) rfl) rfl, tm_2 (List.mem_of_getElem? (i := 194) rfl) rfl, tm_2 (List.mem_of_getElem? (i := 195) rfl) rfl, tm_1 (List.mem_of_getElem? (i := 3) rfl) rfl, tm_2 (List.mem_of_getElem? (i := 196) rfl) rfl, by decide +kernel, by decide +kernel, by decide +kernel⟩
theorem vX6_226 : LkV RX6 226 yX6_hostsFor mX6_hostsFor 1 := ⟨tm_2 (List.mem_of_getElem? (i := 197) rfl) rfl, tm_2 (List.mem_of_getElem? (i := 199) rfl) rfl, tm_0 (List.mem_of_getElem? (i := 5) rfl) rfl, tm_1 (List.mem_of_getElem? (i := 1) rfl) rfl, tm_2 (List.mem_of_getElem? (i := 200) rfl) rfl, by decide +kernel, by decide +kernel, by decide +kernel⟩
theorem vX6_229 : LkV RX6 229 yX4_add mX4_add 3 := ⟨tm_2 (List.mem_of_getElem? (i := 205) rfl) rfl, tm_2 (List.mem_of_getElem? (i := 206) rfl) rfl, tm_2 (List.mem_of_getElem? (i := 207) rfl) rfl, tm_1 (List.mem_of_getElem? (i := 6) rfl) rfl, tm_2 (List.mem_of_getElem? (i := 208) rfl) rfl, by decide +kernel, by decide +kernel, by decide +kernel⟩
theorem vX6_232 : LkV RX6 232 yX4_settle mX4_settle 0 := ⟨tm_2 (List.mem_of_getElem? (i := 209) rfl) rfl, tm_2 (List.mem_of_getElem? (i := 210) rfl) rfl, tm_2 (List.mem_of_getElem? (i := 211) rfl) rfl, tm_1 (List.mem_of_getElem? (i := 6) rfl) rfl, tm_2 (List.mem_of_getElem? (i := 212) rfl) rfl, by decide +kernel, by decide +kernel, by decide +kernel⟩
theorem vX6_235 : LkV RX6 235 yX2_clear mX2_clear 0 := ⟨tm_3 (List.mem_of_getElem? (i := 3) rfl) rfl, tm_3 (List.mem_of_getElem? (i := 4) rfl) rfl, tm_3 (List.mem_of_getElem? (i := 5) rfl) rfl, tm_1 (List.mem_of_getElem? (i := 4) rfl) rfl, tm_3 (List.mem_of_getElem? (i := 6) rfl) rfl, by decide +kernel, by decide +kernel, by decide +kernel⟩
theorem vX6_236 : LkV RX6 236 yX6_placeFixedFeeders mX6_placeFixedFeeders 2 := ⟨tm_3 (List.mem_of_getElem? (i := 7) rfl) rfl, tm_3 (List.mem_of_getElem? (i := 9) rfl) rfl, tm_0 (List.mem_of_getElem? (i := 13) rfl) rfl, tm_1 (List.mem_of_getElem? (i := 1) rfl) rfl, tm_3 (List.mem_of_getElem? (i := 10) rfl) rfl, by decide +kernel, by decide +kernel, by decide +kernel⟩
theorem vX6_240 : LkV RX6 240 yX6_placeOtherFeeders mX6_placeOtherFeeders 2 := ⟨tm_3 (List.mem_of_getElem? (i := 11) rfl) rfl, tm_3 (List.mem_of_getElem? (i := 13) rfl) rfl, tm_0 (List.mem_of_getElem? (i := 14) rfl) rfl, tm_1 (List.mem_of_getElem? (i := 1) rfl) rfl, tm_3 (List.mem_of_getElem? (i := 14) rfl) rfl, by decide +kernel, by decide +kernel, by decide +kernel⟩
theorem fX6_243 : FLg RX6 243 3 4 := ⟨RX3, TX3, 5, rfl, by decide, tm_1 (List.mem_of_getElem? (i := 76) rfl) rfl, inX3⟩
theorem fX6_244 : FLg RX6 244 3 0 := ⟨RX3, TX3, 5, rfl, by decide, tm_1 (List.mem_of_getElem? (i := 70) rfl) rfl, inX3⟩
theorem vX6_247 : LkV RX6 247 yX2_insert mX2_insert 2 := ⟨tm_3 (List.mem_of_getElem? (i := 19) rfl) rfl, tm_3 (List.mem_of_getElem? (i := 20) rfl) rfl, tm_3 (List.mem_of_getElem? (i := 21) rfl) rfl, tm_1 (List.mem_of_getElem? (i := 4) rfl) rfl, tm_3 (List.mem_of_getElem? (i := 22) rfl) rfl, by decide +kernel, by decide +kernel, by decide +kernel⟩
theorem vX6_251 : LkV RX6 251 yX5_arrange mX5_arrange 3 := ⟨tm_3 (List.mem_of_getElem? (i := 27) rfl) rfl, tm_3 (List.mem_of_getElem? (i := 28) rfl) rfl, tm_3 (List.mem_of_getElem? (i := 29) rfl) rfl, tm_1 (List.mem_of_getElem? (i := 7) rfl) rfl, tm_3 (List.mem_of_getElem? (i := 30) rfl) rfl, by decide +kernel, by decide +kernel, by decide +kernel⟩
theorem vX6_255 : LkV RX6 255 yX6_moveTime mX6_moveTime 1 := ⟨tm_3 (List.mem_of_getElem? (i := 72) rfl) rfl, tm_3 (List.mem_of_getElem? (i := 74) rfl) rfl, tm_0 (List.mem_of_getElem? (i := 23) rfl) rfl, tm_1 (List.mem_of_getElem? (i := 1) rfl) rfl, tm_3 (List.mem_of_getElem? (i := 75) rfl) rfl, by decide +kernel, by decide +kernel, by decide +kernel⟩
theorem fX6_258 : FLg RX6 258 2 6 := ⟨RX2, TX2, 7, rfl, by decide, tm_1 (List.mem_of_getElem? (i := 114) rfl) rfl, inX2⟩
theorem pX6_258 : FLp RX6 258 2 6 .int := ⟨RX2, TX2, 7, tyX2, rfl, by decide, tm_1 (List.mem_of_getElem? (i := 114) rfl) rfl, inX2, tyX2_ok, nmX2, rfl, tyX2_ok 6 (by decide)⟩
theorem fX6_260 : FLg RX6 260 4 0 := ⟨RX4, TX4, 7, rfl, by decide, tm_1 (List.mem_of_getElem? (i := 139) rfl) rfl, inX4⟩
theorem vX6_263 : LkV RX6 263 yX6_lowestRoom mX6_lowestRoom 2 := ⟨tm_3 (List.mem_of_getElem? (i := 15) rfl) rfl, tm_3 (List.mem_of_getElem? (i := 17) rfl) rfl, tm_0 (List.mem_of_getElem? (i := 15) rfl) rfl, tm_1 (List.mem_of_getElem? (i := 1) rfl) rfl, tm_3 (List.mem_of_getElem? (i := 18) rfl) rfl, by decide +kernel, by decide +kernel, by decide +kernel⟩
theorem vX6_267 : LkV RX6 267 yX0_next mX0_next 1 := ⟨tm_3 (List.mem_of_getElem? (i := 90) rfl) rfl, tm_3 (List.mem_of_getElem? (i := 91) rfl) rfl, tm_3 (List.mem_of_getElem? (i := 92) rfl) rfl, tm_1 (List.mem_of_getElem? (i := 9) rfl) rfl, tm_3 (List.mem_of_getElem? (i := 93) rfl) rfl, by decide +kernel, by decide +kernel, by decide +kernel⟩
theorem vX6_270 : LkV RX6 270 yX6_exchangeOnce mX6_exchangeOnce 1 := ⟨tm_3 (List.mem_of_getElem? (i := 96) rfl) rfl, tm_3 (List.mem_of_getElem? (i := 98) rfl) rfl, tm_0 (List.mem_of_getElem? (i := 27) rfl) rfl, tm_1 (List.mem_of_getElem? (i := 1) rfl) rfl, tm_3 (List.mem_of_getElem? (i := 99) rfl) rfl, by decide +kernel, by decide +kernel, by decide +kernel⟩
theorem fX6_274 : FLg RX6 274 2 5 := ⟨RX2, TX2, 7, rfl, by decide, tm_1 (List.mem_of_getElem? (i := 112) rfl) rfl, inX2⟩
theorem fX6_277 : FLg RX6 277 2 0 := ⟨RX2, TX2, 7, rfl, by decide, tm_1 (List.mem_of_getElem? (i := 100) rfl) rfl, inX2⟩
theorem vX6_280 : LkV RX6 280 yX3_sameHeight mX3_sameHeight 2 := ⟨tm_3 (List.mem_of_getElem? (i := 100) rfl) rfl, tm_3 (List.mem_of_getElem? (i := 101) rfl) rfl, tm_3 (List.mem_of_getElem? (i := 102) rfl) rfl, tm_1 (List.mem_of_getElem? (i := 3) rfl) rfl, tm_3 (List.mem_of_getElem? (i := 103) rfl) rfl, by decide +kernel, by decide +kernel, by decide +kernel⟩
theorem vX6_290 : LkV RX6 290 yX3_wayBetween mX3_wayBetween 2 := ⟨tm_3 (List.mem_of_getElem? (i := 77) rfl) rfl, tm_3 (List.mem_of_getElem? (i := 41) rfl) rfl, tm_3 (List.mem_of_getElem? (i := 42) rfl) rfl, tm_1 (List.mem_of_getElem? (i := 3) rfl) rfl, tm_3 (List.mem_of_getElem? (i := 43) rfl) rfl, by decide +kernel, by decide +kernel, by decide +kernel⟩
theorem vX6_293 : LkV RX6 293 yX6_nozzleFor mX6_nozzleFor 1 := ⟨tm_3 (List.mem_of_getElem? (i := 82) rfl) rfl, tm_3 (List.mem_of_getElem? (i := 84) rfl) rfl, tm_0 (List.mem_of_getElem? (i := 25) rfl) rfl, tm_1 (List.mem_of_getElem? (i := 1) rfl) rfl, tm_3 (List.mem_of_getElem? (i := 85) rfl) rfl, by decide +kernel, by decide +kernel, by decide +kernel⟩
theorem fX6_296 : FLg RX6 296 2 2 := ⟨RX2, TX2, 7, rfl, by decide, tm_1 (List.mem_of_getElem? (i := 104) rfl) rfl, inX2⟩
theorem vX6_299 : LkV RX6 299 yX1_pickedFor mX1_pickedFor 2 := ⟨tm_2 (List.mem_of_getElem? (i := 13) rfl) rfl, tm_2 (List.mem_of_getElem? (i := 14) rfl) rfl, tm_2 (List.mem_of_getElem? (i := 15) rfl) rfl, tm_1 (List.mem_of_getElem? (i := 2) rfl) rfl, tm_2 (List.mem_of_getElem? (i := 16) rfl) rfl, by decide +kernel, by decide +kernel, by decide +kernel⟩
theorem vX6_302 : LkV RX6 302 yX1_refillsFor mX1_refillsFor 2 := ⟨tm_2 (List.mem_of_getElem? (i := 17) rfl) rfl, tm_2 (List.mem_of_getElem? (i := 18) rfl) rfl, tm_2 (List.mem_of_getElem? (i := 19) rfl) rfl, tm_1 (List.mem_of_getElem? (i := 2) rfl) rfl, tm_2 (List.mem_of_getElem? (i := 20) rfl) rfl, by decide +kernel, by decide +kernel, by decide +kernel⟩
theorem fX7_7 : FLg RX7 7 7 4 := ⟨RX7, TX7, 29, rfl, by decide, tm_3 (List.mem_of_getElem? (i := 218) rfl) rfl, inX7⟩
theorem fX7_13 : FLg RX7 13 7 5 := ⟨RX7, TX7, 29, rfl, by decide, tm_3 (List.mem_of_getElem? (i := 219) rfl) rfl, inX7⟩
theorem fX7_16 : FLg RX7 16 7 6 := ⟨RX7, TX7, 29, rfl, by decide, tm_3 (List.mem_of_getElem? (i := 220) rfl) rfl, inX7⟩
theorem fX7_19 : FLg RX7 19 7 7 := ⟨RX7, TX7, 29, rfl, by decide, tm_3 (List.mem_of_getElem? (i := 221) rfl) rfl, inX7⟩
theorem fX7_22 : FLg RX7 22 7 8 := ⟨RX7, TX7, 29, rfl, by decide, tm_3 (List.mem_of_getElem? (i := 222) rfl) rfl, inX7⟩
theorem fX7_26 : FLg RX7 26 7 9 := ⟨RX7, TX7, 29, rfl, by decide, tm_3 (List.mem_of_getElem? (i := 223) rfl) rfl, inX7⟩
theorem fX7_29 : FLg RX7 29 7 11 := ⟨RX7, TX7, 29, rfl, by decide, tm_3 (List.mem_of_getElem? (i := 225) rfl) rfl, inX7⟩
theorem fX7_32 : FLg RX7 32 7 12 := ⟨RX7, TX7, 29, rfl, by decide, tm_3 (List.mem_of_getElem? (i := 226) rfl) rfl, inX7⟩
theorem fX7_35 : FLg RX7 35 7 13 := ⟨RX7, TX7, 29, rfl, by decide, tm_3 (List.mem_of_getElem? (i := 227) rfl) rfl, inX7⟩
theorem fX7_38 : FLg RX7 38 7 14 := ⟨RX7, TX7, 29, rfl, by decide, tm_3 (List.mem_of_getElem? (i := 228) rfl) rfl, inX7⟩
theorem fX7_41 : FLg RX7 41 7 16 := ⟨RX7, TX7, 29, rfl, by decide, tm_3 (List.mem_of_getElem? (i := 230) rfl) rfl, inX7⟩
theorem fX7_44 : FLg RX7 44 7 17 := ⟨RX7, TX7, 29, rfl, by decide, tm_3 (List.mem_of_getElem? (i := 231) rfl) rfl, inX7⟩
theorem fX7_47 : FLg RX7 47 7 19 := ⟨RX7, TX7, 29, rfl, by decide, tm_3 (List.mem_of_getElem? (i := 233) rfl) rfl, inX7⟩
theorem fX7_50 : FLg RX7 50 7 20 := ⟨RX7, TX7, 29, rfl, by decide, tm_3 (List.mem_of_getElem? (i := 234) rfl) rfl, inX7⟩
theorem fX7_53 : FLg RX7 53 7 21 := ⟨RX7, TX7, 29, rfl, by decide, tm_3 (List.mem_of_getElem? (i := 235) rfl) rfl, inX7⟩
theorem fX7_56 : FLg RX7 56 7 22 := ⟨RX7, TX7, 29, rfl, by decide, tm_3 (List.mem_of_getElem? (i := 236) rfl) rfl, inX7⟩
theorem fX7_59 : FLg RX7 59 7 23 := ⟨RX7, TX7, 29, rfl, by decide, tm_3 (List.mem_of_getElem? (i := 237) rfl) rfl, inX7⟩
theorem fX7_62 : FLg RX7 62 7 24 := ⟨RX7, TX7, 29, rfl, by decide, tm_3 (List.mem_of_getElem? (i := 238) rfl) rfl, inX7⟩
theorem fX7_66 : FLg RX7 66 7 26 := ⟨RX7, TX7, 29, rfl, by decide, tm_4 (List.mem_of_getElem? (i := 0) rfl) rfl, inX7⟩
theorem fX7_69 : FLg RX7 69 7 27 := ⟨RX7, TX7, 29, rfl, by decide, tm_4 (List.mem_of_getElem? (i := 1) rfl) rfl, inX7⟩
theorem fX7_72 : FLg RX7 72 7 28 := ⟨RX7, TX7, 29, rfl, by decide, tm_4 (List.mem_of_getElem? (i := 2) rfl) rfl, inX7⟩
theorem fX7_75 : FLg RX7 75 7 1 := ⟨RX7, TX7, 29, rfl, by decide, tm_3 (List.mem_of_getElem? (i := 215) rfl) rfl, inX7⟩
theorem pX7_75 : FLp RX7 75 7 1 .long := ⟨RX7, TX7, 29, tyX7, rfl, by decide, tm_3 (List.mem_of_getElem? (i := 215) rfl) rfl, inX7, tyX7_ok, nmX7, rfl, tyX7_ok 1 (by decide)⟩
theorem fX7_79 : FLg RX7 79 7 2 := ⟨RX7, TX7, 29, rfl, by decide, tm_3 (List.mem_of_getElem? (i := 216) rfl) rfl, inX7⟩
theorem fX7_83 : FLg RX7 83 7 0 := ⟨RX7, TX7, 29, rfl, by decide, tm_3 (List.mem_of_getElem? (i := 214) rfl) rfl, inX7⟩
theorem fX7_86 : FLg RX7 86 7 3 := ⟨RX7, TX7, 29, rfl, by decide, tm_3 (List.mem_of_getElem? (i := 217) rfl) rfl, inX7⟩
theorem fX7_89 : FLg RX7 89 7 10 := ⟨RX7, TX7, 29, rfl, by decide, tm_3 (List.mem_of_getElem? (i := 224) rfl) rfl, inX7⟩
theorem fX7_92 : FLg RX7 92 7 15 := ⟨RX7, TX7, 29, rfl, by decide, tm_3 (List.mem_of_getElem? (i := 229) rfl) rfl, inX7⟩
theorem pX7_83 : FLp RX7 83 7 0 .int := ⟨RX7, TX7, 29, tyX7, rfl, by decide, tm_3 (List.mem_of_getElem? (i := 214) rfl) rfl, inX7, tyX7_ok, nmX7, rfl, tyX7_ok 0 (by decide)⟩
theorem pX7_86 : FLp RX7 86 7 3 .int := ⟨RX7, TX7, 29, tyX7, rfl, by decide, tm_3 (List.mem_of_getElem? (i := 217) rfl) rfl, inX7, tyX7_ok, nmX7, rfl, tyX7_ok 3 (by decide)⟩
theorem kX7_95 : Cond.constantLong RX7 95 100000 ∈ gw := tm_4 (List.mem_of_getElem? (i := 82) rfl) rfl
theorem vX7_97 : LkV RX7 97 yX7_isKind mX7_isKind 1 := ⟨tm_4 (List.mem_of_getElem? (i := 75) rfl) rfl, tm_4 (List.mem_of_getElem? (i := 77) rfl) rfl, tm_0 (List.mem_of_getElem? (i := 32) rfl) rfl, tm_1 (List.mem_of_getElem? (i := 10) rfl) rfl, tm_4 (List.mem_of_getElem? (i := 78) rfl) rfl, by decide +kernel, by decide +kernel, by decide +kernel⟩
theorem vX7_101 : LkS RX7 101 yX7_isSpot mX7_isSpot 1 := ⟨tm_4 (List.mem_of_getElem? (i := 79) rfl) rfl, tm_4 (List.mem_of_getElem? (i := 80) rfl) rfl, tm_1 (List.mem_of_getElem? (i := 10) rfl) rfl, tm_4 (List.mem_of_getElem? (i := 81) rfl) rfl, by decide +kernel, by decide +kernel, by decide +kernel, rfl⟩
theorem kX7_105 : Cond.constantLong RX7 105 10000 ∈ gw := tm_4 (List.mem_of_getElem? (i := 83) rfl) rfl
theorem pX7_89 : FLp RX7 89 7 10 .int := ⟨RX7, TX7, 29, tyX7, rfl, by decide, tm_3 (List.mem_of_getElem? (i := 224) rfl) rfl, inX7, tyX7_ok, nmX7, rfl, tyX7_ok 10 (by decide)⟩
theorem pX7_92 : FLp RX7 92 7 15 .int := ⟨RX7, TX7, 29, tyX7, rfl, by decide, tm_3 (List.mem_of_getElem? (i := 229) rfl) rfl, inX7, tyX7_ok, nmX7, rfl, tyX7_ok 15 (by decide)⟩
theorem kX7_107 : Cond.constantLong RX7 107 1000 ∈ gw := tm_4 (List.mem_of_getElem? (i := 100) rfl) rfl
theorem fX7_109 : FLg RX7 109 7 18 := ⟨RX7, TX7, 29, rfl, by decide, tm_3 (List.mem_of_getElem? (i := 232) rfl) rfl, inX7⟩
theorem vX7_112 : LkV RX7 112 yX7_mayGo mX7_mayGo 2 := ⟨tm_4 (List.mem_of_getElem? (i := 118) rfl) rfl, tm_4 (List.mem_of_getElem? (i := 120) rfl) rfl, tm_0 (List.mem_of_getElem? (i := 36) rfl) rfl, tm_1 (List.mem_of_getElem? (i := 10) rfl) rfl, tm_4 (List.mem_of_getElem? (i := 121) rfl) rfl, by decide +kernel, by decide +kernel, by decide +kernel⟩
theorem vX7_116 : LkV RX7 116 yX7_partsOf mX7_partsOf 1 := ⟨tm_4 (List.mem_of_getElem? (i := 110) rfl) rfl, tm_4 (List.mem_of_getElem? (i := 112) rfl) rfl, tm_0 (List.mem_of_getElem? (i := 34) rfl) rfl, tm_1 (List.mem_of_getElem? (i := 10) rfl) rfl, tm_4 (List.mem_of_getElem? (i := 113) rfl) rfl, by decide +kernel, by decide +kernel, by decide +kernel⟩
theorem vX7_120 : LkV RX7 120 yX7_nextMachine mX7_nextMachine 2 := ⟨tm_4 (List.mem_of_getElem? (i := 114) rfl) rfl, tm_4 (List.mem_of_getElem? (i := 116) rfl) rfl, tm_0 (List.mem_of_getElem? (i := 35) rfl) rfl, tm_1 (List.mem_of_getElem? (i := 10) rfl) rfl, tm_4 (List.mem_of_getElem? (i := 117) rfl) rfl, by decide +kernel, by decide +kernel, by decide +kernel⟩
theorem vX7_124 : LkV RX7 124 yX7_greatest mX7_greatest 0 := ⟨tm_4 (List.mem_of_getElem? (i := 122) rfl) rfl, tm_4 (List.mem_of_getElem? (i := 124) rfl) rfl, tm_0 (List.mem_of_getElem? (i := 37) rfl) rfl, tm_1 (List.mem_of_getElem? (i := 10) rfl) rfl, tm_4 (List.mem_of_getElem? (i := 125) rfl) rfl, by decide +kernel, by decide +kernel, by decide +kernel⟩
theorem vX7_128 : LkV RX7 128 yX7_goOn mX7_goOn 0 := ⟨tm_4 (List.mem_of_getElem? (i := 126) rfl) rfl, tm_4 (List.mem_of_getElem? (i := 128) rfl) rfl, tm_0 (List.mem_of_getElem? (i := 38) rfl) rfl, tm_1 (List.mem_of_getElem? (i := 10) rfl) rfl, tm_4 (List.mem_of_getElem? (i := 129) rfl) rfl, by decide +kernel, by decide +kernel, by decide +kernel⟩
theorem vX7_132 : LkV RX7 132 yX7_stand mX7_stand 3 := ⟨tm_4 (List.mem_of_getElem? (i := 134) rfl) rfl, tm_4 (List.mem_of_getElem? (i := 136) rfl) rfl, tm_0 (List.mem_of_getElem? (i := 40) rfl) rfl, tm_1 (List.mem_of_getElem? (i := 10) rfl) rfl, tm_4 (List.mem_of_getElem? (i := 137) rfl) rfl, by decide +kernel, by decide +kernel, by decide +kernel⟩
theorem vX7_136 : LkV RX7 136 yX7_hasRoom mX7_hasRoom 2 := ⟨tm_4 (List.mem_of_getElem? (i := 138) rfl) rfl, tm_4 (List.mem_of_getElem? (i := 140) rfl) rfl, tm_0 (List.mem_of_getElem? (i := 41) rfl) rfl, tm_1 (List.mem_of_getElem? (i := 10) rfl) rfl, tm_4 (List.mem_of_getElem? (i := 141) rfl) rfl, by decide +kernel, by decide +kernel, by decide +kernel⟩
theorem vX7_139 : LkV RX7 139 yX7_isAhead mX7_isAhead 2 := ⟨tm_4 (List.mem_of_getElem? (i := 146) rfl) rfl, tm_4 (List.mem_of_getElem? (i := 148) rfl) rfl, tm_0 (List.mem_of_getElem? (i := 43) rfl) rfl, tm_1 (List.mem_of_getElem? (i := 10) rfl) rfl, tm_4 (List.mem_of_getElem? (i := 149) rfl) rfl, by decide +kernel, by decide +kernel, by decide +kernel⟩
theorem vX7_142 : LkS RX7 142 yX7_greater mX7_greater 2 := ⟨tm_4 (List.mem_of_getElem? (i := 162) rfl) rfl, tm_4 (List.mem_of_getElem? (i := 163) rfl) rfl, tm_1 (List.mem_of_getElem? (i := 10) rfl) rfl, tm_4 (List.mem_of_getElem? (i := 164) rfl) rfl, by decide +kernel, by decide +kernel, by decide +kernel, rfl⟩
theorem vX7_146 : LkS RX7 146 yX7_size mX7_size 1 := ⟨tm_4 (List.mem_of_getElem? (i := 174) rfl) rfl, tm_4 (List.mem_of_getElem? (i := 175) rfl) rfl, tm_1 (List.mem_of_getElem? (i := 10) rfl) rfl, tm_4 (List.mem_of_getElem? (i := 176) rfl) rfl, by decide +kernel, by decide +kernel, by decide +kernel, rfl⟩
theorem fX7_150 : FLg RX7 150 7 25 := ⟨RX7, TX7, 29, rfl, by decide, tm_3 (List.mem_of_getElem? (i := 239) rfl) rfl, inX7⟩
theorem vX7_152 : LkV RX7 152 yX7_fromHome mX7_fromHome 1 := ⟨tm_4 (List.mem_of_getElem? (i := 158) rfl) rfl, tm_4 (List.mem_of_getElem? (i := 160) rfl) rfl, tm_0 (List.mem_of_getElem? (i := 46) rfl) rfl, tm_1 (List.mem_of_getElem? (i := 10) rfl) rfl, tm_4 (List.mem_of_getElem? (i := 161) rfl) rfl, by decide +kernel, by decide +kernel, by decide +kernel⟩
theorem kX7_156 : Cond.constantLong RX7 156 1000000000000 ∈ gw := tm_4 (List.mem_of_getElem? (i := 165) rfl) rfl
theorem vX7_158 : LkV RX7 158 yX7_mayCome mX7_mayCome 2 := ⟨tm_4 (List.mem_of_getElem? (i := 166) rfl) rfl, tm_4 (List.mem_of_getElem? (i := 168) rfl) rfl, tm_0 (List.mem_of_getElem? (i := 47) rfl) rfl, tm_1 (List.mem_of_getElem? (i := 10) rfl) rfl, tm_4 (List.mem_of_getElem? (i := 169) rfl) rfl, by decide +kernel, by decide +kernel, by decide +kernel⟩
theorem vX7_161 : LkV RX7 161 yX7_between mX7_between 2 := ⟨tm_4 (List.mem_of_getElem? (i := 170) rfl) rfl, tm_4 (List.mem_of_getElem? (i := 172) rfl) rfl, tm_0 (List.mem_of_getElem? (i := 48) rfl) rfl, tm_1 (List.mem_of_getElem? (i := 10) rfl) rfl, tm_4 (List.mem_of_getElem? (i := 173) rfl) rfl, by decide +kernel, by decide +kernel, by decide +kernel⟩
theorem pX7_150 : FLp RX7 150 7 25 .int := ⟨RX7, TX7, 29, tyX7, rfl, by decide, tm_3 (List.mem_of_getElem? (i := 239) rfl) rfl, inX7, tyX7_ok, nmX7, rfl, tyX7_ok 25 (by decide)⟩
theorem vX7_165 : LkV RX7 165 yX7_measure mX7_measure 0 := ⟨tm_4 (List.mem_of_getElem? (i := 154) rfl) rfl, tm_4 (List.mem_of_getElem? (i := 156) rfl) rfl, tm_0 (List.mem_of_getElem? (i := 45) rfl) rfl, tm_1 (List.mem_of_getElem? (i := 10) rfl) rfl, tm_4 (List.mem_of_getElem? (i := 157) rfl) rfl, by decide +kernel, by decide +kernel, by decide +kernel⟩
theorem vX7_168 : LkV RX7 168 yX7_countOf mX7_countOf 2 := ⟨tm_4 (List.mem_of_getElem? (i := 199) rfl) rfl, tm_4 (List.mem_of_getElem? (i := 201) rfl) rfl, tm_0 (List.mem_of_getElem? (i := 54) rfl) rfl, tm_1 (List.mem_of_getElem? (i := 10) rfl) rfl, tm_4 (List.mem_of_getElem? (i := 202) rfl) rfl, by decide +kernel, by decide +kernel, by decide +kernel⟩
theorem kX7_171 : Cond.constantLong RX7 171 2 ∈ gw := tm_4 (List.mem_of_getElem? (i := 203) rfl) rfl
theorem kX7_173 : Cond.constantLong RX7 173 50 ∈ gw := tm_4 (List.mem_of_getElem? (i := 204) rfl) rfl
theorem vX7_175 : LkV RX7 175 yX7_placing mX7_placing 1 := ⟨tm_4 (List.mem_of_getElem? (i := 195) rfl) rfl, tm_4 (List.mem_of_getElem? (i := 197) rfl) rfl, tm_0 (List.mem_of_getElem? (i := 53) rfl) rfl, tm_1 (List.mem_of_getElem? (i := 10) rfl) rfl, tm_4 (List.mem_of_getElem? (i := 198) rfl) rfl, by decide +kernel, by decide +kernel, by decide +kernel⟩
theorem kX7_178 : Cond.constantLong RX7 178 20 ∈ gw := tm_4 (List.mem_of_getElem? (i := 205) rfl) rfl
theorem vX7_180 : LkV RX7 180 yX7_changesOf mX7_changesOf 1 := ⟨tm_4 (List.mem_of_getElem? (i := 206) rfl) rfl, tm_4 (List.mem_of_getElem? (i := 208) rfl) rfl, tm_0 (List.mem_of_getElem? (i := 55) rfl) rfl, tm_1 (List.mem_of_getElem? (i := 10) rfl) rfl, tm_4 (List.mem_of_getElem? (i := 209) rfl) rfl, by decide +kernel, by decide +kernel, by decide +kernel⟩
theorem kX7_183 : Cond.constantLong RX7 183 6364136223846793005 ∈ gw := tm_4 (List.mem_of_getElem? (i := 189) rfl) rfl
theorem kX7_185 : Cond.constantLong RX7 185 1442695040888963407 ∈ gw := tm_4 (List.mem_of_getElem? (i := 190) rfl) rfl
theorem vX7_187 : LkV RX7 187 yX7_draw mX7_draw 1 := ⟨tm_4 (List.mem_of_getElem? (i := 185) rfl) rfl, tm_4 (List.mem_of_getElem? (i := 187) rfl) rfl, tm_0 (List.mem_of_getElem? (i := 51) rfl) rfl, tm_1 (List.mem_of_getElem? (i := 10) rfl) rfl, tm_4 (List.mem_of_getElem? (i := 188) rfl) rfl, by decide +kernel, by decide +kernel, by decide +kernel⟩
theorem vX7_190 : LkV RX7 190 yX7_timeOf mX7_timeOf 1 := ⟨tm_4 (List.mem_of_getElem? (i := 191) rfl) rfl, tm_4 (List.mem_of_getElem? (i := 193) rfl) rfl, tm_0 (List.mem_of_getElem? (i := 52) rfl) rfl, tm_1 (List.mem_of_getElem? (i := 10) rfl) rfl, tm_4 (List.mem_of_getElem? (i := 194) rfl) rfl, by decide +kernel, by decide +kernel, by decide +kernel⟩
theorem vX7_193 : LkV RX7 193 yX7_arrange mX7_arrange 2 := ⟨tm_4 (List.mem_of_getElem? (i := 150) rfl) rfl, tm_4 (List.mem_of_getElem? (i := 152) rfl) rfl, tm_0 (List.mem_of_getElem? (i := 44) rfl) rfl, tm_1 (List.mem_of_getElem? (i := 10) rfl) rfl, tm_4 (List.mem_of_getElem? (i := 153) rfl) rfl, by decide +kernel, by decide +kernel, by decide +kernel⟩
theorem vX7_197 : LkV RX7 197 yX7_exchange mX7_exchange 0 := ⟨tm_4 (List.mem_of_getElem? (i := 181) rfl) rfl, tm_4 (List.mem_of_getElem? (i := 183) rfl) rfl, tm_0 (List.mem_of_getElem? (i := 50) rfl) rfl, tm_1 (List.mem_of_getElem? (i := 10) rfl) rfl, tm_4 (List.mem_of_getElem? (i := 184) rfl) rfl, by decide +kernel, by decide +kernel, by decide +kernel⟩
theorem kX7_200 : Cond.constantLong RX7 200 200 ∈ gw := tm_4 (List.mem_of_getElem? (i := 105) rfl) rfl
theorem pX7_109 : FLp RX7 109 7 18 .int := ⟨RX7, TX7, 29, tyX7, rfl, by decide, tm_3 (List.mem_of_getElem? (i := 232) rfl) rfl, inX7, tyX7_ok, nmX7, rfl, tyX7_ok 18 (by decide)⟩
theorem vX7_202 : LkV RX7 202 yX7_findShares mX7_findShares 0 := ⟨tm_4 (List.mem_of_getElem? (i := 106) rfl) rfl, tm_4 (List.mem_of_getElem? (i := 108) rfl) rfl, tm_0 (List.mem_of_getElem? (i := 33) rfl) rfl, tm_1 (List.mem_of_getElem? (i := 10) rfl) rfl, tm_4 (List.mem_of_getElem? (i := 109) rfl) rfl, by decide +kernel, by decide +kernel, by decide +kernel⟩
theorem vX7_205 : LkV RX7 205 yX7_findFeeders mX7_findFeeders 1 := ⟨tm_4 (List.mem_of_getElem? (i := 130) rfl) rfl, tm_4 (List.mem_of_getElem? (i := 132) rfl) rfl, tm_0 (List.mem_of_getElem? (i := 39) rfl) rfl, tm_1 (List.mem_of_getElem? (i := 10) rfl) rfl, tm_4 (List.mem_of_getElem? (i := 133) rfl) rfl, by decide +kernel, by decide +kernel, by decide +kernel⟩
theorem vX7_209 : LkV RX7 209 yX7_line mX7_line 1 := ⟨tm_4 (List.mem_of_getElem? (i := 142) rfl) rfl, tm_4 (List.mem_of_getElem? (i := 144) rfl) rfl, tm_0 (List.mem_of_getElem? (i := 42) rfl) rfl, tm_1 (List.mem_of_getElem? (i := 10) rfl) rfl, tm_4 (List.mem_of_getElem? (i := 145) rfl) rfl, by decide +kernel, by decide +kernel, by decide +kernel⟩
theorem vX7_212 : LkV RX7 212 yX7_exchanges mX7_exchanges 1 := ⟨tm_4 (List.mem_of_getElem? (i := 177) rfl) rfl, tm_4 (List.mem_of_getElem? (i := 179) rfl) rfl, tm_0 (List.mem_of_getElem? (i := 49) rfl) rfl, tm_1 (List.mem_of_getElem? (i := 10) rfl) rfl, tm_4 (List.mem_of_getElem? (i := 180) rfl) rfl, by decide +kernel, by decide +kernel, by decide +kernel⟩
theorem vX7_216 : LkV RX7 216 yX7_isMachine mX7_isMachine 1 := ⟨tm_4 (List.mem_of_getElem? (i := 218) rfl) rfl, tm_4 (List.mem_of_getElem? (i := 220) rfl) rfl, tm_0 (List.mem_of_getElem? (i := 56) rfl) rfl, tm_1 (List.mem_of_getElem? (i := 10) rfl) rfl, tm_4 (List.mem_of_getElem? (i := 221) rfl) rfl, by decide +kernel, by decide +kernel, by decide +kernel⟩
theorem vX7_219 : LkV RX7 219 yX7_isPart mX7_isPart 1 := ⟨tm_4 (List.mem_of_getElem? (i := 230) rfl) rfl, tm_4 (List.mem_of_getElem? (i := 232) rfl) rfl, tm_0 (List.mem_of_getElem? (i := 57) rfl) rfl, tm_1 (List.mem_of_getElem? (i := 10) rfl) rfl, tm_4 (List.mem_of_getElem? (i := 233) rfl) rfl, by decide +kernel, by decide +kernel, by decide +kernel⟩
theorem vX7_222 : LkV RX7 222 yX7_placeOf mX7_placeOf 2 := ⟨tm_4 (List.mem_of_getElem? (i := 234) rfl) rfl, tm_4 (List.mem_of_getElem? (i := 236) rfl) rfl, tm_0 (List.mem_of_getElem? (i := 58) rfl) rfl, tm_1 (List.mem_of_getElem? (i := 10) rfl) rfl, tm_4 (List.mem_of_getElem? (i := 237) rfl) rfl, by decide +kernel, by decide +kernel, by decide +kernel⟩
theorem vX7_225 : LkV RX7 225 yX7_machineFor mX7_machineFor 1 := ⟨tm_5 (List.mem_of_getElem? (i := 10) rfl) rfl, tm_5 (List.mem_of_getElem? (i := 12) rfl) rfl, tm_0 (List.mem_of_getElem? (i := 59) rfl) rfl, tm_1 (List.mem_of_getElem? (i := 10) rfl) rfl, tm_5 (List.mem_of_getElem? (i := 13) rfl) rfl, by decide +kernel, by decide +kernel, by decide +kernel⟩
theorem kL_84 : Cond.constantLong RL 84 4294967295 ∈ gw := tm_5 (List.mem_of_getElem? (i := 26) rfl) rfl
