section
-- ===== PART A: goes FIRST, ahead of the names: the tables' words, and 'selects' of the private methods out of them =====
/-- a private method of a class that the tables say can be made, by its rows of tables_1 -/
def lw_okq (q : MethodName × Nat) : Prop := (q.1.cls ≠ "java/lang/invoke/MethodHandle" ∧ q.1.cls ≠ "java/lang/invoke/VarHandle") ∧ Cond.instantiable q.1.cls q.2 ∈ tables_1 ∧ Cond.privateMethod q.1 ∈ tables_1 ∧ Cond.instanceMethod q.1 ∈ tables_1
theorem lw_p0 : lw_okq (⟨"FeederOrders", "supplyTime", "(LFeederOrders$Machine;)I"⟩, 10) := ⟨⟨by decide +kernel, by decide +kernel⟩, List.mem_of_getElem? (i := 19) (by decide +kernel), List.mem_of_getElem? (i := 250) (by decide +kernel), List.mem_of_getElem? (i := 251) (by decide +kernel)⟩
theorem lw_p1 : lw_okq (⟨"FeederOrders", "leastChangeTime", "(LFeederOrders$Machine;)I"⟩, 10) := ⟨⟨by decide +kernel, by decide +kernel⟩, List.mem_of_getElem? (i := 19) (by decide +kernel), List.mem_of_getElem? (i := 262) (by decide +kernel), List.mem_of_getElem? (i := 263) (by decide +kernel)⟩
theorem lw_p2 : lw_okq (⟨"java/lang/Throwable", "fillInStackTrace", "(I)Ljava/lang/Throwable;"⟩, 6) := ⟨⟨by decide +kernel, by decide +kernel⟩, List.mem_of_getElem? (i := 323) (by decide +kernel), List.mem_of_getElem? (i := 321) (by decide +kernel), List.mem_of_getElem? (i := 322) (by decide +kernel)⟩
theorem lw_p3 : lw_okq (⟨"FeederOrders", "requireKind", "(I)V"⟩, 10) := ⟨⟨by decide +kernel, by decide +kernel⟩, List.mem_of_getElem? (i := 19) (by decide +kernel), List.mem_of_getElem? (i := 366) (by decide +kernel), List.mem_of_getElem? (i := 367) (by decide +kernel)⟩
theorem lw_p4 : lw_okq (⟨"FeederOrders", "shareKinds", "()V"⟩, 10) := ⟨⟨by decide +kernel, by decide +kernel⟩, List.mem_of_getElem? (i := 19) (by decide +kernel), List.mem_of_getElem? (i := 425) (by decide +kernel), List.mem_of_getElem? (i := 426) (by decide +kernel)⟩
theorem lw_p5 : lw_okq (⟨"FeederOrders", "hostsFor", "(I)I"⟩, 10) := ⟨⟨by decide +kernel, by decide +kernel⟩, List.mem_of_getElem? (i := 19) (by decide +kernel), List.mem_of_getElem? (i := 438) (by decide +kernel), List.mem_of_getElem? (i := 439) (by decide +kernel)⟩
theorem lw_p6 : lw_okq (⟨"FeederOrders$Shares", "canKeepTo", "(I)Z"⟩, 7) := ⟨⟨by decide +kernel, by decide +kernel⟩, List.mem_of_getElem? (i := 131) (by decide +kernel), List.mem_of_getElem? (i := 454) (by decide +kernel), List.mem_of_getElem? (i := 455) (by decide +kernel)⟩
theorem lw_p7 : lw_okq (⟨"FeederOrders$Shares", "lastLoads", "(II)J"⟩, 7) := ⟨⟨by decide +kernel, by decide +kernel⟩, List.mem_of_getElem? (i := 131) (by decide +kernel), List.mem_of_getElem? (i := 458) (by decide +kernel), List.mem_of_getElem? (i := 459) (by decide +kernel)⟩
theorem lw_p8 : lw_okq (⟨"FeederOrders$Shares", "loadsBefore", "(II)J"⟩, 7) := ⟨⟨by decide +kernel, by decide +kernel⟩, List.mem_of_getElem? (i := 131) (by decide +kernel), List.mem_of_getElem? (i := 464) (by decide +kernel), List.mem_of_getElem? (i := 465) (by decide +kernel)⟩
theorem lw_p9 : lw_okq (⟨"FeederOrders$Shares", "isHost", "(II)Z"⟩, 7) := ⟨⟨by decide +kernel, by decide +kernel⟩, List.mem_of_getElem? (i := 131) (by decide +kernel), List.mem_of_getElem? (i := 468) (by decide +kernel), List.mem_of_getElem? (i := 469) (by decide +kernel)⟩
theorem lw_p10 : lw_okq (⟨"FeederOrders$Shares", "chooseHomes", "()V"⟩, 7) := ⟨⟨by decide +kernel, by decide +kernel⟩, List.mem_of_getElem? (i := 131) (by decide +kernel), List.mem_of_getElem? (i := 472) (by decide +kernel), List.mem_of_getElem? (i := 473) (by decide +kernel)⟩
theorem lw_p11 : lw_okq (⟨"FeederOrders$Shares", "canEnd", "(III)Z"⟩, 7) := ⟨⟨by decide +kernel, by decide +kernel⟩, List.mem_of_getElem? (i := 131) (by decide +kernel), List.mem_of_getElem? (i := 476) (by decide +kernel), List.mem_of_getElem? (i := 477) (by decide +kernel)⟩
theorem lw_p12 : lw_okq (⟨"FeederOrders", "setUp", "(I)V"⟩, 10) := ⟨⟨by decide +kernel, by decide +kernel⟩, List.mem_of_getElem? (i := 19) (by decide +kernel), List.mem_of_getElem? (i := 480) (by decide +kernel), List.mem_of_getElem? (i := 481) (by decide +kernel)⟩
theorem lw_p13 : lw_okq (⟨"FeederOrders", "placeFixedFeeders", "(LFeederOrders$Machine;I)V"⟩, 10) := ⟨⟨by decide +kernel, by decide +kernel⟩, List.mem_of_getElem? (i := 19) (by decide +kernel), List.mem_of_getElem? (i := 488) (by decide +kernel), List.mem_of_getElem? (i := 489) (by decide +kernel)⟩
theorem lw_p14 : lw_okq (⟨"FeederOrders", "placeOtherFeeders", "(LFeederOrders$Machine;I)V"⟩, 10) := ⟨⟨by decide +kernel, by decide +kernel⟩, List.mem_of_getElem? (i := 19) (by decide +kernel), List.mem_of_getElem? (i := 492) (by decide +kernel), List.mem_of_getElem? (i := 493) (by decide +kernel)⟩
theorem lw_p15 : lw_okq (⟨"FeederOrders", "lowestRoom", "(LFeederOrders$Machine;I)I"⟩, 10) := ⟨⟨by decide +kernel, by decide +kernel⟩, List.mem_of_getElem? (i := 19) (by decide +kernel), List.mem_of_getElem? (i := 496) (by decide +kernel), List.mem_of_getElem? (i := 497) (by decide +kernel)⟩
def lw_privs_1 : List (MethodName × Nat) := [(⟨"FeederOrders", "supplyTime", "(LFeederOrders$Machine;)I"⟩, 10), (⟨"FeederOrders", "leastChangeTime", "(LFeederOrders$Machine;)I"⟩, 10), (⟨"java/lang/Throwable", "fillInStackTrace", "(I)Ljava/lang/Throwable;"⟩, 6), (⟨"FeederOrders", "requireKind", "(I)V"⟩, 10), (⟨"FeederOrders", "shareKinds", "()V"⟩, 10), (⟨"FeederOrders", "hostsFor", "(I)I"⟩, 10), (⟨"FeederOrders$Shares", "canKeepTo", "(I)Z"⟩, 7), (⟨"FeederOrders$Shares", "lastLoads", "(II)J"⟩, 7), (⟨"FeederOrders$Shares", "loadsBefore", "(II)J"⟩, 7), (⟨"FeederOrders$Shares", "isHost", "(II)Z"⟩, 7), (⟨"FeederOrders$Shares", "chooseHomes", "()V"⟩, 7), (⟨"FeederOrders$Shares", "canEnd", "(III)Z"⟩, 7), (⟨"FeederOrders", "setUp", "(I)V"⟩, 10), (⟨"FeederOrders", "placeFixedFeeders", "(LFeederOrders$Machine;I)V"⟩, 10), (⟨"FeederOrders", "placeOtherFeeders", "(LFeederOrders$Machine;I)V"⟩, 10), (⟨"FeederOrders", "lowestRoom", "(LFeederOrders$Machine;I)I"⟩, 10)]
theorem lw_r1 : ∀ q ∈ lw_privs_1, lw_okq q := List.forall_mem_cons.mpr ⟨lw_p0, List.forall_mem_cons.mpr ⟨lw_p1, List.forall_mem_cons.mpr ⟨lw_p2, List.forall_mem_cons.mpr ⟨lw_p3, List.forall_mem_cons.mpr ⟨lw_p4, List.forall_mem_cons.mpr ⟨lw_p5, List.forall_mem_cons.mpr ⟨lw_p6, List.forall_mem_cons.mpr ⟨lw_p7, List.forall_mem_cons.mpr ⟨lw_p8, List.forall_mem_cons.mpr ⟨lw_p9, List.forall_mem_cons.mpr ⟨lw_p10, List.forall_mem_cons.mpr ⟨lw_p11, List.forall_mem_cons.mpr ⟨lw_p12, List.forall_mem_cons.mpr ⟨lw_p13, List.forall_mem_cons.mpr ⟨lw_p14, List.forall_mem_cons.mpr ⟨lw_p15, fun _ h => absurd h List.not_mem_nil⟩⟩⟩⟩⟩⟩⟩⟩⟩⟩⟩⟩⟩⟩⟩⟩
theorem lw_p16 : lw_okq (⟨"FeederOrders$TripPlan", "takeIn", "(I)V"⟩, 5) := ⟨⟨by decide +kernel, by decide +kernel⟩, List.mem_of_getElem? (i := 163) (by decide +kernel), List.mem_of_getElem? (i := 513) (by decide +kernel), List.mem_of_getElem? (i := 514) (by decide +kernel)⟩
theorem lw_p17 : lw_okq (⟨"FeederOrders$TripPlan", "measure", "(LFeederOrders$Parts;)V"⟩, 5) := ⟨⟨by decide +kernel, by decide +kernel⟩, List.mem_of_getElem? (i := 163) (by decide +kernel), List.mem_of_getElem? (i := 517) (by decide +kernel), List.mem_of_getElem? (i := 518) (by decide +kernel)⟩
theorem lw_p18 : lw_okq (⟨"FeederOrders$TripPlan", "weigh", "()V"⟩, 5) := ⟨⟨by decide +kernel, by decide +kernel⟩, List.mem_of_getElem? (i := 163) (by decide +kernel), List.mem_of_getElem? (i := 533) (by decide +kernel), List.mem_of_getElem? (i := 534) (by decide +kernel)⟩
theorem lw_p19 : lw_okq (⟨"FeederOrders$TripPlan", "followersOf", "(I)I"⟩, 5) := ⟨⟨by decide +kernel, by decide +kernel⟩, List.mem_of_getElem? (i := 163) (by decide +kernel), List.mem_of_getElem? (i := 537) (by decide +kernel), List.mem_of_getElem? (i := 538) (by decide +kernel)⟩
theorem lw_p20 : lw_okq (⟨"FeederOrders$TripPlan", "bestNext", "(III)I"⟩, 5) := ⟨⟨by decide +kernel, by decide +kernel⟩, List.mem_of_getElem? (i := 163) (by decide +kernel), List.mem_of_getElem? (i := 541) (by decide +kernel), List.mem_of_getElem? (i := 542) (by decide +kernel)⟩
theorem lw_p21 : lw_okq (⟨"FeederOrders$TripPlan", "wayOver", "(III)I"⟩, 5) := ⟨⟨by decide +kernel, by decide +kernel⟩, List.mem_of_getElem? (i := 163) (by decide +kernel), List.mem_of_getElem? (i := 545) (by decide +kernel), List.mem_of_getElem? (i := 546) (by decide +kernel)⟩
theorem lw_p22 : lw_okq (⟨"FeederOrders$TripPlan", "layOut", "([II)V"⟩, 5) := ⟨⟨by decide +kernel, by decide +kernel⟩, List.mem_of_getElem? (i := 163) (by decide +kernel), List.mem_of_getElem? (i := 549) (by decide +kernel), List.mem_of_getElem? (i := 550) (by decide +kernel)⟩
theorem lw_p23 : lw_okq (⟨"FeederOrders", "moveTime", "(LFeederOrders$Machine;)I"⟩, 10) := ⟨⟨by decide +kernel, by decide +kernel⟩, List.mem_of_getElem? (i := 19) (by decide +kernel), List.mem_of_getElem? (i := 553) (by decide +kernel), List.mem_of_getElem? (i := 554) (by decide +kernel)⟩
theorem lw_p24 : lw_okq (⟨"FeederOrders", "countChanges", "(LFeederOrders$Machine;)I"⟩, 10) := ⟨⟨by decide +kernel, by decide +kernel⟩, List.mem_of_getElem? (i := 19) (by decide +kernel), List.mem_of_getElem? (i := 559) (by decide +kernel), List.mem_of_getElem? (i := 560) (by decide +kernel)⟩
theorem lw_p25 : lw_okq (⟨"FeederOrders", "nozzleFor", "(I)I"⟩, 10) := ⟨⟨by decide +kernel, by decide +kernel⟩, List.mem_of_getElem? (i := 19) (by decide +kernel), List.mem_of_getElem? (i := 563) (by decide +kernel), List.mem_of_getElem? (i := 564) (by decide +kernel)⟩
theorem lw_p26 : lw_okq (⟨"FeederOrders", "exchangeParts", "(I)I"⟩, 10) := ⟨⟨by decide +kernel, by decide +kernel⟩, List.mem_of_getElem? (i := 19) (by decide +kernel), List.mem_of_getElem? (i := 567) (by decide +kernel), List.mem_of_getElem? (i := 568) (by decide +kernel)⟩
theorem lw_p27 : lw_okq (⟨"FeederOrders", "exchangeOnce", "(LFeederOrders$Machine;)Z"⟩, 10) := ⟨⟨by decide +kernel, by decide +kernel⟩, List.mem_of_getElem? (i := 19) (by decide +kernel), List.mem_of_getElem? (i := 577) (by decide +kernel), List.mem_of_getElem? (i := 578) (by decide +kernel)⟩
theorem lw_p28 : lw_okq (⟨"FeederOrders", "greatestTime", "()I"⟩, 10) := ⟨⟨by decide +kernel, by decide +kernel⟩, List.mem_of_getElem? (i := 19) (by decide +kernel), List.mem_of_getElem? (i := 588) (by decide +kernel), List.mem_of_getElem? (i := 589) (by decide +kernel)⟩
theorem lw_p29 : lw_okq (⟨"FeederOrders", "requireMachine", "(I)V"⟩, 10) := ⟨⟨by decide +kernel, by decide +kernel⟩, List.mem_of_getElem? (i := 19) (by decide +kernel), List.mem_of_getElem? (i := 599) (by decide +kernel), List.mem_of_getElem? (i := 600) (by decide +kernel)⟩
theorem lw_p30 : lw_okq (⟨"FeederOrders", "requirePart", "(I)V"⟩, 10) := ⟨⟨by decide +kernel, by decide +kernel⟩, List.mem_of_getElem? (i := 19) (by decide +kernel), List.mem_of_getElem? (i := 622) (by decide +kernel), List.mem_of_getElem? (i := 623) (by decide +kernel)⟩
theorem lw_p31 : lw_okq (⟨"FeederOrders", "hostOf", "(I)I"⟩, 10) := ⟨⟨by decide +kernel, by decide +kernel⟩, List.mem_of_getElem? (i := 19) (by decide +kernel), List.mem_of_getElem? (i := 639) (by decide +kernel), List.mem_of_getElem? (i := 640) (by decide +kernel)⟩
def lw_privs_2 : List (MethodName × Nat) := [(⟨"FeederOrders$TripPlan", "takeIn", "(I)V"⟩, 5), (⟨"FeederOrders$TripPlan", "measure", "(LFeederOrders$Parts;)V"⟩, 5), (⟨"FeederOrders$TripPlan", "weigh", "()V"⟩, 5), (⟨"FeederOrders$TripPlan", "followersOf", "(I)I"⟩, 5), (⟨"FeederOrders$TripPlan", "bestNext", "(III)I"⟩, 5), (⟨"FeederOrders$TripPlan", "wayOver", "(III)I"⟩, 5), (⟨"FeederOrders$TripPlan", "layOut", "([II)V"⟩, 5), (⟨"FeederOrders", "moveTime", "(LFeederOrders$Machine;)I"⟩, 10), (⟨"FeederOrders", "countChanges", "(LFeederOrders$Machine;)I"⟩, 10), (⟨"FeederOrders", "nozzleFor", "(I)I"⟩, 10), (⟨"FeederOrders", "exchangeParts", "(I)I"⟩, 10), (⟨"FeederOrders", "exchangeOnce", "(LFeederOrders$Machine;)Z"⟩, 10), (⟨"FeederOrders", "greatestTime", "()I"⟩, 10), (⟨"FeederOrders", "requireMachine", "(I)V"⟩, 10), (⟨"FeederOrders", "requirePart", "(I)V"⟩, 10), (⟨"FeederOrders", "hostOf", "(I)I"⟩, 10)]
theorem lw_r2 : ∀ q ∈ lw_privs_2, lw_okq q := List.forall_mem_cons.mpr ⟨lw_p16, List.forall_mem_cons.mpr ⟨lw_p17, List.forall_mem_cons.mpr ⟨lw_p18, List.forall_mem_cons.mpr ⟨lw_p19, List.forall_mem_cons.mpr ⟨lw_p20, List.forall_mem_cons.mpr ⟨lw_p21, List.forall_mem_cons.mpr ⟨lw_p22, List.forall_mem_cons.mpr ⟨lw_p23, List.forall_mem_cons.mpr ⟨lw_p24, List.forall_mem_cons.mpr ⟨lw_p25, List.forall_mem_cons.mpr ⟨lw_p26, List.forall_mem_cons.mpr ⟨lw_p27, List.forall_mem_cons.mpr ⟨lw_p28, List.forall_mem_cons.mpr ⟨lw_p29, List.forall_mem_cons.mpr ⟨lw_p30, List.forall_mem_cons.mpr ⟨lw_p31, fun _ h => absurd h List.not_mem_nil⟩⟩⟩⟩⟩⟩⟩⟩⟩⟩⟩⟩⟩⟩⟩⟩
theorem lw_p32 : lw_okq (⟨"FeederOrdersModel", "isKind", "(I)Z"⟩, 29) := ⟨⟨by decide +kernel, by decide +kernel⟩, List.mem_of_getElem? (i := 689) (by decide +kernel), List.mem_of_getElem? (i := 796) (by decide +kernel), List.mem_of_getElem? (i := 797) (by decide +kernel)⟩
theorem lw_p33 : lw_okq (⟨"FeederOrdersModel", "findShares", "()V"⟩, 29) := ⟨⟨by decide +kernel, by decide +kernel⟩, List.mem_of_getElem? (i := 689) (by decide +kernel), List.mem_of_getElem? (i := 827) (by decide +kernel), List.mem_of_getElem? (i := 828) (by decide +kernel)⟩
theorem lw_p34 : lw_okq (⟨"FeederOrdersModel", "partsOf", "(I)I"⟩, 29) := ⟨⟨by decide +kernel, by decide +kernel⟩, List.mem_of_getElem? (i := 689) (by decide +kernel), List.mem_of_getElem? (i := 831) (by decide +kernel), List.mem_of_getElem? (i := 832) (by decide +kernel)⟩
theorem lw_p35 : lw_okq (⟨"FeederOrdersModel", "nextMachine", "(II)I"⟩, 29) := ⟨⟨by decide +kernel, by decide +kernel⟩, List.mem_of_getElem? (i := 689) (by decide +kernel), List.mem_of_getElem? (i := 835) (by decide +kernel), List.mem_of_getElem? (i := 836) (by decide +kernel)⟩
theorem lw_p36 : lw_okq (⟨"FeederOrdersModel", "mayGo", "(II)Z"⟩, 29) := ⟨⟨by decide +kernel, by decide +kernel⟩, List.mem_of_getElem? (i := 689) (by decide +kernel), List.mem_of_getElem? (i := 839) (by decide +kernel), List.mem_of_getElem? (i := 840) (by decide +kernel)⟩
theorem lw_p37 : lw_okq (⟨"FeederOrdersModel", "greatest", "()I"⟩, 29) := ⟨⟨by decide +kernel, by decide +kernel⟩, List.mem_of_getElem? (i := 689) (by decide +kernel), List.mem_of_getElem? (i := 843) (by decide +kernel), List.mem_of_getElem? (i := 844) (by decide +kernel)⟩
theorem lw_p38 : lw_okq (⟨"FeederOrdersModel", "goOn", "()Z"⟩, 29) := ⟨⟨by decide +kernel, by decide +kernel⟩, List.mem_of_getElem? (i := 689) (by decide +kernel), List.mem_of_getElem? (i := 847) (by decide +kernel), List.mem_of_getElem? (i := 848) (by decide +kernel)⟩
theorem lw_p39 : lw_okq (⟨"FeederOrdersModel", "findFeeders", "(I)V"⟩, 29) := ⟨⟨by decide +kernel, by decide +kernel⟩, List.mem_of_getElem? (i := 689) (by decide +kernel), List.mem_of_getElem? (i := 851) (by decide +kernel), List.mem_of_getElem? (i := 852) (by decide +kernel)⟩
theorem lw_p40 : lw_okq (⟨"FeederOrdersModel", "stand", "(III)V"⟩, 29) := ⟨⟨by decide +kernel, by decide +kernel⟩, List.mem_of_getElem? (i := 689) (by decide +kernel), List.mem_of_getElem? (i := 855) (by decide +kernel), List.mem_of_getElem? (i := 856) (by decide +kernel)⟩
theorem lw_p41 : lw_okq (⟨"FeederOrdersModel", "hasRoom", "(II)Z"⟩, 29) := ⟨⟨by decide +kernel, by decide +kernel⟩, List.mem_of_getElem? (i := 689) (by decide +kernel), List.mem_of_getElem? (i := 859) (by decide +kernel), List.mem_of_getElem? (i := 860) (by decide +kernel)⟩
theorem lw_p42 : lw_okq (⟨"FeederOrdersModel", "line", "(I)V"⟩, 29) := ⟨⟨by decide +kernel, by decide +kernel⟩, List.mem_of_getElem? (i := 689) (by decide +kernel), List.mem_of_getElem? (i := 863) (by decide +kernel), List.mem_of_getElem? (i := 864) (by decide +kernel)⟩
theorem lw_p43 : lw_okq (⟨"FeederOrdersModel", "isAhead", "(II)Z"⟩, 29) := ⟨⟨by decide +kernel, by decide +kernel⟩, List.mem_of_getElem? (i := 689) (by decide +kernel), List.mem_of_getElem? (i := 867) (by decide +kernel), List.mem_of_getElem? (i := 868) (by decide +kernel)⟩
theorem lw_p44 : lw_okq (⟨"FeederOrdersModel", "arrange", "(II)V"⟩, 29) := ⟨⟨by decide +kernel, by decide +kernel⟩, List.mem_of_getElem? (i := 689) (by decide +kernel), List.mem_of_getElem? (i := 871) (by decide +kernel), List.mem_of_getElem? (i := 872) (by decide +kernel)⟩
theorem lw_p45 : lw_okq (⟨"FeederOrdersModel", "measure", "()V"⟩, 29) := ⟨⟨by decide +kernel, by decide +kernel⟩, List.mem_of_getElem? (i := 689) (by decide +kernel), List.mem_of_getElem? (i := 875) (by decide +kernel), List.mem_of_getElem? (i := 876) (by decide +kernel)⟩
theorem lw_p46 : lw_okq (⟨"FeederOrdersModel", "fromHome", "(I)J"⟩, 29) := ⟨⟨by decide +kernel, by decide +kernel⟩, List.mem_of_getElem? (i := 689) (by decide +kernel), List.mem_of_getElem? (i := 879) (by decide +kernel), List.mem_of_getElem? (i := 880) (by decide +kernel)⟩
theorem lw_p47 : lw_okq (⟨"FeederOrdersModel", "mayCome", "(II)Z"⟩, 29) := ⟨⟨by decide +kernel, by decide +kernel⟩, List.mem_of_getElem? (i := 689) (by decide +kernel), List.mem_of_getElem? (i := 887) (by decide +kernel), List.mem_of_getElem? (i := 888) (by decide +kernel)⟩
def lw_privs_3 : List (MethodName × Nat) := [(⟨"FeederOrdersModel", "isKind", "(I)Z"⟩, 29), (⟨"FeederOrdersModel", "findShares", "()V"⟩, 29), (⟨"FeederOrdersModel", "partsOf", "(I)I"⟩, 29), (⟨"FeederOrdersModel", "nextMachine", "(II)I"⟩, 29), (⟨"FeederOrdersModel", "mayGo", "(II)Z"⟩, 29), (⟨"FeederOrdersModel", "greatest", "()I"⟩, 29), (⟨"FeederOrdersModel", "goOn", "()Z"⟩, 29), (⟨"FeederOrdersModel", "findFeeders", "(I)V"⟩, 29), (⟨"FeederOrdersModel", "stand", "(III)V"⟩, 29), (⟨"FeederOrdersModel", "hasRoom", "(II)Z"⟩, 29), (⟨"FeederOrdersModel", "line", "(I)V"⟩, 29), (⟨"FeederOrdersModel", "isAhead", "(II)Z"⟩, 29), (⟨"FeederOrdersModel", "arrange", "(II)V"⟩, 29), (⟨"FeederOrdersModel", "measure", "()V"⟩, 29), (⟨"FeederOrdersModel", "fromHome", "(I)J"⟩, 29), (⟨"FeederOrdersModel", "mayCome", "(II)Z"⟩, 29)]
theorem lw_r3 : ∀ q ∈ lw_privs_3, lw_okq q := List.forall_mem_cons.mpr ⟨lw_p32, List.forall_mem_cons.mpr ⟨lw_p33, List.forall_mem_cons.mpr ⟨lw_p34, List.forall_mem_cons.mpr ⟨lw_p35, List.forall_mem_cons.mpr ⟨lw_p36, List.forall_mem_cons.mpr ⟨lw_p37, List.forall_mem_cons.mpr ⟨lw_p38, List.forall_mem_cons.mpr ⟨lw_p39, List.forall_mem_cons.mpr ⟨lw_p40, List.forall_mem_cons.mpr ⟨lw_p41, List.forall_mem_cons.mpr ⟨lw_p42, List.forall_mem_cons.mpr ⟨lw_p43, List.forall_mem_cons.mpr ⟨lw_p44, List.forall_mem_cons.mpr ⟨lw_p45, List.forall_mem_cons.mpr ⟨lw_p46, List.forall_mem_cons.mpr ⟨lw_p47, fun _ h => absurd h List.not_mem_nil⟩⟩⟩⟩⟩⟩⟩⟩⟩⟩⟩⟩⟩⟩⟩⟩
theorem lw_p48 : lw_okq (⟨"FeederOrdersModel", "between", "(II)J"⟩, 29) := ⟨⟨by decide +kernel, by decide +kernel⟩, List.mem_of_getElem? (i := 689) (by decide +kernel), List.mem_of_getElem? (i := 891) (by decide +kernel), List.mem_of_getElem? (i := 892) (by decide +kernel)⟩
theorem lw_p49 : lw_okq (⟨"FeederOrdersModel", "exchanges", "(J)I"⟩, 29) := ⟨⟨by decide +kernel, by decide +kernel⟩, List.mem_of_getElem? (i := 689) (by decide +kernel), List.mem_of_getElem? (i := 898) (by decide +kernel), List.mem_of_getElem? (i := 899) (by decide +kernel)⟩
theorem lw_p50 : lw_okq (⟨"FeederOrdersModel", "exchange", "()Z"⟩, 29) := ⟨⟨by decide +kernel, by decide +kernel⟩, List.mem_of_getElem? (i := 689) (by decide +kernel), List.mem_of_getElem? (i := 902) (by decide +kernel), List.mem_of_getElem? (i := 903) (by decide +kernel)⟩
theorem lw_p51 : lw_okq (⟨"FeederOrdersModel", "draw", "(I)I"⟩, 29) := ⟨⟨by decide +kernel, by decide +kernel⟩, List.mem_of_getElem? (i := 689) (by decide +kernel), List.mem_of_getElem? (i := 906) (by decide +kernel), List.mem_of_getElem? (i := 907) (by decide +kernel)⟩
theorem lw_p52 : lw_okq (⟨"FeederOrdersModel", "timeOf", "(I)J"⟩, 29) := ⟨⟨by decide +kernel, by decide +kernel⟩, List.mem_of_getElem? (i := 689) (by decide +kernel), List.mem_of_getElem? (i := 912) (by decide +kernel), List.mem_of_getElem? (i := 913) (by decide +kernel)⟩
theorem lw_p53 : lw_okq (⟨"FeederOrdersModel", "placing", "(I)J"⟩, 29) := ⟨⟨by decide +kernel, by decide +kernel⟩, List.mem_of_getElem? (i := 689) (by decide +kernel), List.mem_of_getElem? (i := 916) (by decide +kernel), List.mem_of_getElem? (i := 917) (by decide +kernel)⟩
theorem lw_p54 : lw_okq (⟨"FeederOrdersModel", "countOf", "(II)I"⟩, 29) := ⟨⟨by decide +kernel, by decide +kernel⟩, List.mem_of_getElem? (i := 689) (by decide +kernel), List.mem_of_getElem? (i := 920) (by decide +kernel), List.mem_of_getElem? (i := 921) (by decide +kernel)⟩
theorem lw_p55 : lw_okq (⟨"FeederOrdersModel", "changesOf", "(I)I"⟩, 29) := ⟨⟨by decide +kernel, by decide +kernel⟩, List.mem_of_getElem? (i := 689) (by decide +kernel), List.mem_of_getElem? (i := 927) (by decide +kernel), List.mem_of_getElem? (i := 928) (by decide +kernel)⟩
theorem lw_p56 : lw_okq (⟨"FeederOrdersModel", "isMachine", "(I)Z"⟩, 29) := ⟨⟨by decide +kernel, by decide +kernel⟩, List.mem_of_getElem? (i := 689) (by decide +kernel), List.mem_of_getElem? (i := 939) (by decide +kernel), List.mem_of_getElem? (i := 940) (by decide +kernel)⟩
theorem lw_p57 : lw_okq (⟨"FeederOrdersModel", "isPart", "(I)Z"⟩, 29) := ⟨⟨by decide +kernel, by decide +kernel⟩, List.mem_of_getElem? (i := 689) (by decide +kernel), List.mem_of_getElem? (i := 951) (by decide +kernel), List.mem_of_getElem? (i := 952) (by decide +kernel)⟩
theorem lw_p58 : lw_okq (⟨"FeederOrdersModel", "placeOf", "(II)I"⟩, 29) := ⟨⟨by decide +kernel, by decide +kernel⟩, List.mem_of_getElem? (i := 689) (by decide +kernel), List.mem_of_getElem? (i := 955) (by decide +kernel), List.mem_of_getElem? (i := 956) (by decide +kernel)⟩
theorem lw_p59 : lw_okq (⟨"FeederOrdersModel", "machineFor", "(I)I"⟩, 29) := ⟨⟨by decide +kernel, by decide +kernel⟩, List.mem_of_getElem? (i := 689) (by decide +kernel), List.mem_of_getElem? (i := 971) (by decide +kernel), List.mem_of_getElem? (i := 972) (by decide +kernel)⟩
def lw_privs_4 : List (MethodName × Nat) := [(⟨"FeederOrdersModel", "between", "(II)J"⟩, 29), (⟨"FeederOrdersModel", "exchanges", "(J)I"⟩, 29), (⟨"FeederOrdersModel", "exchange", "()Z"⟩, 29), (⟨"FeederOrdersModel", "draw", "(I)I"⟩, 29), (⟨"FeederOrdersModel", "timeOf", "(I)J"⟩, 29), (⟨"FeederOrdersModel", "placing", "(I)J"⟩, 29), (⟨"FeederOrdersModel", "countOf", "(II)I"⟩, 29), (⟨"FeederOrdersModel", "changesOf", "(I)I"⟩, 29), (⟨"FeederOrdersModel", "isMachine", "(I)Z"⟩, 29), (⟨"FeederOrdersModel", "isPart", "(I)Z"⟩, 29), (⟨"FeederOrdersModel", "placeOf", "(II)I"⟩, 29), (⟨"FeederOrdersModel", "machineFor", "(I)I"⟩, 29)]
theorem lw_r4 : ∀ q ∈ lw_privs_4, lw_okq q := List.forall_mem_cons.mpr ⟨lw_p48, List.forall_mem_cons.mpr ⟨lw_p49, List.forall_mem_cons.mpr ⟨lw_p50, List.forall_mem_cons.mpr ⟨lw_p51, List.forall_mem_cons.mpr ⟨lw_p52, List.forall_mem_cons.mpr ⟨lw_p53, List.forall_mem_cons.mpr ⟨lw_p54, List.forall_mem_cons.mpr ⟨lw_p55, List.forall_mem_cons.mpr ⟨lw_p56, List.forall_mem_cons.mpr ⟨lw_p57, List.forall_mem_cons.mpr ⟨lw_p58, List.forall_mem_cons.mpr ⟨lw_p59, fun _ h => absurd h List.not_mem_nil⟩⟩⟩⟩⟩⟩⟩⟩⟩⟩⟩⟩
def lw_privs : List (MethodName × Nat) := lw_privs_1 ++ (lw_privs_2 ++ (lw_privs_3 ++ (lw_privs_4)))
def lw_tbl : List Cond := k2_sels lw_privs ++ tables_1
theorem lw_privs_ok : ∀ q ∈ lw_privs, lw_okq q := by
  show ∀ q ∈ lw_privs_1 ++ (lw_privs_2 ++ (lw_privs_3 ++ (lw_privs_4))), lw_okq q
  exact List.forall_mem_append.mpr ⟨lw_r1, List.forall_mem_append.mpr ⟨lw_r2, List.forall_mem_append.mpr ⟨lw_r3, lw_r4⟩⟩⟩
end
section
def RX0 : String := "FeederOrders$Draws"
def RX1 : String := "FeederOrders$Kinds"
def RX2 : String := "FeederOrders$Machine"
def RX3 : String := "FeederOrders$Parts"
def RX4 : String := "FeederOrders$Shares"
def RX5 : String := "FeederOrders$TripPlan"
def RX6 : String := "FeederOrders"
def RX7 : String := "FeederOrdersModel"
def RL : String := "FeederOrdersLaw"
def TX0 : u_T := fun k => match k with
  | _ => ("FeederOrders$Draws", "state", "J", false)
def tyX0 : Nat → FieldType := fun k => match k with
  | _ => .long
theorem nmX0 : ∀ a, a < 1 → ∀ b, b < 1 → a ≠ b → (TX0 a).2.1 ≠ (TX0 b).2.1 := by decide +kernel
theorem tyX0_ok : ∀ k, k < 1 → parseFieldDescriptor (TX0 k).2.2.1 = some (tyX0 k) := by decide +kernel
def TX1 : u_T := fun k => match k with
  | 0 => ("FeederOrders$Kinds", "widths", "[I", true)
  | 1 => ("FeederOrders$Kinds", "nozzles", "[I", true)
  | 2 => ("FeederOrders$Kinds", "fixedAt", "[I", true)
  | 3 => ("FeederOrders$Kinds", "refillBy", "[I", true)
  | 4 => ("FeederOrders$Kinds", "rejectAbove", "[I", true)
  | 5 => ("FeederOrders$Kinds", "rejectBelow", "[I", true)
  | _ => ("FeederOrders$Kinds", "count", "I", false)
def tyX1 : Nat → FieldType := fun k => match k with
  | 0 => .array .int
  | 1 => .array .int
  | 2 => .array .int
  | 3 => .array .int
  | 4 => .array .int
  | 5 => .array .int
  | _ => .int
theorem nmX1 : ∀ a, a < 7 → ∀ b, b < 7 → a ≠ b → (TX1 a).2.1 ≠ (TX1 b).2.1 := by decide +kernel
theorem tyX1_ok : ∀ k, k < 7 → parseFieldDescriptor (TX1 k).2.2.1 = some (tyX1 k) := by decide +kernel
def TX2 : u_T := fun k => match k with
  | 0 => ("FeederOrders$Machine", "row", "[I", true)
  | 1 => ("FeederOrders$Machine", "feederAt", "[I", true)
  | 2 => ("FeederOrders$Machine", "amountOf", "[I", true)
  | 3 => ("FeederOrders$Machine", "nozzles", "I", false)
  | 4 => ("FeederOrders$Machine", "carried", "I", false)
  | 5 => ("FeederOrders$Machine", "size", "I", false)
  | _ => ("FeederOrders$Machine", "moveTime", "I", false)
def tyX2 : Nat → FieldType := fun k => match k with
  | 0 => .array .int
  | 1 => .array .int
  | 2 => .array .int
  | 3 => .int
  | 4 => .int
  | 5 => .int
  | _ => .int
theorem nmX2 : ∀ a, a < 7 → ∀ b, b < 7 → a ≠ b → (TX2 a).2.1 ≠ (TX2 b).2.1 := by decide +kernel
theorem tyX2_ok : ∀ k, k < 7 → parseFieldDescriptor (TX2 k).2.2.1 = some (tyX2 k) := by decide +kernel
def TX3 : u_T := fun k => match k with
  | 0 => ("FeederOrders$Parts", "kindOf", "[I", true)
  | 1 => ("FeederOrders$Parts", "xs", "[I", true)
  | 2 => ("FeederOrders$Parts", "ys", "[I", true)
  | 3 => ("FeederOrders$Parts", "heights", "[I", true)
  | _ => ("FeederOrders$Parts", "count", "I", false)
def tyX3 : Nat → FieldType := fun k => match k with
  | 0 => .array .int
  | 1 => .array .int
  | 2 => .array .int
  | 3 => .array .int
  | _ => .int
theorem nmX3 : ∀ a, a < 5 → ∀ b, b < 5 → a ≠ b → (TX3 a).2.1 ≠ (TX3 b).2.1 := by decide +kernel
theorem tyX3_ok : ∀ k, k < 5 → parseFieldDescriptor (TX3 k).2.2.1 = some (tyX3 k) := by decide +kernel
def TX4 : u_T := fun k => match k with
  | 0 => ("FeederOrders$Shares", "homeOf", "[I", true)
  | 1 => ("FeederOrders$Shares", "kindOf", "[I", true)
  | 2 => ("FeederOrders$Shares", "amountOf", "[I", true)
  | 3 => ("FeederOrders$Shares", "hostsOf", "[I", true)
  | 4 => ("FeederOrders$Shares", "endings", "[[J", true)
  | 5 => ("FeederOrders$Shares", "count", "I", false)
  | _ => ("FeederOrders$Shares", "total", "I", false)
def tyX4 : Nat → FieldType := fun k => match k with
  | 0 => .array .int
  | 1 => .array .int
  | 2 => .array .int
  | 3 => .array .int
  | 4 => .array (.array .long)
  | 5 => .int
  | _ => .int
theorem nmX4 : ∀ a, a < 7 → ∀ b, b < 7 → a ≠ b → (TX4 a).2.1 ≠ (TX4 b).2.1 := by decide +kernel
theorem tyX4_ok : ∀ k, k < 7 → parseFieldDescriptor (TX4 k).2.2.1 = some (tyX4 k) := by decide +kernel
def TX5 : u_T := fun k => match k with
  | 0 => ("FeederOrders$TripPlan", "pool", "[I", true)
  | 1 => ("FeederOrders$TripPlan", "lowerOnes", "[I", true)
  | 2 => ("FeederOrders$TripPlan", "ways", "[[I", true)
  | 3 => ("FeederOrders$TripPlan", "wayLeft", "[[I", true)
  | _ => ("FeederOrders$TripPlan", "size", "I", false)
def tyX5 : Nat → FieldType := fun k => match k with
  | 0 => .array .int
  | 1 => .array .int
  | 2 => .array (.array .int)
  | 3 => .array (.array .int)
  | _ => .int
theorem nmX5 : ∀ a, a < 5 → ∀ b, b < 5 → a ≠ b → (TX5 a).2.1 ≠ (TX5 b).2.1 := by decide +kernel
theorem tyX5_ok : ∀ k, k < 5 → parseFieldDescriptor (TX5 k).2.2.1 = some (tyX5 k) := by decide +kernel
def TX6 : u_T := fun k => match k with
  | 0 => ("FeederOrders", "slots", "I", true)
  | 1 => ("FeederOrders", "draws", "LFeederOrders$Draws;", true)
  | 2 => ("FeederOrders", "kinds", "LFeederOrders$Kinds;", true)
  | 3 => ("FeederOrders", "parts", "LFeederOrders$Parts;", true)
  | 4 => ("FeederOrders", "fleet", "[LFeederOrders$Machine;", true)
  | 5 => ("FeederOrders", "shares", "LFeederOrders$Shares;", true)
  | 6 => ("FeederOrders", "tripPlan", "LFeederOrders$TripPlan;", true)
  | 7 => ("FeederOrders", "spareRow", "[I", true)
  | 8 => ("FeederOrders", "machineCount", "I", false)
  | _ => ("FeederOrders", "usedCount", "I", false)
def tyX6 : Nat → FieldType := fun k => match k with
  | 0 => .int
  | 1 => .object "FeederOrders$Draws"
  | 2 => .object "FeederOrders$Kinds"
  | 3 => .object "FeederOrders$Parts"
  | 4 => .array (.object "FeederOrders$Machine")
  | 5 => .object "FeederOrders$Shares"
  | 6 => .object "FeederOrders$TripPlan"
  | 7 => .array .int
  | 8 => .int
  | _ => .int
theorem nmX6 : ∀ a, a < 10 → ∀ b, b < 10 → a ≠ b → (TX6 a).2.1 ≠ (TX6 b).2.1 := by decide +kernel
theorem tyX6_ok : ∀ k, k < 10 → parseFieldDescriptor (TX6 k).2.2.1 = some (tyX6 k) := by decide +kernel
def TX7 : u_T := fun k => match k with
  | 0 => ("FeederOrdersModel", "thrown", "I", false)
  | 1 => ("FeederOrdersModel", "s", "J", false)
  | 2 => ("FeederOrdersModel", "slots", "I", true)
  | 3 => ("FeederOrdersModel", "kinds", "I", false)
  | 4 => ("FeederOrdersModel", "widths", "[I", true)
  | 5 => ("FeederOrdersModel", "nozzles", "[I", true)
  | 6 => ("FeederOrdersModel", "fixedAt", "[I", true)
  | 7 => ("FeederOrdersModel", "refills", "[I", true)
  | 8 => ("FeederOrdersModel", "above", "[J", true)
  | 9 => ("FeederOrdersModel", "below", "[J", true)
  | 10 => ("FeederOrdersModel", "parts", "I", false)
  | 11 => ("FeederOrdersModel", "kindOf", "[I", true)
  | 12 => ("FeederOrdersModel", "x", "[J", true)
  | 13 => ("FeederOrdersModel", "y", "[J", true)
  | 14 => ("FeederOrdersModel", "height", "[J", true)
  | 15 => ("FeederOrdersModel", "machines", "I", false)
  | 16 => ("FeederOrdersModel", "hasNozzles", "[I", true)
  | 17 => ("FeederOrdersModel", "trips", "[I", true)
  | 18 => ("FeederOrdersModel", "used", "I", false)
  | 19 => ("FeederOrdersModel", "feeder", "[I", true)
  | 20 => ("FeederOrdersModel", "counts", "[I", true)
  | 21 => ("FeederOrdersModel", "row", "[I", true)
  | 22 => ("FeederOrdersModel", "share", "[I", true)
  | 23 => ("FeederOrdersModel", "bestShare", "[I", true)
  | 24 => ("FeederOrdersModel", "taken", "[Z", true)
  | 25 => ("FeederOrdersModel", "size", "I", false)
  | 26 => ("FeederOrdersModel", "trip", "[I", true)
  | 27 => ("FeederOrdersModel", "ways", "[J", true)
  | _ => ("FeederOrdersModel", "before", "[I", true)
def tyX7 : Nat → FieldType := fun k => match k with
  | 0 => .int
  | 1 => .long
  | 2 => .int
  | 3 => .int
  | 4 => .array .int
  | 5 => .array .int
  | 6 => .array .int
  | 7 => .array .int
  | 8 => .array .long
  | 9 => .array .long
  | 10 => .int
  | 11 => .array .int
  | 12 => .array .long
  | 13 => .array .long
  | 14 => .array .long
  | 15 => .int
  | 16 => .array .int
  | 17 => .array .int
  | 18 => .int
  | 19 => .array .int
  | 20 => .array .int
  | 21 => .array .int
  | 22 => .array .int
  | 23 => .array .int
  | 24 => .array .boolean
  | 25 => .int
  | 26 => .array .int
  | 27 => .array .long
  | _ => .array .int
theorem nmX7 : ∀ a, a < 29 → ∀ b, b < 29 → a ≠ b → (TX7 a).2.1 ≠ (TX7 b).2.1 := by decide +kernel
theorem tyX7_ok : ∀ k, k < 29 → parseFieldDescriptor (TX7 k).2.2.1 = some (tyX7 k) := by decide +kernel
abbrev vwCl : List vw_C := [(RX0, TX0, 1), (RX1, TX1, 7), (RX2, TX2, 7), (RX3, TX3, 5), (RX4, TX4, 7), (RX5, TX5, 5), (RX6, TX6, 10), (RX7, TX7, 29)]
/-- the words that hold wherever the machine has gone on from a start -/
def gw : List Cond := lw_tbl.filter goodWord
theorem gw_of {w : Cond} (h : w ∈ lw_tbl) (g : goodWord w = true) : w ∈ gw := List.mem_filter.mpr ⟨h, g⟩
theorem gw_in {w : Cond} (h : w ∈ gw) : w ∈ lw_tbl := (List.mem_filter.mp h).1
theorem tm_0 {w : Cond} (h : w ∈ k2_sels lw_privs) (g : goodWord w = true) : w ∈ gw := gw_of (List.mem_append_left _ h) g
theorem tm_1 {w : Cond} (h : w ∈ tables_1_1) (g : goodWord w = true) : w ∈ gw := gw_of (List.mem_append_right _ (List.mem_append_left _ h)) g
theorem tm_2 {w : Cond} (h : w ∈ tables_1_2) (g : goodWord w = true) : w ∈ gw := gw_of (List.mem_append_right _ (List.mem_append_right _ (List.mem_append_left _ h))) g
theorem tm_3 {w : Cond} (h : w ∈ tables_1_3) (g : goodWord w = true) : w ∈ gw := gw_of (List.mem_append_right _ (List.mem_append_right _ (List.mem_append_right _ (List.mem_append_left _ h)))) g
theorem tm_4 {w : Cond} (h : w ∈ tables_1_4) (g : goodWord w = true) : w ∈ gw := gw_of (List.mem_append_right _ (List.mem_append_right _ (List.mem_append_right _ (List.mem_append_right _ (List.mem_append_left _ h))))) g
theorem tm_5 {w : Cond} (h : w ∈ tables_1_5) (g : goodWord w = true) : w ∈ gw := gw_of (List.mem_append_right _ (List.mem_append_right _ (List.mem_append_right _ (List.mem_append_right _ (List.mem_append_right _ (h)))))) g
theorem inX0 : ∀ w ∈ u_ws RX0 TX0 1, w ∈ gw := by
  intro w hw
  obtain ⟨k, hk, rfl⟩ := List.mem_map.mp hw
  have hk := List.mem_range.mp hk
  match k, hk with
  | 0, _ => exact tm_1 (List.mem_of_getElem? (i := 199) rfl) rfl
  | k + 1, h => exact absurd h (by omega)
theorem inX1 : ∀ w ∈ u_ws RX1 TX1 7, w ∈ gw := by
  intro w hw
  obtain ⟨k, hk, rfl⟩ := List.mem_map.mp hw
  have hk := List.mem_range.mp hk
  match k, hk with
  | 0, _ => exact tm_1 (List.mem_of_getElem? (i := 46) rfl) rfl
  | 1, _ => exact tm_1 (List.mem_of_getElem? (i := 48) rfl) rfl
  | 2, _ => exact tm_1 (List.mem_of_getElem? (i := 50) rfl) rfl
  | 3, _ => exact tm_1 (List.mem_of_getElem? (i := 52) rfl) rfl
  | 4, _ => exact tm_1 (List.mem_of_getElem? (i := 54) rfl) rfl
  | 5, _ => exact tm_1 (List.mem_of_getElem? (i := 56) rfl) rfl
  | 6, _ => exact tm_1 (List.mem_of_getElem? (i := 58) rfl) rfl
  | k + 7, h => exact absurd h (by omega)
theorem inX2 : ∀ w ∈ u_ws RX2 TX2 7, w ∈ gw := by
  intro w hw
  obtain ⟨k, hk, rfl⟩ := List.mem_map.mp hw
  have hk := List.mem_range.mp hk
  match k, hk with
  | 0, _ => exact tm_1 (List.mem_of_getElem? (i := 115) rfl) rfl
  | 1, _ => exact tm_1 (List.mem_of_getElem? (i := 117) rfl) rfl
  | 2, _ => exact tm_1 (List.mem_of_getElem? (i := 119) rfl) rfl
  | 3, _ => exact tm_1 (List.mem_of_getElem? (i := 121) rfl) rfl
  | 4, _ => exact tm_1 (List.mem_of_getElem? (i := 123) rfl) rfl
  | 5, _ => exact tm_1 (List.mem_of_getElem? (i := 125) rfl) rfl
  | 6, _ => exact tm_1 (List.mem_of_getElem? (i := 127) rfl) rfl
  | k + 7, h => exact absurd h (by omega)
theorem inX3 : ∀ w ∈ u_ws RX3 TX3 5, w ∈ gw := by
  intro w hw
  obtain ⟨k, hk, rfl⟩ := List.mem_map.mp hw
  have hk := List.mem_range.mp hk
  match k, hk with
  | 0, _ => exact tm_1 (List.mem_of_getElem? (i := 77) rfl) rfl
  | 1, _ => exact tm_1 (List.mem_of_getElem? (i := 79) rfl) rfl
  | 2, _ => exact tm_1 (List.mem_of_getElem? (i := 81) rfl) rfl
  | 3, _ => exact tm_1 (List.mem_of_getElem? (i := 83) rfl) rfl
  | 4, _ => exact tm_1 (List.mem_of_getElem? (i := 85) rfl) rfl
  | k + 5, h => exact absurd h (by omega)
theorem inX4 : ∀ w ∈ u_ws RX4 TX4 7, w ∈ gw := by
  intro w hw
  obtain ⟨k, hk, rfl⟩ := List.mem_map.mp hw
  have hk := List.mem_range.mp hk
  match k, hk with
  | 0, _ => exact tm_1 (List.mem_of_getElem? (i := 146) rfl) rfl
  | 1, _ => exact tm_1 (List.mem_of_getElem? (i := 148) rfl) rfl
  | 2, _ => exact tm_1 (List.mem_of_getElem? (i := 150) rfl) rfl
  | 3, _ => exact tm_1 (List.mem_of_getElem? (i := 152) rfl) rfl
  | 4, _ => exact tm_1 (List.mem_of_getElem? (i := 154) rfl) rfl
  | 5, _ => exact tm_1 (List.mem_of_getElem? (i := 156) rfl) rfl
  | 6, _ => exact tm_1 (List.mem_of_getElem? (i := 158) rfl) rfl
  | k + 7, h => exact absurd h (by omega)
theorem inX5 : ∀ w ∈ u_ws RX5 TX5 5, w ∈ gw := by
  intro w hw
  obtain ⟨k, hk, rfl⟩ := List.mem_map.mp hw
  have hk := List.mem_range.mp hk
  match k, hk with
  | 0, _ => exact tm_1 (List.mem_of_getElem? (i := 175) rfl) rfl
  | 1, _ => exact tm_1 (List.mem_of_getElem? (i := 177) rfl) rfl
  | 2, _ => exact tm_1 (List.mem_of_getElem? (i := 179) rfl) rfl
  | 3, _ => exact tm_1 (List.mem_of_getElem? (i := 181) rfl) rfl
  | 4, _ => exact tm_1 (List.mem_of_getElem? (i := 183) rfl) rfl
  | k + 5, h => exact absurd h (by omega)
theorem inX6 : ∀ w ∈ u_ws RX6 TX6 10, w ∈ gw := by
  intro w hw
  obtain ⟨k, hk, rfl⟩ := List.mem_map.mp hw
  have hk := List.mem_range.mp hk
  match k, hk with
  | 0, _ => exact tm_1 (List.mem_of_getElem? (i := 212) rfl) rfl
  | 1, _ => exact tm_1 (List.mem_of_getElem? (i := 214) rfl) rfl
  | 2, _ => exact tm_1 (List.mem_of_getElem? (i := 216) rfl) rfl
  | 3, _ => exact tm_1 (List.mem_of_getElem? (i := 218) rfl) rfl
  | 4, _ => exact tm_1 (List.mem_of_getElem? (i := 220) rfl) rfl
  | 5, _ => exact tm_1 (List.mem_of_getElem? (i := 222) rfl) rfl
  | 6, _ => exact tm_1 (List.mem_of_getElem? (i := 224) rfl) rfl
  | 7, _ => exact tm_1 (List.mem_of_getElem? (i := 226) rfl) rfl
  | 8, _ => exact tm_1 (List.mem_of_getElem? (i := 228) rfl) rfl
  | 9, _ => exact tm_1 (List.mem_of_getElem? (i := 230) rfl) rfl
  | k + 10, h => exact absurd h (by omega)
theorem inX7 : ∀ w ∈ u_ws RX7 TX7 29, w ∈ gw := by
  intro w hw
  obtain ⟨k, hk, rfl⟩ := List.mem_map.mp hw
  have hk := List.mem_range.mp hk
  match k, hk with
  | 0, _ => exact tm_4 (List.mem_of_getElem? (i := 3) rfl) rfl
  | 1, _ => exact tm_4 (List.mem_of_getElem? (i := 5) rfl) rfl
  | 2, _ => exact tm_4 (List.mem_of_getElem? (i := 7) rfl) rfl
  | 3, _ => exact tm_4 (List.mem_of_getElem? (i := 9) rfl) rfl
  | 4, _ => exact tm_4 (List.mem_of_getElem? (i := 11) rfl) rfl
  | 5, _ => exact tm_4 (List.mem_of_getElem? (i := 13) rfl) rfl
  | 6, _ => exact tm_4 (List.mem_of_getElem? (i := 15) rfl) rfl
  | 7, _ => exact tm_4 (List.mem_of_getElem? (i := 17) rfl) rfl
  | 8, _ => exact tm_4 (List.mem_of_getElem? (i := 19) rfl) rfl
  | 9, _ => exact tm_4 (List.mem_of_getElem? (i := 21) rfl) rfl
  | 10, _ => exact tm_4 (List.mem_of_getElem? (i := 23) rfl) rfl
  | 11, _ => exact tm_4 (List.mem_of_getElem? (i := 25) rfl) rfl
  | 12, _ => exact tm_4 (List.mem_of_getElem? (i := 27) rfl) rfl
  | 13, _ => exact tm_4 (List.mem_of_getElem? (i := 29) rfl) rfl
  | 14, _ => exact tm_4 (List.mem_of_getElem? (i := 31) rfl) rfl
  | 15, _ => exact tm_4 (List.mem_of_getElem? (i := 33) rfl) rfl
  | 16, _ => exact tm_4 (List.mem_of_getElem? (i := 35) rfl) rfl
  | 17, _ => exact tm_4 (List.mem_of_getElem? (i := 37) rfl) rfl
  | 18, _ => exact tm_4 (List.mem_of_getElem? (i := 39) rfl) rfl
  | 19, _ => exact tm_4 (List.mem_of_getElem? (i := 41) rfl) rfl
  | 20, _ => exact tm_4 (List.mem_of_getElem? (i := 43) rfl) rfl
  | 21, _ => exact tm_4 (List.mem_of_getElem? (i := 45) rfl) rfl
  | 22, _ => exact tm_4 (List.mem_of_getElem? (i := 47) rfl) rfl
  | 23, _ => exact tm_4 (List.mem_of_getElem? (i := 49) rfl) rfl
  | 24, _ => exact tm_4 (List.mem_of_getElem? (i := 51) rfl) rfl
  | 25, _ => exact tm_4 (List.mem_of_getElem? (i := 53) rfl) rfl
  | 26, _ => exact tm_4 (List.mem_of_getElem? (i := 55) rfl) rfl
  | 27, _ => exact tm_4 (List.mem_of_getElem? (i := 57) rfl) rfl
  | 28, _ => exact tm_4 (List.mem_of_getElem? (i := 59) rfl) rfl
  | k + 29, h => exact absurd h (by omega)
end
section
/-! integers as ints and longs -/
def iN (z : Int) : Int32 := Int32.ofInt z
def jN (z : Int) : Int64 := Int64.ofInt z
theorem iN_add (x y : Int) : iN x + iN y = iN (x + y) := (Int32.ofInt_add x y).symm
theorem iN_sub (x y : Int) : iN x - iN y = iN (x - y) := (Int32.ofInt_sub x y).symm
theorem iN_mul (x y : Int) : iN x * iN y = iN (x * y) := (Int32.ofInt_mul x y).symm
theorem iN_neg (x : Int) : -iN x = iN (-x) := (Int32.ofInt_neg x).symm
theorem jN_add (x y : Int) : jN x + jN y = jN (x + y) := (Int64.ofInt_add x y).symm
theorem jN_sub (x y : Int) : jN x - jN y = jN (x - y) := (Int64.ofInt_sub x y).symm
theorem jN_mul (x y : Int) : jN x * jN y = jN (x * y) := (Int64.ofInt_mul x y).symm
theorem iN_toInt {z : Int} (h : -2147483648 ≤ z ∧ z ≤ 2147483647) : (iN z).toInt = z := Int32.toInt_ofInt_of_le (by omega) (by omega)
theorem jN_toInt {z : Int} (h : -9223372036854775808 ≤ z ∧ z ≤ 9223372036854775807) : (jN z).toInt = z := Int64.toInt_ofInt_of_le (by omega) (by omega)
theorem iN_lt {x y : Int} (hx : -2147483648 ≤ x ∧ x ≤ 2147483647) (hy : -2147483648 ≤ y ∧ y ≤ 2147483647) : iN x < iN y ↔ x < y := by
  rw [Int32.lt_iff_toInt_lt, iN_toInt hx, iN_toInt hy]
theorem iN_le {x y : Int} (hx : -2147483648 ≤ x ∧ x ≤ 2147483647) (hy : -2147483648 ≤ y ∧ y ≤ 2147483647) : iN x ≤ iN y ↔ x ≤ y := by
  rw [Int32.le_iff_toInt_le, iN_toInt hx, iN_toInt hy]
theorem iN_eq {x y : Int} (hx : -2147483648 ≤ x ∧ x ≤ 2147483647) (hy : -2147483648 ≤ y ∧ y ≤ 2147483647) : iN x = iN y ↔ x = y := by
  rw [← Int32.toInt_inj, iN_toInt hx, iN_toInt hy]
theorem jN_lt {x y : Int} (hx : -9223372036854775808 ≤ x ∧ x ≤ 9223372036854775807) (hy : -9223372036854775808 ≤ y ∧ y ≤ 9223372036854775807) : jN x < jN y ↔ x < y := by
  rw [Int64.lt_iff_toInt_lt, jN_toInt hx, jN_toInt hy]
theorem jN_eq {x y : Int} (hx : -9223372036854775808 ≤ x ∧ x ≤ 9223372036854775807) (hy : -9223372036854775808 ≤ y ∧ y ≤ 9223372036854775807) : jN x = jN y ↔ x = y := by
  rw [← Int64.toInt_inj, jN_toInt hx, jN_toInt hy]
theorem iN_of (x : Int32) : ∃ z : Int, (-2147483648 ≤ z ∧ z ≤ 2147483647) ∧ x = iN z := by
  refine ⟨x.toInt, ⟨?_, ?_⟩, (Int32.ofInt_toInt x).symm⟩
  · have := x.le_toInt
    omega
  · have := x.toInt_lt
    omega
theorem jN_of (x : Int64) : ∃ z : Int, (-9223372036854775808 ≤ z ∧ z ≤ 9223372036854775807) ∧ x = jN z := by
  refine ⟨x.toInt, ⟨?_, ?_⟩, (Int64.ofInt_toInt x).symm⟩
  · have := x.le_toInt
    omega
  · have := x.toInt_lt
    omega
theorem iN_nI (n : Nat) : iN (n : Int) = nI n := Int32.ofInt_eq_ofNat
theorem jN_lN (n : Nat) : jN (n : Int) = lN n := Int64.ofInt_eq_ofNat
theorem iN_clamp {n : Nat} (h : n ≤ 2147483647) : (iN (n : Int)).toNatClampNeg = n := by
  rw [iN_nI]; exact nI_clamp (by omega)
theorem iN_in {n N : Nat} (h : n < N) (hN : N ≤ 2147483647) : vp_in (iN (n : Int)) N := by
  rw [iN_nI]; exact vp_in_nI h (by omega)
theorem iN_j {z : Int} (h : -2147483648 ≤ z ∧ z ≤ 2147483647) : (iN z).toInt64 = jN z := by
  rw [← Int64.toInt_inj, Int32.toInt_toInt64, iN_toInt h, jN_toInt (by omega)]
theorem jN_i (z : Int) : (jN z).toInt32 = iN z := by
  rw [← Int32.toInt_inj]
  show ((jN z).toInt32).toInt = (Int32.ofInt z).toInt
  simp [jN]
theorem iN_div {x y : Int} (hx : 0 ≤ x ∧ x ≤ 2147483647) (hy : 0 < y ∧ y ≤ 2147483647) : iN x / iN y = iN (x / y) := by
  obtain ⟨a, rfl⟩ := Int.eq_ofNat_of_zero_le hx.1
  obtain ⟨b, rfl⟩ := Int.eq_ofNat_of_zero_le (Int.le_of_lt hy.1)
  rw [iN_nI, iN_nI, pk_div (by omega) (by omega) (by omega), ← iN_nI]
  rfl
theorem iN_rem {x y : Int} (hx : 0 ≤ x ∧ x ≤ 2147483647) (hy : 0 < y ∧ y ≤ 2147483647) : iN x - iN x / iN y * iN y = iN (x % y) := by
  rw [iN_div hx hy, iN_mul, iN_sub]
  congr 1
  rw [Int.emod_def, Int.mul_comm]
theorem iN_ne0 {y : Int} (hy : 0 < y ∧ y ≤ 2147483647) : ¬ iN y = 0 := by
  intro h
  have : iN y = iN 0 := h
  rw [iN_eq (by omega) (by omega)] at this
  omega
/-! memories and layouts -/
abbrev Mem : Type := Nat → Nat → Int
def up (V : Mem) (k i : Nat) (v : Int) : Mem := fun c j => if c = k ∧ j = i then v else V c j
theorem up_eq {V : Mem} {k i : Nat} {v : Int} : up V k i v k i = v := if_pos ⟨rfl, rfl⟩
theorem up_ne {V : Mem} {k i c j : Nat} {v : Int} (h : c ≠ k ∨ j ≠ i) : up V k i v c j = V c j := if_neg (fun q => h.elim (fun z => z q.1) (fun z => z q.2))
theorem up_ne1 {V : Mem} {k i c : Nat} {v : Int} (h : c ≠ k) : up V k i v c = V c := funext fun _ => up_ne (Or.inl h)
abbrev Lay : Type := Nat × ((Nat → Nat) → Nat → (Nat → Int) → va_E)
def wsOf (L : Lay) (a : Nat → Nat) (V : Mem) : va_W := (List.range L.1).map (fun k => (a k, L.2 a k (V k)))
theorem wsOf_at {L : Lay} {a : Nat → Nat} {V : Mem} {k : Nat} (h : k < L.1) : (wsOf L a V)[k]? = some (a k, L.2 a k (V k)) := by
  simp [wsOf, List.getElem?_map, List.getElem?_range h]
theorem wsOf_of {L : Lay} {a : Nat → Nat} {V : Mem} {k : Nat} {q : Nat × va_E} (h : (wsOf L a V)[k]? = some q) : k < L.1 ∧ q = (a k, L.2 a k (V k)) := by
  have hk : k < L.1 := by
    have := (List.getElem?_eq_some_iff.mp h).1
    simpa [wsOf] using this
  rw [wsOf_at hk] at h
  exact ⟨hk, (Option.some.inj h).symm⟩
theorem wsOf_set {L : Lay} {a : Nat → Nat} {V V' : Mem} {k : Nat} {e : va_E} (he : L.2 a k (V' k) = e) (ho : ∀ c, c ≠ k → V' c = V c) : (wsOf L a V).set k (a k, e) = wsOf L a V' := by
  apply List.ext_getElem?
  intro j
  rw [List.getElem?_set]
  by_cases hj : k = j
  · subst hj
    simp only [if_true]
    by_cases hk : k < L.1
    · rw [wsOf_at hk, he]
      simp [wsOf, hk]
    · simp [wsOf, hk]
  · rw [if_neg hj]
    by_cases hk : j < L.1
    · rw [wsOf_at hk, wsOf_at hk, ho j (Ne.symm hj)]
    · simp [wsOf, hk]
def Apart (L : Lay) (a : Nat → Nat) : Prop := ∀ i j, i < L.1 → j < L.1 → a i = a j → i = j
theorem wsOf_D {L : Lay} {a : Nat → Nat} {V : Mem} {A : Nat → Prop} (h : Apart L a) (hA : ∀ k, k < L.1 → A (a k)) : va_D A (wsOf L a V) := by
  refine ⟨fun i j p q hi hj e => ?_, fun k q hk => ?_⟩
  · obtain ⟨h1, rfl⟩ := wsOf_of hi
    obtain ⟨h2, rfl⟩ := wsOf_of hj
    exact h i j h1 h2 e
  · obtain ⟨h1, rfl⟩ := wsOf_of hk
    exact hA k h1
def rgA (L : Lay) (a : Nat → Nat) (sz : Nat) : Nat → Prop := fun q => (∃ k, k < L.1 ∧ q = a k) ∨ sz ≤ q
end
section
/-! the judgement: the machine stands at pc of a method, locals lv, stack st, the layout's cells hold the memory V -/
abbrev MInf : Type := ByteArray × Nat × String × Option FieldType × Room
abbrev Ctx : Type := Program × Env × State × MethodId × Array Value × List Frame × Method × Code × Nat × Nat × (State → Prop) × (Nat → Prop)
def Cx (D : va_G) (tys : List (ClassId × FieldType)) (L : Lay) (a : Nat → Nat) (M : MInf) (p : Program) (s : State) (m : MethodId) (args : Array Value) (meth : Method) (c : Code) (A : Nat → Prop) : Prop :=
  p.tables.exec = Jvm.exec ∧ c.code = M.1 ∧ c.maxLocals = M.2.1 ∧ s.vm.findClass M.2.2.1 = some m.cls ∧ (∀ w ∈ gw, w.before args s = true) ∧ va_K D vwCl tys s ∧ Apart L a ∧ (∀ k, k < L.1 → A (a k)) ∧ (∀ q, s.heap.size ≤ q → A q) ∧ meth.sig.returnType = M.2.2.2.1 ∧ meth.locks = false
def G (l : Launch) (D : va_G) (tys : List (ClassId × FieldType)) (L : Lay) (a : Nat → Nat) (M : MInf) (x : Ctx) (pc : Nat) (lv : List (Nat × Value)) (st : List Value) (V : Mem) : Prop :=
  match x with
  | (p, e, s, m, args, below, meth, c, cells, slots, Q, A) => Cx D tys L a M p s m args meth c A → ∀ (ls : Array Slot) (H : Heap) (locs : List Loc), lv_has ls M.2.1 lv → va_P D vwCl (wsOf L a V) H → va_S A s.heap H locs → W p l e M.2.2.2.2 s m args below meth c H locs cells slots Q (F0 m pc ls st)
section GG
variable {l : Launch} {D : va_G} {tys : List (ClassId × FieldType)} {L : Lay} {a : Nat → Nat} {M : MInf} {x : Ctx} {pc : Nat} {lv lv' : List (Nat × Value)} {st : List Value} {V : Mem}
/-- fewer locals, in another order -/
theorem g_lv (ks : List Nat) (h : lv_pick lv ks = lv') (k : G l D tys L a M x pc lv' st V) : G l D tys L a M x pc lv st V := by
  obtain ⟨p, e, s, m, args, below, meth, c, cells, slots, Q, A⟩ := x
  exact fun cx ls H locs hl hP hS => k cx ls H locs (lv_sub hl ks h) hP hS
/-- the memory by another name -/
theorem g_mem {V' : Mem} (h : V = V') (k : G l D tys L a M x pc lv st V') : G l D tys L a M x pc lv st V := h ▸ k
theorem g_top {u v : Int} (h : u = v) (k : G l D tys L a M x pc lv (.int (iN v) :: st) V) : G l D tys L a M x pc lv (.int (iN u) :: st) V := h ▸ k
theorem g_topl {u v : Int} (h : u = v) (k : G l D tys L a M x pc lv (.long (jN v) :: st) V) : G l D tys L a M x pc lv (.long (jN u) :: st) V := h ▸ k
theorem g_iconst {n : Int} (d : decode M.1 pc = .ok (.iconst n, 1)) (k : G l D tys L a M x (pc + 1) lv (.int (iN n) :: st) V) : G l D tys L a M x pc lv st V := by
  obtain ⟨p, e, s, m, args, below, meth, c, cells, slots, Q, A⟩ := x
  exact fun cx ls H locs hl hP hS => lv_iconst cx.1 cx.2.1 d rfl (k cx ls H locs hl hP hS)
theorem g_bipush {n : Int} (d : decode M.1 pc = .ok (.bipush n, 2)) (hv : (Int8.ofInt n).toInt32 = iN n) (k : G l D tys L a M x (pc + 2) lv (.int (iN n) :: st) V) : G l D tys L a M x pc lv st V := by
  obtain ⟨p, e, s, m, args, below, meth, c, cells, slots, Q, A⟩ := x
  exact fun cx ls H locs hl hP hS => lv_bipush cx.1 cx.2.1 d hv (k cx ls H locs hl hP hS)
theorem g_sipush {n : Int} (d : decode M.1 pc = .ok (.sipush n, 3)) (hv : (Int16.ofInt n).toInt32 = iN n) (k : G l D tys L a M x (pc + 3) lv (.int (iN n) :: st) V) : G l D tys L a M x pc lv st V := by
  obtain ⟨p, e, s, m, args, below, meth, c, cells, slots, Q, A⟩ := x
  exact fun cx ls H locs hl hP hS => lv_sipush cx.1 cx.2.1 d hv (k cx ls H locs hl hP hS)
theorem g_lconst {n : Fin 2} (z : Int) (d : decode M.1 pc = .ok (.lconst n, 1)) (hv : Int64.ofNat (n : Nat) = jN z) (k : G l D tys L a M x (pc + 1) lv (.long (jN z) :: st) V) : G l D tys L a M x pc lv st V := by
  obtain ⟨p, e, s, m, args, below, meth, c, cells, slots, Q, A⟩ := x
  exact fun cx ls H locs hl hP hS => lv_lconst cx.1 cx.2.1 d hv (k cx ls H locs hl hP hS)
theorem g_ldc {index : Nat} {w : Int32} (z : Int) (hw : Cond.constant M.2.2.1 index w ∈ gw) (hv : w = iN z) (d : decode M.1 pc = .ok (.ldc index, 2)) (k : G l D tys L a M x (pc + 2) lv (.int (iN z) :: st) V) : G l D tys L a M x pc lv st V := by
  obtain ⟨p, e, s, m, args, below, meth, c, cells, slots, Q, A⟩ := x
  subst hv
  exact fun cx ls H locs hl hP hS => lv_ldc cx.1 cx.2.1 cx.2.2.2.1 (cx.2.2.2.2.1 _ hw) d (k cx ls H locs hl hP hS)
theorem g_ldc2 {index : Nat} {w : Int64} (z : Int) (hw : Cond.constantLong M.2.2.1 index w ∈ gw) (hv : w = jN z) (d : decode M.1 pc = .ok (.ldc2_w index, 3)) (k : G l D tys L a M x (pc + 3) lv (.long (jN z) :: st) V) : G l D tys L a M x pc lv st V := by
  obtain ⟨p, e, s, m, args, below, meth, c, cells, slots, Q, A⟩ := x
  subst hv
  exact fun cx ls H locs hl hP hS => lv_ldc2 cx.1 cx.2.1 cx.2.2.2.1 (cx.2.2.2.2.1 _ hw) d (k cx ls H locs hl hP hS)
theorem g_iload_n {j : Fin 4} (q : Nat) {i : Nat} {v : Int} (d : decode M.1 pc = .ok (.iload_n j, 1)) (hi : (j : Nat) = i) (hk : lv[q]? = some (i, .int (iN v))) (k : G l D tys L a M x (pc + 1) lv (.int (iN v) :: st) V) : G l D tys L a M x pc lv st V := by
  obtain ⟨p, e, s, m, args, below, meth, c, cells, slots, Q, A⟩ := x
  exact fun cx ls H locs hl hP hS => lv_iload_n cx.1 cx.2.1 d hi (lv_at hl q hk) (k cx ls H locs hl hP hS)
theorem g_iload (q : Nat) {i : Nat} {v : Int} (d : decode M.1 pc = .ok (.iload i, 2)) (hk : lv[q]? = some (i, .int (iN v))) (k : G l D tys L a M x (pc + 2) lv (.int (iN v) :: st) V) : G l D tys L a M x pc lv st V := by
  obtain ⟨p, e, s, m, args, below, meth, c, cells, slots, Q, A⟩ := x
  exact fun cx ls H locs hl hP hS => lv_iload cx.1 cx.2.1 d (lv_at hl q hk) (k cx ls H locs hl hP hS)
theorem g_lload_n {j : Fin 4} (q : Nat) {i : Nat} {v : Int} (d : decode M.1 pc = .ok (.lload_n j, 1)) (hi : (j : Nat) = i) (hk : lv[q]? = some (i, .long (jN v))) (k : G l D tys L a M x (pc + 1) lv (.long (jN v) :: st) V) : G l D tys L a M x pc lv st V := by
  obtain ⟨p, e, s, m, args, below, meth, c, cells, slots, Q, A⟩ := x
  exact fun cx ls H locs hl hP hS => lv_lload_n cx.1 cx.2.1 d hi (lv_at hl q hk) (k cx ls H locs hl hP hS)
theorem g_lload (q : Nat) {i : Nat} {v : Int} (d : decode M.1 pc = .ok (.lload i, 2)) (hk : lv[q]? = some (i, .long (jN v))) (k : G l D tys L a M x (pc + 2) lv (.long (jN v) :: st) V) : G l D tys L a M x pc lv st V := by
  obtain ⟨p, e, s, m, args, below, meth, c, cells, slots, Q, A⟩ := x
  exact fun cx ls H locs hl hP hS => lv_lload cx.1 cx.2.1 d (lv_at hl q hk) (k cx ls H locs hl hP hS)
theorem g_aload_n {j : Fin 4} (q : Nat) {i y : Nat} (d : decode M.1 pc = .ok (.aload_n j, 1)) (hi : (j : Nat) = i) (hk : lv[q]? = some (i, .ref y)) (k : G l D tys L a M x (pc + 1) lv (.ref y :: st) V) : G l D tys L a M x pc lv st V := by
  obtain ⟨p, e, s, m, args, below, meth, c, cells, slots, Q, A⟩ := x
  exact fun cx ls H locs hl hP hS => lv_aload_n cx.1 cx.2.1 d hi (lv_at hl q hk) (k cx ls H locs hl hP hS)
theorem g_aload (q : Nat) {i y : Nat} (d : decode M.1 pc = .ok (.aload i, 2)) (hk : lv[q]? = some (i, .ref y)) (k : G l D tys L a M x (pc + 2) lv (.ref y :: st) V) : G l D tys L a M x pc lv st V := by
  obtain ⟨p, e, s, m, args, below, meth, c, cells, slots, Q, A⟩ := x
  exact fun cx ls H locs hl hP hS => lv_aload cx.1 cx.2.1 d (lv_at hl q hk) (k cx ls H locs hl hP hS)
theorem g_istore_n (lv' : List (Nat × Value)) {j : Fin 4} {i : Nat} {v : Int} (d : decode M.1 pc = .ok (.istore_n j, 1)) (hi : (j : Nat) = i) (hn : i < M.2.1) (h : (i, Value.int (iN v)) :: lv.filter (fun q => !(q.1 == i) && !(q.1 + 1 == i && q.2.category == 2)) = lv') (k : G l D tys L a M x (pc + 1) lv' st V) : G l D tys L a M x pc lv (.int (iN v) :: st) V := by
  obtain ⟨p, e, s, m, args, below, meth, c, cells, slots, Q, A⟩ := x
  exact fun cx ls H locs hl hP hS => lv_istore_n cx.1 cx.2.1 d hi hl hn h (fun ls' hl' => k cx ls' H locs hl' hP hS)
theorem g_istore (lv' : List (Nat × Value)) {i : Nat} {v : Int} (d : decode M.1 pc = .ok (.istore i, 2)) (hn : i < M.2.1) (h : (i, Value.int (iN v)) :: lv.filter (fun q => !(q.1 == i) && !(q.1 + 1 == i && q.2.category == 2)) = lv') (k : G l D tys L a M x (pc + 2) lv' st V) : G l D tys L a M x pc lv (.int (iN v) :: st) V := by
  obtain ⟨p, e, s, m, args, below, meth, c, cells, slots, Q, A⟩ := x
  exact fun cx ls H locs hl hP hS => lv_istore cx.1 cx.2.1 d hl hn h (fun ls' hl' => k cx ls' H locs hl' hP hS)
theorem g_lstore_n (lv' : List (Nat × Value)) {j : Fin 4} {i : Nat} {v : Int} (d : decode M.1 pc = .ok (.lstore_n j, 1)) (hi : (j : Nat) = i) (hn : i + 1 < M.2.1) (h : (i, Value.long (jN v)) :: lv.filter (fun q => !(q.1 == i) && (!(q.1 == i + 1) && !(q.1 + 1 == i && q.2.category == 2))) = lv') (k : G l D tys L a M x (pc + 1) lv' st V) : G l D tys L a M x pc lv (.long (jN v) :: st) V := by
  obtain ⟨p, e, s, m, args, below, meth, c, cells, slots, Q, A⟩ := x
  exact fun cx ls H locs hl hP hS => lv_lstore_n cx.1 cx.2.1 d hi hl hn h (fun ls' hl' => k cx ls' H locs hl' hP hS)
theorem g_lstore (lv' : List (Nat × Value)) {i : Nat} {v : Int} (d : decode M.1 pc = .ok (.lstore i, 2)) (hn : i + 1 < M.2.1) (h : (i, Value.long (jN v)) :: lv.filter (fun q => !(q.1 == i) && (!(q.1 == i + 1) && !(q.1 + 1 == i && q.2.category == 2))) = lv') (k : G l D tys L a M x (pc + 2) lv' st V) : G l D tys L a M x pc lv (.long (jN v) :: st) V := by
  obtain ⟨p, e, s, m, args, below, meth, c, cells, slots, Q, A⟩ := x
  exact fun cx ls H locs hl hP hS => lv_lstore cx.1 cx.2.1 d hl hn h (fun ls' hl' => k cx ls' H locs hl' hP hS)
theorem g_astore_n (lv' : List (Nat × Value)) {j : Fin 4} {i y : Nat} (d : decode M.1 pc = .ok (.astore_n j, 1)) (hi : (j : Nat) = i) (hn : i < M.2.1) (h : (i, Value.ref y) :: lv.filter (fun q => !(q.1 == i) && !(q.1 + 1 == i && q.2.category == 2)) = lv') (k : G l D tys L a M x (pc + 1) lv' st V) : G l D tys L a M x pc lv (.ref y :: st) V := by
  obtain ⟨p, e, s, m, args, below, meth, c, cells, slots, Q, A⟩ := x
  exact fun cx ls H locs hl hP hS => lv_astore_n cx.1 cx.2.1 d hi hl hn h (fun ls' hl' => k cx ls' H locs hl' hP hS)
theorem g_astore (lv' : List (Nat × Value)) {i y : Nat} (d : decode M.1 pc = .ok (.astore i, 2)) (hn : i < M.2.1) (h : (i, Value.ref y) :: lv.filter (fun q => !(q.1 == i) && !(q.1 + 1 == i && q.2.category == 2)) = lv') (k : G l D tys L a M x (pc + 2) lv' st V) : G l D tys L a M x pc lv (.ref y :: st) V := by
  obtain ⟨p, e, s, m, args, below, meth, c, cells, slots, Q, A⟩ := x
  exact fun cx ls H locs hl hP hS => lv_astore cx.1 cx.2.1 d hl hn h (fun ls' hl' => k cx ls' H locs hl' hP hS)
theorem g_iinc (q : Nat) (lv' : List (Nat × Value)) {i : Nat} {n v : Int} (d : decode M.1 pc = .ok (.iinc i n, 3)) (hk : lv[q]? = some (i, .int (iN v))) (hn : i < M.2.1) (h : (i, Value.int (iN (v + n))) :: lv.filter (fun q => !(q.1 == i) && !(q.1 + 1 == i && q.2.category == 2)) = lv') (k : G l D tys L a M x (pc + 3) lv' st V) : G l D tys L a M x pc lv st V := by
  obtain ⟨p, e, s, m, args, below, meth, c, cells, slots, Q, A⟩ := x
  exact fun cx ls H locs hl hP hS => lv_iinc cx.1 cx.2.1 d hl hk (iN_add v n) hn h (fun ls' hl' => k cx ls' H locs hl' hP hS)
theorem g_iadd {u v : Int} (d : decode M.1 pc = .ok (.iadd, 1)) (k : G l D tys L a M x (pc + 1) lv (.int (iN (u + v)) :: st) V) : G l D tys L a M x pc lv (.int (iN v) :: .int (iN u) :: st) V := by
  obtain ⟨p, e, s, m, args, below, meth, c, cells, slots, Q, A⟩ := x
  exact fun cx ls H locs hl hP hS => lv_iadd cx.1 cx.2.1 d (by rw [iN_add]; exact k cx ls H locs hl hP hS)
theorem g_isub {u v : Int} (d : decode M.1 pc = .ok (.isub, 1)) (k : G l D tys L a M x (pc + 1) lv (.int (iN (u - v)) :: st) V) : G l D tys L a M x pc lv (.int (iN v) :: .int (iN u) :: st) V := by
  obtain ⟨p, e, s, m, args, below, meth, c, cells, slots, Q, A⟩ := x
  exact fun cx ls H locs hl hP hS => lv_isub cx.1 cx.2.1 d (by rw [iN_sub]; exact k cx ls H locs hl hP hS)
theorem g_imul {u v : Int} (d : decode M.1 pc = .ok (.imul, 1)) (k : G l D tys L a M x (pc + 1) lv (.int (iN (u * v)) :: st) V) : G l D tys L a M x pc lv (.int (iN v) :: .int (iN u) :: st) V := by
  obtain ⟨p, e, s, m, args, below, meth, c, cells, slots, Q, A⟩ := x
  exact fun cx ls H locs hl hP hS => lv_imul cx.1 cx.2.1 d (by rw [iN_mul]; exact k cx ls H locs hl hP hS)
theorem g_idiv {u v : Int} (d : decode M.1 pc = .ok (.idiv, 1)) (hu : 0 ≤ u ∧ u ≤ 2147483647) (hv : 0 < v ∧ v ≤ 2147483647) (k : G l D tys L a M x (pc + 1) lv (.int (iN (u / v)) :: st) V) : G l D tys L a M x pc lv (.int (iN v) :: .int (iN u) :: st) V := by
  obtain ⟨p, e, s, m, args, below, meth, c, cells, slots, Q, A⟩ := x
  exact fun cx ls H locs hl hP hS => lv_idiv cx.1 cx.2.1 d (iN_ne0 hv) (by rw [iN_div hu hv]; exact k cx ls H locs hl hP hS)
theorem g_irem {u v : Int} (d : decode M.1 pc = .ok (.irem, 1)) (hu : 0 ≤ u ∧ u ≤ 2147483647) (hv : 0 < v ∧ v ≤ 2147483647) (k : G l D tys L a M x (pc + 1) lv (.int (iN (u % v)) :: st) V) : G l D tys L a M x pc lv (.int (iN v) :: .int (iN u) :: st) V := by
  obtain ⟨p, e, s, m, args, below, meth, c, cells, slots, Q, A⟩ := x
  exact fun cx ls H locs hl hP hS => lv_irem cx.1 cx.2.1 d (iN_ne0 hv) (by rw [iN_rem hu hv]; exact k cx ls H locs hl hP hS)
theorem g_ladd {u v : Int} (d : decode M.1 pc = .ok (.ladd, 1)) (k : G l D tys L a M x (pc + 1) lv (.long (jN (u + v)) :: st) V) : G l D tys L a M x pc lv (.long (jN v) :: .long (jN u) :: st) V := by
  obtain ⟨p, e, s, m, args, below, meth, c, cells, slots, Q, A⟩ := x
  exact fun cx ls H locs hl hP hS => lv_ladd cx.1 cx.2.1 d (by rw [jN_add]; exact k cx ls H locs hl hP hS)
theorem g_lsub {u v : Int} (d : decode M.1 pc = .ok (.lsub, 1)) (k : G l D tys L a M x (pc + 1) lv (.long (jN (u - v)) :: st) V) : G l D tys L a M x pc lv (.long (jN v) :: .long (jN u) :: st) V := by
  obtain ⟨p, e, s, m, args, below, meth, c, cells, slots, Q, A⟩ := x
  exact fun cx ls H locs hl hP hS => lv_lsub cx.1 cx.2.1 d (by rw [jN_sub]; exact k cx ls H locs hl hP hS)
theorem g_lmul {u v : Int} (d : decode M.1 pc = .ok (.lmul, 1)) (k : G l D tys L a M x (pc + 1) lv (.long (jN (u * v)) :: st) V) : G l D tys L a M x pc lv (.long (jN v) :: .long (jN u) :: st) V := by
  obtain ⟨p, e, s, m, args, below, meth, c, cells, slots, Q, A⟩ := x
  exact fun cx ls H locs hl hP hS => lv_lmul cx.1 cx.2.1 d (by rw [jN_mul]; exact k cx ls H locs hl hP hS)
theorem g_i2l {u : Int} (d : decode M.1 pc = .ok (.i2l, 1)) (hu : -2147483648 ≤ u ∧ u ≤ 2147483647) (k : G l D tys L a M x (pc + 1) lv (.long (jN u) :: st) V) : G l D tys L a M x pc lv (.int (iN u) :: st) V := by
  obtain ⟨p, e, s, m, args, below, meth, c, cells, slots, Q, A⟩ := x
  exact fun cx ls H locs hl hP hS => lv_i2l cx.1 cx.2.1 d (iN_j hu) (k cx ls H locs hl hP hS)
theorem g_l2i {u : Int} (d : decode M.1 pc = .ok (.l2i, 1)) (k : G l D tys L a M x (pc + 1) lv (.int (iN u) :: st) V) : G l D tys L a M x pc lv (.long (jN u) :: st) V := by
  obtain ⟨p, e, s, m, args, below, meth, c, cells, slots, Q, A⟩ := x
  exact fun cx ls H locs hl hP hS => lv_l2i cx.1 cx.2.1 d (jN_i u) (k cx ls H locs hl hP hS)
theorem g_dup {va : Value} (d : decode M.1 pc = .ok (.dup, 1)) (hva : va.category = 1) (k : G l D tys L a M x (pc + 1) lv (va :: va :: st) V) : G l D tys L a M x pc lv (va :: st) V := by
  obtain ⟨p, e, s, m, args, below, meth, c, cells, slots, Q, A⟩ := x
  exact fun cx ls H locs hl hP hS => lv_dup cx.1 cx.2.1 d hva (k cx ls H locs hl hP hS)
theorem g_dup_x1 {va vb : Value} (d : decode M.1 pc = .ok (.dup_x1, 1)) (hva : va.category = 1) (hvb : vb.category = 1) (k : G l D tys L a M x (pc + 1) lv (va :: vb :: va :: st) V) : G l D tys L a M x pc lv (va :: vb :: st) V := by
  obtain ⟨p, e, s, m, args, below, meth, c, cells, slots, Q, A⟩ := x
  exact fun cx ls H locs hl hP hS => lv_dup_x1 cx.1 cx.2.1 d hva hvb (k cx ls H locs hl hP hS)
theorem g_dup2 {va vb : Value} (d : decode M.1 pc = .ok (.dup2, 1)) (hva : va.category = 1) (hvb : vb.category = 1) (k : G l D tys L a M x (pc + 1) lv (va :: vb :: va :: vb :: st) V) : G l D tys L a M x pc lv (va :: vb :: st) V := by
  obtain ⟨p, e, s, m, args, below, meth, c, cells, slots, Q, A⟩ := x
  exact fun cx ls H locs hl hP hS => lv_dup2_11 cx.1 cx.2.1 d hva hvb (k cx ls H locs hl hP hS)
theorem g_pop {va : Value} (d : decode M.1 pc = .ok (.pop, 1)) (hva : va.category = 1) (k : G l D tys L a M x (pc + 1) lv st V) : G l D tys L a M x pc lv (va :: st) V := by
  obtain ⟨p, e, s, m, args, below, meth, c, cells, slots, Q, A⟩ := x
  exact fun cx ls H locs hl hP hS => lv_pop cx.1 cx.2.1 d hva (k cx ls H locs hl hP hS)
theorem g_goto {off : Int} (tgt : Nat) (d : decode M.1 pc = .ok (.goto off, 3)) (ht : (pc : Int) + off = (tgt : Int)) (k : G l D tys L a M x tgt lv st V) : G l D tys L a M x pc lv st V := by
  obtain ⟨p, e, s, m, args, below, meth, c, cells, slots, Q, A⟩ := x
  exact fun cx ls H locs hl hP hS => lv_goto cx.1 cx.2.1 d ht (k cx ls H locs hl hP hS)
theorem g_icmp_eq {off u v : Int} (tgt : Nat) (d : decode M.1 pc = .ok (.if_icmp .eq off, 3)) (ht : (pc : Int) + off = (tgt : Int)) (kt : u = v → G l D tys L a M x tgt lv st V) (kf : ¬ u = v → G l D tys L a M x (pc + 3) lv st V) (hu : -2147483648 ≤ u ∧ u ≤ 2147483647 := by omega) (hv : -2147483648 ≤ v ∧ v ≤ 2147483647 := by omega) : G l D tys L a M x pc lv (.int (iN v) :: .int (iN u) :: st) V := by
  obtain ⟨p, e, s, m, args, below, meth, c, cells, slots, Q, A⟩ := x
  exact fun cx ls H locs hl hP hS => lv_icmp_eq cx.1 cx.2.1 d ht (fun h => kt ((iN_eq hu hv).mp h) cx ls H locs hl hP hS) (fun h => kf (fun q => h ((iN_eq hu hv).mpr q)) cx ls H locs hl hP hS)
theorem g_if_eq {off u : Int} (tgt : Nat) (d : decode M.1 pc = .ok (.ifCond .eq off, 3)) (ht : (pc : Int) + off = (tgt : Int)) (kt : u = 0 → G l D tys L a M x tgt lv st V) (kf : ¬ u = 0 → G l D tys L a M x (pc + 3) lv st V) (hu : -2147483648 ≤ u ∧ u ≤ 2147483647 := by omega) : G l D tys L a M x pc lv (.int (iN u) :: st) V := by
  obtain ⟨p, e, s, m, args, below, meth, c, cells, slots, Q, A⟩ := x
  have h0 : -2147483648 ≤ (0 : Int) ∧ (0 : Int) ≤ 2147483647 := by omega
  exact fun cx ls H locs hl hP hS => lv_if_eq cx.1 cx.2.1 d ht (fun h => kt ((iN_eq hu h0).mp h) cx ls H locs hl hP hS) (fun h => kf (fun q => h ((iN_eq hu h0).mpr q)) cx ls H locs hl hP hS)
theorem g_icmp_ne {off u v : Int} (tgt : Nat) (d : decode M.1 pc = .ok (.if_icmp .ne off, 3)) (ht : (pc : Int) + off = (tgt : Int)) (kt : ¬ u = v → G l D tys L a M x tgt lv st V) (kf : u = v → G l D tys L a M x (pc + 3) lv st V) (hu : -2147483648 ≤ u ∧ u ≤ 2147483647 := by omega) (hv : -2147483648 ≤ v ∧ v ≤ 2147483647 := by omega) : G l D tys L a M x pc lv (.int (iN v) :: .int (iN u) :: st) V := by
  obtain ⟨p, e, s, m, args, below, meth, c, cells, slots, Q, A⟩ := x
  exact fun cx ls H locs hl hP hS => lv_icmp_ne cx.1 cx.2.1 d ht (fun h => kt (fun q => h ((iN_eq hu hv).mpr q)) cx ls H locs hl hP hS) (fun h => kf ((iN_eq hu hv).mp h) cx ls H locs hl hP hS)
theorem g_if_ne {off u : Int} (tgt : Nat) (d : decode M.1 pc = .ok (.ifCond .ne off, 3)) (ht : (pc : Int) + off = (tgt : Int)) (kt : ¬ u = 0 → G l D tys L a M x tgt lv st V) (kf : u = 0 → G l D tys L a M x (pc + 3) lv st V) (hu : -2147483648 ≤ u ∧ u ≤ 2147483647 := by omega) : G l D tys L a M x pc lv (.int (iN u) :: st) V := by
  obtain ⟨p, e, s, m, args, below, meth, c, cells, slots, Q, A⟩ := x
  have h0 : -2147483648 ≤ (0 : Int) ∧ (0 : Int) ≤ 2147483647 := by omega
  exact fun cx ls H locs hl hP hS => lv_if_ne cx.1 cx.2.1 d ht (fun h => kt (fun q => h ((iN_eq hu h0).mpr q)) cx ls H locs hl hP hS) (fun h => kf ((iN_eq hu h0).mp h) cx ls H locs hl hP hS)
theorem g_icmp_lt {off u v : Int} (tgt : Nat) (d : decode M.1 pc = .ok (.if_icmp .lt off, 3)) (ht : (pc : Int) + off = (tgt : Int)) (kt : u < v → G l D tys L a M x tgt lv st V) (kf : ¬ u < v → G l D tys L a M x (pc + 3) lv st V) (hu : -2147483648 ≤ u ∧ u ≤ 2147483647 := by omega) (hv : -2147483648 ≤ v ∧ v ≤ 2147483647 := by omega) : G l D tys L a M x pc lv (.int (iN v) :: .int (iN u) :: st) V := by
  obtain ⟨p, e, s, m, args, below, meth, c, cells, slots, Q, A⟩ := x
  exact fun cx ls H locs hl hP hS => lv_icmp_lt cx.1 cx.2.1 d ht (fun h => kt ((iN_lt hu hv).mp h) cx ls H locs hl hP hS) (fun h => kf (fun q => h ((iN_lt hu hv).mpr q)) cx ls H locs hl hP hS)
theorem g_if_lt {off u : Int} (tgt : Nat) (d : decode M.1 pc = .ok (.ifCond .lt off, 3)) (ht : (pc : Int) + off = (tgt : Int)) (kt : u < 0 → G l D tys L a M x tgt lv st V) (kf : ¬ u < 0 → G l D tys L a M x (pc + 3) lv st V) (hu : -2147483648 ≤ u ∧ u ≤ 2147483647 := by omega) : G l D tys L a M x pc lv (.int (iN u) :: st) V := by
  obtain ⟨p, e, s, m, args, below, meth, c, cells, slots, Q, A⟩ := x
  have h0 : -2147483648 ≤ (0 : Int) ∧ (0 : Int) ≤ 2147483647 := by omega
  exact fun cx ls H locs hl hP hS => lv_if_lt cx.1 cx.2.1 d ht (fun h => kt ((iN_lt hu h0).mp h) cx ls H locs hl hP hS) (fun h => kf (fun q => h ((iN_lt hu h0).mpr q)) cx ls H locs hl hP hS)
theorem g_icmp_ge {off u v : Int} (tgt : Nat) (d : decode M.1 pc = .ok (.if_icmp .ge off, 3)) (ht : (pc : Int) + off = (tgt : Int)) (kt : v ≤ u → G l D tys L a M x tgt lv st V) (kf : ¬ v ≤ u → G l D tys L a M x (pc + 3) lv st V) (hu : -2147483648 ≤ u ∧ u ≤ 2147483647 := by omega) (hv : -2147483648 ≤ v ∧ v ≤ 2147483647 := by omega) : G l D tys L a M x pc lv (.int (iN v) :: .int (iN u) :: st) V := by
  obtain ⟨p, e, s, m, args, below, meth, c, cells, slots, Q, A⟩ := x
  exact fun cx ls H locs hl hP hS => lv_icmp_ge cx.1 cx.2.1 d ht (fun h => kt ((iN_le hv hu).mp h) cx ls H locs hl hP hS) (fun h => kf (fun q => h ((iN_le hv hu).mpr q)) cx ls H locs hl hP hS)
theorem g_if_ge {off u : Int} (tgt : Nat) (d : decode M.1 pc = .ok (.ifCond .ge off, 3)) (ht : (pc : Int) + off = (tgt : Int)) (kt : 0 ≤ u → G l D tys L a M x tgt lv st V) (kf : ¬ 0 ≤ u → G l D tys L a M x (pc + 3) lv st V) (hu : -2147483648 ≤ u ∧ u ≤ 2147483647 := by omega) : G l D tys L a M x pc lv (.int (iN u) :: st) V := by
  obtain ⟨p, e, s, m, args, below, meth, c, cells, slots, Q, A⟩ := x
  have h0 : -2147483648 ≤ (0 : Int) ∧ (0 : Int) ≤ 2147483647 := by omega
  exact fun cx ls H locs hl hP hS => lv_if_ge cx.1 cx.2.1 d ht (fun h => kt ((iN_le h0 hu).mp h) cx ls H locs hl hP hS) (fun h => kf (fun q => h ((iN_le h0 hu).mpr q)) cx ls H locs hl hP hS)
theorem g_icmp_gt {off u v : Int} (tgt : Nat) (d : decode M.1 pc = .ok (.if_icmp .gt off, 3)) (ht : (pc : Int) + off = (tgt : Int)) (kt : v < u → G l D tys L a M x tgt lv st V) (kf : ¬ v < u → G l D tys L a M x (pc + 3) lv st V) (hu : -2147483648 ≤ u ∧ u ≤ 2147483647 := by omega) (hv : -2147483648 ≤ v ∧ v ≤ 2147483647 := by omega) : G l D tys L a M x pc lv (.int (iN v) :: .int (iN u) :: st) V := by
  obtain ⟨p, e, s, m, args, below, meth, c, cells, slots, Q, A⟩ := x
  exact fun cx ls H locs hl hP hS => lv_icmp_gt cx.1 cx.2.1 d ht (fun h => kt ((iN_lt hv hu).mp h) cx ls H locs hl hP hS) (fun h => kf (fun q => h ((iN_lt hv hu).mpr q)) cx ls H locs hl hP hS)
theorem g_if_gt {off u : Int} (tgt : Nat) (d : decode M.1 pc = .ok (.ifCond .gt off, 3)) (ht : (pc : Int) + off = (tgt : Int)) (kt : 0 < u → G l D tys L a M x tgt lv st V) (kf : ¬ 0 < u → G l D tys L a M x (pc + 3) lv st V) (hu : -2147483648 ≤ u ∧ u ≤ 2147483647 := by omega) : G l D tys L a M x pc lv (.int (iN u) :: st) V := by
  obtain ⟨p, e, s, m, args, below, meth, c, cells, slots, Q, A⟩ := x
  have h0 : -2147483648 ≤ (0 : Int) ∧ (0 : Int) ≤ 2147483647 := by omega
  exact fun cx ls H locs hl hP hS => lv_if_gt cx.1 cx.2.1 d ht (fun h => kt ((iN_lt h0 hu).mp h) cx ls H locs hl hP hS) (fun h => kf (fun q => h ((iN_lt h0 hu).mpr q)) cx ls H locs hl hP hS)
theorem g_icmp_le {off u v : Int} (tgt : Nat) (d : decode M.1 pc = .ok (.if_icmp .le off, 3)) (ht : (pc : Int) + off = (tgt : Int)) (kt : u ≤ v → G l D tys L a M x tgt lv st V) (kf : ¬ u ≤ v → G l D tys L a M x (pc + 3) lv st V) (hu : -2147483648 ≤ u ∧ u ≤ 2147483647 := by omega) (hv : -2147483648 ≤ v ∧ v ≤ 2147483647 := by omega) : G l D tys L a M x pc lv (.int (iN v) :: .int (iN u) :: st) V := by
  obtain ⟨p, e, s, m, args, below, meth, c, cells, slots, Q, A⟩ := x
  exact fun cx ls H locs hl hP hS => lv_icmp_le cx.1 cx.2.1 d ht (fun h => kt ((iN_le hu hv).mp h) cx ls H locs hl hP hS) (fun h => kf (fun q => h ((iN_le hu hv).mpr q)) cx ls H locs hl hP hS)
theorem g_if_le {off u : Int} (tgt : Nat) (d : decode M.1 pc = .ok (.ifCond .le off, 3)) (ht : (pc : Int) + off = (tgt : Int)) (kt : u ≤ 0 → G l D tys L a M x tgt lv st V) (kf : ¬ u ≤ 0 → G l D tys L a M x (pc + 3) lv st V) (hu : -2147483648 ≤ u ∧ u ≤ 2147483647 := by omega) : G l D tys L a M x pc lv (.int (iN u) :: st) V := by
  obtain ⟨p, e, s, m, args, below, meth, c, cells, slots, Q, A⟩ := x
  have h0 : -2147483648 ≤ (0 : Int) ∧ (0 : Int) ≤ 2147483647 := by omega
  exact fun cx ls H locs hl hP hS => lv_if_le cx.1 cx.2.1 d ht (fun h => kt ((iN_le hu h0).mp h) cx ls H locs hl hP hS) (fun h => kf (fun q => h ((iN_le hu h0).mpr q)) cx ls H locs hl hP hS)
/-! fields and arrays -/
def up1 (r : Nat → Int) (j : Nat) (v : Int) : Nat → Int := fun i => if i = j then v else r i
theorem up_self {V : Mem} {k j : Nat} {v : Int} : up V k j v k = up1 (V k) j v := funext fun i => by simp [up, up1]
theorem upd_i {r : Nat → Int} {i : Nat} {v : Int} : upd (fun j => iN (r j)) i (iN v) = fun j => iN (up1 r i v j) := funext fun j => by
  by_cases h : j = i
  · simp [upd, up1, h]
  · simp [upd, up1, h]
theorem upd_l {r : Nat → Int} {i : Nat} {v : Int} : vp_updL (fun j => jN (r j)) i (jN v) = fun j => jN (up1 r i v j) := funext fun j => by
  by_cases h : j = i
  · simp [vp_updL, up1, h]
  · simp [vp_updL, up1, h]
/-- a field as an instruction of the class own names it: pool index, class by its number, slot -/
def FLg (own : String) (idx ci j : Nat) : Prop := ∃ (C : String) (T : u_T) (N : Nat), vwCl[ci]? = some (C, T, N) ∧ j < N ∧ Cond.fieldLink own idx (T j).1 (T j).2.1 (T j).2.2.1 ∈ gw ∧ ∀ w ∈ u_ws C T N, w ∈ gw
def FLp (own : String) (idx ci j : Nat) (ty : FieldType) : Prop := ∃ (C : String) (T : u_T) (N : Nat) (ty0 : Nat → FieldType), vwCl[ci]? = some (C, T, N) ∧ j < N ∧ Cond.fieldLink own idx (T j).1 (T j).2.1 (T j).2.2.1 ∈ gw ∧ (∀ w ∈ u_ws C T N, w ∈ gw) ∧ (∀ k, k < N → parseFieldDescriptor (T k).2.2.1 = some (ty0 k)) ∧ (∀ a, a < N → ∀ b, b < N → a ≠ b → (T a).2.1 ≠ (T b).2.1) ∧ (T j).2.2.2 = false ∧ parseFieldDescriptor (T j).2.2.1 = some ty
/-- cell k is an object of class ci with these fields -/
def ObC (L : Lay) (a : Nat → Nat) (k ci : Nat) (fs : (Nat → Int) → List Value) : Prop := k < L.1 ∧ ∀ r, L.2 a k r = .inr (ci, fs r)
/-- cell k is an array of n ints; of longs; of booleans; of references to the cells g -/
def ArI (L : Lay) (a : Nat → Nat) (tys : List (ClassId × FieldType)) (k n : Nat) : Prop := k < L.1 ∧ n ≤ 2147483647 ∧ ∃ (cA : ClassId) (t0 : Nat), tys[t0]? = some (cA, .int) ∧ ∀ r, L.2 a k r = .inl (cA, n, .inl (fun j => iN (r j)))
def ArL (L : Lay) (a : Nat → Nat) (tys : List (ClassId × FieldType)) (k n : Nat) : Prop := k < L.1 ∧ n ≤ 2147483647 ∧ ∃ (cA : ClassId) (t0 : Nat), tys[t0]? = some (cA, .long) ∧ ∀ r, L.2 a k r = .inl (cA, n, .inr (.inl (fun j => jN (r j))))
def ArZ (L : Lay) (a : Nat → Nat) (tys : List (ClassId × FieldType)) (k n : Nat) : Prop := k < L.1 ∧ n ≤ 2147483647 ∧ ∃ (cA : ClassId) (t0 : Nat), tys[t0]? = some (cA, .boolean) ∧ ∀ r, L.2 a k r = .inl (cA, n, .inl (fun j => iN (r j)))
def ArQ (L : Lay) (a : Nat → Nat) (tys : List (ClassId × FieldType)) (k n : Nat) (g : Nat → Nat) : Prop := k < L.1 ∧ n ≤ 2147483647 ∧ ∃ (cA : ClassId) (t0 : Nat) (C : String), tys[t0]? = some (cA, .object C) ∧ ∀ r, L.2 a k r = .inl (cA, n, .inr (.inr (.inr (.inr (fun j => some (a (g j)))))))
theorem g_getf {idx ci j : Nat} {fs : (Nat → Int) → List Value} (k : Nat) (v : Value) (f : FLg M.2.2.1 idx ci j) (ho : ObC L a k ci fs) (d : decode M.1 pc = .ok (.getfield idx, 3)) (hv : (fs (V k))[j]? = some v) (kk : G l D tys L a M x (pc + 3) lv (v :: st) V) : G l D tys L a M x pc lv (.ref (a k) :: st) V := by
  obtain ⟨p, e, s, m, args, below, meth, c, cells, slots, Q, A⟩ := x
  obtain ⟨C, T, N, hc, hj, hl0, hin⟩ := f
  exact fun cx ls H locs hl hP hS => va_get (D := D) (C := C) (T := T) (N := N) cx.1 cx.2.1 cx.2.2.2.2.1 hin cx.2.2.2.1 cx.2.2.2.2.2.1 hP k (by rw [wsOf_at ho.1, ho.2]) hc j hj (cx.2.2.2.2.1 _ hl0) (fun _ h9 => h9) hv d (kk cx ls H locs hl hP hS)
theorem g_putf {idx ci j : Nat} {ty : FieldType} {fs : (Nat → Int) → List Value} (k : Nat) {v : Int} (w : Value) (f : FLp M.2.2.1 idx ci j ty) (ho : ObC L a k ci fs) (d : decode M.1 pc = .ok (.putfield idx, 3)) (hn : narrow ty w = w) (hfit : fits ty w = true) (hl9 : j < (fs (V k)).length) (hset : (fs (V k)).set j w = fs (up1 (V k) j v)) (kk : G l D tys L a M x (pc + 3) lv st (up V k j v)) : G l D tys L a M x pc lv (w :: .ref (a k) :: st) V := by
  obtain ⟨p, e, s, m, args, below, meth, c, cells, slots, Q, A⟩ := x
  obtain ⟨C, T, N, ty0, hc, hj, hl0, hin, hty, hnm, hfin, hd⟩ := f
  refine fun cx ls H locs hl hP hS => va_put (D := D) (C := C) (T := T) (N := N) cx.1 cx.2.1 cx.2.2.2.2.1 hin ty0 hty hnm cx.2.2.2.1 cx.2.2.2.2.2.1 hP (wsOf_D cx.2.2.2.2.2.2.1 cx.2.2.2.2.2.2.2.1) hS k (by rw [wsOf_at ho.1, ho.2]) hc j hj (cx.2.2.2.2.1 _ hl0) (fun _ h9 => h9) hfin hd hn hfit hl9 d (fun H1 locs1 hP1 hD1 hS1 => ?_)
  rw [wsOf_set (V' := up V k j v) (by rw [up_self, ho.2, hset]) (fun c9 h => up_ne1 h)] at hP1
  exact kk cx ls H1 locs1 hl hP1 hS1
theorem g_iald (k i : Nat) {n : Nat} {ix : Int} (h : ArI L a tys k n) (d : decode M.1 pc = .ok (.iaload, 1)) (he : ix = (i : Int)) (hi : i < n) (kk : G l D tys L a M x (pc + 1) lv (.int (iN (V k i)) :: st) V) : G l D tys L a M x pc lv (.int (iN ix) :: .ref (a k) :: st) V := by
  obtain ⟨p, e, s, m, args, below, meth, c, cells, slots, Q, A⟩ := x
  obtain ⟨hk, hn, cA, t0, ht, hs⟩ := h
  subst he
  exact fun cx ls H locs hl hP hS => va_iald cx.1 cx.2.1 cx.2.2.2.2.2.1 hP k t0 (f := fun j => iN (V k j)) (by rw [wsOf_at hk, hs]) ht (iN_in hi hn) d (by rw [iN_clamp (by omega)]; exact kk cx ls H locs hl hP hS)
theorem g_zald (k i : Nat) {n : Nat} {ix : Int} (h : ArZ L a tys k n) (d : decode M.1 pc = .ok (.baload, 1)) (he : ix = (i : Int)) (hi : i < n) (kk : G l D tys L a M x (pc + 1) lv (.int (iN (V k i)) :: st) V) : G l D tys L a M x pc lv (.int (iN ix) :: .ref (a k) :: st) V := by
  obtain ⟨p, e, s, m, args, below, meth, c, cells, slots, Q, A⟩ := x
  obtain ⟨hk, hn, cA, t0, ht, hs⟩ := h
  subst he
  exact fun cx ls H locs hl hP hS => va_zald cx.1 cx.2.1 cx.2.2.2.2.2.1 hP k t0 (f := fun j => iN (V k j)) (by rw [wsOf_at hk, hs]) ht (iN_in hi hn) d (by rw [iN_clamp (by omega)]; exact kk cx ls H locs hl hP hS)
theorem g_lald (k i : Nat) {n : Nat} {ix : Int} (h : ArL L a tys k n) (d : decode M.1 pc = .ok (.laload, 1)) (he : ix = (i : Int)) (hi : i < n) (kk : G l D tys L a M x (pc + 1) lv (.long (jN (V k i)) :: st) V) : G l D tys L a M x pc lv (.int (iN ix) :: .ref (a k) :: st) V := by
  obtain ⟨p, e, s, m, args, below, meth, c, cells, slots, Q, A⟩ := x
  obtain ⟨hk, hn, cA, t0, ht, hs⟩ := h
  subst he
  exact fun cx ls H locs hl hP hS => va_lald cx.1 cx.2.1 cx.2.2.2.2.2.1 hP k t0 (f := fun j => jN (V k j)) (by rw [wsOf_at hk, hs]) ht (iN_in hi hn) d (by rw [iN_clamp (by omega)]; exact kk cx ls H locs hl hP hS)
theorem g_aald (k i : Nat) {n : Nat} {g : Nat → Nat} {ix : Int} (h : ArQ L a tys k n g) (d : decode M.1 pc = .ok (.aaload, 1)) (he : ix = (i : Int)) (hi : i < n) (kk : G l D tys L a M x (pc + 1) lv (.ref (a (g i)) :: st) V) : G l D tys L a M x pc lv (.int (iN ix) :: .ref (a k) :: st) V := by
  obtain ⟨p, e, s, m, args, below, meth, c, cells, slots, Q, A⟩ := x
  obtain ⟨hk, hn, cA, t0, C, ht, hs⟩ := h
  subst he
  exact fun cx ls H locs hl hP hS => va_aldq cx.1 cx.2.1 cx.2.2.2.2.2.1 hP k t0 (f := fun j => some (a (g j))) (by rw [wsOf_at hk, hs]) ht (iN_in hi hn) d (by rw [iN_clamp (by omega)]; exact kk cx ls H locs hl hP hS)
theorem g_iast (k i : Nat) {n : Nat} {ix v : Int} (h : ArI L a tys k n) (d : decode M.1 pc = .ok (.iastore, 1)) (he : ix = (i : Int)) (hi : i < n) (kk : G l D tys L a M x (pc + 1) lv st (up V k i v)) : G l D tys L a M x pc lv (.int (iN v) :: .int (iN ix) :: .ref (a k) :: st) V := by
  obtain ⟨p, e, s, m, args, below, meth, c, cells, slots, Q, A⟩ := x
  obtain ⟨hk, hn, cA, t0, ht, hs⟩ := h
  subst he
  refine fun cx ls H locs hl hP hS => va_iast cx.1 cx.2.1 cx.2.2.2.2.2.1 hP (wsOf_D cx.2.2.2.2.2.2.1 cx.2.2.2.2.2.2.2.1) hS k t0 (f := fun j => iN (V k j)) (by rw [wsOf_at hk, hs]) ht (iN_in hi hn) d (fun H1 locs1 hP1 hD1 hS1 => ?_)
  rw [iN_clamp (by omega), upd_i, wsOf_set (V' := up V k i v) (by rw [up_self, hs]) (fun c9 h => up_ne1 h)] at hP1
  exact kk cx ls H1 locs1 hl hP1 hS1
theorem g_last (k i : Nat) {n : Nat} {ix v : Int} (h : ArL L a tys k n) (d : decode M.1 pc = .ok (.lastore, 1)) (he : ix = (i : Int)) (hi : i < n) (kk : G l D tys L a M x (pc + 1) lv st (up V k i v)) : G l D tys L a M x pc lv (.long (jN v) :: .int (iN ix) :: .ref (a k) :: st) V := by
  obtain ⟨p, e, s, m, args, below, meth, c, cells, slots, Q, A⟩ := x
  obtain ⟨hk, hn, cA, t0, ht, hs⟩ := h
  subst he
  refine fun cx ls H locs hl hP hS => va_last cx.1 cx.2.1 cx.2.2.2.2.2.1 hP (wsOf_D cx.2.2.2.2.2.2.1 cx.2.2.2.2.2.2.2.1) hS k t0 (f := fun j => jN (V k j)) (by rw [wsOf_at hk, hs]) ht (iN_in hi hn) d (fun H1 locs1 hP1 hD1 hS1 => ?_)
  rw [iN_clamp (by omega), upd_l, wsOf_set (V' := up V k i v) (by rw [up_self, hs]) (fun c9 h => up_ne1 h)] at hP1
  exact kk cx ls H1 locs1 hl hP1 hS1
theorem g_zast (k i : Nat) {n : Nat} {ix v : Int} (h : ArZ L a tys k n) (d : decode M.1 pc = .ok (.bastore, 1)) (he : ix = (i : Int)) (hi : i < n) (hv : vp_nar .boolean (iN v) = iN v) (kk : G l D tys L a M x (pc + 1) lv st (up V k i v)) : G l D tys L a M x pc lv (.int (iN v) :: .int (iN ix) :: .ref (a k) :: st) V := by
  obtain ⟨p, e, s, m, args, below, meth, c, cells, slots, Q, A⟩ := x
  obtain ⟨hk, hn, cA, t0, ht, hs⟩ := h
  subst he
  refine fun cx ls H locs hl hP hS => va_zast cx.1 cx.2.1 cx.2.2.2.2.2.1 hP (wsOf_D cx.2.2.2.2.2.2.1 cx.2.2.2.2.2.2.2.1) hS k t0 (f := fun j => iN (V k j)) (by rw [wsOf_at hk, hs]) ht (iN_in hi hn) d (fun H1 locs1 hP1 hD1 hS1 => ?_)
  rw [iN_clamp (by omega), hv, upd_i, wsOf_set (V' := up V k i v) (by rw [up_self, hs]) (fun c9 h => up_ne1 h)] at hP1
  exact kk cx ls H1 locs1 hl hP1 hS1
/-! longs compared -/
theorem g_lcmp {u v : Int} (z : Int) (d : decode M.1 pc = .ok (.lcmp, 1)) (hz : lg_cmp (jN u) (jN v) = iN z) (k : G l D tys L a M x (pc + 1) lv (.int (iN z) :: st) V) : G l D tys L a M x pc lv (.long (jN v) :: .long (jN u) :: st) V := by
  obtain ⟨p, e, s, m, args, below, meth, c, cells, slots, Q, A⟩ := x
  exact fun cx ls H locs hl hP hS => W.lcmp cx.1 cx.2.1 d (by rw [hz]; exact k cx ls H locs hl hP hS)
/-! ends -/
def QI (l : Launch) (D : va_G) (L : Lay) (a : Nat → Nat) (post : Int → Mem → Prop) (x : Ctx) : Prop :=
  match x with
  | (_, _, s, _, args, below, _, _, cells, slots, Q, A) => cells = 0 ∧ slots = 0 ∧ Q = MQ below (va_Qi (fun r V' => ∃ z, r = iN z ∧ post z V') (fun V' t => va_P D vwCl (wsOf L a V') t.heap) A) args s 0 0 A
def QL (l : Launch) (D : va_G) (L : Lay) (a : Nat → Nat) (post : Int → Mem → Prop) (x : Ctx) : Prop :=
  match x with
  | (_, _, s, _, args, below, _, _, cells, slots, Q, A) => cells = 0 ∧ slots = 0 ∧ Q = MQ below (va_Ql (fun r V' => ∃ z, r = jN z ∧ post z V') (fun V' t => va_P D vwCl (wsOf L a V') t.heap) A) args s 0 0 A
def QV (l : Launch) (D : va_G) (L : Lay) (a : Nat → Nat) (post : Mem → Prop) (x : Ctx) : Prop :=
  match x with
  | (_, _, s, _, args, below, _, _, cells, slots, Q, A) => cells = 0 ∧ slots = 0 ∧ Q = MQ below (va_Qv post (fun V' t => va_P D vwCl (wsOf L a V') t.heap) A) args s 0 0 A
theorem g_iret {post : Int → Mem → Prop} {v : Int} {ty : FieldType} (hq : QI l D L a post x) (hr : M.2.2.2.1 = some ty) (hn : narrow ty (.int (iN v)) = .int (iN v)) (d : decode M.1 pc = .ok (.ireturn, 1)) (hp : post v V) : G l D tys L a M x pc lv [.int (iN v)] V := by
  obtain ⟨p, e, s, m, args, below, meth, c, cells, slots, Q, A⟩ := x
  obtain ⟨rfl, rfl, rfl⟩ := hq
  exact fun cx ls H locs hl hP hS => W.zret cx.1 cx.2.1 (cx.2.2.2.2.2.2.2.2.2.1.trans hr) hn (fun t ht _ => ⟨⟨iN v, V, rfl, ⟨v, rfl, hp⟩, by show va_P D vwCl (wsOf L a V) t.heap; rw [ht]; exact hP⟩, hS.F ht⟩) hS.2.2 d cx.2.2.2.2.2.2.2.2.2.2
theorem g_lret {post : Int → Mem → Prop} {v : Int} (hq : QL l D L a post x) (hr : M.2.2.2.1 = some .long) (d : decode M.1 pc = .ok (.lreturn, 1)) (hp : post v V) : G l D tys L a M x pc lv [.long (jN v)] V := by
  obtain ⟨p, e, s, m, args, below, meth, c, cells, slots, Q, A⟩ := x
  obtain ⟨rfl, rfl, rfl⟩ := hq
  exact fun cx ls H locs hl hP hS => W.lret cx.1 cx.2.1 (cx.2.2.2.2.2.2.2.2.2.1.trans hr) (fun t ht _ => ⟨⟨jN v, V, rfl, ⟨v, rfl, hp⟩, by show va_P D vwCl (wsOf L a V) t.heap; rw [ht]; exact hP⟩, hS.F ht⟩) hS.2.2 d cx.2.2.2.2.2.2.2.2.2.2
theorem g_vret {post : Mem → Prop} (hq : QV l D L a post x) (hr : M.2.2.2.1 = none) (d : decode M.1 pc = .ok (.return_, 1)) (hp : post V) : G l D tys L a M x pc lv [] V := by
  obtain ⟨p, e, s, m, args, below, meth, c, cells, slots, Q, A⟩ := x
  obtain ⟨rfl, rfl, rfl⟩ := hq
  exact fun cx ls H locs hl hP hS => W.vret cx.1 cx.2.1 (cx.2.2.2.2.2.2.2.2.2.1.trans hr) (fun t ht _ => ⟨⟨V, rfl, hp, by show va_P D vwCl (wsOf L a V) t.heap; rw [ht]; exact hP⟩, hS.F ht⟩) hS.2.2 d cx.2.2.2.2.2.2.2.2.2.2
/-! contracts: a method over a layout's cells that makes no cell -/
def wsM (y : MethodName) (M : MInf) : List Cond := Cond.code y M.1 M.2.1 M.2.2.2.1 :: gw
def PcM (D : va_G) (tys : List (ClassId × FieldType)) (L : Lay) (a : Nat → Nat) (av : List Value) (V : Mem) (sz : Nat) : Array Value → State → Prop := va_Pc av (fun U => U.heap.size = sz ∧ va_P D vwCl (wsOf L a V) U.heap ∧ va_K D vwCl tys U)
def CI (l : Launch) (D : va_G) (tys : List (ClassId × FieldType)) (L : Lay) (a : Nat → Nat) (y : MethodName) (M : MInf) (av : List Value) (V : Mem) (post : Int → Mem → Prop) : Prop :=
  ∀ sz, Met l y (wsM y M) M.2.2.2.2 (PcM D tys L a av V sz) (va_Qi (fun r V' => ∃ z, r = iN z ∧ post z V') (fun V' t => va_P D vwCl (wsOf L a V') t.heap) (rgA L a sz)) 0 0 (rgA L a sz)
def CL (l : Launch) (D : va_G) (tys : List (ClassId × FieldType)) (L : Lay) (a : Nat → Nat) (y : MethodName) (M : MInf) (av : List Value) (V : Mem) (post : Int → Mem → Prop) : Prop :=
  ∀ sz, Met l y (wsM y M) M.2.2.2.2 (PcM D tys L a av V sz) (va_Ql (fun r V' => ∃ z, r = jN z ∧ post z V') (fun V' t => va_P D vwCl (wsOf L a V') t.heap) (rgA L a sz)) 0 0 (rgA L a sz)
def CV (l : Launch) (D : va_G) (tys : List (ClassId × FieldType)) (L : Lay) (a : Nat → Nat) (y : MethodName) (M : MInf) (av : List Value) (V : Mem) (post : Mem → Prop) : Prop :=
  ∀ sz, Met l y (wsM y M) M.2.2.2.2 (PcM D tys L a av V sz) (va_Qv post (fun V' t => va_P D vwCl (wsOf L a V') t.heap) (rgA L a sz)) 0 0 (rgA L a sz)
theorem CI.of {y : MethodName} {av : List Value} {post : Int → Mem → Prop} (hy : plainName y.cls = true) (hown : y.cls = M.2.2.1) (hlen : (lg_sl av).length ≤ M.2.1) (ha : Apart L a) (body : ∀ x, QI l D L a post x → G l D tys L a M x 0 (lv_args 0 av) [] V) : CI l D tys L a y M av V post := by
  intro sz
  refine Met.ofW (cc := M.1) (maxL := M.2.1) (ret := M.2.2.2.1) hy rfl ?_
  intro p e s m args below meth c s₁ B hml hv
  obtain ⟨rfl, hsz, hP, hK⟩ := hv
  subst hsz
  have hl := lv_entry av (n := M.2.1) hlen
  rw [lg_entry_eq]
  exact body (p, e, s, m, av.toArray, below, meth, c, 0, 0, _, rgA L a s.heap.size) ⟨rfl, rfl, rfl⟩ ⟨B.exec, B.bytes, hml, hown ▸ findClass_of_methodNamed B.named, fun w hw => atoms_spec (ws := wsM y M) B.pre w (List.mem_cons_of_mem _ hw), hK, ha, fun k hk => Or.inl ⟨k, hk, rfl⟩, fun q h => Or.inr h, B.returns, B.notSynchronized⟩ _ _ _ hl hP va_S.rf
theorem CL.of {y : MethodName} {av : List Value} {post : Int → Mem → Prop} (hy : plainName y.cls = true) (hown : y.cls = M.2.2.1) (hlen : (lg_sl av).length ≤ M.2.1) (ha : Apart L a) (body : ∀ x, QL l D L a post x → G l D tys L a M x 0 (lv_args 0 av) [] V) : CL l D tys L a y M av V post := by
  intro sz
  refine Met.ofW (cc := M.1) (maxL := M.2.1) (ret := M.2.2.2.1) hy rfl ?_
  intro p e s m args below meth c s₁ B hml hv
  obtain ⟨rfl, hsz, hP, hK⟩ := hv
  subst hsz
  have hl := lv_entry av (n := M.2.1) hlen
  rw [lg_entry_eq]
  exact body (p, e, s, m, av.toArray, below, meth, c, 0, 0, _, rgA L a s.heap.size) ⟨rfl, rfl, rfl⟩ ⟨B.exec, B.bytes, hml, hown ▸ findClass_of_methodNamed B.named, fun w hw => atoms_spec (ws := wsM y M) B.pre w (List.mem_cons_of_mem _ hw), hK, ha, fun k hk => Or.inl ⟨k, hk, rfl⟩, fun q h => Or.inr h, B.returns, B.notSynchronized⟩ _ _ _ hl hP va_S.rf
theorem CV.of {y : MethodName} {av : List Value} {post : Mem → Prop} (hy : plainName y.cls = true) (hown : y.cls = M.2.2.1) (hlen : (lg_sl av).length ≤ M.2.1) (ha : Apart L a) (body : ∀ x, QV l D L a post x → G l D tys L a M x 0 (lv_args 0 av) [] V) : CV l D tys L a y M av V post := by
  intro sz
  refine Met.ofW (cc := M.1) (maxL := M.2.1) (ret := M.2.2.2.1) hy rfl ?_
  intro p e s m args below meth c s₁ B hml hv
  obtain ⟨rfl, hsz, hP, hK⟩ := hv
  subst hsz
  have hl := lv_entry av (n := M.2.1) hlen
  rw [lg_entry_eq]
  exact body (p, e, s, m, av.toArray, below, meth, c, 0, 0, _, rgA L a s.heap.size) ⟨rfl, rfl, rfl⟩ ⟨B.exec, B.bytes, hml, hown ▸ findClass_of_methodNamed B.named, fun w hw => atoms_spec (ws := wsM y M) B.pre w (List.mem_cons_of_mem _ hw), hK, ha, fun k hk => Or.inl ⟨k, hk, rfl⟩, fun q h => Or.inr h, B.returns, B.notSynchronized⟩ _ _ _ hl hP va_S.rf
/-! calls -/
theorem tbl_good : GoodIn gw gw := fun w hw => ⟨hw, good_of_word (List.mem_filter.mp hw).2⟩
/-- the words of a call of y at the pool index idx of own, with n arguments behind the receiver -/
def LkV (own : String) (idx : Nat) (y : MethodName) (M2 : MInf) (n : Nat) : Prop := Cond.methodLink own idx y ∈ gw ∧ Cond.instanceMethod y ∈ gw ∧ Cond.selects y.cls y y ∈ gw ∧ Cond.initialized y.cls ∈ gw ∧ Cond.code y M2.1 M2.2.1 M2.2.2.2.1 ∈ gw ∧ y.cls ≠ "java/lang/invoke/MethodHandle" ∧ y.cls ≠ "java/lang/invoke/VarHandle" ∧ (parseMethodDescriptor y.desc).map (fun d => d.parameters.length) = some n
def LkS (own : String) (idx : Nat) (y : MethodName) (M2 : MInf) (n : Nat) : Prop := Cond.methodLink own idx y ∈ gw ∧ Cond.static y ∈ gw ∧ Cond.initialized y.cls ∈ gw ∧ Cond.code y M2.1 M2.2.1 M2.2.2.2.1 ∈ gw ∧ y.cls ≠ "java/lang/invoke/MethodHandle" ∧ y.cls ≠ "java/lang/invoke/VarHandle" ∧ (parseMethodDescriptor y.desc).map (fun d => d.parameters.length) = some n ∧ y.cls = own
def rmOk (M M2 : MInf) : Prop := M2.2.2.2.2.cells = 0 ∧ M2.2.2.2.2.slots = 0 ∧ M2.2.2.2.2.frames + 1 ≤ M.2.2.2.2.frames ∧ 8 + (M2.2.1 + 11) + M2.2.2.2.2.locals ≤ M.2.2.2.2.locals
theorem good_sub {ws : List Cond} (h : ∀ w ∈ ws, w ∈ gw) : GoodIn gw ws := fun w hw => ⟨h w hw, (tbl_good w (h w hw)).2⟩
theorem good_V {own : String} {idx n : Nat} {y : MethodName} {M2 : MInf} (h : LkV own idx y M2 n) : GoodIn gw (wsV own idx y.cls y (wsM y M2)) := by
  obtain ⟨h1, h2, h3, h4, h5, -⟩ := h
  refine good_sub fun w hw => ?_
  simp only [wsV, wsM, List.cons_append, List.nil_append, List.mem_cons] at hw
  rcases hw with rfl | rfl | rfl | rfl | rfl | hw
  · exact h1
  · exact h2
  · exact h3
  · exact h4
  · exact h5
  · exact hw
theorem good_S {own : String} {idx n : Nat} {y : MethodName} {M2 : MInf} (h : LkS own idx y M2 n) : GoodIn gw (wsS own idx y (wsM y M2)) := by
  obtain ⟨h1, h2, h4, h5, -, -, -, h8⟩ := h
  refine good_sub fun w hw => ?_
  simp only [wsS, wsM, List.cons_append, List.nil_append, List.mem_cons] at hw
  rcases hw with rfl | rfl | rfl | rfl | hw
  · exact h1
  · exact h2
  · exact h8 ▸ h4
  · exact h5
  · exact hw
theorem rg_sub {s : State} {H : Heap} {A : Nat → Prop} {locs : List Loc} (hA : ∀ k, k < L.1 → A (a k)) (hz : ∀ q, s.heap.size ≤ q → A q) (hS : va_S A s.heap H locs) : ∀ q, rgA L a H.size q → A q := by
  rintro q (⟨k, hk, rfl⟩ | h)
  · exact hA k hk
  · exact hz q (Nat.le_trans hS.1 h)
theorem blind {av : List Value} {sz : Nat} : FrameBlind (PcM D tys L a av V sz) := fun a' U g mk q => by
  obtain ⟨q0, q1, qP, qK⟩ := q
  exact ⟨q0, q1, qP, va_K.moved (u := U) (U := U.calling g mk a') (Vm.Alike.refl U.vm) qK⟩
theorem g_callI {y : MethodName} {M2 : MInf} {idx n k ci : Nat} {fs : (Nat → Int) → List Value} {C : vw_C} (As : List Value) {post : Int → Mem → Prop} (hM : CI l D tys L a y M2 (.ref (a k) :: As) V post) (hk : LkV M.2.2.1 idx y M2 n) (ho : ObC L a k ci fs) (hc : vwCl[ci]? = some C) (hcl : C.1 = y.cls) (hrm : rmOk M M2) (hn : As.length = n) (hst : (st.map fun v => v.category).sum ≤ 8) (d : decode M.1 pc = .ok (.invokevirtual idx, 3)) (st0 : List Value) (hs0 : st0 = As.reverse ++ .ref (a k) :: st) (kk : ∀ z V', post z V' → G l D tys L a M x (pc + 3) lv (.int (iN z) :: st) V') (hcs : match x with | (_, _, _, _, _, _, _, _, cells, slots, _, _) => cells ≤ M.2.2.2.2.cells ∧ slots ≤ M.2.2.2.2.slots) : G l D tys L a M x pc lv st0 V := by
  obtain ⟨p, e, s, m, args, below, meth, c, cells, slots, Q, A⟩ := x
  subst hs0
  refine fun cx ls H locs hl hP hS => ?_
  refine va_calli (va_runV (As := As) (rest := st) ⟨cx.1, cx.2.1, cx.2.2.1, cx.2.2.2.1, cx.2.2.2.2.1⟩ (hM H.size) (cwV n cx.2.2.2.2.1 (good_V hk) rfl hrm.1 hrm.2.1 ⟨rfl, hk.2.2.2.2.2⟩ ⟨hrm.2.2.1, hrm.2.2.2⟩) ⟨blind, hcl ▸ va_recv cx.2.2.2.2.2.1 hP hc (by rw [wsOf_at ho.1, ho.2]), fun U hU hW => ⟨rfl, by rw [hU], by rw [hU]; exact hP, va_K.moved hW.alike cx.2.2.2.2.2.1⟩⟩ rfl hn hl.1 rfl (lv_room hst) d hcs) hS (fun q _ h => rg_sub cx.2.2.2.2.2.2.2.1 cx.2.2.2.2.2.2.2.2.1 hS q h) (fun q h => rg_sub cx.2.2.2.2.2.2.2.1 cx.2.2.2.2.2.2.2.2.1 hS q h) (fun r u t H1 locs1 ht hvm hw hB hz1 hk1 hS1 => ?_)
  obtain ⟨z, rfl, hp⟩ := hw
  rw [ht] at hB
  exact kk z u hp cx ls H1 locs1 hl hB hS1
end GG
end
section
abbrev cX3_init : ByteArray := prog_5_method_1_code
def yX3_init : MethodName := ⟨RX3, "<init>", "()V"⟩
theorem dX3_init_0 : decode cX3_init 0 = .ok (.aload_n 0, 1) := by decide +kernel
theorem dX3_init_1 : decode cX3_init 1 = .ok (.invokespecial 3, 3) := by decide +kernel
theorem dX3_init_4 : decode cX3_init 4 = .ok (.aload_n 0, 1) := by decide +kernel
theorem dX3_init_5 : decode cX3_init 5 = .ok (.bipush 40, 2) := by decide +kernel
theorem dX3_init_7 : decode cX3_init 7 = .ok (.newarray .int, 2) := by decide +kernel
theorem dX3_init_9 : decode cX3_init 9 = .ok (.putfield 9, 3) := by decide +kernel
theorem dX3_init_12 : decode cX3_init 12 = .ok (.aload_n 0, 1) := by decide +kernel
theorem dX3_init_13 : decode cX3_init 13 = .ok (.bipush 40, 2) := by decide +kernel
theorem dX3_init_15 : decode cX3_init 15 = .ok (.newarray .int, 2) := by decide +kernel
theorem dX3_init_17 : decode cX3_init 17 = .ok (.putfield 15, 3) := by decide +kernel
theorem dX3_init_20 : decode cX3_init 20 = .ok (.aload_n 0, 1) := by decide +kernel
theorem dX3_init_21 : decode cX3_init 21 = .ok (.bipush 40, 2) := by decide +kernel
theorem dX3_init_23 : decode cX3_init 23 = .ok (.newarray .int, 2) := by decide +kernel
theorem dX3_init_25 : decode cX3_init 25 = .ok (.putfield 18, 3) := by decide +kernel
theorem dX3_init_28 : decode cX3_init 28 = .ok (.aload_n 0, 1) := by decide +kernel
theorem dX3_init_29 : decode cX3_init 29 = .ok (.bipush 40, 2) := by decide +kernel
theorem dX3_init_31 : decode cX3_init 31 = .ok (.newarray .int, 2) := by decide +kernel
theorem dX3_init_33 : decode cX3_init 33 = .ok (.putfield 21, 3) := by decide +kernel
theorem dX3_init_36 : decode cX3_init 36 = .ok (.aload_n 0, 1) := by decide +kernel
theorem dX3_init_37 : decode cX3_init 37 = .ok (.iconst 0, 1) := by decide +kernel
theorem dX3_init_38 : decode cX3_init 38 = .ok (.putfield 24, 3) := by decide +kernel
theorem dX3_init_41 : decode cX3_init 41 = .ok (.return_, 1) := by decide +kernel
abbrev cX3_add : ByteArray := prog_5_method_2_code
def yX3_add : MethodName := ⟨RX3, "add", "(IIII)I"⟩
theorem dX3_add_0 : decode cX3_add 0 = .ok (.aload_n 0, 1) := by decide +kernel
theorem dX3_add_1 : decode cX3_add 1 = .ok (.getfield 24, 3) := by decide +kernel
theorem dX3_add_4 : decode cX3_add 4 = .ok (.bipush 40, 2) := by decide +kernel
theorem dX3_add_6 : decode cX3_add 6 = .ok (.if_icmp .lt 5, 3) := by decide +kernel
theorem dX3_add_9 : decode cX3_add 9 = .ok (.iconst (-1), 1) := by decide +kernel
theorem dX3_add_10 : decode cX3_add 10 = .ok (.ireturn, 1) := by decide +kernel
theorem dX3_add_11 : decode cX3_add 11 = .ok (.aload_n 0, 1) := by decide +kernel
theorem dX3_add_12 : decode cX3_add 12 = .ok (.getfield 9, 3) := by decide +kernel
theorem dX3_add_15 : decode cX3_add 15 = .ok (.aload_n 0, 1) := by decide +kernel
theorem dX3_add_16 : decode cX3_add 16 = .ok (.getfield 24, 3) := by decide +kernel
theorem dX3_add_19 : decode cX3_add 19 = .ok (.iload_n 1, 1) := by decide +kernel
theorem dX3_add_20 : decode cX3_add 20 = .ok (.iastore, 1) := by decide +kernel
theorem dX3_add_21 : decode cX3_add 21 = .ok (.aload_n 0, 1) := by decide +kernel
theorem dX3_add_22 : decode cX3_add 22 = .ok (.getfield 15, 3) := by decide +kernel
theorem dX3_add_25 : decode cX3_add 25 = .ok (.aload_n 0, 1) := by decide +kernel
theorem dX3_add_26 : decode cX3_add 26 = .ok (.getfield 24, 3) := by decide +kernel
theorem dX3_add_29 : decode cX3_add 29 = .ok (.iload_n 2, 1) := by decide +kernel
theorem dX3_add_30 : decode cX3_add 30 = .ok (.iastore, 1) := by decide +kernel
theorem dX3_add_31 : decode cX3_add 31 = .ok (.aload_n 0, 1) := by decide +kernel
theorem dX3_add_32 : decode cX3_add 32 = .ok (.getfield 18, 3) := by decide +kernel
theorem dX3_add_35 : decode cX3_add 35 = .ok (.aload_n 0, 1) := by decide +kernel
theorem dX3_add_36 : decode cX3_add 36 = .ok (.getfield 24, 3) := by decide +kernel
theorem dX3_add_39 : decode cX3_add 39 = .ok (.iload_n 3, 1) := by decide +kernel
theorem dX3_add_40 : decode cX3_add 40 = .ok (.iastore, 1) := by decide +kernel
theorem dX3_add_41 : decode cX3_add 41 = .ok (.aload_n 0, 1) := by decide +kernel
theorem dX3_add_42 : decode cX3_add 42 = .ok (.getfield 21, 3) := by decide +kernel
theorem dX3_add_45 : decode cX3_add 45 = .ok (.aload_n 0, 1) := by decide +kernel
theorem dX3_add_46 : decode cX3_add 46 = .ok (.getfield 24, 3) := by decide +kernel
theorem dX3_add_49 : decode cX3_add 49 = .ok (.iload 4, 2) := by decide +kernel
theorem dX3_add_51 : decode cX3_add 51 = .ok (.iastore, 1) := by decide +kernel
theorem dX3_add_52 : decode cX3_add 52 = .ok (.aload_n 0, 1) := by decide +kernel
theorem dX3_add_53 : decode cX3_add 53 = .ok (.dup, 1) := by decide +kernel
theorem dX3_add_54 : decode cX3_add 54 = .ok (.getfield 24, 3) := by decide +kernel
theorem dX3_add_57 : decode cX3_add 57 = .ok (.iconst 1, 1) := by decide +kernel
theorem dX3_add_58 : decode cX3_add 58 = .ok (.iadd, 1) := by decide +kernel
theorem dX3_add_59 : decode cX3_add 59 = .ok (.putfield 24, 3) := by decide +kernel
theorem dX3_add_62 : decode cX3_add 62 = .ok (.aload_n 0, 1) := by decide +kernel
theorem dX3_add_63 : decode cX3_add 63 = .ok (.getfield 24, 3) := by decide +kernel
theorem dX3_add_66 : decode cX3_add 66 = .ok (.iconst 1, 1) := by decide +kernel
theorem dX3_add_67 : decode cX3_add 67 = .ok (.isub, 1) := by decide +kernel
theorem dX3_add_68 : decode cX3_add 68 = .ok (.ireturn, 1) := by decide +kernel
abbrev cX3_has : ByteArray := prog_5_method_3_code
def yX3_has : MethodName := ⟨RX3, "has", "(I)Z"⟩
theorem dX3_has_0 : decode cX3_has 0 = .ok (.iload_n 1, 1) := by decide +kernel
theorem dX3_has_1 : decode cX3_has 1 = .ok (.ifCond .lt 15, 3) := by decide +kernel
theorem dX3_has_4 : decode cX3_has 4 = .ok (.iload_n 1, 1) := by decide +kernel
theorem dX3_has_5 : decode cX3_has 5 = .ok (.aload_n 0, 1) := by decide +kernel
theorem dX3_has_6 : decode cX3_has 6 = .ok (.getfield 24, 3) := by decide +kernel
theorem dX3_has_9 : decode cX3_has 9 = .ok (.if_icmp .ge 7, 3) := by decide +kernel
theorem dX3_has_12 : decode cX3_has 12 = .ok (.iconst 1, 1) := by decide +kernel
theorem dX3_has_13 : decode cX3_has 13 = .ok (.goto 4, 3) := by decide +kernel
theorem dX3_has_16 : decode cX3_has 16 = .ok (.iconst 0, 1) := by decide +kernel
theorem dX3_has_17 : decode cX3_has 17 = .ok (.ireturn, 1) := by decide +kernel
abbrev cX3_countOf : ByteArray := prog_5_method_4_code
def yX3_countOf : MethodName := ⟨RX3, "countOf", "(I)I"⟩
theorem dX3_countOf_0 : decode cX3_countOf 0 = .ok (.iconst 0, 1) := by decide +kernel
theorem dX3_countOf_1 : decode cX3_countOf 1 = .ok (.istore_n 2, 1) := by decide +kernel
theorem dX3_countOf_2 : decode cX3_countOf 2 = .ok (.iconst 0, 1) := by decide +kernel
theorem dX3_countOf_3 : decode cX3_countOf 3 = .ok (.istore_n 3, 1) := by decide +kernel
theorem dX3_countOf_4 : decode cX3_countOf 4 = .ok (.iload_n 3, 1) := by decide +kernel
theorem dX3_countOf_5 : decode cX3_countOf 5 = .ok (.aload_n 0, 1) := by decide +kernel
theorem dX3_countOf_6 : decode cX3_countOf 6 = .ok (.getfield 24, 3) := by decide +kernel
theorem dX3_countOf_9 : decode cX3_countOf 9 = .ok (.if_icmp .ge 22, 3) := by decide +kernel
theorem dX3_countOf_12 : decode cX3_countOf 12 = .ok (.aload_n 0, 1) := by decide +kernel
theorem dX3_countOf_13 : decode cX3_countOf 13 = .ok (.getfield 9, 3) := by decide +kernel
theorem dX3_countOf_16 : decode cX3_countOf 16 = .ok (.iload_n 3, 1) := by decide +kernel
theorem dX3_countOf_17 : decode cX3_countOf 17 = .ok (.iaload, 1) := by decide +kernel
theorem dX3_countOf_18 : decode cX3_countOf 18 = .ok (.iload_n 1, 1) := by decide +kernel
theorem dX3_countOf_19 : decode cX3_countOf 19 = .ok (.if_icmp .ne 6, 3) := by decide +kernel
theorem dX3_countOf_22 : decode cX3_countOf 22 = .ok (.iinc 2 1, 3) := by decide +kernel
theorem dX3_countOf_25 : decode cX3_countOf 25 = .ok (.iinc 3 1, 3) := by decide +kernel
theorem dX3_countOf_28 : decode cX3_countOf 28 = .ok (.goto (-24), 3) := by decide +kernel
theorem dX3_countOf_31 : decode cX3_countOf 31 = .ok (.iload_n 2, 1) := by decide +kernel
theorem dX3_countOf_32 : decode cX3_countOf 32 = .ok (.ireturn, 1) := by decide +kernel
abbrev cX3_sameHeight : ByteArray := prog_5_method_5_code
def yX3_sameHeight : MethodName := ⟨RX3, "sameHeight", "(II)Z"⟩
theorem dX3_sameHeight_0 : decode cX3_sameHeight 0 = .ok (.aload_n 0, 1) := by decide +kernel
theorem dX3_sameHeight_1 : decode cX3_sameHeight 1 = .ok (.getfield 21, 3) := by decide +kernel
theorem dX3_sameHeight_4 : decode cX3_sameHeight 4 = .ok (.iload_n 1, 1) := by decide +kernel
theorem dX3_sameHeight_5 : decode cX3_sameHeight 5 = .ok (.iaload, 1) := by decide +kernel
theorem dX3_sameHeight_6 : decode cX3_sameHeight 6 = .ok (.aload_n 0, 1) := by decide +kernel
theorem dX3_sameHeight_7 : decode cX3_sameHeight 7 = .ok (.getfield 21, 3) := by decide +kernel
theorem dX3_sameHeight_10 : decode cX3_sameHeight 10 = .ok (.iload_n 2, 1) := by decide +kernel
theorem dX3_sameHeight_11 : decode cX3_sameHeight 11 = .ok (.iaload, 1) := by decide +kernel
theorem dX3_sameHeight_12 : decode cX3_sameHeight 12 = .ok (.if_icmp .ne 7, 3) := by decide +kernel
theorem dX3_sameHeight_15 : decode cX3_sameHeight 15 = .ok (.iconst 1, 1) := by decide +kernel
theorem dX3_sameHeight_16 : decode cX3_sameHeight 16 = .ok (.goto 4, 3) := by decide +kernel
theorem dX3_sameHeight_19 : decode cX3_sameHeight 19 = .ok (.iconst 0, 1) := by decide +kernel
theorem dX3_sameHeight_20 : decode cX3_sameHeight 20 = .ok (.ireturn, 1) := by decide +kernel
abbrev cX3_standsAhead : ByteArray := prog_5_method_6_code
def yX3_standsAhead : MethodName := ⟨RX3, "standsAhead", "(II)Z"⟩
theorem dX3_standsAhead_0 : decode cX3_standsAhead 0 = .ok (.aload_n 0, 1) := by decide +kernel
theorem dX3_standsAhead_1 : decode cX3_standsAhead 1 = .ok (.getfield 21, 3) := by decide +kernel
theorem dX3_standsAhead_4 : decode cX3_standsAhead 4 = .ok (.iload_n 1, 1) := by decide +kernel
theorem dX3_standsAhead_5 : decode cX3_standsAhead 5 = .ok (.iaload, 1) := by decide +kernel
theorem dX3_standsAhead_6 : decode cX3_standsAhead 6 = .ok (.aload_n 0, 1) := by decide +kernel
theorem dX3_standsAhead_7 : decode cX3_standsAhead 7 = .ok (.getfield 21, 3) := by decide +kernel
theorem dX3_standsAhead_10 : decode cX3_standsAhead 10 = .ok (.iload_n 2, 1) := by decide +kernel
theorem dX3_standsAhead_11 : decode cX3_standsAhead 11 = .ok (.iaload, 1) := by decide +kernel
theorem dX3_standsAhead_12 : decode cX3_standsAhead 12 = .ok (.if_icmp .eq 24, 3) := by decide +kernel
theorem dX3_standsAhead_15 : decode cX3_standsAhead 15 = .ok (.aload_n 0, 1) := by decide +kernel
theorem dX3_standsAhead_16 : decode cX3_standsAhead 16 = .ok (.getfield 21, 3) := by decide +kernel
theorem dX3_standsAhead_19 : decode cX3_standsAhead 19 = .ok (.iload_n 1, 1) := by decide +kernel
theorem dX3_standsAhead_20 : decode cX3_standsAhead 20 = .ok (.iaload, 1) := by decide +kernel
theorem dX3_standsAhead_21 : decode cX3_standsAhead 21 = .ok (.aload_n 0, 1) := by decide +kernel
theorem dX3_standsAhead_22 : decode cX3_standsAhead 22 = .ok (.getfield 21, 3) := by decide +kernel
theorem dX3_standsAhead_25 : decode cX3_standsAhead 25 = .ok (.iload_n 2, 1) := by decide +kernel
theorem dX3_standsAhead_26 : decode cX3_standsAhead 26 = .ok (.iaload, 1) := by decide +kernel
theorem dX3_standsAhead_27 : decode cX3_standsAhead 27 = .ok (.if_icmp .ge 7, 3) := by decide +kernel
theorem dX3_standsAhead_30 : decode cX3_standsAhead 30 = .ok (.iconst 1, 1) := by decide +kernel
theorem dX3_standsAhead_31 : decode cX3_standsAhead 31 = .ok (.goto 4, 3) := by decide +kernel
theorem dX3_standsAhead_34 : decode cX3_standsAhead 34 = .ok (.iconst 0, 1) := by decide +kernel
theorem dX3_standsAhead_35 : decode cX3_standsAhead 35 = .ok (.ireturn, 1) := by decide +kernel
theorem dX3_standsAhead_36 : decode cX3_standsAhead 36 = .ok (.aload_n 0, 1) := by decide +kernel
theorem dX3_standsAhead_37 : decode cX3_standsAhead 37 = .ok (.getfield 15, 3) := by decide +kernel
theorem dX3_standsAhead_40 : decode cX3_standsAhead 40 = .ok (.iload_n 1, 1) := by decide +kernel
theorem dX3_standsAhead_41 : decode cX3_standsAhead 41 = .ok (.iaload, 1) := by decide +kernel
theorem dX3_standsAhead_42 : decode cX3_standsAhead 42 = .ok (.aload_n 0, 1) := by decide +kernel
theorem dX3_standsAhead_43 : decode cX3_standsAhead 43 = .ok (.getfield 15, 3) := by decide +kernel
theorem dX3_standsAhead_46 : decode cX3_standsAhead 46 = .ok (.iload_n 2, 1) := by decide +kernel
theorem dX3_standsAhead_47 : decode cX3_standsAhead 47 = .ok (.iaload, 1) := by decide +kernel
theorem dX3_standsAhead_48 : decode cX3_standsAhead 48 = .ok (.if_icmp .eq 24, 3) := by decide +kernel
theorem dX3_standsAhead_51 : decode cX3_standsAhead 51 = .ok (.aload_n 0, 1) := by decide +kernel
theorem dX3_standsAhead_52 : decode cX3_standsAhead 52 = .ok (.getfield 15, 3) := by decide +kernel
theorem dX3_standsAhead_55 : decode cX3_standsAhead 55 = .ok (.iload_n 1, 1) := by decide +kernel
theorem dX3_standsAhead_56 : decode cX3_standsAhead 56 = .ok (.iaload, 1) := by decide +kernel
theorem dX3_standsAhead_57 : decode cX3_standsAhead 57 = .ok (.aload_n 0, 1) := by decide +kernel
theorem dX3_standsAhead_58 : decode cX3_standsAhead 58 = .ok (.getfield 15, 3) := by decide +kernel
theorem dX3_standsAhead_61 : decode cX3_standsAhead 61 = .ok (.iload_n 2, 1) := by decide +kernel
theorem dX3_standsAhead_62 : decode cX3_standsAhead 62 = .ok (.iaload, 1) := by decide +kernel
theorem dX3_standsAhead_63 : decode cX3_standsAhead 63 = .ok (.if_icmp .ge 7, 3) := by decide +kernel
theorem dX3_standsAhead_66 : decode cX3_standsAhead 66 = .ok (.iconst 1, 1) := by decide +kernel
theorem dX3_standsAhead_67 : decode cX3_standsAhead 67 = .ok (.goto 4, 3) := by decide +kernel
theorem dX3_standsAhead_70 : decode cX3_standsAhead 70 = .ok (.iconst 0, 1) := by decide +kernel
theorem dX3_standsAhead_71 : decode cX3_standsAhead 71 = .ok (.ireturn, 1) := by decide +kernel
theorem dX3_standsAhead_72 : decode cX3_standsAhead 72 = .ok (.aload_n 0, 1) := by decide +kernel
theorem dX3_standsAhead_73 : decode cX3_standsAhead 73 = .ok (.getfield 18, 3) := by decide +kernel
theorem dX3_standsAhead_76 : decode cX3_standsAhead 76 = .ok (.iload_n 1, 1) := by decide +kernel
theorem dX3_standsAhead_77 : decode cX3_standsAhead 77 = .ok (.iaload, 1) := by decide +kernel
theorem dX3_standsAhead_78 : decode cX3_standsAhead 78 = .ok (.aload_n 0, 1) := by decide +kernel
theorem dX3_standsAhead_79 : decode cX3_standsAhead 79 = .ok (.getfield 18, 3) := by decide +kernel
theorem dX3_standsAhead_82 : decode cX3_standsAhead 82 = .ok (.iload_n 2, 1) := by decide +kernel
theorem dX3_standsAhead_83 : decode cX3_standsAhead 83 = .ok (.iaload, 1) := by decide +kernel
theorem dX3_standsAhead_84 : decode cX3_standsAhead 84 = .ok (.if_icmp .eq 26, 3) := by decide +kernel
theorem dX3_standsAhead_87 : decode cX3_standsAhead 87 = .ok (.aload_n 0, 1) := by decide +kernel
theorem dX3_standsAhead_88 : decode cX3_standsAhead 88 = .ok (.getfield 18, 3) := by decide +kernel
theorem dX3_standsAhead_91 : decode cX3_standsAhead 91 = .ok (.iload_n 1, 1) := by decide +kernel
theorem dX3_standsAhead_92 : decode cX3_standsAhead 92 = .ok (.iaload, 1) := by decide +kernel
theorem dX3_standsAhead_93 : decode cX3_standsAhead 93 = .ok (.aload_n 0, 1) := by decide +kernel
theorem dX3_standsAhead_94 : decode cX3_standsAhead 94 = .ok (.getfield 18, 3) := by decide +kernel
theorem dX3_standsAhead_97 : decode cX3_standsAhead 97 = .ok (.iload_n 2, 1) := by decide +kernel
theorem dX3_standsAhead_98 : decode cX3_standsAhead 98 = .ok (.iaload, 1) := by decide +kernel
theorem dX3_standsAhead_99 : decode cX3_standsAhead 99 = .ok (.if_icmp .ge 7, 3) := by decide +kernel
theorem dX3_standsAhead_102 : decode cX3_standsAhead 102 = .ok (.iconst 1, 1) := by decide +kernel
theorem dX3_standsAhead_103 : decode cX3_standsAhead 103 = .ok (.goto 17, 3) := by decide +kernel
theorem dX3_standsAhead_106 : decode cX3_standsAhead 106 = .ok (.iconst 0, 1) := by decide +kernel
theorem dX3_standsAhead_107 : decode cX3_standsAhead 107 = .ok (.goto 13, 3) := by decide +kernel
theorem dX3_standsAhead_110 : decode cX3_standsAhead 110 = .ok (.iload_n 1, 1) := by decide +kernel
theorem dX3_standsAhead_111 : decode cX3_standsAhead 111 = .ok (.iload_n 2, 1) := by decide +kernel
theorem dX3_standsAhead_112 : decode cX3_standsAhead 112 = .ok (.if_icmp .ge 7, 3) := by decide +kernel
theorem dX3_standsAhead_115 : decode cX3_standsAhead 115 = .ok (.iconst 1, 1) := by decide +kernel
theorem dX3_standsAhead_116 : decode cX3_standsAhead 116 = .ok (.goto 4, 3) := by decide +kernel
theorem dX3_standsAhead_119 : decode cX3_standsAhead 119 = .ok (.iconst 0, 1) := by decide +kernel
theorem dX3_standsAhead_120 : decode cX3_standsAhead 120 = .ok (.ireturn, 1) := by decide +kernel
abbrev cX3_wayBetween : ByteArray := prog_5_method_7_code
def yX3_wayBetween : MethodName := ⟨RX3, "wayBetween", "(II)I"⟩
theorem dX3_wayBetween_0 : decode cX3_wayBetween 0 = .ok (.aload_n 0, 1) := by decide +kernel
theorem dX3_wayBetween_1 : decode cX3_wayBetween 1 = .ok (.iload_n 1, 1) := by decide +kernel
theorem dX3_wayBetween_2 : decode cX3_wayBetween 2 = .ok (.invokevirtual 28, 3) := by decide +kernel
theorem dX3_wayBetween_5 : decode cX3_wayBetween 5 = .ok (.ifCond .eq 12, 3) := by decide +kernel
theorem dX3_wayBetween_8 : decode cX3_wayBetween 8 = .ok (.aload_n 0, 1) := by decide +kernel
theorem dX3_wayBetween_9 : decode cX3_wayBetween 9 = .ok (.getfield 15, 3) := by decide +kernel
theorem dX3_wayBetween_12 : decode cX3_wayBetween 12 = .ok (.iload_n 1, 1) := by decide +kernel
theorem dX3_wayBetween_13 : decode cX3_wayBetween 13 = .ok (.iaload, 1) := by decide +kernel
theorem dX3_wayBetween_14 : decode cX3_wayBetween 14 = .ok (.goto 4, 3) := by decide +kernel
theorem dX3_wayBetween_17 : decode cX3_wayBetween 17 = .ok (.iconst 0, 1) := by decide +kernel
theorem dX3_wayBetween_18 : decode cX3_wayBetween 18 = .ok (.aload_n 0, 1) := by decide +kernel
theorem dX3_wayBetween_19 : decode cX3_wayBetween 19 = .ok (.iload_n 2, 1) := by decide +kernel
theorem dX3_wayBetween_20 : decode cX3_wayBetween 20 = .ok (.invokevirtual 28, 3) := by decide +kernel
theorem dX3_wayBetween_23 : decode cX3_wayBetween 23 = .ok (.ifCond .eq 12, 3) := by decide +kernel
theorem dX3_wayBetween_26 : decode cX3_wayBetween 26 = .ok (.aload_n 0, 1) := by decide +kernel
theorem dX3_wayBetween_27 : decode cX3_wayBetween 27 = .ok (.getfield 15, 3) := by decide +kernel
theorem dX3_wayBetween_30 : decode cX3_wayBetween 30 = .ok (.iload_n 2, 1) := by decide +kernel
theorem dX3_wayBetween_31 : decode cX3_wayBetween 31 = .ok (.iaload, 1) := by decide +kernel
theorem dX3_wayBetween_32 : decode cX3_wayBetween 32 = .ok (.goto 4, 3) := by decide +kernel
theorem dX3_wayBetween_35 : decode cX3_wayBetween 35 = .ok (.iconst 0, 1) := by decide +kernel
theorem dX3_wayBetween_36 : decode cX3_wayBetween 36 = .ok (.isub, 1) := by decide +kernel
theorem dX3_wayBetween_37 : decode cX3_wayBetween 37 = .ok (.istore_n 3, 1) := by decide +kernel
theorem dX3_wayBetween_38 : decode cX3_wayBetween 38 = .ok (.aload_n 0, 1) := by decide +kernel
theorem dX3_wayBetween_39 : decode cX3_wayBetween 39 = .ok (.iload_n 1, 1) := by decide +kernel
theorem dX3_wayBetween_40 : decode cX3_wayBetween 40 = .ok (.invokevirtual 28, 3) := by decide +kernel
theorem dX3_wayBetween_43 : decode cX3_wayBetween 43 = .ok (.ifCond .eq 12, 3) := by decide +kernel
theorem dX3_wayBetween_46 : decode cX3_wayBetween 46 = .ok (.aload_n 0, 1) := by decide +kernel
theorem dX3_wayBetween_47 : decode cX3_wayBetween 47 = .ok (.getfield 18, 3) := by decide +kernel
theorem dX3_wayBetween_50 : decode cX3_wayBetween 50 = .ok (.iload_n 1, 1) := by decide +kernel
theorem dX3_wayBetween_51 : decode cX3_wayBetween 51 = .ok (.iaload, 1) := by decide +kernel
theorem dX3_wayBetween_52 : decode cX3_wayBetween 52 = .ok (.goto 4, 3) := by decide +kernel
theorem dX3_wayBetween_55 : decode cX3_wayBetween 55 = .ok (.iconst 0, 1) := by decide +kernel
theorem dX3_wayBetween_56 : decode cX3_wayBetween 56 = .ok (.aload_n 0, 1) := by decide +kernel
theorem dX3_wayBetween_57 : decode cX3_wayBetween 57 = .ok (.iload_n 2, 1) := by decide +kernel
theorem dX3_wayBetween_58 : decode cX3_wayBetween 58 = .ok (.invokevirtual 28, 3) := by decide +kernel
theorem dX3_wayBetween_61 : decode cX3_wayBetween 61 = .ok (.ifCond .eq 12, 3) := by decide +kernel
theorem dX3_wayBetween_64 : decode cX3_wayBetween 64 = .ok (.aload_n 0, 1) := by decide +kernel
theorem dX3_wayBetween_65 : decode cX3_wayBetween 65 = .ok (.getfield 18, 3) := by decide +kernel
theorem dX3_wayBetween_68 : decode cX3_wayBetween 68 = .ok (.iload_n 2, 1) := by decide +kernel
theorem dX3_wayBetween_69 : decode cX3_wayBetween 69 = .ok (.iaload, 1) := by decide +kernel
theorem dX3_wayBetween_70 : decode cX3_wayBetween 70 = .ok (.goto 4, 3) := by decide +kernel
theorem dX3_wayBetween_73 : decode cX3_wayBetween 73 = .ok (.iconst 0, 1) := by decide +kernel
theorem dX3_wayBetween_74 : decode cX3_wayBetween 74 = .ok (.isub, 1) := by decide +kernel
theorem dX3_wayBetween_75 : decode cX3_wayBetween 75 = .ok (.istore 4, 2) := by decide +kernel
theorem dX3_wayBetween_77 : decode cX3_wayBetween 77 = .ok (.iload_n 3, 1) := by decide +kernel
theorem dX3_wayBetween_78 : decode cX3_wayBetween 78 = .ok (.invokestatic 32, 3) := by decide +kernel
theorem dX3_wayBetween_81 : decode cX3_wayBetween 81 = .ok (.iload 4, 2) := by decide +kernel
theorem dX3_wayBetween_83 : decode cX3_wayBetween 83 = .ok (.invokestatic 32, 3) := by decide +kernel
theorem dX3_wayBetween_86 : decode cX3_wayBetween 86 = .ok (.invokestatic 38, 3) := by decide +kernel
theorem dX3_wayBetween_89 : decode cX3_wayBetween 89 = .ok (.ireturn, 1) := by decide +kernel
end
