/-- a private method of a class that the tables say can be made, by its rows of tables_1 -/
def lw_okq (q : MethodName × Nat) : Prop := (q.1.cls ≠ "java/lang/invoke/MethodHandle" ∧ q.1.cls ≠ "java/lang/invoke/VarHandle") ∧ Cond.instantiable q.1.cls q.2 ∈ tables_1 ∧ Cond.privateMethod q.1 ∈ tables_1 ∧ Cond.instanceMethod q.1 ∈ tables_1
theorem lw_p0 : lw_okq (⟨"LifeboatHouse", "refuse", "(I)I"⟩, 15) := ⟨⟨by decide +kernel, by decide +kernel⟩, List.mem_of_getElem? (i := 22) (by decide +kernel), List.mem_of_getElem? (i := 215) (by decide +kernel), List.mem_of_getElem? (i := 216) (by decide +kernel)⟩
theorem lw_p1 : lw_okq (⟨"java/util/ArrayList", "add", "(Ljava/lang/Object;[Ljava/lang/Object;I)V"⟩, 3) := ⟨⟨by decide +kernel, by decide +kernel⟩, List.mem_of_getElem? (i := 30) (by decide +kernel), List.mem_of_getElem? (i := 265) (by decide +kernel), List.mem_of_getElem? (i := 266) (by decide +kernel)⟩
theorem lw_p2 : lw_okq (⟨"java/util/ArrayList", "grow", "()[Ljava/lang/Object;"⟩, 3) := ⟨⟨by decide +kernel, by decide +kernel⟩, List.mem_of_getElem? (i := 30) (by decide +kernel), List.mem_of_getElem? (i := 269) (by decide +kernel), List.mem_of_getElem? (i := 270) (by decide +kernel)⟩
theorem lw_p3 : lw_okq (⟨"java/util/ArrayList", "grow", "(I)[Ljava/lang/Object;"⟩, 3) := ⟨⟨by decide +kernel, by decide +kernel⟩, List.mem_of_getElem? (i := 30) (by decide +kernel), List.mem_of_getElem? (i := 273) (by decide +kernel), List.mem_of_getElem? (i := 274) (by decide +kernel)⟩
theorem lw_p4 : lw_okq (⟨"LifeboatHouse", "personAt", "(I)LLifeboatHouse$Person;"⟩, 15) := ⟨⟨by decide +kernel, by decide +kernel⟩, List.mem_of_getElem? (i := 22) (by decide +kernel), List.mem_of_getElem? (i := 324) (by decide +kernel), List.mem_of_getElem? (i := 325) (by decide +kernel)⟩
theorem lw_p5 : lw_okq (⟨"LifeboatHouse", "bandNow", "()I"⟩, 15) := ⟨⟨by decide +kernel, by decide +kernel⟩, List.mem_of_getElem? (i := 22) (by decide +kernel), List.mem_of_getElem? (i := 346) (by decide +kernel), List.mem_of_getElem? (i := 347) (by decide +kernel)⟩
theorem lw_p6 : lw_okq (⟨"LifeboatHouse", "crewChance", "(II)I"⟩, 15) := ⟨⟨by decide +kernel, by decide +kernel⟩, List.mem_of_getElem? (i := 22) (by decide +kernel), List.mem_of_getElem? (i := 369) (by decide +kernel), List.mem_of_getElem? (i := 370) (by decide +kernel)⟩
theorem lw_p7 : lw_okq (⟨"LifeboatHouse", "isOpen", "(II)Z"⟩, 15) := ⟨⟨by decide +kernel, by decide +kernel⟩, List.mem_of_getElem? (i := 22) (by decide +kernel), List.mem_of_getElem? (i := 413) (by decide +kernel), List.mem_of_getElem? (i := 414) (by decide +kernel)⟩
theorem lw_p8 : lw_okq (⟨"LifeboatHouse", "boatAt", "(I)LLifeboatHouse$Boat;"⟩, 15) := ⟨⟨by decide +kernel, by decide +kernel⟩, List.mem_of_getElem? (i := 22) (by decide +kernel), List.mem_of_getElem? (i := 460) (by decide +kernel), List.mem_of_getElem? (i := 461) (by decide +kernel)⟩
theorem lw_p9 : lw_okq (⟨"LifeboatHouse", "callAt", "(I)LLifeboatHouse$Call;"⟩, 15) := ⟨⟨by decide +kernel, by decide +kernel⟩, List.mem_of_getElem? (i := 22) (by decide +kernel), List.mem_of_getElem? (i := 502) (by decide +kernel), List.mem_of_getElem? (i := 503) (by decide +kernel)⟩
theorem lw_p10 : lw_okq (⟨"LifeboatHouse", "canGo", "(LLifeboatHouse$Boat;LLifeboatHouse$Call;)Z"⟩, 15) := ⟨⟨by decide +kernel, by decide +kernel⟩, List.mem_of_getElem? (i := 22) (by decide +kernel), List.mem_of_getElem? (i := 506) (by decide +kernel), List.mem_of_getElem? (i := 507) (by decide +kernel)⟩
theorem lw_p11 : lw_okq (⟨"LifeboatHouse", "wayOf", "(LLifeboatHouse$Boat;LLifeboatHouse$Call;)I"⟩, 15) := ⟨⟨by decide +kernel, by decide +kernel⟩, List.mem_of_getElem? (i := 22) (by decide +kernel), List.mem_of_getElem? (i := 510) (by decide +kernel), List.mem_of_getElem? (i := 511) (by decide +kernel)⟩
theorem lw_p12 : lw_okq (⟨"LifeboatHouse", "launchMinute", "(LLifeboatHouse$Boat;)I"⟩, 15) := ⟨⟨by decide +kernel, by decide +kernel⟩, List.mem_of_getElem? (i := 22) (by decide +kernel), List.mem_of_getElem? (i := 520) (by decide +kernel), List.mem_of_getElem? (i := 521) (by decide +kernel)⟩
theorem lw_p13 : lw_okq (⟨"LifeboatHouse", "reachedMinute", "(LLifeboatHouse$Boat;LLifeboatHouse$Call;)I"⟩, 15) := ⟨⟨by decide +kernel, by decide +kernel⟩, List.mem_of_getElem? (i := 22) (by decide +kernel), List.mem_of_getElem? (i := 525) (by decide +kernel), List.mem_of_getElem? (i := 526) (by decide +kernel)⟩
theorem lw_p14 : lw_okq (⟨"LifeboatHouse", "pairBoats", "(LLifeboatHouse$Call;LLifeboatHouse$Call;)V"⟩, 15) := ⟨⟨by decide +kernel, by decide +kernel⟩, List.mem_of_getElem? (i := 22) (by decide +kernel), List.mem_of_getElem? (i := 537) (by decide +kernel), List.mem_of_getElem? (i := 538) (by decide +kernel)⟩
theorem lw_p15 : lw_okq (⟨"LifeboatHouse", "boatsReadyAt", "(I)I"⟩, 15) := ⟨⟨by decide +kernel, by decide +kernel⟩, List.mem_of_getElem? (i := 22) (by decide +kernel), List.mem_of_getElem? (i := 588) (by decide +kernel), List.mem_of_getElem? (i := 589) (by decide +kernel)⟩
def lw_privs_1 : List (MethodName × Nat) := [(⟨"LifeboatHouse", "refuse", "(I)I"⟩, 15), (⟨"java/util/ArrayList", "add", "(Ljava/lang/Object;[Ljava/lang/Object;I)V"⟩, 3), (⟨"java/util/ArrayList", "grow", "()[Ljava/lang/Object;"⟩, 3), (⟨"java/util/ArrayList", "grow", "(I)[Ljava/lang/Object;"⟩, 3), (⟨"LifeboatHouse", "personAt", "(I)LLifeboatHouse$Person;"⟩, 15), (⟨"LifeboatHouse", "bandNow", "()I"⟩, 15), (⟨"LifeboatHouse", "crewChance", "(II)I"⟩, 15), (⟨"LifeboatHouse", "isOpen", "(II)Z"⟩, 15), (⟨"LifeboatHouse", "boatAt", "(I)LLifeboatHouse$Boat;"⟩, 15), (⟨"LifeboatHouse", "callAt", "(I)LLifeboatHouse$Call;"⟩, 15), (⟨"LifeboatHouse", "canGo", "(LLifeboatHouse$Boat;LLifeboatHouse$Call;)Z"⟩, 15), (⟨"LifeboatHouse", "wayOf", "(LLifeboatHouse$Boat;LLifeboatHouse$Call;)I"⟩, 15), (⟨"LifeboatHouse", "launchMinute", "(LLifeboatHouse$Boat;)I"⟩, 15), (⟨"LifeboatHouse", "reachedMinute", "(LLifeboatHouse$Boat;LLifeboatHouse$Call;)I"⟩, 15), (⟨"LifeboatHouse", "pairBoats", "(LLifeboatHouse$Call;LLifeboatHouse$Call;)V"⟩, 15), (⟨"LifeboatHouse", "boatsReadyAt", "(I)I"⟩, 15)]
theorem lw_r1 : ∀ q ∈ lw_privs_1, lw_okq q := List.forall_mem_cons.mpr ⟨lw_p0, List.forall_mem_cons.mpr ⟨lw_p1, List.forall_mem_cons.mpr ⟨lw_p2, List.forall_mem_cons.mpr ⟨lw_p3, List.forall_mem_cons.mpr ⟨lw_p4, List.forall_mem_cons.mpr ⟨lw_p5, List.forall_mem_cons.mpr ⟨lw_p6, List.forall_mem_cons.mpr ⟨lw_p7, List.forall_mem_cons.mpr ⟨lw_p8, List.forall_mem_cons.mpr ⟨lw_p9, List.forall_mem_cons.mpr ⟨lw_p10, List.forall_mem_cons.mpr ⟨lw_p11, List.forall_mem_cons.mpr ⟨lw_p12, List.forall_mem_cons.mpr ⟨lw_p13, List.forall_mem_cons.mpr ⟨lw_p14, List.forall_mem_cons.mpr ⟨lw_p15, fun _ h => absurd h List.not_mem_nil⟩⟩⟩⟩⟩⟩⟩⟩⟩⟩⟩⟩⟩⟩⟩⟩
theorem lw_p16 : lw_okq (⟨"LifeboatHouse", "planFlanks", "()V"⟩, 15) := ⟨⟨by decide +kernel, by decide +kernel⟩, List.mem_of_getElem? (i := 22) (by decide +kernel), List.mem_of_getElem? (i := 596) (by decide +kernel), List.mem_of_getElem? (i := 597) (by decide +kernel)⟩
theorem lw_p17 : lw_okq (⟨"LifeboatHouse$FlankPlan", "keepIfBetter", "(II)V"⟩, 7) := ⟨⟨by decide +kernel, by decide +kernel⟩, List.mem_of_getElem? (i := 108) (by decide +kernel), List.mem_of_getElem? (i := 612) (by decide +kernel), List.mem_of_getElem? (i := 613) (by decide +kernel)⟩
theorem lw_p18 : lw_okq (⟨"LifeboatHouse$Search", "richest", "(I)I"⟩, 4) := ⟨⟨by decide +kernel, by decide +kernel⟩, List.mem_of_getElem? (i := 140) (by decide +kernel), List.mem_of_getElem? (i := 648) (by decide +kernel), List.mem_of_getElem? (i := 649) (by decide +kernel)⟩
theorem lw_p19 : lw_okq (⟨"LifeboatHouse", "placeInTurn", "(I)I"⟩, 15) := ⟨⟨by decide +kernel, by decide +kernel⟩, List.mem_of_getElem? (i := 22) (by decide +kernel), List.mem_of_getElem? (i := 668) (by decide +kernel), List.mem_of_getElem? (i := 669) (by decide +kernel)⟩
theorem lw_p20 : lw_okq (⟨"LifeboatHouse", "boatsAway", "()I"⟩, 15) := ⟨⟨by decide +kernel, by decide +kernel⟩, List.mem_of_getElem? (i := 22) (by decide +kernel), List.mem_of_getElem? (i := 680) (by decide +kernel), List.mem_of_getElem? (i := 681) (by decide +kernel)⟩
theorem lw_p21 : lw_okq (⟨"LifeboatHouse", "stationsCovered", "()I"⟩, 15) := ⟨⟨by decide +kernel, by decide +kernel⟩, List.mem_of_getElem? (i := 22) (by decide +kernel), List.mem_of_getElem? (i := 684) (by decide +kernel), List.mem_of_getElem? (i := 685) (by decide +kernel)⟩
theorem lw_p22 : lw_okq (⟨"LifeboatHouseModel", "no", "(I)I"⟩, 40) := ⟨⟨by decide +kernel, by decide +kernel⟩, List.mem_of_getElem? (i := 688) (by decide +kernel), List.mem_of_getElem? (i := 822) (by decide +kernel), List.mem_of_getElem? (i := 823) (by decide +kernel)⟩
theorem lw_p23 : lw_okq (⟨"LifeboatHouseModel", "isPerson", "(I)Z"⟩, 40) := ⟨⟨by decide +kernel, by decide +kernel⟩, List.mem_of_getElem? (i := 688) (by decide +kernel), List.mem_of_getElem? (i := 834) (by decide +kernel), List.mem_of_getElem? (i := 835) (by decide +kernel)⟩
theorem lw_p24 : lw_okq (⟨"LifeboatHouseModel", "band", "()I"⟩, 40) := ⟨⟨by decide +kernel, by decide +kernel⟩, List.mem_of_getElem? (i := 688) (by decide +kernel), List.mem_of_getElem? (i := 842) (by decide +kernel), List.mem_of_getElem? (i := 843) (by decide +kernel)⟩
theorem lw_p25 : lw_okq (⟨"LifeboatHouseModel", "hour", "()I"⟩, 40) := ⟨⟨by decide +kernel, by decide +kernel⟩, List.mem_of_getElem? (i := 688) (by decide +kernel), List.mem_of_getElem? (i := 846) (by decide +kernel), List.mem_of_getElem? (i := 847) (by decide +kernel)⟩
theorem lw_p26 : lw_okq (⟨"LifeboatHouseModel", "day", "()I"⟩, 40) := ⟨⟨by decide +kernel, by decide +kernel⟩, List.mem_of_getElem? (i := 688) (by decide +kernel), List.mem_of_getElem? (i := 850) (by decide +kernel), List.mem_of_getElem? (i := 851) (by decide +kernel)⟩
theorem lw_p27 : lw_okq (⟨"LifeboatHouseModel", "part", "(II)I"⟩, 40) := ⟨⟨by decide +kernel, by decide +kernel⟩, List.mem_of_getElem? (i := 688) (by decide +kernel), List.mem_of_getElem? (i := 861) (by decide +kernel), List.mem_of_getElem? (i := 862) (by decide +kernel)⟩
theorem lw_p28 : lw_okq (⟨"LifeboatHouseModel", "chanceOf", "(II)I"⟩, 40) := ⟨⟨by decide +kernel, by decide +kernel⟩, List.mem_of_getElem? (i := 688) (by decide +kernel), List.mem_of_getElem? (i := 873) (by decide +kernel), List.mem_of_getElem? (i := 874) (by decide +kernel)⟩
theorem lw_p29 : lw_okq (⟨"LifeboatHouseModel", "stands", "(I)Z"⟩, 40) := ⟨⟨by decide +kernel, by decide +kernel⟩, List.mem_of_getElem? (i := 688) (by decide +kernel), List.mem_of_getElem? (i := 884) (by decide +kernel), List.mem_of_getElem? (i := 885) (by decide +kernel)⟩
theorem lw_p30 : lw_okq (⟨"LifeboatHouseModel", "isOpen", "(II)Z"⟩, 40) := ⟨⟨by decide +kernel, by decide +kernel⟩, List.mem_of_getElem? (i := 688) (by decide +kernel), List.mem_of_getElem? (i := 900) (by decide +kernel), List.mem_of_getElem? (i := 901) (by decide +kernel)⟩
theorem lw_p31 : lw_okq (⟨"LifeboatHouseModel", "highOf", "(I)I"⟩, 40) := ⟨⟨by decide +kernel, by decide +kernel⟩, List.mem_of_getElem? (i := 688) (by decide +kernel), List.mem_of_getElem? (i := 904) (by decide +kernel), List.mem_of_getElem? (i := 905) (by decide +kernel)⟩
def lw_privs_2 : List (MethodName × Nat) := [(⟨"LifeboatHouse", "planFlanks", "()V"⟩, 15), (⟨"LifeboatHouse$FlankPlan", "keepIfBetter", "(II)V"⟩, 7), (⟨"LifeboatHouse$Search", "richest", "(I)I"⟩, 4), (⟨"LifeboatHouse", "placeInTurn", "(I)I"⟩, 15), (⟨"LifeboatHouse", "boatsAway", "()I"⟩, 15), (⟨"LifeboatHouse", "stationsCovered", "()I"⟩, 15), (⟨"LifeboatHouseModel", "no", "(I)I"⟩, 40), (⟨"LifeboatHouseModel", "isPerson", "(I)Z"⟩, 40), (⟨"LifeboatHouseModel", "band", "()I"⟩, 40), (⟨"LifeboatHouseModel", "hour", "()I"⟩, 40), (⟨"LifeboatHouseModel", "day", "()I"⟩, 40), (⟨"LifeboatHouseModel", "part", "(II)I"⟩, 40), (⟨"LifeboatHouseModel", "chanceOf", "(II)I"⟩, 40), (⟨"LifeboatHouseModel", "stands", "(I)Z"⟩, 40), (⟨"LifeboatHouseModel", "isOpen", "(II)Z"⟩, 40), (⟨"LifeboatHouseModel", "highOf", "(I)I"⟩, 40)]
theorem lw_r2 : ∀ q ∈ lw_privs_2, lw_okq q := List.forall_mem_cons.mpr ⟨lw_p16, List.forall_mem_cons.mpr ⟨lw_p17, List.forall_mem_cons.mpr ⟨lw_p18, List.forall_mem_cons.mpr ⟨lw_p19, List.forall_mem_cons.mpr ⟨lw_p20, List.forall_mem_cons.mpr ⟨lw_p21, List.forall_mem_cons.mpr ⟨lw_p22, List.forall_mem_cons.mpr ⟨lw_p23, List.forall_mem_cons.mpr ⟨lw_p24, List.forall_mem_cons.mpr ⟨lw_p25, List.forall_mem_cons.mpr ⟨lw_p26, List.forall_mem_cons.mpr ⟨lw_p27, List.forall_mem_cons.mpr ⟨lw_p28, List.forall_mem_cons.mpr ⟨lw_p29, List.forall_mem_cons.mpr ⟨lw_p30, List.forall_mem_cons.mpr ⟨lw_p31, fun _ h => absurd h List.not_mem_nil⟩⟩⟩⟩⟩⟩⟩⟩⟩⟩⟩⟩⟩⟩⟩⟩
theorem lw_p32 : lw_okq (⟨"LifeboatHouseModel", "isBoat", "(I)Z"⟩, 40) := ⟨⟨by decide +kernel, by decide +kernel⟩, List.mem_of_getElem? (i := 688) (by decide +kernel), List.mem_of_getElem? (i := 921) (by decide +kernel), List.mem_of_getElem? (i := 922) (by decide +kernel)⟩
theorem lw_p33 : lw_okq (⟨"LifeboatHouseModel", "isAway", "(I)Z"⟩, 40) := ⟨⟨by decide +kernel, by decide +kernel⟩, List.mem_of_getElem? (i := 688) (by decide +kernel), List.mem_of_getElem? (i := 929) (by decide +kernel), List.mem_of_getElem? (i := 930) (by decide +kernel)⟩
theorem lw_p34 : lw_okq (⟨"LifeboatHouseModel", "isCall", "(I)Z"⟩, 40) := ⟨⟨by decide +kernel, by decide +kernel⟩, List.mem_of_getElem? (i := 688) (by decide +kernel), List.mem_of_getElem? (i := 941) (by decide +kernel), List.mem_of_getElem? (i := 942) (by decide +kernel)⟩
theorem lw_p35 : lw_okq (⟨"LifeboatHouseModel", "can", "(II)Z"⟩, 40) := ⟨⟨by decide +kernel, by decide +kernel⟩, List.mem_of_getElem? (i := 688) (by decide +kernel), List.mem_of_getElem? (i := 945) (by decide +kernel), List.mem_of_getElem? (i := 946) (by decide +kernel)⟩
theorem lw_p36 : lw_okq (⟨"LifeboatHouseModel", "speedFor", "(II)I"⟩, 40) := ⟨⟨by decide +kernel, by decide +kernel⟩, List.mem_of_getElem? (i := 688) (by decide +kernel), List.mem_of_getElem? (i := 949) (by decide +kernel), List.mem_of_getElem? (i := 950) (by decide +kernel)⟩
theorem lw_p37 : lw_okq (⟨"LifeboatHouseModel", "way", "(II)I"⟩, 40) := ⟨⟨by decide +kernel, by decide +kernel⟩, List.mem_of_getElem? (i := 688) (by decide +kernel), List.mem_of_getElem? (i := 953) (by decide +kernel), List.mem_of_getElem? (i := 954) (by decide +kernel)⟩
theorem lw_p38 : lw_okq (⟨"LifeboatHouseModel", "reached", "(II)I"⟩, 40) := ⟨⟨by decide +kernel, by decide +kernel⟩, List.mem_of_getElem? (i := 688) (by decide +kernel), List.mem_of_getElem? (i := 963) (by decide +kernel), List.mem_of_getElem? (i := 964) (by decide +kernel)⟩
theorem lw_p39 : lw_okq (⟨"LifeboatHouseModel", "launch", "(I)I"⟩, 40) := ⟨⟨by decide +kernel, by decide +kernel⟩, List.mem_of_getElem? (i := 688) (by decide +kernel), List.mem_of_getElem? (i := 967) (by decide +kernel), List.mem_of_getElem? (i := 968) (by decide +kernel)⟩
theorem lw_p40 : lw_okq (⟨"LifeboatHouseModel", "standing", "(I)I"⟩, 40) := ⟨⟨by decide +kernel, by decide +kernel⟩, List.mem_of_getElem? (i := 688) (by decide +kernel), List.mem_of_getElem? (i := 991) (by decide +kernel), List.mem_of_getElem? (i := 992) (by decide +kernel)⟩
theorem lw_p41 : lw_okq (⟨"LifeboatHouseModel", "helps", "()V"⟩, 40) := ⟨⟨by decide +kernel, by decide +kernel⟩, List.mem_of_getElem? (i := 688) (by decide +kernel), List.mem_of_getElem? (i := 999) (by decide +kernel), List.mem_of_getElem? (i := 1000) (by decide +kernel)⟩
theorem lw_p42 : lw_okq (⟨"LifeboatHouseModel", "tries", "(II)I"⟩, 40) := ⟨⟨by decide +kernel, by decide +kernel⟩, List.mem_of_getElem? (i := 688) (by decide +kernel), List.mem_of_getElem? (i := 1022) (by decide +kernel), List.mem_of_getElem? (i := 1023) (by decide +kernel)⟩
def lw_privs_3 : List (MethodName × Nat) := [(⟨"LifeboatHouseModel", "isBoat", "(I)Z"⟩, 40), (⟨"LifeboatHouseModel", "isAway", "(I)Z"⟩, 40), (⟨"LifeboatHouseModel", "isCall", "(I)Z"⟩, 40), (⟨"LifeboatHouseModel", "can", "(II)Z"⟩, 40), (⟨"LifeboatHouseModel", "speedFor", "(II)I"⟩, 40), (⟨"LifeboatHouseModel", "way", "(II)I"⟩, 40), (⟨"LifeboatHouseModel", "reached", "(II)I"⟩, 40), (⟨"LifeboatHouseModel", "launch", "(I)I"⟩, 40), (⟨"LifeboatHouseModel", "standing", "(I)I"⟩, 40), (⟨"LifeboatHouseModel", "helps", "()V"⟩, 40), (⟨"LifeboatHouseModel", "tries", "(II)I"⟩, 40)]
theorem lw_r3 : ∀ q ∈ lw_privs_3, lw_okq q := List.forall_mem_cons.mpr ⟨lw_p32, List.forall_mem_cons.mpr ⟨lw_p33, List.forall_mem_cons.mpr ⟨lw_p34, List.forall_mem_cons.mpr ⟨lw_p35, List.forall_mem_cons.mpr ⟨lw_p36, List.forall_mem_cons.mpr ⟨lw_p37, List.forall_mem_cons.mpr ⟨lw_p38, List.forall_mem_cons.mpr ⟨lw_p39, List.forall_mem_cons.mpr ⟨lw_p40, List.forall_mem_cons.mpr ⟨lw_p41, List.forall_mem_cons.mpr ⟨lw_p42, fun _ h => absurd h List.not_mem_nil⟩⟩⟩⟩⟩⟩⟩⟩⟩⟩⟩
def lw_privs : List (MethodName × Nat) := lw_privs_1 ++ (lw_privs_2 ++ (lw_privs_3))
def lw_tbl : List Cond := k2_sels lw_privs ++ tables_1
theorem lw_privs_ok : ∀ q ∈ lw_privs, lw_okq q := by
  show ∀ q ∈ lw_privs_1 ++ (lw_privs_2 ++ (lw_privs_3)), lw_okq q
  exact List.forall_mem_append.mpr ⟨lw_r1, List.forall_mem_append.mpr ⟨lw_r2, lw_r3⟩⟩
/-! classes: fields in the order of the slots -/
def Cn_B : String := "LifeboatHouse$Boat"
def Ft_B : u_T := fun k => match k with
  | 0 => ("LifeboatHouse$Boat", "fuel", "I", true)
  | 1 => ("LifeboatHouse$Boat", "speeds", "[I", true)
  | 2 => ("LifeboatHouse$Boat", "station", "I", false)
  | _ => ("LifeboatHouse$Boat", "awayTill", "I", false)
def Fy_B : Nat → FieldType := fun k => match k with
  | 0 => .int
  | 1 => .array .int
  | 2 => .int
  | _ => .int
theorem zn_B : ∀ a, a < 4 → ∀ b, b < 4 → a ≠ b → (Ft_B a).2.1 ≠ (Ft_B b).2.1 := by decide +kernel
theorem zt_B : ∀ k, k < 4 → parseFieldDescriptor (Ft_B k).2.2.1 = some (Fy_B k) := by decide +kernel
def Cn_C : String := "LifeboatHouse$Call"
def Ft_C : u_T := fun k => match k with
  | 0 => ("LifeboatHouse$Call", "miles", "I", true)
  | 1 => ("LifeboatHouse$Call", "out", "I", true)
  | _ => ("LifeboatHouse$Call", "sea", "I", true)
def Fy_C : Nat → FieldType := fun k => match k with
  | 0 => .int
  | 1 => .int
  | _ => .int
theorem zn_C : ∀ a, a < 3 → ∀ b, b < 3 → a ≠ b → (Ft_C a).2.1 ≠ (Ft_C b).2.1 := by decide +kernel
theorem zt_C : ∀ k, k < 3 → parseFieldDescriptor (Ft_C k).2.2.1 = some (Fy_C k) := by decide +kernel
def Cn_R : String := "LifeboatHouse$CrewRows"
def Ft_R : u_T := fun k => match k with
  | 0 => ("LifeboatHouse$CrewRows", "parts", "[I", true)
  | _ => ("LifeboatHouse$CrewRows", "top", "I", false)
def Fy_R : Nat → FieldType := fun k => match k with
  | 0 => .array .int
  | _ => .int
theorem zn_R : ∀ a, a < 2 → ∀ b, b < 2 → a ≠ b → (Ft_R a).2.1 ≠ (Ft_R b).2.1 := by decide +kernel
theorem zt_R : ∀ k, k < 2 → parseFieldDescriptor (Ft_R k).2.2.1 = some (Fy_R k) := by decide +kernel
def Cn_F : String := "LifeboatHouse$FlankPlan"
def Ft_F : u_T := fun k => match k with
  | 0 => ("LifeboatHouse$FlankPlan", "bestFrom", "[I", true)
  | 1 => ("LifeboatHouse$FlankPlan", "bestHelped", "I", false)
  | 2 => ("LifeboatHouse$FlankPlan", "bestMiles", "I", false)
  | 3 => ("LifeboatHouse$FlankPlan", "miles", "[I", true)
  | 4 => ("LifeboatHouse$FlankPlan", "spare", "[I", true)
  | 5 => ("LifeboatHouse$FlankPlan", "bare", "[Z", true)
  | _ => ("LifeboatHouse$FlankPlan", "from", "[I", true)
def Fy_F : Nat → FieldType := fun k => match k with
  | 0 => .array .int
  | 1 => .int
  | 2 => .int
  | 3 => .array .int
  | 4 => .array .int
  | 5 => .array .boolean
  | _ => .array .int
theorem zn_F : ∀ a, a < 7 → ∀ b, b < 7 → a ≠ b → (Ft_F a).2.1 ≠ (Ft_F b).2.1 := by decide +kernel
theorem zt_F : ∀ k, k < 7 → parseFieldDescriptor (Ft_F k).2.2.1 = some (Fy_F k) := by decide +kernel
def Cn_U : String := "LifeboatHouse$Launch"
def Ft_U : u_T := fun k => match k with
  | 0 => ("LifeboatHouse$Launch", "boat", "I", true)
  | 1 => ("LifeboatHouse$Launch", "call", "I", true)
  | 2 => ("LifeboatHouse$Launch", "launched", "I", true)
  | 3 => ("LifeboatHouse$Launch", "reached", "I", true)
  | _ => ("LifeboatHouse$Launch", "home", "I", true)
def Fy_U : Nat → FieldType := fun k => match k with
  | 0 => .int
  | 1 => .int
  | 2 => .int
  | 3 => .int
  | _ => .int
theorem zn_U : ∀ a, a < 5 → ∀ b, b < 5 → a ≠ b → (Ft_U a).2.1 ≠ (Ft_U b).2.1 := by decide +kernel
theorem zt_U : ∀ k, k < 5 → parseFieldDescriptor (Ft_U k).2.2.1 = some (Fy_U k) := by decide +kernel
def Cn_P : String := "LifeboatHouse$Pair"
def Ft_P : u_T := fun k => match k with
  | 0 => ("LifeboatHouse$Pair", "later", "I", false)
  | 1 => ("LifeboatHouse$Pair", "oneBoat", "I", false)
  | 2 => ("LifeboatHouse$Pair", "otherBoat", "I", false)
  | _ => ("LifeboatHouse$Pair", "together", "I", false)
def Fy_P : Nat → FieldType := fun k => match k with
  | 0 => .int
  | 1 => .int
  | 2 => .int
  | _ => .int
theorem zn_P : ∀ a, a < 4 → ∀ b, b < 4 → a ≠ b → (Ft_P a).2.1 ≠ (Ft_P b).2.1 := by decide +kernel
theorem zt_P : ∀ k, k < 4 → parseFieldDescriptor (Ft_P k).2.2.1 = some (Fy_P k) := by decide +kernel
def Cn_Q : String := "LifeboatHouse$Person"
def Ft_Q : u_T := fun k => match k with
  | 0 => ("LifeboatHouse$Person", "station", "I", true)
  | 1 => ("LifeboatHouse$Person", "skills", "I", true)
  | 2 => ("LifeboatHouse$Person", "paged", "[I", true)
  | 3 => ("LifeboatHouse$Person", "came", "[I", true)
  | 4 => ("LifeboatHouse$Person", "papers", "I", false)
  | _ => ("LifeboatHouse$Person", "restTill", "I", false)
def Fy_Q : Nat → FieldType := fun k => match k with
  | 0 => .int
  | 1 => .int
  | 2 => .array .int
  | 3 => .array .int
  | 4 => .int
  | _ => .int
theorem zn_Q : ∀ a, a < 6 → ∀ b, b < 6 → a ≠ b → (Ft_Q a).2.1 ≠ (Ft_Q b).2.1 := by decide +kernel
theorem zt_Q : ∀ k, k < 6 → parseFieldDescriptor (Ft_Q k).2.2.1 = some (Fy_Q k) := by decide +kernel
def Cn_S : String := "LifeboatHouse$Search"
def Ft_S : u_T := fun k => match k with
  | 0 => ("LifeboatHouse$Search", "worth", "[I", true)
  | 1 => ("LifeboatHouse$Search", "looked", "[I", true)
  | 2 => ("LifeboatHouse$Search", "found", "I", false)
  | _ => ("LifeboatHouse$Search", "left", "[I", true)
def Fy_S : Nat → FieldType := fun k => match k with
  | 0 => .array .int
  | 1 => .array .int
  | 2 => .int
  | _ => .array .int
theorem zn_S : ∀ a, a < 4 → ∀ b, b < 4 → a ≠ b → (Ft_S a).2.1 ≠ (Ft_S b).2.1 := by decide +kernel
theorem zt_S : ∀ k, k < 4 → parseFieldDescriptor (Ft_S k).2.2.1 = some (Fy_S k) := by decide +kernel
def Cn_T : String := "LifeboatHouse$Tides"
def Ft_T : u_T := fun k => match k with
  | 0 => ("LifeboatHouse$Tides", "high", "[I", true)
  | _ => ("LifeboatHouse$Tides", "leastTold", "I", false)
def Fy_T : Nat → FieldType := fun k => match k with
  | 0 => .array .int
  | _ => .int
theorem zn_T : ∀ a, a < 2 → ∀ b, b < 2 → a ≠ b → (Ft_T a).2.1 ≠ (Ft_T b).2.1 := by decide +kernel
theorem zt_T : ∀ k, k < 2 → parseFieldDescriptor (Ft_T k).2.2.1 = some (Fy_T k) := by decide +kernel
def Cn_H : String := "LifeboatHouse"
def Ft_H : u_T := fun k => match k with
  | 0 => ("LifeboatHouse", "miles", "[I", true)
  | 1 => ("LifeboatHouse", "needs", "[I", true)
  | 2 => ("LifeboatHouse", "people", "Ljava/util/ArrayList;", true)
  | 3 => ("LifeboatHouse", "boats", "Ljava/util/ArrayList;", true)
  | 4 => ("LifeboatHouse", "calls", "Ljava/util/ArrayList;", true)
  | 5 => ("LifeboatHouse", "launches", "Ljava/util/ArrayList;", true)
  | 6 => ("LifeboatHouse", "tides", "LLifeboatHouse$Tides;", true)
  | 7 => ("LifeboatHouse", "crewRows", "LLifeboatHouse$CrewRows;", true)
  | 8 => ("LifeboatHouse", "pair", "LLifeboatHouse$Pair;", true)
  | 9 => ("LifeboatHouse", "flankPlan", "LLifeboatHouse$FlankPlan;", true)
  | 10 => ("LifeboatHouse", "search", "LLifeboatHouse$Search;", true)
  | 11 => ("LifeboatHouse", "refused", "[I", true)
  | 12 => ("LifeboatHouse", "minute", "I", false)
  | 13 => ("LifeboatHouse", "size", "I", false)
  | _ => ("LifeboatHouse", "gather", "I", false)
def Fy_H : Nat → FieldType := fun k => match k with
  | 0 => .array .int
  | 1 => .array .int
  | 2 => .object "java/util/ArrayList"
  | 3 => .object "java/util/ArrayList"
  | 4 => .object "java/util/ArrayList"
  | 5 => .object "java/util/ArrayList"
  | 6 => .object "LifeboatHouse$Tides"
  | 7 => .object "LifeboatHouse$CrewRows"
  | 8 => .object "LifeboatHouse$Pair"
  | 9 => .object "LifeboatHouse$FlankPlan"
  | 10 => .object "LifeboatHouse$Search"
  | 11 => .array .int
  | 12 => .int
  | 13 => .int
  | _ => .int
theorem zn_H : ∀ a, a < 15 → ∀ b, b < 15 → a ≠ b → (Ft_H a).2.1 ≠ (Ft_H b).2.1 := by decide +kernel
theorem zt_H : ∀ k, k < 15 → parseFieldDescriptor (Ft_H k).2.2.1 = some (Fy_H k) := by decide +kernel
def Cn_M : String := "LifeboatHouseModel"
def Ft_M : u_T := fun k => match k with
  | 0 => ("LifeboatHouseModel", "minute", "I", false)
  | 1 => ("LifeboatHouseModel", "people", "I", false)
  | 2 => ("LifeboatHouseModel", "boats", "I", false)
  | 3 => ("LifeboatHouseModel", "calls", "I", false)
  | 4 => ("LifeboatHouseModel", "logs", "I", false)
  | 5 => ("LifeboatHouseModel", "crew", "I", false)
  | 6 => ("LifeboatHouseModel", "gather", "I", false)
  | 7 => ("LifeboatHouseModel", "miles", "[I", true)
  | 8 => ("LifeboatHouseModel", "needs", "[I", true)
  | 9 => ("LifeboatHouseModel", "home", "[I", true)
  | 10 => ("LifeboatHouseModel", "skills", "[I", true)
  | 11 => ("LifeboatHouseModel", "papers", "[I", true)
  | 12 => ("LifeboatHouseModel", "rests", "[I", true)
  | 13 => ("LifeboatHouseModel", "paged", "[I", true)
  | 14 => ("LifeboatHouseModel", "came", "[I", true)
  | 15 => ("LifeboatHouseModel", "high", "[I", true)
  | 16 => ("LifeboatHouseModel", "at", "[I", true)
  | 17 => ("LifeboatHouseModel", "fuel", "[I", true)
  | 18 => ("LifeboatHouseModel", "away", "[I", true)
  | 19 => ("LifeboatHouseModel", "speeds", "[I", true)
  | 20 => ("LifeboatHouseModel", "callMiles", "[I", true)
  | 21 => ("LifeboatHouseModel", "callOut", "[I", true)
  | 22 => ("LifeboatHouseModel", "callSea", "[I", true)
  | 23 => ("LifeboatHouseModel", "logBoat", "[I", true)
  | 24 => ("LifeboatHouseModel", "logCall", "[I", true)
  | 25 => ("LifeboatHouseModel", "logLaunch", "[I", true)
  | 26 => ("LifeboatHouseModel", "logReached", "[I", true)
  | 27 => ("LifeboatHouseModel", "logHome", "[I", true)
  | 28 => ("LifeboatHouseModel", "worth", "[I", true)
  | 29 => ("LifeboatHouseModel", "tried", "[I", true)
  | 30 => ("LifeboatHouseModel", "looked", "[I", true)
  | 31 => ("LifeboatHouseModel", "refused", "[I", true)
  | 32 => ("LifeboatHouseModel", "ways", "[I", true)
  | 33 => ("LifeboatHouseModel", "next", "[I", true)
  | 34 => ("LifeboatHouseModel", "bare", "[I", true)
  | 35 => ("LifeboatHouseModel", "free", "[I", true)
  | 36 => ("LifeboatHouseModel", "choice", "[I", true)
  | 37 => ("LifeboatHouseModel", "best", "[I", true)
  | 38 => ("LifeboatHouseModel", "helped", "I", false)
  | _ => ("LifeboatHouseModel", "helpMiles", "I", false)
def Fy_M : Nat → FieldType := fun k => match k with
  | 0 => .int
  | 1 => .int
  | 2 => .int
  | 3 => .int
  | 4 => .int
  | 5 => .int
  | 6 => .int
  | 7 => .array .int
  | 8 => .array .int
  | 9 => .array .int
  | 10 => .array .int
  | 11 => .array .int
  | 12 => .array .int
  | 13 => .array .int
  | 14 => .array .int
  | 15 => .array .int
  | 16 => .array .int
  | 17 => .array .int
  | 18 => .array .int
  | 19 => .array .int
  | 20 => .array .int
  | 21 => .array .int
  | 22 => .array .int
  | 23 => .array .int
  | 24 => .array .int
  | 25 => .array .int
  | 26 => .array .int
  | 27 => .array .int
  | 28 => .array .int
  | 29 => .array .int
  | 30 => .array .int
  | 31 => .array .int
  | 32 => .array .int
  | 33 => .array .int
  | 34 => .array .int
  | 35 => .array .int
  | 36 => .array .int
  | 37 => .array .int
  | 38 => .int
  | _ => .int
theorem zn_M : ∀ a, a < 40 → ∀ b, b < 40 → a ≠ b → (Ft_M a).2.1 ≠ (Ft_M b).2.1 := by decide +kernel
theorem zt_M : ∀ k, k < 40 → parseFieldDescriptor (Ft_M k).2.2.1 = some (Fy_M k) := by decide +kernel
def Cn_AL : String := "java/util/ArrayList"
def Ft_AL : u_T := fun k => match k with
  | 0 => ("java/util/AbstractList", "modCount", "I", false)
  | 1 => ("java/util/ArrayList", "elementData", "[Ljava/lang/Object;", false)
  | _ => ("java/util/ArrayList", "size", "I", false)
def Fy_AL : Nat → FieldType := fun k => match k with
  | 0 => .int
  | 1 => .array (.object "java/lang/Object")
  | _ => .int
theorem zn_AL : ∀ a, a < 3 → ∀ b, b < 3 → a ≠ b → (Ft_AL a).2.1 ≠ (Ft_AL b).2.1 := by decide +kernel
theorem zt_AL : ∀ k, k < 3 → parseFieldDescriptor (Ft_AL k).2.2.1 = some (Fy_AL k) := by decide +kernel
abbrev classes : List vw_C := [(Cn_B, Ft_B, 4), (Cn_C, Ft_C, 3), (Cn_R, Ft_R, 2), (Cn_F, Ft_F, 7), (Cn_U, Ft_U, 5), (Cn_P, Ft_P, 4), (Cn_Q, Ft_Q, 6), (Cn_S, Ft_S, 4), (Cn_T, Ft_T, 2), (Cn_H, Ft_H, 15), (Cn_M, Ft_M, 40), (Cn_AL, Ft_AL, 3)]
/-! methods: name, code, locals, answer -/
abbrev MI : Type := MethodName × ByteArray × Nat × Option FieldType
def I_H_init : MI := (⟨"LifeboatHouse", "<init>", "()V"⟩, prog_1_method_1_code, 2, (Option.none : Option FieldType))
def I_AL_init : MI := (⟨"java/util/ArrayList", "<init>", "()V"⟩, prog_20_method_2_code, 1, (Option.none : Option FieldType))
def I_AB_init : MI := (⟨"java/util/AbstractList", "<init>", "()V"⟩, prog_19_method_1_code, 1, (Option.none : Option FieldType))
def I_AC_init : MI := (⟨"java/util/AbstractCollection", "<init>", "()V"⟩, prog_18_method_1_code, 1, (Option.none : Option FieldType))
def I_T_init : MI := (⟨"LifeboatHouse$Tides", "<init>", "()V"⟩, prog_10_method_1_code, 1, (Option.none : Option FieldType))
def I_AR_fill : MI := (⟨"java/util/Arrays", "fill", "([II)V"⟩, prog_21_method_103_code, 4, (Option.none : Option FieldType))
def I_R_init : MI := (⟨"LifeboatHouse$CrewRows", "<init>", "()V"⟩, prog_4_method_1_code, 1, (Option.none : Option FieldType))
def I_P_init : MI := (⟨"LifeboatHouse$Pair", "<init>", "()V"⟩, prog_7_method_1_code, 1, (Option.none : Option FieldType))
def I_F_init : MI := (⟨"LifeboatHouse$FlankPlan", "<init>", "()V"⟩, prog_5_method_1_code, 1, (Option.none : Option FieldType))
def I_S_init : MI := (⟨"LifeboatHouse$Search", "<init>", "()V"⟩, prog_9_method_1_code, 1, (Option.none : Option FieldType))
def I_H_station : MI := (⟨"LifeboatHouse", "station", "(III)I"⟩, prog_1_method_2_code, 7, (Option.some FieldType.int))
def I_H_isStation : MI := (⟨"LifeboatHouse", "isStation", "(I)Z"⟩, prog_1_method_49_code, 1, (Option.some FieldType.boolean))
def I_H_refuse : MI := (⟨"LifeboatHouse", "refuse", "(I)I"⟩, prog_1_method_47_code, 2, (Option.some FieldType.int))
def I_H_outside : MI := (⟨"LifeboatHouse", "outside", "(III)I"⟩, prog_1_method_48_code, 3, (Option.some FieldType.int))
def I_H_person : MI := (⟨"LifeboatHouse", "person", "(III)I"⟩, prog_1_method_3_code, 4, (Option.some FieldType.int))
def I_AL_size : MI := (⟨"java/util/ArrayList", "size", "()I"⟩, prog_20_method_8_code, 1, (Option.some FieldType.int))
def I_Q_init : MI := (⟨"LifeboatHouse$Person", "<init>", "(III)V"⟩, prog_8_method_1_code, 4, (Option.none : Option FieldType))
def I_AL_add1 : MI := (⟨"java/util/ArrayList", "add", "(Ljava/lang/Object;)Z"⟩, prog_20_method_25_code, 2, (Option.some FieldType.boolean))
def I_AL_add3 : MI := (⟨"java/util/ArrayList", "add", "(Ljava/lang/Object;[Ljava/lang/Object;I)V"⟩, prog_20_method_24_code, 4, (Option.none : Option FieldType))
def I_AL_grow0 : MI := (⟨"java/util/ArrayList", "grow", "()[Ljava/lang/Object;"⟩, prog_20_method_7_code, 1, (Option.some (FieldType.array (FieldType.object "java/lang/Object"))))
def I_AL_grow1 : MI := (⟨"java/util/ArrayList", "grow", "(I)[Ljava/lang/Object;"⟩, prog_20_method_6_code, 4, (Option.some (FieldType.array (FieldType.object "java/lang/Object"))))
def I_AS_newLength : MI := (⟨"jdk/internal/util/ArraysSupport", "newLength", "(III)I"⟩, prog_27_method_27_code, 4, (Option.some FieldType.int))
def I_MA_max : MI := (⟨"java/lang/Math", "max", "(II)I"⟩, prog_16_method_65_code, 2, (Option.some FieldType.int))
def I_AS_hugeLength : MI := (⟨"jdk/internal/util/ArraysSupport", "hugeLength", "(II)I"⟩, prog_27_method_28_code, 3, (Option.some FieldType.int))
def I_AR_copyOf2 : MI := (⟨"java/util/Arrays", "copyOf", "([Ljava/lang/Object;I)[Ljava/lang/Object;"⟩, prog_21_method_119_code, 2, (Option.some (FieldType.array (FieldType.object "java/lang/Object"))))
def I_AR_copyOf3 : MI := (⟨"java/util/Arrays", "copyOf", "([Ljava/lang/Object;ILjava/lang/Class;)[Ljava/lang/Object;"⟩, prog_21_method_120_code, 4, (Option.some (FieldType.array (FieldType.object "java/lang/Object"))))
def I_MA_min : MI := (⟨"java/lang/Math", "min", "(II)I"⟩, prog_16_method_69_code, 2, (Option.some FieldType.int))
def I_H_papers : MI := (⟨"LifeboatHouse", "papers", "(II)I"⟩, prog_1_method_4_code, 6, (Option.some FieldType.int))
def I_H_personAt : MI := (⟨"LifeboatHouse", "personAt", "(I)LLifeboatHouse$Person;"⟩, prog_1_method_53_code, 2, (Option.some (FieldType.object "LifeboatHouse$Person")))
def I_AL_get : MI := (⟨"java/util/ArrayList", "get", "(I)Ljava/lang/Object;"⟩, prog_20_method_20_code, 2, (Option.some (FieldType.object "java/lang/Object")))
def I_OB_checkIndex : MI := (⟨"java/util/Objects", "checkIndex", "(II)I"⟩, prog_24_method_17_code, 2, (Option.some FieldType.int))
def I_PC_checkIndex : MI := (⟨"jdk/internal/util/Preconditions", "checkIndex", "(IILjava/util/function/BiFunction;)I"⟩, prog_28_method_11_code, 3, (Option.some FieldType.int))
def I_AL_elementData : MI := (⟨"java/util/ArrayList", "elementData", "(I)Ljava/lang/Object;"⟩, prog_20_method_18_code, 2, (Option.some (FieldType.object "java/lang/Object")))
def I_H_page : MI := (⟨"LifeboatHouse", "page", "(IZ)I"⟩, prog_1_method_5_code, 5, (Option.some FieldType.int))
def I_H_bandNow : MI := (⟨"LifeboatHouse", "bandNow", "()I"⟩, prog_1_method_15_code, 3, (Option.some FieldType.int))
def I_H_partOf : MI := (⟨"LifeboatHouse", "partOf", "(II)I"⟩, prog_1_method_6_code, 4, (Option.some FieldType.int))
def I_H_isBand : MI := (⟨"LifeboatHouse", "isBand", "(I)Z"⟩, prog_1_method_50_code, 1, (Option.some FieldType.boolean))
def I_Q_partIn : MI := (⟨"LifeboatHouse$Person", "partIn", "(II)I"⟩, prog_8_method_2_code, 5, (Option.some FieldType.int))
def I_H_set : MI := (⟨"LifeboatHouse", "set", "(II)I"⟩, prog_1_method_7_code, 5, (Option.some FieldType.int))
def I_H_chance : MI := (⟨"LifeboatHouse", "chance", "(II)I"⟩, prog_1_method_8_code, 3, (Option.some FieldType.int))
def I_H_crewChance : MI := (⟨"LifeboatHouse", "crewChance", "(II)I"⟩, prog_1_method_10_code, 6, (Option.some FieldType.int))
def I_R_clear : MI := (⟨"LifeboatHouse$CrewRows", "clear", "()V"⟩, prog_4_method_2_code, 1, (Option.none : Option FieldType))
def I_R_mayCome : MI := (⟨"LifeboatHouse$CrewRows", "mayCome", "(II)V"⟩, prog_4_method_3_code, 6, (Option.none : Option FieldType))
def I_R_rowWith : MI := (⟨"LifeboatHouse$CrewRows", "rowWith", "(II)I"⟩, prog_4_method_5_code, 3, (Option.some FieldType.int))
def I_R_stepUp : MI := (⟨"LifeboatHouse$CrewRows", "stepUp", "(III)I"⟩, prog_4_method_6_code, 3, (Option.some FieldType.int))
def I_R_standing : MI := (⟨"LifeboatHouse$CrewRows", "standing", "(I)I"⟩, prog_4_method_4_code, 4, (Option.some FieldType.int))
def I_R_stands : MI := (⟨"LifeboatHouse$CrewRows", "stands", "(II)Z"⟩, prog_4_method_7_code, 9, (Option.some FieldType.boolean))
def I_H_weak : MI := (⟨"LifeboatHouse", "weak", "(II)I"⟩, prog_1_method_9_code, 7, (Option.some FieldType.int))
def I_H_tide : MI := (⟨"LifeboatHouse", "tide", "(II)I"⟩, prog_1_method_11_code, 4, (Option.some FieldType.int))
def I_T_tell : MI := (⟨"LifeboatHouse$Tides", "tell", "(II)V"⟩, prog_10_method_2_code, 5, (Option.none : Option FieldType))
def I_H_slip : MI := (⟨"LifeboatHouse", "slip", "(II)I"⟩, prog_1_method_12_code, 4, (Option.some FieldType.int))
def I_H_isOpen : MI := (⟨"LifeboatHouse", "isOpen", "(II)Z"⟩, prog_1_method_14_code, 3, (Option.some FieldType.boolean))
def I_T_feet : MI := (⟨"LifeboatHouse$Tides", "feet", "(I)I"⟩, prog_10_method_3_code, 3, (Option.some FieldType.int))
def I_MA_floorMod : MI := (⟨"java/lang/Math", "floorMod", "(II)I"⟩, prog_16_method_50_code, 3, (Option.some FieldType.int))
def I_H_minutes : MI := (⟨"LifeboatHouse", "minutes", "(I)I"⟩, prog_1_method_13_code, 2, (Option.some FieldType.int))
def I_H_boat : MI := (⟨"LifeboatHouse", "boat", "(II)I"⟩, prog_1_method_16_code, 3, (Option.some FieldType.int))
def I_B_init : MI := (⟨"LifeboatHouse$Boat", "<init>", "(II)V"⟩, prog_2_method_1_code, 3, (Option.none : Option FieldType))
def I_H_speed : MI := (⟨"LifeboatHouse", "speed", "(III)I"⟩, prog_1_method_17_code, 7, (Option.some FieldType.int))
def I_H_boatAt : MI := (⟨"LifeboatHouse", "boatAt", "(I)LLifeboatHouse$Boat;"⟩, prog_1_method_54_code, 2, (Option.some (FieldType.object "LifeboatHouse$Boat")))
def I_H_isSea : MI := (⟨"LifeboatHouse", "isSea", "(I)Z"⟩, prog_1_method_51_code, 1, (Option.some FieldType.boolean))
def I_H_move : MI := (⟨"LifeboatHouse", "move", "(II)I"⟩, prog_1_method_18_code, 5, (Option.some FieldType.int))
def I_B_isAway : MI := (⟨"LifeboatHouse$Boat", "isAway", "(I)Z"⟩, prog_2_method_2_code, 2, (Option.some FieldType.boolean))
def I_H_call : MI := (⟨"LifeboatHouse", "call", "(III)I"⟩, prog_1_method_19_code, 4, (Option.some FieldType.int))
def I_C_init : MI := (⟨"LifeboatHouse$Call", "<init>", "(III)V"⟩, prog_3_method_1_code, 4, (Option.none : Option FieldType))
def I_H_reach : MI := (⟨"LifeboatHouse", "reach", "(III)I"⟩, prog_1_method_20_code, 6, (Option.some FieldType.int))
def I_H_callAt : MI := (⟨"LifeboatHouse", "callAt", "(I)LLifeboatHouse$Call;"⟩, prog_1_method_55_code, 2, (Option.some (FieldType.object "LifeboatHouse$Call")))
def I_H_canGo : MI := (⟨"LifeboatHouse", "canGo", "(LLifeboatHouse$Boat;LLifeboatHouse$Call;)Z"⟩, prog_1_method_26_code, 4, (Option.some FieldType.boolean))
def I_H_wayOf : MI := (⟨"LifeboatHouse", "wayOf", "(LLifeboatHouse$Boat;LLifeboatHouse$Call;)I"⟩, prog_1_method_25_code, 3, (Option.some FieldType.int))
def I_MA_abs : MI := (⟨"java/lang/Math", "abs", "(I)I"⟩, prog_16_method_59_code, 1, (Option.some FieldType.int))
def I_H_cutUp : MI := (⟨"LifeboatHouse", "cutUp", "(II)I"⟩, prog_1_method_56_code, 2, (Option.some FieldType.int))
def I_H_launchMinute : MI := (⟨"LifeboatHouse", "launchMinute", "(LLifeboatHouse$Boat;)I"⟩, prog_1_method_27_code, 5, (Option.some FieldType.int))
def I_H_reachedMinute : MI := (⟨"LifeboatHouse", "reachedMinute", "(LLifeboatHouse$Boat;LLifeboatHouse$Call;)I"⟩, prog_1_method_28_code, 4, (Option.some FieldType.int))
def I_H_first : MI := (⟨"LifeboatHouse", "first", "(I)I"⟩, prog_1_method_21_code, 7, (Option.some FieldType.int))
def I_H_two : MI := (⟨"LifeboatHouse", "two", "(III)I"⟩, prog_1_method_22_code, 6, (Option.some FieldType.int))
def I_H_pairBoats : MI := (⟨"LifeboatHouse", "pairBoats", "(LLifeboatHouse$Call;LLifeboatHouse$Call;)V"⟩, prog_1_method_29_code, 7, (Option.none : Option FieldType))
def I_P_clear : MI := (⟨"LifeboatHouse$Pair", "clear", "()V"⟩, prog_7_method_2_code, 1, (Option.none : Option FieldType))
def I_P_offer : MI := (⟨"LifeboatHouse$Pair", "offer", "(IIII)V"⟩, prog_7_method_3_code, 8, (Option.none : Option FieldType))
def I_H_send : MI := (⟨"LifeboatHouse", "send", "(IIIZ)I"⟩, prog_1_method_23_code, 10, (Option.some FieldType.int))
def I_U_init : MI := (⟨"LifeboatHouse$Launch", "<init>", "(IIIII)V"⟩, prog_6_method_1_code, 6, (Option.none : Option FieldType))
def I_H_log : MI := (⟨"LifeboatHouse", "log", "(II)I"⟩, prog_1_method_24_code, 3, (Option.some FieldType.int))
def I_U_told : MI := (⟨"LifeboatHouse$Launch", "told", "(I)I"⟩, prog_6_method_2_code, 2, (Option.some FieldType.int))
def I_H_covered : MI := (⟨"LifeboatHouse", "covered", "(I)I"⟩, prog_1_method_30_code, 2, (Option.some FieldType.int))
def I_H_boatsReadyAt : MI := (⟨"LifeboatHouse", "boatsReadyAt", "(I)I"⟩, prog_1_method_34_code, 5, (Option.some FieldType.int))
def I_H_flanks : MI := (⟨"LifeboatHouse", "flanks", "(I)I"⟩, prog_1_method_31_code, 2, (Option.some FieldType.int))
def I_H_planFlanks : MI := (⟨"LifeboatHouse", "planFlanks", "()V"⟩, prog_1_method_33_code, 2, (Option.none : Option FieldType))
def I_F_tellReady : MI := (⟨"LifeboatHouse$FlankPlan", "tellReady", "(III)V"⟩, prog_5_method_2_code, 4, (Option.none : Option FieldType))
def I_F_find : MI := (⟨"LifeboatHouse$FlankPlan", "find", "()V"⟩, prog_5_method_3_code, 1, (Option.none : Option FieldType))
def I_F_tryFrom : MI := (⟨"LifeboatHouse$FlankPlan", "tryFrom", "(LLifeboatHouse$FlankPlan;III)V"⟩, prog_5_method_4_code, 6, (Option.none : Option FieldType))
def I_F_keepIfBetter : MI := (⟨"LifeboatHouse$FlankPlan", "keepIfBetter", "(II)V"⟩, prog_5_method_5_code, 3, (Option.none : Option FieldType))
def I_H_flank : MI := (⟨"LifeboatHouse", "flank", "(I)I"⟩, prog_1_method_32_code, 2, (Option.some FieldType.int))
def I_H_box : MI := (⟨"LifeboatHouse", "box", "(II)I"⟩, prog_1_method_35_code, 5, (Option.some FieldType.int))
def I_H_isBox : MI := (⟨"LifeboatHouse", "isBox", "(I)Z"⟩, prog_1_method_52_code, 1, (Option.some FieldType.boolean))
def I_H_look : MI := (⟨"LifeboatHouse", "look", "(II)I"⟩, prog_1_method_36_code, 4, (Option.some FieldType.int))
def I_S_leftOf : MI := (⟨"LifeboatHouse$Search", "leftOf", "(II)I"⟩, prog_9_method_2_code, 2, (Option.some FieldType.int))
def I_H_looks : MI := (⟨"LifeboatHouse", "looks", "(II)I"⟩, prog_1_method_37_code, 4, (Option.some FieldType.int))
def I_H_wrongLooks : MI := (⟨"LifeboatHouse", "wrongLooks", "(II)I"⟩, prog_1_method_39_code, 2, (Option.some FieldType.int))
def I_S_plan : MI := (⟨"LifeboatHouse$Search", "plan", "(II)V"⟩, prog_9_method_3_code, 5, (Option.none : Option FieldType))
def I_S_richest : MI := (⟨"LifeboatHouse$Search", "richest", "(I)I"⟩, prog_9_method_4_code, 4, (Option.some FieldType.int))
def I_S_foundOf : MI := (⟨"LifeboatHouse$Search", "foundOf", "(II)I"⟩, prog_9_method_5_code, 2, (Option.some FieldType.int))
def I_H_lookAt : MI := (⟨"LifeboatHouse", "lookAt", "(III)I"⟩, prog_1_method_38_code, 5, (Option.some FieldType.int))
def I_H_rest : MI := (⟨"LifeboatHouse", "rest", "(II)I"⟩, prog_1_method_40_code, 6, (Option.some FieldType.int))
def I_H_turn : MI := (⟨"LifeboatHouse", "turn", "(II)I"⟩, prog_1_method_41_code, 4, (Option.some FieldType.int))
def I_H_placeInTurn : MI := (⟨"LifeboatHouse", "placeInTurn", "(I)I"⟩, prog_1_method_42_code, 6, (Option.some FieldType.int))
def I_H_personOf : MI := (⟨"LifeboatHouse", "personOf", "(II)I"⟩, prog_1_method_43_code, 4, (Option.some FieldType.int))
def I_H_count : MI := (⟨"LifeboatHouse", "count", "(I)I"⟩, prog_1_method_44_code, 2, (Option.some FieldType.int))
def I_H_boatsAway : MI := (⟨"LifeboatHouse", "boatsAway", "()I"⟩, prog_1_method_45_code, 3, (Option.some FieldType.int))
def I_H_stationsCovered : MI := (⟨"LifeboatHouse", "stationsCovered", "()I"⟩, prog_1_method_46_code, 3, (Option.some FieldType.int))
def I_M_init : MI := (⟨"LifeboatHouseModel", "<init>", "()V"⟩, prog_12_method_1_code, 2, (Option.none : Option FieldType))
def I_M_station : MI := (⟨"LifeboatHouseModel", "station", "(III)I"⟩, prog_12_method_11_code, 5, (Option.some FieldType.int))
def I_M_isStation : MI := (⟨"LifeboatHouseModel", "isStation", "(I)Z"⟩, prog_12_method_3_code, 1, (Option.some FieldType.boolean))
def I_M_no : MI := (⟨"LifeboatHouseModel", "no", "(I)I"⟩, prog_12_method_2_code, 2, (Option.some FieldType.int))
def I_M_person : MI := (⟨"LifeboatHouseModel", "person", "(III)I"⟩, prog_12_method_12_code, 4, (Option.some FieldType.int))
def I_M_papers : MI := (⟨"LifeboatHouseModel", "papers", "(II)I"⟩, prog_12_method_13_code, 4, (Option.some FieldType.int))
def I_M_isPerson : MI := (⟨"LifeboatHouseModel", "isPerson", "(I)Z"⟩, prog_12_method_4_code, 2, (Option.some FieldType.boolean))
def I_M_page : MI := (⟨"LifeboatHouseModel", "page", "(IZ)I"⟩, prog_12_method_14_code, 4, (Option.some FieldType.int))
def I_M_band : MI := (⟨"LifeboatHouseModel", "band", "()I"⟩, prog_12_method_10_code, 1, (Option.some FieldType.int))
def I_M_hour : MI := (⟨"LifeboatHouseModel", "hour", "()I"⟩, prog_12_method_8_code, 1, (Option.some FieldType.int))
def I_M_day : MI := (⟨"LifeboatHouseModel", "day", "()I"⟩, prog_12_method_9_code, 1, (Option.some FieldType.int))
def I_M_partOf : MI := (⟨"LifeboatHouseModel", "partOf", "(II)I"⟩, prog_12_method_16_code, 3, (Option.some FieldType.int))
def I_M_isBand : MI := (⟨"LifeboatHouseModel", "isBand", "(I)Z"⟩, prog_12_method_5_code, 1, (Option.some FieldType.boolean))
def I_M_part : MI := (⟨"LifeboatHouseModel", "part", "(II)I"⟩, prog_12_method_15_code, 3, (Option.some FieldType.int))
def I_M_set : MI := (⟨"LifeboatHouseModel", "set", "(II)I"⟩, prog_12_method_17_code, 4, (Option.some FieldType.int))
def I_M_chance : MI := (⟨"LifeboatHouseModel", "chance", "(II)I"⟩, prog_12_method_22_code, 3, (Option.some FieldType.int))
def I_M_chanceOf : MI := (⟨"LifeboatHouseModel", "chanceOf", "(II)I"⟩, prog_12_method_21_code, 7, (Option.some FieldType.int))
def I_M_comes : MI := (⟨"LifeboatHouseModel", "comes", "(II)I"⟩, prog_12_method_19_code, 7, (Option.some FieldType.int))
def I_M_more : MI := (⟨"LifeboatHouseModel", "more", "(II)I"⟩, prog_12_method_18_code, 2, (Option.some FieldType.int))
def I_M_stands : MI := (⟨"LifeboatHouseModel", "stands", "(I)Z"⟩, prog_12_method_20_code, 8, (Option.some FieldType.boolean))
def I_M_weak : MI := (⟨"LifeboatHouseModel", "weak", "(II)I"⟩, prog_12_method_23_code, 5, (Option.some FieldType.int))
def I_M_tide : MI := (⟨"LifeboatHouseModel", "tide", "(II)I"⟩, prog_12_method_24_code, 3, (Option.some FieldType.int))
def I_M_slip : MI := (⟨"LifeboatHouseModel", "slip", "(II)I"⟩, prog_12_method_27_code, 3, (Option.some FieldType.int))
def I_M_isOpen : MI := (⟨"LifeboatHouseModel", "isOpen", "(II)Z"⟩, prog_12_method_26_code, 3, (Option.some FieldType.boolean))
def I_M_highOf : MI := (⟨"LifeboatHouseModel", "highOf", "(I)I"⟩, prog_12_method_25_code, 5, (Option.some FieldType.int))
def I_M_minutes : MI := (⟨"LifeboatHouseModel", "minutes", "(I)I"⟩, prog_12_method_28_code, 2, (Option.some FieldType.int))
def I_M_boat : MI := (⟨"LifeboatHouseModel", "boat", "(II)I"⟩, prog_12_method_29_code, 3, (Option.some FieldType.int))
def I_M_speed : MI := (⟨"LifeboatHouseModel", "speed", "(III)I"⟩, prog_12_method_30_code, 5, (Option.some FieldType.int))
def I_M_isBoat : MI := (⟨"LifeboatHouseModel", "isBoat", "(I)Z"⟩, prog_12_method_6_code, 2, (Option.some FieldType.boolean))
def I_M_move : MI := (⟨"LifeboatHouseModel", "move", "(II)I"⟩, prog_12_method_32_code, 4, (Option.some FieldType.int))
def I_M_isAway : MI := (⟨"LifeboatHouseModel", "isAway", "(I)Z"⟩, prog_12_method_31_code, 2, (Option.some FieldType.boolean))
def I_M_call : MI := (⟨"LifeboatHouseModel", "call", "(III)I"⟩, prog_12_method_33_code, 4, (Option.some FieldType.int))
def I_M_reach : MI := (⟨"LifeboatHouseModel", "reach", "(III)I"⟩, prog_12_method_41_code, 4, (Option.some FieldType.int))
def I_M_isCall : MI := (⟨"LifeboatHouseModel", "isCall", "(I)Z"⟩, prog_12_method_7_code, 2, (Option.some FieldType.boolean))
def I_M_can : MI := (⟨"LifeboatHouseModel", "can", "(II)Z"⟩, prog_12_method_38_code, 4, (Option.some FieldType.boolean))
def I_M_speedFor : MI := (⟨"LifeboatHouseModel", "speedFor", "(II)I"⟩, prog_12_method_37_code, 3, (Option.some FieldType.int))
def I_M_way : MI := (⟨"LifeboatHouseModel", "way", "(II)I"⟩, prog_12_method_36_code, 3, (Option.some FieldType.int))
def I_M_size : MI := (⟨"LifeboatHouseModel", "size", "(I)I"⟩, prog_12_method_34_code, 1, (Option.some FieldType.int))
def I_M_up : MI := (⟨"LifeboatHouseModel", "up", "(II)I"⟩, prog_12_method_35_code, 2, (Option.some FieldType.int))
def I_M_reached : MI := (⟨"LifeboatHouseModel", "reached", "(II)I"⟩, prog_12_method_40_code, 4, (Option.some FieldType.int))
def I_M_launch : MI := (⟨"LifeboatHouseModel", "launch", "(I)I"⟩, prog_12_method_39_code, 5, (Option.some FieldType.int))
def I_M_first : MI := (⟨"LifeboatHouseModel", "first", "(I)I"⟩, prog_12_method_42_code, 5, (Option.some FieldType.int))
def I_M_two : MI := (⟨"LifeboatHouseModel", "two", "(III)I"⟩, prog_12_method_43_code, 13, (Option.some FieldType.int))
def I_M_send : MI := (⟨"LifeboatHouseModel", "send", "(IIIZ)I"⟩, prog_12_method_44_code, 8, (Option.some FieldType.int))
def I_M_log : MI := (⟨"LifeboatHouseModel", "log", "(II)I"⟩, prog_12_method_45_code, 3, (Option.some FieldType.int))
def I_M_covered : MI := (⟨"LifeboatHouseModel", "covered", "(I)I"⟩, prog_12_method_47_code, 2, (Option.some FieldType.int))
def I_M_standing : MI := (⟨"LifeboatHouseModel", "standing", "(I)I"⟩, prog_12_method_46_code, 4, (Option.some FieldType.int))
def I_M_flanks : MI := (⟨"LifeboatHouseModel", "flanks", "(I)I"⟩, prog_12_method_49_code, 2, (Option.some FieldType.int))
def I_M_helps : MI := (⟨"LifeboatHouseModel", "helps", "()V"⟩, prog_12_method_48_code, 11, (Option.none : Option FieldType))
def I_M_flank : MI := (⟨"LifeboatHouseModel", "flank", "(I)I"⟩, prog_12_method_50_code, 2, (Option.some FieldType.int))
def I_M_box : MI := (⟨"LifeboatHouseModel", "box", "(II)I"⟩, prog_12_method_52_code, 4, (Option.some FieldType.int))
def I_M_isBox : MI := (⟨"LifeboatHouseModel", "isBox", "(I)Z"⟩, prog_12_method_51_code, 1, (Option.some FieldType.boolean))
def I_M_look : MI := (⟨"LifeboatHouseModel", "look", "(II)I"⟩, prog_12_method_53_code, 3, (Option.some FieldType.int))
def I_M_looks : MI := (⟨"LifeboatHouseModel", "looks", "(II)I"⟩, prog_12_method_55_code, 3, (Option.some FieldType.int))
def I_M_tries : MI := (⟨"LifeboatHouseModel", "tries", "(II)I"⟩, prog_12_method_54_code, 7, (Option.some FieldType.int))
def I_M_lookAt : MI := (⟨"LifeboatHouseModel", "lookAt", "(III)I"⟩, prog_12_method_56_code, 4, (Option.some FieldType.int))
def I_M_rest : MI := (⟨"LifeboatHouseModel", "rest", "(II)I"⟩, prog_12_method_57_code, 4, (Option.some FieldType.int))
def I_M_turn : MI := (⟨"LifeboatHouseModel", "turn", "(II)I"⟩, prog_12_method_58_code, 6, (Option.some FieldType.int))
def I_M_personOf : MI := (⟨"LifeboatHouseModel", "personOf", "(II)I"⟩, prog_12_method_59_code, 3, (Option.some FieldType.int))
def I_M_count : MI := (⟨"LifeboatHouseModel", "count", "(I)I"⟩, prog_12_method_60_code, 4, (Option.some FieldType.int))
def I_L_law : MI := (⟨"LifeboatHouseLaw", "law", "([I)Z"⟩, code, 4, ret)
