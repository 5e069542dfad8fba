section
/-- a private method of a class that the tables say can be made, by its rows of tables_1 -/
def lw_okq (q : MethodName × Nat) : Prop := (q.1.cls ≠ "java/lang/invoke/MethodHandle" ∧ q.1.cls ≠ "java/lang/invoke/VarHandle") ∧ Cond.instantiable q.1.cls q.2 ∈ tables_1 ∧ Cond.privateMethod q.1 ∈ tables_1 ∧ Cond.instanceMethod q.1 ∈ tables_1
theorem lw_p0 : lw_okq (⟨"LifeboatHouse", "refuse", "(I)I"⟩, 15) := ⟨⟨by decide +kernel, by decide +kernel⟩, List.mem_of_getElem? (i := 22) (by decide +kernel), List.mem_of_getElem? (i := 215) (by decide +kernel), List.mem_of_getElem? (i := 216) (by decide +kernel)⟩
theorem lw_p1 : lw_okq (⟨"java/util/ArrayList", "add", "(Ljava/lang/Object;[Ljava/lang/Object;I)V"⟩, 3) := ⟨⟨by decide +kernel, by decide +kernel⟩, List.mem_of_getElem? (i := 30) (by decide +kernel), List.mem_of_getElem? (i := 265) (by decide +kernel), List.mem_of_getElem? (i := 266) (by decide +kernel)⟩
theorem lw_p2 : lw_okq (⟨"java/util/ArrayList", "grow", "()[Ljava/lang/Object;"⟩, 3) := ⟨⟨by decide +kernel, by decide +kernel⟩, List.mem_of_getElem? (i := 30) (by decide +kernel), List.mem_of_getElem? (i := 269) (by decide +kernel), List.mem_of_getElem? (i := 270) (by decide +kernel)⟩
theorem lw_p3 : lw_okq (⟨"java/util/ArrayList", "grow", "(I)[Ljava/lang/Object;"⟩, 3) := ⟨⟨by decide +kernel, by decide +kernel⟩, List.mem_of_getElem? (i := 30) (by decide +kernel), List.mem_of_getElem? (i := 273) (by decide +kernel), List.mem_of_getElem? (i := 274) (by decide +kernel)⟩
theorem lw_p4 : lw_okq (⟨"LifeboatHouse", "personAt", "(I)LLifeboatHouse$Person;"⟩, 15) := ⟨⟨by decide +kernel, by decide +kernel⟩, List.mem_of_getElem? (i := 22) (by decide +kernel), List.mem_of_getElem? (i := 324) (by decide +kernel), List.mem_of_getElem? (i := 325) (by decide +kernel)⟩
theorem lw_p5 : lw_okq (⟨"LifeboatHouse", "bandNow", "()I"⟩, 15) := ⟨⟨by decide +kernel, by decide +kernel⟩, List.mem_of_getElem? (i := 22) (by decide +kernel), List.mem_of_getElem? (i := 346) (by decide +kernel), List.mem_of_getElem? (i := 347) (by decide +kernel)⟩
theorem lw_p6 : lw_okq (⟨"LifeboatHouse", "crewChance", "(II)I"⟩, 15) := ⟨⟨by decide +kernel, by decide +kernel⟩, List.mem_of_getElem? (i := 22) (by decide +kernel), List.mem_of_getElem? (i := 369) (by decide +kernel), List.mem_of_getElem? (i := 370) (by decide +kernel)⟩
theorem lw_p7 : lw_okq (⟨"LifeboatHouse", "isOpen", "(II)Z"⟩, 15) := ⟨⟨by decide +kernel, by decide +kernel⟩, List.mem_of_getElem? (i := 22) (by decide +kernel), List.mem_of_getElem? (i := 413) (by decide +kernel), List.mem_of_getElem? (i := 414) (by decide +kernel)⟩
theorem lw_p8 : lw_okq (⟨"LifeboatHouse", "boatAt", "(I)LLifeboatHouse$Boat;"⟩, 15) := ⟨⟨by decide +kernel, by decide +kernel⟩, List.mem_of_getElem? (i := 22) (by decide +kernel), List.mem_of_getElem? (i := 460) (by decide +kernel), List.mem_of_getElem? (i := 461) (by decide +kernel)⟩
theorem lw_p9 : lw_okq (⟨"LifeboatHouse", "callAt", "(I)LLifeboatHouse$Call;"⟩, 15) := ⟨⟨by decide +kernel, by decide +kernel⟩, List.mem_of_getElem? (i := 22) (by decide +kernel), List.mem_of_getElem? (i := 502) (by decide +kernel), List.mem_of_getElem? (i := 503) (by decide +kernel)⟩
theorem lw_p10 : lw_okq (⟨"LifeboatHouse", "canGo", "(LLifeboatHouse$Boat;LLifeboatHouse$Call;)Z"⟩, 15) := ⟨⟨by decide +kernel, by decide +kernel⟩, List.mem_of_getElem? (i := 22) (by decide +kernel), List.mem_of_getElem? (i := 506) (by decide +kernel), List.mem_of_getElem? (i := 507) (by decide +kernel)⟩
theorem lw_p11 : lw_okq (⟨"LifeboatHouse", "wayOf", "(LLifeboatHouse$Boat;LLifeboatHouse$Call;)I"⟩, 15) := ⟨⟨by decide +kernel, by decide +kernel⟩, List.mem_of_getElem? (i := 22) (by decide +kernel), List.mem_of_getElem? (i := 510) (by decide +kernel), List.mem_of_getElem? (i := 511) (by decide +kernel)⟩
theorem lw_p12 : lw_okq (⟨"LifeboatHouse", "launchMinute", "(LLifeboatHouse$Boat;)I"⟩, 15) := ⟨⟨by decide +kernel, by decide +kernel⟩, List.mem_of_getElem? (i := 22) (by decide +kernel), List.mem_of_getElem? (i := 520) (by decide +kernel), List.mem_of_getElem? (i := 521) (by decide +kernel)⟩
theorem lw_p13 : lw_okq (⟨"LifeboatHouse", "reachedMinute", "(LLifeboatHouse$Boat;LLifeboatHouse$Call;)I"⟩, 15) := ⟨⟨by decide +kernel, by decide +kernel⟩, List.mem_of_getElem? (i := 22) (by decide +kernel), List.mem_of_getElem? (i := 525) (by decide +kernel), List.mem_of_getElem? (i := 526) (by decide +kernel)⟩
theorem lw_p14 : lw_okq (⟨"LifeboatHouse", "pairBoats", "(LLifeboatHouse$Call;LLifeboatHouse$Call;)V"⟩, 15) := ⟨⟨by decide +kernel, by decide +kernel⟩, List.mem_of_getElem? (i := 22) (by decide +kernel), List.mem_of_getElem? (i := 537) (by decide +kernel), List.mem_of_getElem? (i := 538) (by decide +kernel)⟩
theorem lw_p15 : lw_okq (⟨"LifeboatHouse", "boatsReadyAt", "(I)I"⟩, 15) := ⟨⟨by decide +kernel, by decide +kernel⟩, List.mem_of_getElem? (i := 22) (by decide +kernel), List.mem_of_getElem? (i := 588) (by decide +kernel), List.mem_of_getElem? (i := 589) (by decide +kernel)⟩
def lw_privs_1 : List (MethodName × Nat) := [(⟨"LifeboatHouse", "refuse", "(I)I"⟩, 15), (⟨"java/util/ArrayList", "add", "(Ljava/lang/Object;[Ljava/lang/Object;I)V"⟩, 3), (⟨"java/util/ArrayList", "grow", "()[Ljava/lang/Object;"⟩, 3), (⟨"java/util/ArrayList", "grow", "(I)[Ljava/lang/Object;"⟩, 3), (⟨"LifeboatHouse", "personAt", "(I)LLifeboatHouse$Person;"⟩, 15), (⟨"LifeboatHouse", "bandNow", "()I"⟩, 15), (⟨"LifeboatHouse", "crewChance", "(II)I"⟩, 15), (⟨"LifeboatHouse", "isOpen", "(II)Z"⟩, 15), (⟨"LifeboatHouse", "boatAt", "(I)LLifeboatHouse$Boat;"⟩, 15), (⟨"LifeboatHouse", "callAt", "(I)LLifeboatHouse$Call;"⟩, 15), (⟨"LifeboatHouse", "canGo", "(LLifeboatHouse$Boat;LLifeboatHouse$Call;)Z"⟩, 15), (⟨"LifeboatHouse", "wayOf", "(LLifeboatHouse$Boat;LLifeboatHouse$Call;)I"⟩, 15), (⟨"LifeboatHouse", "launchMinute", "(LLifeboatHouse$Boat;)I"⟩, 15), (⟨"LifeboatHouse", "reachedMinute", "(LLifeboatHouse$Boat;LLifeboatHouse$Call;)I"⟩, 15), (⟨"LifeboatHouse", "pairBoats", "(LLifeboatHouse$Call;LLifeboatHouse$Call;)V"⟩, 15), (⟨"LifeboatHouse", "boatsReadyAt", "(I)I"⟩, 15)]
theorem lw_r1 : ∀ q ∈ lw_privs_1, lw_okq q := List.forall_mem_cons.mpr ⟨lw_p0, List.forall_mem_cons.mpr ⟨lw_p1, List.forall_mem_cons.mpr ⟨lw_p2, List.forall_mem_cons.mpr ⟨lw_p3, List.forall_mem_cons.mpr ⟨lw_p4, List.forall_mem_cons.mpr ⟨lw_p5, List.forall_mem_cons.mpr ⟨lw_p6, List.forall_mem_cons.mpr ⟨lw_p7, List.forall_mem_cons.mpr ⟨lw_p8, List.forall_mem_cons.mpr ⟨lw_p9, List.forall_mem_cons.mpr ⟨lw_p10, List.forall_mem_cons.mpr ⟨lw_p11, List.forall_mem_cons.mpr ⟨lw_p12, List.forall_mem_cons.mpr ⟨lw_p13, List.forall_mem_cons.mpr ⟨lw_p14, List.forall_mem_cons.mpr ⟨lw_p15, fun _ h => absurd h List.not_mem_nil⟩⟩⟩⟩⟩⟩⟩⟩⟩⟩⟩⟩⟩⟩⟩⟩
theorem lw_p16 : lw_okq (⟨"LifeboatHouse", "planFlanks", "()V"⟩, 15) := ⟨⟨by decide +kernel, by decide +kernel⟩, List.mem_of_getElem? (i := 22) (by decide +kernel), List.mem_of_getElem? (i := 596) (by decide +kernel), List.mem_of_getElem? (i := 597) (by decide +kernel)⟩
theorem lw_p17 : lw_okq (⟨"LifeboatHouse$FlankPlan", "tryFrom", "(III)V"⟩, 7) := ⟨⟨by decide +kernel, by decide +kernel⟩, List.mem_of_getElem? (i := 108) (by decide +kernel), List.mem_of_getElem? (i := 609) (by decide +kernel), List.mem_of_getElem? (i := 610) (by decide +kernel)⟩
theorem lw_p18 : lw_okq (⟨"LifeboatHouse$FlankPlan", "keepIfBetter", "(II)V"⟩, 7) := ⟨⟨by decide +kernel, by decide +kernel⟩, List.mem_of_getElem? (i := 108) (by decide +kernel), List.mem_of_getElem? (i := 613) (by decide +kernel), List.mem_of_getElem? (i := 614) (by decide +kernel)⟩
theorem lw_p19 : lw_okq (⟨"LifeboatHouse$Search", "richest", "(I)I"⟩, 4) := ⟨⟨by decide +kernel, by decide +kernel⟩, List.mem_of_getElem? (i := 140) (by decide +kernel), List.mem_of_getElem? (i := 649) (by decide +kernel), List.mem_of_getElem? (i := 650) (by decide +kernel)⟩
theorem lw_p20 : lw_okq (⟨"LifeboatHouse", "placeInTurn", "(I)I"⟩, 15) := ⟨⟨by decide +kernel, by decide +kernel⟩, List.mem_of_getElem? (i := 22) (by decide +kernel), List.mem_of_getElem? (i := 669) (by decide +kernel), List.mem_of_getElem? (i := 670) (by decide +kernel)⟩
theorem lw_p21 : lw_okq (⟨"LifeboatHouse", "boatsAway", "()I"⟩, 15) := ⟨⟨by decide +kernel, by decide +kernel⟩, List.mem_of_getElem? (i := 22) (by decide +kernel), List.mem_of_getElem? (i := 681) (by decide +kernel), List.mem_of_getElem? (i := 682) (by decide +kernel)⟩
theorem lw_p22 : lw_okq (⟨"LifeboatHouse", "stationsCovered", "()I"⟩, 15) := ⟨⟨by decide +kernel, by decide +kernel⟩, List.mem_of_getElem? (i := 22) (by decide +kernel), List.mem_of_getElem? (i := 685) (by decide +kernel), List.mem_of_getElem? (i := 686) (by decide +kernel)⟩
theorem lw_p23 : lw_okq (⟨"LifeboatHouseModel", "no", "(I)I"⟩, 40) := ⟨⟨by decide +kernel, by decide +kernel⟩, List.mem_of_getElem? (i := 689) (by decide +kernel), List.mem_of_getElem? (i := 823) (by decide +kernel), List.mem_of_getElem? (i := 824) (by decide +kernel)⟩
theorem lw_p24 : lw_okq (⟨"LifeboatHouseModel", "isPerson", "(I)Z"⟩, 40) := ⟨⟨by decide +kernel, by decide +kernel⟩, List.mem_of_getElem? (i := 689) (by decide +kernel), List.mem_of_getElem? (i := 835) (by decide +kernel), List.mem_of_getElem? (i := 836) (by decide +kernel)⟩
theorem lw_p25 : lw_okq (⟨"LifeboatHouseModel", "band", "()I"⟩, 40) := ⟨⟨by decide +kernel, by decide +kernel⟩, List.mem_of_getElem? (i := 689) (by decide +kernel), List.mem_of_getElem? (i := 843) (by decide +kernel), List.mem_of_getElem? (i := 844) (by decide +kernel)⟩
theorem lw_p26 : lw_okq (⟨"LifeboatHouseModel", "hour", "()I"⟩, 40) := ⟨⟨by decide +kernel, by decide +kernel⟩, List.mem_of_getElem? (i := 689) (by decide +kernel), List.mem_of_getElem? (i := 847) (by decide +kernel), List.mem_of_getElem? (i := 848) (by decide +kernel)⟩
theorem lw_p27 : lw_okq (⟨"LifeboatHouseModel", "day", "()I"⟩, 40) := ⟨⟨by decide +kernel, by decide +kernel⟩, List.mem_of_getElem? (i := 689) (by decide +kernel), List.mem_of_getElem? (i := 851) (by decide +kernel), List.mem_of_getElem? (i := 852) (by decide +kernel)⟩
theorem lw_p28 : lw_okq (⟨"LifeboatHouseModel", "part", "(II)I"⟩, 40) := ⟨⟨by decide +kernel, by decide +kernel⟩, List.mem_of_getElem? (i := 689) (by decide +kernel), List.mem_of_getElem? (i := 862) (by decide +kernel), List.mem_of_getElem? (i := 863) (by decide +kernel)⟩
theorem lw_p29 : lw_okq (⟨"LifeboatHouseModel", "chanceOf", "(II)I"⟩, 40) := ⟨⟨by decide +kernel, by decide +kernel⟩, List.mem_of_getElem? (i := 689) (by decide +kernel), List.mem_of_getElem? (i := 874) (by decide +kernel), List.mem_of_getElem? (i := 875) (by decide +kernel)⟩
theorem lw_p30 : lw_okq (⟨"LifeboatHouseModel", "stands", "(I)Z"⟩, 40) := ⟨⟨by decide +kernel, by decide +kernel⟩, List.mem_of_getElem? (i := 689) (by decide +kernel), List.mem_of_getElem? (i := 885) (by decide +kernel), List.mem_of_getElem? (i := 886) (by decide +kernel)⟩
theorem lw_p31 : lw_okq (⟨"LifeboatHouseModel", "isOpen", "(II)Z"⟩, 40) := ⟨⟨by decide +kernel, by decide +kernel⟩, List.mem_of_getElem? (i := 689) (by decide +kernel), List.mem_of_getElem? (i := 901) (by decide +kernel), List.mem_of_getElem? (i := 902) (by decide +kernel)⟩
def lw_privs_2 : List (MethodName × Nat) := [(⟨"LifeboatHouse", "planFlanks", "()V"⟩, 15), (⟨"LifeboatHouse$FlankPlan", "tryFrom", "(III)V"⟩, 7), (⟨"LifeboatHouse$FlankPlan", "keepIfBetter", "(II)V"⟩, 7), (⟨"LifeboatHouse$Search", "richest", "(I)I"⟩, 4), (⟨"LifeboatHouse", "placeInTurn", "(I)I"⟩, 15), (⟨"LifeboatHouse", "boatsAway", "()I"⟩, 15), (⟨"LifeboatHouse", "stationsCovered", "()I"⟩, 15), (⟨"LifeboatHouseModel", "no", "(I)I"⟩, 40), (⟨"LifeboatHouseModel", "isPerson", "(I)Z"⟩, 40), (⟨"LifeboatHouseModel", "band", "()I"⟩, 40), (⟨"LifeboatHouseModel", "hour", "()I"⟩, 40), (⟨"LifeboatHouseModel", "day", "()I"⟩, 40), (⟨"LifeboatHouseModel", "part", "(II)I"⟩, 40), (⟨"LifeboatHouseModel", "chanceOf", "(II)I"⟩, 40), (⟨"LifeboatHouseModel", "stands", "(I)Z"⟩, 40), (⟨"LifeboatHouseModel", "isOpen", "(II)Z"⟩, 40)]
theorem lw_r2 : ∀ q ∈ lw_privs_2, lw_okq q := List.forall_mem_cons.mpr ⟨lw_p16, List.forall_mem_cons.mpr ⟨lw_p17, List.forall_mem_cons.mpr ⟨lw_p18, List.forall_mem_cons.mpr ⟨lw_p19, List.forall_mem_cons.mpr ⟨lw_p20, List.forall_mem_cons.mpr ⟨lw_p21, List.forall_mem_cons.mpr ⟨lw_p22, List.forall_mem_cons.mpr ⟨lw_p23, List.forall_mem_cons.mpr ⟨lw_p24, List.forall_mem_cons.mpr ⟨lw_p25, List.forall_mem_cons.mpr ⟨lw_p26, List.forall_mem_cons.mpr ⟨lw_p27, List.forall_mem_cons.mpr ⟨lw_p28, List.forall_mem_cons.mpr ⟨lw_p29, List.forall_mem_cons.mpr ⟨lw_p30, List.forall_mem_cons.mpr ⟨lw_p31, fun _ h => absurd h List.not_mem_nil⟩⟩⟩⟩⟩⟩⟩⟩⟩⟩⟩⟩⟩⟩⟩⟩
theorem lw_p32 : lw_okq (⟨"LifeboatHouseModel", "highOf", "(I)I"⟩, 40) := ⟨⟨by decide +kernel, by decide +kernel⟩, List.mem_of_getElem? (i := 689) (by decide +kernel), List.mem_of_getElem? (i := 905) (by decide +kernel), List.mem_of_getElem? (i := 906) (by decide +kernel)⟩
theorem lw_p33 : lw_okq (⟨"LifeboatHouseModel", "isBoat", "(I)Z"⟩, 40) := ⟨⟨by decide +kernel, by decide +kernel⟩, List.mem_of_getElem? (i := 689) (by decide +kernel), List.mem_of_getElem? (i := 922) (by decide +kernel), List.mem_of_getElem? (i := 923) (by decide +kernel)⟩
theorem lw_p34 : lw_okq (⟨"LifeboatHouseModel", "isAway", "(I)Z"⟩, 40) := ⟨⟨by decide +kernel, by decide +kernel⟩, List.mem_of_getElem? (i := 689) (by decide +kernel), List.mem_of_getElem? (i := 930) (by decide +kernel), List.mem_of_getElem? (i := 931) (by decide +kernel)⟩
theorem lw_p35 : lw_okq (⟨"LifeboatHouseModel", "isCall", "(I)Z"⟩, 40) := ⟨⟨by decide +kernel, by decide +kernel⟩, List.mem_of_getElem? (i := 689) (by decide +kernel), List.mem_of_getElem? (i := 942) (by decide +kernel), List.mem_of_getElem? (i := 943) (by decide +kernel)⟩
theorem lw_p36 : lw_okq (⟨"LifeboatHouseModel", "can", "(II)Z"⟩, 40) := ⟨⟨by decide +kernel, by decide +kernel⟩, List.mem_of_getElem? (i := 689) (by decide +kernel), List.mem_of_getElem? (i := 946) (by decide +kernel), List.mem_of_getElem? (i := 947) (by decide +kernel)⟩
theorem lw_p37 : lw_okq (⟨"LifeboatHouseModel", "speedFor", "(II)I"⟩, 40) := ⟨⟨by decide +kernel, by decide +kernel⟩, List.mem_of_getElem? (i := 689) (by decide +kernel), List.mem_of_getElem? (i := 950) (by decide +kernel), List.mem_of_getElem? (i := 951) (by decide +kernel)⟩
theorem lw_p38 : lw_okq (⟨"LifeboatHouseModel", "way", "(II)I"⟩, 40) := ⟨⟨by decide +kernel, by decide +kernel⟩, List.mem_of_getElem? (i := 689) (by decide +kernel), List.mem_of_getElem? (i := 954) (by decide +kernel), List.mem_of_getElem? (i := 955) (by decide +kernel)⟩
theorem lw_p39 : lw_okq (⟨"LifeboatHouseModel", "reached", "(II)I"⟩, 40) := ⟨⟨by decide +kernel, by decide +kernel⟩, List.mem_of_getElem? (i := 689) (by decide +kernel), List.mem_of_getElem? (i := 964) (by decide +kernel), List.mem_of_getElem? (i := 965) (by decide +kernel)⟩
theorem lw_p40 : lw_okq (⟨"LifeboatHouseModel", "launch", "(I)I"⟩, 40) := ⟨⟨by decide +kernel, by decide +kernel⟩, List.mem_of_getElem? (i := 689) (by decide +kernel), List.mem_of_getElem? (i := 968) (by decide +kernel), List.mem_of_getElem? (i := 969) (by decide +kernel)⟩
theorem lw_p41 : lw_okq (⟨"LifeboatHouseModel", "standing", "(I)I"⟩, 40) := ⟨⟨by decide +kernel, by decide +kernel⟩, List.mem_of_getElem? (i := 689) (by decide +kernel), List.mem_of_getElem? (i := 992) (by decide +kernel), List.mem_of_getElem? (i := 993) (by decide +kernel)⟩
theorem lw_p42 : lw_okq (⟨"LifeboatHouseModel", "helps", "()V"⟩, 40) := ⟨⟨by decide +kernel, by decide +kernel⟩, List.mem_of_getElem? (i := 689) (by decide +kernel), List.mem_of_getElem? (i := 1000) (by decide +kernel), List.mem_of_getElem? (i := 1001) (by decide +kernel)⟩
theorem lw_p43 : lw_okq (⟨"LifeboatHouseModel", "tries", "(II)I"⟩, 40) := ⟨⟨by decide +kernel, by decide +kernel⟩, List.mem_of_getElem? (i := 689) (by decide +kernel), List.mem_of_getElem? (i := 1023) (by decide +kernel), List.mem_of_getElem? (i := 1024) (by decide +kernel)⟩
def lw_privs_3 : List (MethodName × Nat) := [(⟨"LifeboatHouseModel", "highOf", "(I)I"⟩, 40), (⟨"LifeboatHouseModel", "isBoat", "(I)Z"⟩, 40), (⟨"LifeboatHouseModel", "isAway", "(I)Z"⟩, 40), (⟨"LifeboatHouseModel", "isCall", "(I)Z"⟩, 40), (⟨"LifeboatHouseModel", "can", "(II)Z"⟩, 40), (⟨"LifeboatHouseModel", "speedFor", "(II)I"⟩, 40), (⟨"LifeboatHouseModel", "way", "(II)I"⟩, 40), (⟨"LifeboatHouseModel", "reached", "(II)I"⟩, 40), (⟨"LifeboatHouseModel", "launch", "(I)I"⟩, 40), (⟨"LifeboatHouseModel", "standing", "(I)I"⟩, 40), (⟨"LifeboatHouseModel", "helps", "()V"⟩, 40), (⟨"LifeboatHouseModel", "tries", "(II)I"⟩, 40)]
theorem lw_r3 : ∀ q ∈ lw_privs_3, lw_okq q := List.forall_mem_cons.mpr ⟨lw_p32, List.forall_mem_cons.mpr ⟨lw_p33, List.forall_mem_cons.mpr ⟨lw_p34, List.forall_mem_cons.mpr ⟨lw_p35, List.forall_mem_cons.mpr ⟨lw_p36, List.forall_mem_cons.mpr ⟨lw_p37, List.forall_mem_cons.mpr ⟨lw_p38, List.forall_mem_cons.mpr ⟨lw_p39, List.forall_mem_cons.mpr ⟨lw_p40, List.forall_mem_cons.mpr ⟨lw_p41, List.forall_mem_cons.mpr ⟨lw_p42, List.forall_mem_cons.mpr ⟨lw_p43, fun _ h => absurd h List.not_mem_nil⟩⟩⟩⟩⟩⟩⟩⟩⟩⟩⟩⟩
def lw_privs : List (MethodName × Nat) := lw_privs_1 ++ (lw_privs_2 ++ (lw_privs_3))
def lw_tbl : List Cond := k2_sels lw_privs ++ tables_1
theorem lw_privs_ok : ∀ q ∈ lw_privs, lw_okq q := by
  show ∀ q ∈ lw_privs_1 ++ (lw_privs_2 ++ (lw_privs_3)), lw_okq q
  exact List.forall_mem_append.mpr ⟨lw_r1, List.forall_mem_append.mpr ⟨lw_r2, lw_r3⟩⟩
/-! classes: fields in the order of the slots -/
def Cn_B : String := "LifeboatHouse$Boat"
def Ft_B : u_T := fun k => match k with
  | 0 => ("LifeboatHouse$Boat", "fuel", "I", true)
  | 1 => ("LifeboatHouse$Boat", "speeds", "[I", true)
  | 2 => ("LifeboatHouse$Boat", "station", "I", false)
  | _ => ("LifeboatHouse$Boat", "awayTill", "I", false)
def Fy_B : Nat → FieldType := fun k => match k with
  | 0 => .int
  | 1 => .array .int
  | 2 => .int
  | _ => .int
theorem zn_B : ∀ a, a < 4 → ∀ b, b < 4 → a ≠ b → (Ft_B a).2.1 ≠ (Ft_B b).2.1 := by decide +kernel
theorem zt_B : ∀ k, k < 4 → parseFieldDescriptor (Ft_B k).2.2.1 = some (Fy_B k) := by decide +kernel
def Cn_C : String := "LifeboatHouse$Call"
def Ft_C : u_T := fun k => match k with
  | 0 => ("LifeboatHouse$Call", "miles", "I", true)
  | 1 => ("LifeboatHouse$Call", "out", "I", true)
  | _ => ("LifeboatHouse$Call", "sea", "I", true)
def Fy_C : Nat → FieldType := fun k => match k with
  | 0 => .int
  | 1 => .int
  | _ => .int
theorem zn_C : ∀ a, a < 3 → ∀ b, b < 3 → a ≠ b → (Ft_C a).2.1 ≠ (Ft_C b).2.1 := by decide +kernel
theorem zt_C : ∀ k, k < 3 → parseFieldDescriptor (Ft_C k).2.2.1 = some (Fy_C k) := by decide +kernel
def Cn_R : String := "LifeboatHouse$CrewRows"
def Ft_R : u_T := fun k => match k with
  | 0 => ("LifeboatHouse$CrewRows", "parts", "[I", true)
  | _ => ("LifeboatHouse$CrewRows", "top", "I", false)
def Fy_R : Nat → FieldType := fun k => match k with
  | 0 => .array .int
  | _ => .int
theorem zn_R : ∀ a, a < 2 → ∀ b, b < 2 → a ≠ b → (Ft_R a).2.1 ≠ (Ft_R b).2.1 := by decide +kernel
theorem zt_R : ∀ k, k < 2 → parseFieldDescriptor (Ft_R k).2.2.1 = some (Fy_R k) := by decide +kernel
def Cn_F : String := "LifeboatHouse$FlankPlan"
def Ft_F : u_T := fun k => match k with
  | 0 => ("LifeboatHouse$FlankPlan", "bestFrom", "[I", true)
  | 1 => ("LifeboatHouse$FlankPlan", "bestHelped", "I", false)
  | 2 => ("LifeboatHouse$FlankPlan", "bestMiles", "I", false)
  | 3 => ("LifeboatHouse$FlankPlan", "miles", "[I", true)
  | 4 => ("LifeboatHouse$FlankPlan", "spare", "[I", true)
  | 5 => ("LifeboatHouse$FlankPlan", "bare", "[Z", true)
  | _ => ("LifeboatHouse$FlankPlan", "from", "[I", true)
def Fy_F : Nat → FieldType := fun k => match k with
  | 0 => .array .int
  | 1 => .int
  | 2 => .int
  | 3 => .array .int
  | 4 => .array .int
  | 5 => .array .boolean
  | _ => .array .int
theorem zn_F : ∀ a, a < 7 → ∀ b, b < 7 → a ≠ b → (Ft_F a).2.1 ≠ (Ft_F b).2.1 := by decide +kernel
theorem zt_F : ∀ k, k < 7 → parseFieldDescriptor (Ft_F k).2.2.1 = some (Fy_F k) := by decide +kernel
def Cn_U : String := "LifeboatHouse$Launch"
def Ft_U : u_T := fun k => match k with
  | 0 => ("LifeboatHouse$Launch", "boat", "I", true)
  | 1 => ("LifeboatHouse$Launch", "call", "I", true)
  | 2 => ("LifeboatHouse$Launch", "launched", "I", true)
  | 3 => ("LifeboatHouse$Launch", "reached", "I", true)
  | _ => ("LifeboatHouse$Launch", "home", "I", true)
def Fy_U : Nat → FieldType := fun k => match k with
  | 0 => .int
  | 1 => .int
  | 2 => .int
  | 3 => .int
  | _ => .int
theorem zn_U : ∀ a, a < 5 → ∀ b, b < 5 → a ≠ b → (Ft_U a).2.1 ≠ (Ft_U b).2.1 := by decide +kernel
theorem zt_U : ∀ k, k < 5 → parseFieldDescriptor (Ft_U k).2.2.1 = some (Fy_U k) := by decide +kernel
def Cn_P : String := "LifeboatHouse$Pair"
def Ft_P : u_T := fun k => match k with
  | 0 => ("LifeboatHouse$Pair", "later", "I", false)
  | 1 => ("LifeboatHouse$Pair", "oneBoat", "I", false)
  | 2 => ("LifeboatHouse$Pair", "otherBoat", "I", false)
  | _ => ("LifeboatHouse$Pair", "together", "I", false)
def Fy_P : Nat → FieldType := fun k => match k with
  | 0 => .int
  | 1 => .int
  | 2 => .int
  | _ => .int
theorem zn_P : ∀ a, a < 4 → ∀ b, b < 4 → a ≠ b → (Ft_P a).2.1 ≠ (Ft_P b).2.1 := by decide +kernel
theorem zt_P : ∀ k, k < 4 → parseFieldDescriptor (Ft_P k).2.2.1 = some (Fy_P k) := by decide +kernel
def Cn_Q : String := "LifeboatHouse$Person"
def Ft_Q : u_T := fun k => match k with
  | 0 => ("LifeboatHouse$Person", "station", "I", true)
  | 1 => ("LifeboatHouse$Person", "skills", "I", true)
  | 2 => ("LifeboatHouse$Person", "paged", "[I", true)
  | 3 => ("LifeboatHouse$Person", "came", "[I", true)
  | 4 => ("LifeboatHouse$Person", "papers", "I", false)
  | _ => ("LifeboatHouse$Person", "restTill", "I", false)
def Fy_Q : Nat → FieldType := fun k => match k with
  | 0 => .int
  | 1 => .int
  | 2 => .array .int
  | 3 => .array .int
  | 4 => .int
  | _ => .int
theorem zn_Q : ∀ a, a < 6 → ∀ b, b < 6 → a ≠ b → (Ft_Q a).2.1 ≠ (Ft_Q b).2.1 := by decide +kernel
theorem zt_Q : ∀ k, k < 6 → parseFieldDescriptor (Ft_Q k).2.2.1 = some (Fy_Q k) := by decide +kernel
def Cn_S : String := "LifeboatHouse$Search"
def Ft_S : u_T := fun k => match k with
  | 0 => ("LifeboatHouse$Search", "worth", "[I", true)
  | 1 => ("LifeboatHouse$Search", "looked", "[I", true)
  | 2 => ("LifeboatHouse$Search", "found", "I", false)
  | _ => ("LifeboatHouse$Search", "left", "[I", true)
def Fy_S : Nat → FieldType := fun k => match k with
  | 0 => .array .int
  | 1 => .array .int
  | 2 => .int
  | _ => .array .int
theorem zn_S : ∀ a, a < 4 → ∀ b, b < 4 → a ≠ b → (Ft_S a).2.1 ≠ (Ft_S b).2.1 := by decide +kernel
theorem zt_S : ∀ k, k < 4 → parseFieldDescriptor (Ft_S k).2.2.1 = some (Fy_S k) := by decide +kernel
def Cn_T : String := "LifeboatHouse$Tides"
def Ft_T : u_T := fun k => match k with
  | 0 => ("LifeboatHouse$Tides", "high", "[I", true)
  | _ => ("LifeboatHouse$Tides", "leastTold", "I", false)
def Fy_T : Nat → FieldType := fun k => match k with
  | 0 => .array .int
  | _ => .int
theorem zn_T : ∀ a, a < 2 → ∀ b, b < 2 → a ≠ b → (Ft_T a).2.1 ≠ (Ft_T b).2.1 := by decide +kernel
theorem zt_T : ∀ k, k < 2 → parseFieldDescriptor (Ft_T k).2.2.1 = some (Fy_T k) := by decide +kernel
def Cn_H : String := "LifeboatHouse"
def Ft_H : u_T := fun k => match k with
  | 0 => ("LifeboatHouse", "miles", "[I", true)
  | 1 => ("LifeboatHouse", "needs", "[I", true)
  | 2 => ("LifeboatHouse", "people", "Ljava/util/ArrayList;", true)
  | 3 => ("LifeboatHouse", "boats", "Ljava/util/ArrayList;", true)
  | 4 => ("LifeboatHouse", "calls", "Ljava/util/ArrayList;", true)
  | 5 => ("LifeboatHouse", "launches", "Ljava/util/ArrayList;", true)
  | 6 => ("LifeboatHouse", "tides", "LLifeboatHouse$Tides;", true)
  | 7 => ("LifeboatHouse", "crewRows", "LLifeboatHouse$CrewRows;", true)
  | 8 => ("LifeboatHouse", "pair", "LLifeboatHouse$Pair;", true)
  | 9 => ("LifeboatHouse", "flankPlan", "LLifeboatHouse$FlankPlan;", true)
  | 10 => ("LifeboatHouse", "search", "LLifeboatHouse$Search;", true)
  | 11 => ("LifeboatHouse", "refused", "[I", true)
  | 12 => ("LifeboatHouse", "minute", "I", false)
  | 13 => ("LifeboatHouse", "size", "I", false)
  | _ => ("LifeboatHouse", "gather", "I", false)
def Fy_H : Nat → FieldType := fun k => match k with
  | 0 => .array .int
  | 1 => .array .int
  | 2 => .object "java/util/ArrayList"
  | 3 => .object "java/util/ArrayList"
  | 4 => .object "java/util/ArrayList"
  | 5 => .object "java/util/ArrayList"
  | 6 => .object "LifeboatHouse$Tides"
  | 7 => .object "LifeboatHouse$CrewRows"
  | 8 => .object "LifeboatHouse$Pair"
  | 9 => .object "LifeboatHouse$FlankPlan"
  | 10 => .object "LifeboatHouse$Search"
  | 11 => .array .int
  | 12 => .int
  | 13 => .int
  | _ => .int
theorem zn_H : ∀ a, a < 15 → ∀ b, b < 15 → a ≠ b → (Ft_H a).2.1 ≠ (Ft_H b).2.1 := by decide +kernel
theorem zt_H : ∀ k, k < 15 → parseFieldDescriptor (Ft_H k).2.2.1 = some (Fy_H k) := by decide +kernel
def Cn_M : String := "LifeboatHouseModel"
def Ft_M : u_T := fun k => match k with
  | 0 => ("LifeboatHouseModel", "minute", "I", false)
  | 1 => ("LifeboatHouseModel", "people", "I", false)
  | 2 => ("LifeboatHouseModel", "boats", "I", false)
  | 3 => ("LifeboatHouseModel", "calls", "I", false)
  | 4 => ("LifeboatHouseModel", "logs", "I", false)
  | 5 => ("LifeboatHouseModel", "crew", "I", false)
  | 6 => ("LifeboatHouseModel", "gather", "I", false)
  | 7 => ("LifeboatHouseModel", "miles", "[I", true)
  | 8 => ("LifeboatHouseModel", "needs", "[I", true)
  | 9 => ("LifeboatHouseModel", "home", "[I", true)
  | 10 => ("LifeboatHouseModel", "skills", "[I", true)
  | 11 => ("LifeboatHouseModel", "papers", "[I", true)
  | 12 => ("LifeboatHouseModel", "rests", "[I", true)
  | 13 => ("LifeboatHouseModel", "paged", "[I", true)
  | 14 => ("LifeboatHouseModel", "came", "[I", true)
  | 15 => ("LifeboatHouseModel", "high", "[I", true)
  | 16 => ("LifeboatHouseModel", "at", "[I", true)
  | 17 => ("LifeboatHouseModel", "fuel", "[I", true)
  | 18 => ("LifeboatHouseModel", "away", "[I", true)
  | 19 => ("LifeboatHouseModel", "speeds", "[I", true)
  | 20 => ("LifeboatHouseModel", "callMiles", "[I", true)
  | 21 => ("LifeboatHouseModel", "callOut", "[I", true)
  | 22 => ("LifeboatHouseModel", "callSea", "[I", true)
  | 23 => ("LifeboatHouseModel", "logBoat", "[I", true)
  | 24 => ("LifeboatHouseModel", "logCall", "[I", true)
  | 25 => ("LifeboatHouseModel", "logLaunch", "[I", true)
  | 26 => ("LifeboatHouseModel", "logReached", "[I", true)
  | 27 => ("LifeboatHouseModel", "logHome", "[I", true)
  | 28 => ("LifeboatHouseModel", "worth", "[I", true)
  | 29 => ("LifeboatHouseModel", "tried", "[I", true)
  | 30 => ("LifeboatHouseModel", "looked", "[I", true)
  | 31 => ("LifeboatHouseModel", "refused", "[I", true)
  | 32 => ("LifeboatHouseModel", "ways", "[I", true)
  | 33 => ("LifeboatHouseModel", "next", "[I", true)
  | 34 => ("LifeboatHouseModel", "bare", "[I", true)
  | 35 => ("LifeboatHouseModel", "free", "[I", true)
  | 36 => ("LifeboatHouseModel", "choice", "[I", true)
  | 37 => ("LifeboatHouseModel", "best", "[I", true)
  | 38 => ("LifeboatHouseModel", "helped", "I", false)
  | _ => ("LifeboatHouseModel", "helpMiles", "I", false)
def Fy_M : Nat → FieldType := fun k => match k with
  | 0 => .int
  | 1 => .int
  | 2 => .int
  | 3 => .int
  | 4 => .int
  | 5 => .int
  | 6 => .int
  | 7 => .array .int
  | 8 => .array .int
  | 9 => .array .int
  | 10 => .array .int
  | 11 => .array .int
  | 12 => .array .int
  | 13 => .array .int
  | 14 => .array .int
  | 15 => .array .int
  | 16 => .array .int
  | 17 => .array .int
  | 18 => .array .int
  | 19 => .array .int
  | 20 => .array .int
  | 21 => .array .int
  | 22 => .array .int
  | 23 => .array .int
  | 24 => .array .int
  | 25 => .array .int
  | 26 => .array .int
  | 27 => .array .int
  | 28 => .array .int
  | 29 => .array .int
  | 30 => .array .int
  | 31 => .array .int
  | 32 => .array .int
  | 33 => .array .int
  | 34 => .array .int
  | 35 => .array .int
  | 36 => .array .int
  | 37 => .array .int
  | 38 => .int
  | _ => .int
theorem zn_M : ∀ a, a < 40 → ∀ b, b < 40 → a ≠ b → (Ft_M a).2.1 ≠ (Ft_M b).2.1 := by decide +kernel
theorem zt_M : ∀ k, k < 40 → parseFieldDescriptor (Ft_M k).2.2.1 = some (Fy_M k) := by decide +kernel
def Cn_AL : String := "java/util/ArrayList"
def Ft_AL : u_T := fun k => match k with
  | 0 => ("java/util/AbstractList", "modCount", "I", false)
  | 1 => ("java/util/ArrayList", "elementData", "[Ljava/lang/Object;", false)
  | _ => ("java/util/ArrayList", "size", "I", false)
def Fy_AL : Nat → FieldType := fun k => match k with
  | 0 => .int
  | 1 => .array (.object "java/lang/Object")
  | _ => .int
theorem zn_AL : ∀ a, a < 3 → ∀ b, b < 3 → a ≠ b → (Ft_AL a).2.1 ≠ (Ft_AL b).2.1 := by decide +kernel
theorem zt_AL : ∀ k, k < 3 → parseFieldDescriptor (Ft_AL k).2.2.1 = some (Fy_AL k) := by decide +kernel
abbrev classes : List vw_C := [(Cn_B, Ft_B, 4), (Cn_C, Ft_C, 3), (Cn_R, Ft_R, 2), (Cn_F, Ft_F, 7), (Cn_U, Ft_U, 5), (Cn_P, Ft_P, 4), (Cn_Q, Ft_Q, 6), (Cn_S, Ft_S, 4), (Cn_T, Ft_T, 2), (Cn_H, Ft_H, 15), (Cn_M, Ft_M, 40), (Cn_AL, Ft_AL, 3)]
/-! methods: name, code, locals, answer -/
abbrev MI : Type := MethodName × ByteArray × Nat × Option FieldType
def I_H_init : MI := (⟨"LifeboatHouse", "<init>", "()V"⟩, prog_1_method_1_code, 2, (Option.none : Option FieldType))
def I_AL_init : MI := (⟨"java/util/ArrayList", "<init>", "()V"⟩, prog_20_method_2_code, 1, (Option.none : Option FieldType))
def I_AB_init : MI := (⟨"java/util/AbstractList", "<init>", "()V"⟩, prog_19_method_1_code, 1, (Option.none : Option FieldType))
def I_AC_init : MI := (⟨"java/util/AbstractCollection", "<init>", "()V"⟩, prog_18_method_1_code, 1, (Option.none : Option FieldType))
def I_T_init : MI := (⟨"LifeboatHouse$Tides", "<init>", "()V"⟩, prog_10_method_1_code, 1, (Option.none : Option FieldType))
def I_AR_fill : MI := (⟨"java/util/Arrays", "fill", "([II)V"⟩, prog_21_method_103_code, 4, (Option.none : Option FieldType))
def I_R_init : MI := (⟨"LifeboatHouse$CrewRows", "<init>", "()V"⟩, prog_4_method_1_code, 1, (Option.none : Option FieldType))
def I_P_init : MI := (⟨"LifeboatHouse$Pair", "<init>", "()V"⟩, prog_7_method_1_code, 1, (Option.none : Option FieldType))
def I_F_init : MI := (⟨"LifeboatHouse$FlankPlan", "<init>", "()V"⟩, prog_5_method_1_code, 1, (Option.none : Option FieldType))
def I_S_init : MI := (⟨"LifeboatHouse$Search", "<init>", "()V"⟩, prog_9_method_1_code, 1, (Option.none : Option FieldType))
def I_H_station : MI := (⟨"LifeboatHouse", "station", "(III)I"⟩, prog_1_method_2_code, 7, (Option.some FieldType.int))
def I_H_isStation : MI := (⟨"LifeboatHouse", "isStation", "(I)Z"⟩, prog_1_method_49_code, 1, (Option.some FieldType.boolean))
def I_H_refuse : MI := (⟨"LifeboatHouse", "refuse", "(I)I"⟩, prog_1_method_47_code, 2, (Option.some FieldType.int))
def I_H_outside : MI := (⟨"LifeboatHouse", "outside", "(III)I"⟩, prog_1_method_48_code, 3, (Option.some FieldType.int))
def I_H_person : MI := (⟨"LifeboatHouse", "person", "(III)I"⟩, prog_1_method_3_code, 4, (Option.some FieldType.int))
def I_AL_size : MI := (⟨"java/util/ArrayList", "size", "()I"⟩, prog_20_method_8_code, 1, (Option.some FieldType.int))
def I_Q_init : MI := (⟨"LifeboatHouse$Person", "<init>", "(III)V"⟩, prog_8_method_1_code, 4, (Option.none : Option FieldType))
def I_AL_add1 : MI := (⟨"java/util/ArrayList", "add", "(Ljava/lang/Object;)Z"⟩, prog_20_method_25_code, 2, (Option.some FieldType.boolean))
def I_AL_add3 : MI := (⟨"java/util/ArrayList", "add", "(Ljava/lang/Object;[Ljava/lang/Object;I)V"⟩, prog_20_method_24_code, 4, (Option.none : Option FieldType))
def I_AL_grow0 : MI := (⟨"java/util/ArrayList", "grow", "()[Ljava/lang/Object;"⟩, prog_20_method_7_code, 1, (Option.some (FieldType.array (FieldType.object "java/lang/Object"))))
def I_AL_grow1 : MI := (⟨"java/util/ArrayList", "grow", "(I)[Ljava/lang/Object;"⟩, prog_20_method_6_code, 4, (Option.some (FieldType.array (FieldType.object "java/lang/Object"))))
def I_AS_newLength : MI := (⟨"jdk/internal/util/ArraysSupport", "newLength", "(III)I"⟩, prog_27_method_27_code, 4, (Option.some FieldType.int))
def I_MA_max : MI := (⟨"java/lang/Math", "max", "(II)I"⟩, prog_16_method_65_code, 2, (Option.some FieldType.int))
def I_AS_hugeLength : MI := (⟨"jdk/internal/util/ArraysSupport", "hugeLength", "(II)I"⟩, prog_27_method_28_code, 3, (Option.some FieldType.int))
def I_AR_copyOf2 : MI := (⟨"java/util/Arrays", "copyOf", "([Ljava/lang/Object;I)[Ljava/lang/Object;"⟩, prog_21_method_119_code, 2, (Option.some (FieldType.array (FieldType.object "java/lang/Object"))))
def I_AR_copyOf3 : MI := (⟨"java/util/Arrays", "copyOf", "([Ljava/lang/Object;ILjava/lang/Class;)[Ljava/lang/Object;"⟩, prog_21_method_120_code, 4, (Option.some (FieldType.array (FieldType.object "java/lang/Object"))))
def I_MA_min : MI := (⟨"java/lang/Math", "min", "(II)I"⟩, prog_16_method_69_code, 2, (Option.some FieldType.int))
def I_H_papers : MI := (⟨"LifeboatHouse", "papers", "(II)I"⟩, prog_1_method_4_code, 6, (Option.some FieldType.int))
def I_H_personAt : MI := (⟨"LifeboatHouse", "personAt", "(I)LLifeboatHouse$Person;"⟩, prog_1_method_53_code, 2, (Option.some (FieldType.object "LifeboatHouse$Person")))
def I_AL_get : MI := (⟨"java/util/ArrayList", "get", "(I)Ljava/lang/Object;"⟩, prog_20_method_20_code, 2, (Option.some (FieldType.object "java/lang/Object")))
def I_OB_checkIndex : MI := (⟨"java/util/Objects", "checkIndex", "(II)I"⟩, prog_24_method_17_code, 2, (Option.some FieldType.int))
def I_PC_checkIndex : MI := (⟨"jdk/internal/util/Preconditions", "checkIndex", "(IILjava/util/function/BiFunction;)I"⟩, prog_28_method_11_code, 3, (Option.some FieldType.int))
def I_AL_elementData : MI := (⟨"java/util/ArrayList", "elementData", "(I)Ljava/lang/Object;"⟩, prog_20_method_18_code, 2, (Option.some (FieldType.object "java/lang/Object")))
def I_H_page : MI := (⟨"LifeboatHouse", "page", "(IZ)I"⟩, prog_1_method_5_code, 5, (Option.some FieldType.int))
def I_H_bandNow : MI := (⟨"LifeboatHouse", "bandNow", "()I"⟩, prog_1_method_15_code, 3, (Option.some FieldType.int))
def I_H_partOf : MI := (⟨"LifeboatHouse", "partOf", "(II)I"⟩, prog_1_method_6_code, 4, (Option.some FieldType.int))
def I_H_isBand : MI := (⟨"LifeboatHouse", "isBand", "(I)Z"⟩, prog_1_method_50_code, 1, (Option.some FieldType.boolean))
def I_Q_partIn : MI := (⟨"LifeboatHouse$Person", "partIn", "(II)I"⟩, prog_8_method_2_code, 5, (Option.some FieldType.int))
def I_H_set : MI := (⟨"LifeboatHouse", "set", "(II)I"⟩, prog_1_method_7_code, 5, (Option.some FieldType.int))
def I_H_chance : MI := (⟨"LifeboatHouse", "chance", "(II)I"⟩, prog_1_method_8_code, 3, (Option.some FieldType.int))
def I_H_crewChance : MI := (⟨"LifeboatHouse", "crewChance", "(II)I"⟩, prog_1_method_10_code, 6, (Option.some FieldType.int))
def I_R_clear : MI := (⟨"LifeboatHouse$CrewRows", "clear", "()V"⟩, prog_4_method_2_code, 1, (Option.none : Option FieldType))
def I_R_mayCome : MI := (⟨"LifeboatHouse$CrewRows", "mayCome", "(II)V"⟩, prog_4_method_3_code, 6, (Option.none : Option FieldType))
def I_R_rowWith : MI := (⟨"LifeboatHouse$CrewRows", "rowWith", "(II)I"⟩, prog_4_method_5_code, 3, (Option.some FieldType.int))
def I_R_stepUp : MI := (⟨"LifeboatHouse$CrewRows", "stepUp", "(III)I"⟩, prog_4_method_6_code, 3, (Option.some FieldType.int))
def I_R_standing : MI := (⟨"LifeboatHouse$CrewRows", "standing", "(I)I"⟩, prog_4_method_4_code, 4, (Option.some FieldType.int))
def I_R_stands : MI := (⟨"LifeboatHouse$CrewRows", "stands", "(II)Z"⟩, prog_4_method_7_code, 9, (Option.some FieldType.boolean))
def I_H_weak : MI := (⟨"LifeboatHouse", "weak", "(II)I"⟩, prog_1_method_9_code, 7, (Option.some FieldType.int))
def I_H_tide : MI := (⟨"LifeboatHouse", "tide", "(II)I"⟩, prog_1_method_11_code, 4, (Option.some FieldType.int))
def I_T_tell : MI := (⟨"LifeboatHouse$Tides", "tell", "(II)V"⟩, prog_10_method_2_code, 5, (Option.none : Option FieldType))
def I_H_slip : MI := (⟨"LifeboatHouse", "slip", "(II)I"⟩, prog_1_method_12_code, 4, (Option.some FieldType.int))
def I_H_isOpen : MI := (⟨"LifeboatHouse", "isOpen", "(II)Z"⟩, prog_1_method_14_code, 3, (Option.some FieldType.boolean))
def I_T_feet : MI := (⟨"LifeboatHouse$Tides", "feet", "(I)I"⟩, prog_10_method_3_code, 3, (Option.some FieldType.int))
def I_MA_floorMod : MI := (⟨"java/lang/Math", "floorMod", "(II)I"⟩, prog_16_method_50_code, 3, (Option.some FieldType.int))
def I_H_minutes : MI := (⟨"LifeboatHouse", "minutes", "(I)I"⟩, prog_1_method_13_code, 2, (Option.some FieldType.int))
def I_H_boat : MI := (⟨"LifeboatHouse", "boat", "(II)I"⟩, prog_1_method_16_code, 3, (Option.some FieldType.int))
def I_B_init : MI := (⟨"LifeboatHouse$Boat", "<init>", "(II)V"⟩, prog_2_method_1_code, 3, (Option.none : Option FieldType))
def I_H_speed : MI := (⟨"LifeboatHouse", "speed", "(III)I"⟩, prog_1_method_17_code, 7, (Option.some FieldType.int))
def I_H_boatAt : MI := (⟨"LifeboatHouse", "boatAt", "(I)LLifeboatHouse$Boat;"⟩, prog_1_method_54_code, 2, (Option.some (FieldType.object "LifeboatHouse$Boat")))
def I_H_isSea : MI := (⟨"LifeboatHouse", "isSea", "(I)Z"⟩, prog_1_method_51_code, 1, (Option.some FieldType.boolean))
def I_H_move : MI := (⟨"LifeboatHouse", "move", "(II)I"⟩, prog_1_method_18_code, 5, (Option.some FieldType.int))
def I_B_isAway : MI := (⟨"LifeboatHouse$Boat", "isAway", "(I)Z"⟩, prog_2_method_2_code, 2, (Option.some FieldType.boolean))
def I_H_call : MI := (⟨"LifeboatHouse", "call", "(III)I"⟩, prog_1_method_19_code, 4, (Option.some FieldType.int))
def I_C_init : MI := (⟨"LifeboatHouse$Call", "<init>", "(III)V"⟩, prog_3_method_1_code, 4, (Option.none : Option FieldType))
def I_H_reach : MI := (⟨"LifeboatHouse", "reach", "(III)I"⟩, prog_1_method_20_code, 6, (Option.some FieldType.int))
def I_H_callAt : MI := (⟨"LifeboatHouse", "callAt", "(I)LLifeboatHouse$Call;"⟩, prog_1_method_55_code, 2, (Option.some (FieldType.object "LifeboatHouse$Call")))
def I_H_canGo : MI := (⟨"LifeboatHouse", "canGo", "(LLifeboatHouse$Boat;LLifeboatHouse$Call;)Z"⟩, prog_1_method_26_code, 4, (Option.some FieldType.boolean))
def I_H_wayOf : MI := (⟨"LifeboatHouse", "wayOf", "(LLifeboatHouse$Boat;LLifeboatHouse$Call;)I"⟩, prog_1_method_25_code, 3, (Option.some FieldType.int))
def I_MA_abs : MI := (⟨"java/lang/Math", "abs", "(I)I"⟩, prog_16_method_59_code, 1, (Option.some FieldType.int))
def I_H_cutUp : MI := (⟨"LifeboatHouse", "cutUp", "(II)I"⟩, prog_1_method_56_code, 2, (Option.some FieldType.int))
def I_H_launchMinute : MI := (⟨"LifeboatHouse", "launchMinute", "(LLifeboatHouse$Boat;)I"⟩, prog_1_method_27_code, 5, (Option.some FieldType.int))
def I_H_reachedMinute : MI := (⟨"LifeboatHouse", "reachedMinute", "(LLifeboatHouse$Boat;LLifeboatHouse$Call;)I"⟩, prog_1_method_28_code, 4, (Option.some FieldType.int))
def I_H_first : MI := (⟨"LifeboatHouse", "first", "(I)I"⟩, prog_1_method_21_code, 7, (Option.some FieldType.int))
def I_H_two : MI := (⟨"LifeboatHouse", "two", "(III)I"⟩, prog_1_method_22_code, 6, (Option.some FieldType.int))
def I_H_pairBoats : MI := (⟨"LifeboatHouse", "pairBoats", "(LLifeboatHouse$Call;LLifeboatHouse$Call;)V"⟩, prog_1_method_29_code, 7, (Option.none : Option FieldType))
def I_P_clear : MI := (⟨"LifeboatHouse$Pair", "clear", "()V"⟩, prog_7_method_2_code, 1, (Option.none : Option FieldType))
def I_P_offer : MI := (⟨"LifeboatHouse$Pair", "offer", "(IIII)V"⟩, prog_7_method_3_code, 8, (Option.none : Option FieldType))
def I_H_send : MI := (⟨"LifeboatHouse", "send", "(IIIZ)I"⟩, prog_1_method_23_code, 10, (Option.some FieldType.int))
def I_U_init : MI := (⟨"LifeboatHouse$Launch", "<init>", "(IIIII)V"⟩, prog_6_method_1_code, 6, (Option.none : Option FieldType))
def I_H_log : MI := (⟨"LifeboatHouse", "log", "(II)I"⟩, prog_1_method_24_code, 3, (Option.some FieldType.int))
def I_U_told : MI := (⟨"LifeboatHouse$Launch", "told", "(I)I"⟩, prog_6_method_2_code, 2, (Option.some FieldType.int))
def I_H_covered : MI := (⟨"LifeboatHouse", "covered", "(I)I"⟩, prog_1_method_30_code, 2, (Option.some FieldType.int))
def I_H_boatsReadyAt : MI := (⟨"LifeboatHouse", "boatsReadyAt", "(I)I"⟩, prog_1_method_34_code, 5, (Option.some FieldType.int))
def I_H_flanks : MI := (⟨"LifeboatHouse", "flanks", "(I)I"⟩, prog_1_method_31_code, 2, (Option.some FieldType.int))
def I_H_planFlanks : MI := (⟨"LifeboatHouse", "planFlanks", "()V"⟩, prog_1_method_33_code, 2, (Option.none : Option FieldType))
def I_F_tellReady : MI := (⟨"LifeboatHouse$FlankPlan", "tellReady", "(III)V"⟩, prog_5_method_2_code, 4, (Option.none : Option FieldType))
def I_F_find : MI := (⟨"LifeboatHouse$FlankPlan", "find", "()V"⟩, prog_5_method_3_code, 1, (Option.none : Option FieldType))
def I_F_tryFrom : MI := (⟨"LifeboatHouse$FlankPlan", "tryFrom", "(III)V"⟩, prog_5_method_4_code, 6, (Option.none : Option FieldType))
def I_F_keepIfBetter : MI := (⟨"LifeboatHouse$FlankPlan", "keepIfBetter", "(II)V"⟩, prog_5_method_5_code, 3, (Option.none : Option FieldType))
def I_H_flank : MI := (⟨"LifeboatHouse", "flank", "(I)I"⟩, prog_1_method_32_code, 2, (Option.some FieldType.int))
def I_H_box : MI := (⟨"LifeboatHouse", "box", "(II)I"⟩, prog_1_method_35_code, 5, (Option.some FieldType.int))
def I_H_isBox : MI := (⟨"LifeboatHouse", "isBox", "(I)Z"⟩, prog_1_method_52_code, 1, (Option.some FieldType.boolean))
def I_H_look : MI := (⟨"LifeboatHouse", "look", "(II)I"⟩, prog_1_method_36_code, 4, (Option.some FieldType.int))
def I_S_leftOf : MI := (⟨"LifeboatHouse$Search", "leftOf", "(II)I"⟩, prog_9_method_2_code, 2, (Option.some FieldType.int))
def I_H_looks : MI := (⟨"LifeboatHouse", "looks", "(II)I"⟩, prog_1_method_37_code, 4, (Option.some FieldType.int))
def I_H_wrongLooks : MI := (⟨"LifeboatHouse", "wrongLooks", "(II)I"⟩, prog_1_method_39_code, 2, (Option.some FieldType.int))
def I_S_plan : MI := (⟨"LifeboatHouse$Search", "plan", "(II)V"⟩, prog_9_method_3_code, 5, (Option.none : Option FieldType))
def I_S_richest : MI := (⟨"LifeboatHouse$Search", "richest", "(I)I"⟩, prog_9_method_4_code, 4, (Option.some FieldType.int))
def I_S_foundOf : MI := (⟨"LifeboatHouse$Search", "foundOf", "(II)I"⟩, prog_9_method_5_code, 2, (Option.some FieldType.int))
def I_H_lookAt : MI := (⟨"LifeboatHouse", "lookAt", "(III)I"⟩, prog_1_method_38_code, 5, (Option.some FieldType.int))
def I_H_rest : MI := (⟨"LifeboatHouse", "rest", "(II)I"⟩, prog_1_method_40_code, 6, (Option.some FieldType.int))
def I_H_turn : MI := (⟨"LifeboatHouse", "turn", "(II)I"⟩, prog_1_method_41_code, 4, (Option.some FieldType.int))
def I_H_placeInTurn : MI := (⟨"LifeboatHouse", "placeInTurn", "(I)I"⟩, prog_1_method_42_code, 6, (Option.some FieldType.int))
def I_H_personOf : MI := (⟨"LifeboatHouse", "personOf", "(II)I"⟩, prog_1_method_43_code, 4, (Option.some FieldType.int))
def I_H_count : MI := (⟨"LifeboatHouse", "count", "(I)I"⟩, prog_1_method_44_code, 2, (Option.some FieldType.int))
def I_H_boatsAway : MI := (⟨"LifeboatHouse", "boatsAway", "()I"⟩, prog_1_method_45_code, 3, (Option.some FieldType.int))
def I_H_stationsCovered : MI := (⟨"LifeboatHouse", "stationsCovered", "()I"⟩, prog_1_method_46_code, 3, (Option.some FieldType.int))
def I_M_init : MI := (⟨"LifeboatHouseModel", "<init>", "()V"⟩, prog_12_method_1_code, 2, (Option.none : Option FieldType))
def I_M_station : MI := (⟨"LifeboatHouseModel", "station", "(III)I"⟩, prog_12_method_11_code, 5, (Option.some FieldType.int))
def I_M_isStation : MI := (⟨"LifeboatHouseModel", "isStation", "(I)Z"⟩, prog_12_method_3_code, 1, (Option.some FieldType.boolean))
def I_M_no : MI := (⟨"LifeboatHouseModel", "no", "(I)I"⟩, prog_12_method_2_code, 2, (Option.some FieldType.int))
def I_M_person : MI := (⟨"LifeboatHouseModel", "person", "(III)I"⟩, prog_12_method_12_code, 4, (Option.some FieldType.int))
def I_M_papers : MI := (⟨"LifeboatHouseModel", "papers", "(II)I"⟩, prog_12_method_13_code, 4, (Option.some FieldType.int))
def I_M_isPerson : MI := (⟨"LifeboatHouseModel", "isPerson", "(I)Z"⟩, prog_12_method_4_code, 2, (Option.some FieldType.boolean))
def I_M_page : MI := (⟨"LifeboatHouseModel", "page", "(IZ)I"⟩, prog_12_method_14_code, 4, (Option.some FieldType.int))
def I_M_band : MI := (⟨"LifeboatHouseModel", "band", "()I"⟩, prog_12_method_10_code, 1, (Option.some FieldType.int))
def I_M_hour : MI := (⟨"LifeboatHouseModel", "hour", "()I"⟩, prog_12_method_8_code, 1, (Option.some FieldType.int))
def I_M_day : MI := (⟨"LifeboatHouseModel", "day", "()I"⟩, prog_12_method_9_code, 1, (Option.some FieldType.int))
def I_M_partOf : MI := (⟨"LifeboatHouseModel", "partOf", "(II)I"⟩, prog_12_method_16_code, 3, (Option.some FieldType.int))
def I_M_isBand : MI := (⟨"LifeboatHouseModel", "isBand", "(I)Z"⟩, prog_12_method_5_code, 1, (Option.some FieldType.boolean))
def I_M_part : MI := (⟨"LifeboatHouseModel", "part", "(II)I"⟩, prog_12_method_15_code, 3, (Option.some FieldType.int))
def I_M_set : MI := (⟨"LifeboatHouseModel", "set", "(II)I"⟩, prog_12_method_17_code, 4, (Option.some FieldType.int))
def I_M_chance : MI := (⟨"LifeboatHouseModel", "chance", "(II)I"⟩, prog_12_method_22_code, 3, (Option.some FieldType.int))
def I_M_chanceOf : MI := (⟨"LifeboatHouseModel", "chanceOf", "(II)I"⟩, prog_12_method_21_code, 7, (Option.some FieldType.int))
def I_M_comes : MI := (⟨"LifeboatHouseModel", "comes", "(II)I"⟩, prog_12_method_19_code, 7, (Option.some FieldType.int))
def I_M_more : MI := (⟨"LifeboatHouseModel", "more", "(II)I"⟩, prog_12_method_18_code, 2, (Option.some FieldType.int))
def I_M_stands : MI := (⟨"LifeboatHouseModel", "stands", "(I)Z"⟩, prog_12_method_20_code, 8, (Option.some FieldType.boolean))
def I_M_weak : MI := (⟨"LifeboatHouseModel", "weak", "(II)I"⟩, prog_12_method_23_code, 5, (Option.some FieldType.int))
def I_M_tide : MI := (⟨"LifeboatHouseModel", "tide", "(II)I"⟩, prog_12_method_24_code, 3, (Option.some FieldType.int))
def I_M_slip : MI := (⟨"LifeboatHouseModel", "slip", "(II)I"⟩, prog_12_method_27_code, 3, (Option.some FieldType.int))
def I_M_isOpen : MI := (⟨"LifeboatHouseModel", "isOpen", "(II)Z"⟩, prog_12_method_26_code, 3, (Option.some FieldType.boolean))
def I_M_highOf : MI := (⟨"LifeboatHouseModel", "highOf", "(I)I"⟩, prog_12_method_25_code, 5, (Option.some FieldType.int))
def I_M_minutes : MI := (⟨"LifeboatHouseModel", "minutes", "(I)I"⟩, prog_12_method_28_code, 2, (Option.some FieldType.int))
def I_M_boat : MI := (⟨"LifeboatHouseModel", "boat", "(II)I"⟩, prog_12_method_29_code, 3, (Option.some FieldType.int))
def I_M_speed : MI := (⟨"LifeboatHouseModel", "speed", "(III)I"⟩, prog_12_method_30_code, 5, (Option.some FieldType.int))
def I_M_isBoat : MI := (⟨"LifeboatHouseModel", "isBoat", "(I)Z"⟩, prog_12_method_6_code, 2, (Option.some FieldType.boolean))
def I_M_move : MI := (⟨"LifeboatHouseModel", "move", "(II)I"⟩, prog_12_method_32_code, 4, (Option.some FieldType.int))
def I_M_isAway : MI := (⟨"LifeboatHouseModel", "isAway", "(I)Z"⟩, prog_12_method_31_code, 2, (Option.some FieldType.boolean))
def I_M_call : MI := (⟨"LifeboatHouseModel", "call", "(III)I"⟩, prog_12_method_33_code, 4, (Option.some FieldType.int))
def I_M_reach : MI := (⟨"LifeboatHouseModel", "reach", "(III)I"⟩, prog_12_method_41_code, 4, (Option.some FieldType.int))
def I_M_isCall : MI := (⟨"LifeboatHouseModel", "isCall", "(I)Z"⟩, prog_12_method_7_code, 2, (Option.some FieldType.boolean))
def I_M_can : MI := (⟨"LifeboatHouseModel", "can", "(II)Z"⟩, prog_12_method_38_code, 4, (Option.some FieldType.boolean))
def I_M_speedFor : MI := (⟨"LifeboatHouseModel", "speedFor", "(II)I"⟩, prog_12_method_37_code, 3, (Option.some FieldType.int))
def I_M_way : MI := (⟨"LifeboatHouseModel", "way", "(II)I"⟩, prog_12_method_36_code, 3, (Option.some FieldType.int))
def I_M_size : MI := (⟨"LifeboatHouseModel", "size", "(I)I"⟩, prog_12_method_34_code, 1, (Option.some FieldType.int))
def I_M_up : MI := (⟨"LifeboatHouseModel", "up", "(II)I"⟩, prog_12_method_35_code, 2, (Option.some FieldType.int))
def I_M_reached : MI := (⟨"LifeboatHouseModel", "reached", "(II)I"⟩, prog_12_method_40_code, 4, (Option.some FieldType.int))
def I_M_launch : MI := (⟨"LifeboatHouseModel", "launch", "(I)I"⟩, prog_12_method_39_code, 5, (Option.some FieldType.int))
def I_M_first : MI := (⟨"LifeboatHouseModel", "first", "(I)I"⟩, prog_12_method_42_code, 5, (Option.some FieldType.int))
def I_M_two : MI := (⟨"LifeboatHouseModel", "two", "(III)I"⟩, prog_12_method_43_code, 13, (Option.some FieldType.int))
def I_M_send : MI := (⟨"LifeboatHouseModel", "send", "(IIIZ)I"⟩, prog_12_method_44_code, 8, (Option.some FieldType.int))
def I_M_log : MI := (⟨"LifeboatHouseModel", "log", "(II)I"⟩, prog_12_method_45_code, 3, (Option.some FieldType.int))
def I_M_covered : MI := (⟨"LifeboatHouseModel", "covered", "(I)I"⟩, prog_12_method_47_code, 2, (Option.some FieldType.int))
def I_M_standing : MI := (⟨"LifeboatHouseModel", "standing", "(I)I"⟩, prog_12_method_46_code, 4, (Option.some FieldType.int))
def I_M_flanks : MI := (⟨"LifeboatHouseModel", "flanks", "(I)I"⟩, prog_12_method_49_code, 2, (Option.some FieldType.int))
def I_M_helps : MI := (⟨"LifeboatHouseModel", "helps", "()V"⟩, prog_12_method_48_code, 11, (Option.none : Option FieldType))
def I_M_flank : MI := (⟨"LifeboatHouseModel", "flank", "(I)I"⟩, prog_12_method_50_code, 2, (Option.some FieldType.int))
def I_M_box : MI := (⟨"LifeboatHouseModel", "box", "(II)I"⟩, prog_12_method_52_code, 4, (Option.some FieldType.int))
def I_M_isBox : MI := (⟨"LifeboatHouseModel", "isBox", "(I)Z"⟩, prog_12_method_51_code, 1, (Option.some FieldType.boolean))
def I_M_look : MI := (⟨"LifeboatHouseModel", "look", "(II)I"⟩, prog_12_method_53_code, 3, (Option.some FieldType.int))
def I_M_looks : MI := (⟨"LifeboatHouseModel", "looks", "(II)I"⟩, prog_12_method_55_code, 3, (Option.some FieldType.int))
def I_M_tries : MI := (⟨"LifeboatHouseModel", "tries", "(II)I"⟩, prog_12_method_54_code, 7, (Option.some FieldType.int))
def I_M_lookAt : MI := (⟨"LifeboatHouseModel", "lookAt", "(III)I"⟩, prog_12_method_56_code, 4, (Option.some FieldType.int))
def I_M_rest : MI := (⟨"LifeboatHouseModel", "rest", "(II)I"⟩, prog_12_method_57_code, 4, (Option.some FieldType.int))
def I_M_turn : MI := (⟨"LifeboatHouseModel", "turn", "(II)I"⟩, prog_12_method_58_code, 6, (Option.some FieldType.int))
def I_M_personOf : MI := (⟨"LifeboatHouseModel", "personOf", "(II)I"⟩, prog_12_method_59_code, 3, (Option.some FieldType.int))
def I_M_count : MI := (⟨"LifeboatHouseModel", "count", "(I)I"⟩, prog_12_method_60_code, 4, (Option.some FieldType.int))
def I_L_law : MI := (⟨"LifeboatHouseLaw", "law", "([I)Z"⟩, code, 4, ret)
end
section
/-! the words of the tables, by their places: those that stay true whatever is resolved, and the others that are needed -/
def gtbl : List Cond := lw_tbl.filter goodWord
def nword : Cond → Bool
  | .castable .. => true
  | .methodLinkNest .. => true
  | .declares .. => true
  | _ => false
def ntbl : List Cond := lw_tbl.filter nword
set_option maxRecDepth 8000 in
theorem zw_0 : (Cond.initialized "LifeboatHouseLaw") ∈ gtbl := List.mem_filter.mpr ⟨List.mem_append_right _ (List.mem_append_left _ (List.mem_of_getElem? (l := tables_1_1) (i := 0) rfl)), rfl⟩
set_option maxRecDepth 8000 in
theorem zw_1 : (Cond.initialized "LifeboatHouse") ∈ gtbl := List.mem_filter.mpr ⟨List.mem_append_right _ (List.mem_append_left _ (List.mem_of_getElem? (l := tables_1_1) (i := 1) rfl)), rfl⟩
set_option maxRecDepth 8000 in
theorem zw_2 : (Cond.initialized "java/util/AbstractCollection") ∈ gtbl := List.mem_filter.mpr ⟨List.mem_append_right _ (List.mem_append_left _ (List.mem_of_getElem? (l := tables_1_1) (i := 2) rfl)), rfl⟩
set_option maxRecDepth 8000 in
theorem zw_3 : (Cond.initialized "java/util/AbstractList") ∈ gtbl := List.mem_filter.mpr ⟨List.mem_append_right _ (List.mem_append_left _ (List.mem_of_getElem? (l := tables_1_1) (i := 3) rfl)), rfl⟩
set_option maxRecDepth 8000 in
theorem zw_4 : (Cond.initialized "java/util/ArrayList") ∈ gtbl := List.mem_filter.mpr ⟨List.mem_append_right _ (List.mem_append_left _ (List.mem_of_getElem? (l := tables_1_1) (i := 4) rfl)), rfl⟩
set_option maxRecDepth 8000 in
theorem zw_5 : (Cond.initialized "LifeboatHouse$Tides") ∈ gtbl := List.mem_filter.mpr ⟨List.mem_append_right _ (List.mem_append_left _ (List.mem_of_getElem? (l := tables_1_1) (i := 5) rfl)), rfl⟩
set_option maxRecDepth 8000 in
theorem zw_6 : (Cond.initialized "java/util/Arrays") ∈ gtbl := List.mem_filter.mpr ⟨List.mem_append_right _ (List.mem_append_left _ (List.mem_of_getElem? (l := tables_1_1) (i := 6) rfl)), rfl⟩
set_option maxRecDepth 8000 in
theorem zw_7 : (Cond.initialized "LifeboatHouse$CrewRows") ∈ gtbl := List.mem_filter.mpr ⟨List.mem_append_right _ (List.mem_append_left _ (List.mem_of_getElem? (l := tables_1_1) (i := 7) rfl)), rfl⟩
set_option maxRecDepth 8000 in
theorem zw_8 : (Cond.initialized "LifeboatHouse$Pair") ∈ gtbl := List.mem_filter.mpr ⟨List.mem_append_right _ (List.mem_append_left _ (List.mem_of_getElem? (l := tables_1_1) (i := 8) rfl)), rfl⟩
set_option maxRecDepth 8000 in
theorem zw_9 : (Cond.initialized "LifeboatHouse$FlankPlan") ∈ gtbl := List.mem_filter.mpr ⟨List.mem_append_right _ (List.mem_append_left _ (List.mem_of_getElem? (l := tables_1_1) (i := 9) rfl)), rfl⟩
set_option maxRecDepth 8000 in
theorem zw_10 : (Cond.initialized "LifeboatHouse$Search") ∈ gtbl := List.mem_filter.mpr ⟨List.mem_append_right _ (List.mem_append_left _ (List.mem_of_getElem? (l := tables_1_1) (i := 10) rfl)), rfl⟩
set_option maxRecDepth 8000 in
theorem zw_11 : (Cond.initialized "LifeboatHouseModel") ∈ gtbl := List.mem_filter.mpr ⟨List.mem_append_right _ (List.mem_append_left _ (List.mem_of_getElem? (l := tables_1_1) (i := 11) rfl)), rfl⟩
set_option maxRecDepth 8000 in
theorem zw_12 : (Cond.initialized "LifeboatHouse$Person") ∈ gtbl := List.mem_filter.mpr ⟨List.mem_append_right _ (List.mem_append_left _ (List.mem_of_getElem? (l := tables_1_1) (i := 12) rfl)), rfl⟩
set_option maxRecDepth 8000 in
theorem zw_13 : (Cond.initialized "jdk/internal/util/ArraysSupport") ∈ gtbl := List.mem_filter.mpr ⟨List.mem_append_right _ (List.mem_append_left _ (List.mem_of_getElem? (l := tables_1_1) (i := 13) rfl)), rfl⟩
set_option maxRecDepth 8000 in
theorem zw_14 : (Cond.initialized "java/lang/Math") ∈ gtbl := List.mem_filter.mpr ⟨List.mem_append_right _ (List.mem_append_left _ (List.mem_of_getElem? (l := tables_1_1) (i := 14) rfl)), rfl⟩
set_option maxRecDepth 8000 in
theorem zw_15 : (Cond.initialized "java/lang/System") ∈ gtbl := List.mem_filter.mpr ⟨List.mem_append_right _ (List.mem_append_left _ (List.mem_of_getElem? (l := tables_1_1) (i := 15) rfl)), rfl⟩
set_option maxRecDepth 8000 in
theorem zw_16 : (Cond.initialized "java/util/Objects") ∈ gtbl := List.mem_filter.mpr ⟨List.mem_append_right _ (List.mem_append_left _ (List.mem_of_getElem? (l := tables_1_1) (i := 16) rfl)), rfl⟩
set_option maxRecDepth 8000 in
theorem zw_17 : (Cond.initialized "jdk/internal/util/Preconditions") ∈ gtbl := List.mem_filter.mpr ⟨List.mem_append_right _ (List.mem_append_left _ (List.mem_of_getElem? (l := tables_1_1) (i := 17) rfl)), rfl⟩
set_option maxRecDepth 8000 in
theorem zw_18 : (Cond.initialized "LifeboatHouse$Boat") ∈ gtbl := List.mem_filter.mpr ⟨List.mem_append_right _ (List.mem_append_left _ (List.mem_of_getElem? (l := tables_1_1) (i := 18) rfl)), rfl⟩
set_option maxRecDepth 8000 in
theorem zw_19 : (Cond.initialized "LifeboatHouse$Call") ∈ gtbl := List.mem_filter.mpr ⟨List.mem_append_right _ (List.mem_append_left _ (List.mem_of_getElem? (l := tables_1_1) (i := 19) rfl)), rfl⟩
set_option maxRecDepth 8000 in
theorem zw_20 : (Cond.initialized "LifeboatHouse$Launch") ∈ gtbl := List.mem_filter.mpr ⟨List.mem_append_right _ (List.mem_append_left _ (List.mem_of_getElem? (l := tables_1_1) (i := 20) rfl)), rfl⟩
set_option maxRecDepth 8000 in
theorem zw_21 : (Cond.classLink "LifeboatHouseLaw" (7 : Nat) "LifeboatHouse") ∈ gtbl := List.mem_filter.mpr ⟨List.mem_append_right _ (List.mem_append_left _ (List.mem_of_getElem? (l := tables_1_1) (i := 21) rfl)), rfl⟩
set_option maxRecDepth 8000 in
theorem zw_22 : (Cond.instantiable "LifeboatHouse" (15 : Nat)) ∈ gtbl := List.mem_filter.mpr ⟨List.mem_append_right _ (List.mem_append_left _ (List.mem_of_getElem? (l := tables_1_1) (i := 22) rfl)), rfl⟩
set_option maxRecDepth 8000 in
theorem zw_23 : (Cond.methodLink "LifeboatHouseLaw" (9 : Nat) ({ cls := "LifeboatHouse", name := "<init>", desc := "()V" } : MethodName)) ∈ gtbl := List.mem_filter.mpr ⟨List.mem_append_right _ (List.mem_append_left _ (List.mem_of_getElem? (l := tables_1_1) (i := 23) rfl)), rfl⟩
set_option maxRecDepth 8000 in
theorem zw_24 : (Cond.instanceMethod ({ cls := "LifeboatHouse", name := "<init>", desc := "()V" } : MethodName)) ∈ gtbl := List.mem_filter.mpr ⟨List.mem_append_right _ (List.mem_append_left _ (List.mem_of_getElem? (l := tables_1_1) (i := 24) rfl)), rfl⟩
set_option maxRecDepth 8000 in
theorem zw_25 : (Cond.code ({ cls := "LifeboatHouse", name := "<init>", desc := "()V" } : MethodName) prog_1_method_1_code (2 : Nat) (Option.none : Option FieldType)) ∈ gtbl := List.mem_filter.mpr ⟨List.mem_append_right _ (List.mem_append_left _ (List.mem_of_getElem? (l := tables_1_1) (i := 25) rfl)), rfl⟩
set_option maxRecDepth 8000 in
theorem zw_26 : (Cond.methodLink "LifeboatHouse" (1 : Nat) ({ cls := "java/lang/Object", name := "<init>", desc := "()V" } : MethodName)) ∈ gtbl := List.mem_filter.mpr ⟨List.mem_append_right _ (List.mem_append_left _ (List.mem_of_getElem? (l := tables_1_1) (i := 26) rfl)), rfl⟩
set_option maxRecDepth 8000 in
theorem zw_27 : (Cond.instanceMethod ({ cls := "java/lang/Object", name := "<init>", desc := "()V" } : MethodName)) ∈ gtbl := List.mem_filter.mpr ⟨List.mem_append_right _ (List.mem_append_left _ (List.mem_of_getElem? (l := tables_1_1) (i := 27) rfl)), rfl⟩
set_option maxRecDepth 8000 in
theorem zw_28 : (Cond.code ({ cls := "java/lang/Object", name := "<init>", desc := "()V" } : MethodName) object_method_1_code (1 : Nat) (Option.none : Option FieldType)) ∈ gtbl := List.mem_filter.mpr ⟨List.mem_append_right _ (List.mem_append_left _ (List.mem_of_getElem? (l := tables_1_1) (i := 28) rfl)), rfl⟩
set_option maxRecDepth 8000 in
theorem zw_29 : (Cond.classLink "LifeboatHouse" (16 : Nat) "java/util/ArrayList") ∈ gtbl := List.mem_filter.mpr ⟨List.mem_append_right _ (List.mem_append_left _ (List.mem_of_getElem? (l := tables_1_1) (i := 29) rfl)), rfl⟩
set_option maxRecDepth 8000 in
theorem zw_30 : (Cond.instantiable "java/util/ArrayList" (3 : Nat)) ∈ gtbl := List.mem_filter.mpr ⟨List.mem_append_right _ (List.mem_append_left _ (List.mem_of_getElem? (l := tables_1_1) (i := 30) rfl)), rfl⟩
set_option maxRecDepth 8000 in
theorem zw_31 : (Cond.methodLink "LifeboatHouse" (18 : Nat) ({ cls := "java/util/ArrayList", name := "<init>", desc := "()V" } : MethodName)) ∈ gtbl := List.mem_filter.mpr ⟨List.mem_append_right _ (List.mem_append_left _ (List.mem_of_getElem? (l := tables_1_1) (i := 31) rfl)), rfl⟩
set_option maxRecDepth 8000 in
theorem zw_32 : (Cond.instanceMethod ({ cls := "java/util/ArrayList", name := "<init>", desc := "()V" } : MethodName)) ∈ gtbl := List.mem_filter.mpr ⟨List.mem_append_right _ (List.mem_append_left _ (List.mem_of_getElem? (l := tables_1_1) (i := 32) rfl)), rfl⟩
set_option maxRecDepth 8000 in
theorem zw_33 : (Cond.code ({ cls := "java/util/ArrayList", name := "<init>", desc := "()V" } : MethodName) prog_20_method_2_code (1 : Nat) (Option.none : Option FieldType)) ∈ gtbl := List.mem_filter.mpr ⟨List.mem_append_right _ (List.mem_append_left _ (List.mem_of_getElem? (l := tables_1_1) (i := 33) rfl)), rfl⟩
set_option maxRecDepth 8000 in
theorem zw_34 : (Cond.methodLink "java/util/ArrayList" (1 : Nat) ({ cls := "java/util/AbstractList", name := "<init>", desc := "()V" } : MethodName)) ∈ gtbl := List.mem_filter.mpr ⟨List.mem_append_right _ (List.mem_append_left _ (List.mem_of_getElem? (l := tables_1_1) (i := 34) rfl)), rfl⟩
set_option maxRecDepth 8000 in
theorem zw_35 : (Cond.instanceMethod ({ cls := "java/util/AbstractList", name := "<init>", desc := "()V" } : MethodName)) ∈ gtbl := List.mem_filter.mpr ⟨List.mem_append_right _ (List.mem_append_left _ (List.mem_of_getElem? (l := tables_1_1) (i := 35) rfl)), rfl⟩
set_option maxRecDepth 8000 in
theorem zw_36 : (Cond.code ({ cls := "java/util/AbstractList", name := "<init>", desc := "()V" } : MethodName) prog_19_method_1_code (1 : Nat) (Option.none : Option FieldType)) ∈ gtbl := List.mem_filter.mpr ⟨List.mem_append_right _ (List.mem_append_left _ (List.mem_of_getElem? (l := tables_1_1) (i := 36) rfl)), rfl⟩
set_option maxRecDepth 8000 in
theorem zw_37 : (Cond.methodLink "java/util/AbstractList" (1 : Nat) ({ cls := "java/util/AbstractCollection", name := "<init>", desc := "()V" } : MethodName)) ∈ gtbl := List.mem_filter.mpr ⟨List.mem_append_right _ (List.mem_append_left _ (List.mem_of_getElem? (l := tables_1_1) (i := 37) rfl)), rfl⟩
set_option maxRecDepth 8000 in
theorem zw_38 : (Cond.instanceMethod ({ cls := "java/util/AbstractCollection", name := "<init>", desc := "()V" } : MethodName)) ∈ gtbl := List.mem_filter.mpr ⟨List.mem_append_right _ (List.mem_append_left _ (List.mem_of_getElem? (l := tables_1_1) (i := 38) rfl)), rfl⟩
set_option maxRecDepth 8000 in
theorem zw_39 : (Cond.code ({ cls := "java/util/AbstractCollection", name := "<init>", desc := "()V" } : MethodName) prog_18_method_1_code (1 : Nat) (Option.none : Option FieldType)) ∈ gtbl := List.mem_filter.mpr ⟨List.mem_append_right _ (List.mem_append_left _ (List.mem_of_getElem? (l := tables_1_1) (i := 39) rfl)), rfl⟩
set_option maxRecDepth 8000 in
theorem zw_40 : (Cond.methodLink "java/util/AbstractCollection" (1 : Nat) ({ cls := "java/lang/Object", name := "<init>", desc := "()V" } : MethodName)) ∈ gtbl := List.mem_filter.mpr ⟨List.mem_append_right _ (List.mem_append_left _ (List.mem_of_getElem? (l := tables_1_1) (i := 40) rfl)), rfl⟩
set_option maxRecDepth 8000 in
theorem zw_41 : (Cond.fieldLink "java/util/ArrayList" (39 : Nat) "java/util/ArrayList" "DEFAULTCAPACITY_EMPTY_ELEMENTDATA" "[Ljava/lang/Object;") ∈ gtbl := List.mem_filter.mpr ⟨List.mem_append_right _ (List.mem_append_left _ (List.mem_of_getElem? (l := tables_1_1) (i := 41) rfl)), rfl⟩
set_option maxRecDepth 8000 in
theorem zw_42 : (Cond.laysStatic "java/util/ArrayList" "DEFAULTCAPACITY_EMPTY_ELEMENTDATA" "[Ljava/lang/Object;") ∈ lw_tbl := List.mem_append_right _ (List.mem_append_left _ (List.mem_of_getElem? (l := tables_1_1) (i := 42) rfl))
set_option maxRecDepth 8000 in
theorem zw_43 : (Cond.fieldLink "java/util/ArrayList" (9 : Nat) "java/util/ArrayList" "elementData" "[Ljava/lang/Object;") ∈ gtbl := List.mem_filter.mpr ⟨List.mem_append_right _ (List.mem_append_left _ (List.mem_of_getElem? (l := tables_1_1) (i := 43) rfl)), rfl⟩
set_option maxRecDepth 8000 in
theorem zw_44 : (Cond.fieldLink "java/util/ArrayList" (48 : Nat) "java/util/ArrayList" "size" "I") ∈ gtbl := List.mem_filter.mpr ⟨List.mem_append_right _ (List.mem_append_left _ (List.mem_of_getElem? (l := tables_1_1) (i := 44) rfl)), rfl⟩
set_option maxRecDepth 8000 in
theorem zw_45 : (Cond.fieldLink "java/util/AbstractList" (7 : Nat) "java/util/AbstractList" "modCount" "I") ∈ gtbl := List.mem_filter.mpr ⟨List.mem_append_right _ (List.mem_append_left _ (List.mem_of_getElem? (l := tables_1_1) (i := 45) rfl)), rfl⟩
set_option maxRecDepth 8000 in
theorem zw_46 : (Cond.fieldLink "java/util/ArrayList" (63 : Nat) "java/util/ArrayList" "modCount" "I") ∈ gtbl := List.mem_filter.mpr ⟨List.mem_append_right _ (List.mem_append_left _ (List.mem_of_getElem? (l := tables_1_1) (i := 46) rfl)), rfl⟩
set_option maxRecDepth 8000 in
theorem zw_47 : (Cond.sameField "java/util/ArrayList" "java/util/AbstractList" "modCount" "I") ∈ gtbl := List.mem_filter.mpr ⟨List.mem_append_right _ (List.mem_append_left _ (List.mem_of_getElem? (l := tables_1_1) (i := 47) rfl)), rfl⟩
set_option maxRecDepth 8000 in
theorem zw_48 : (Cond.lays "java/util/ArrayList" "java/util/ArrayList" "elementData" "[Ljava/lang/Object;") ∈ gtbl := List.mem_filter.mpr ⟨List.mem_append_right _ (List.mem_append_left _ (List.mem_of_getElem? (l := tables_1_1) (i := 48) rfl)), rfl⟩
set_option maxRecDepth 8000 in
theorem zw_49 : (Cond.soleField "java/util/ArrayList" "elementData") ∈ gtbl := List.mem_filter.mpr ⟨List.mem_append_right _ (List.mem_append_left _ (List.mem_of_getElem? (l := tables_1_1) (i := 49) rfl)), rfl⟩
set_option maxRecDepth 8000 in
theorem zw_50 : (Cond.lays "java/util/ArrayList" "java/util/ArrayList" "size" "I") ∈ gtbl := List.mem_filter.mpr ⟨List.mem_append_right _ (List.mem_append_left _ (List.mem_of_getElem? (l := tables_1_1) (i := 50) rfl)), rfl⟩
set_option maxRecDepth 8000 in
theorem zw_51 : (Cond.soleField "java/util/ArrayList" "size") ∈ gtbl := List.mem_filter.mpr ⟨List.mem_append_right _ (List.mem_append_left _ (List.mem_of_getElem? (l := tables_1_1) (i := 51) rfl)), rfl⟩
set_option maxRecDepth 8000 in
theorem zw_52 : (Cond.lays "java/util/ArrayList" "java/util/AbstractList" "modCount" "I") ∈ gtbl := List.mem_filter.mpr ⟨List.mem_append_right _ (List.mem_append_left _ (List.mem_of_getElem? (l := tables_1_1) (i := 52) rfl)), rfl⟩
set_option maxRecDepth 8000 in
theorem zw_53 : (Cond.soleField "java/util/AbstractList" "modCount") ∈ gtbl := List.mem_filter.mpr ⟨List.mem_append_right _ (List.mem_append_left _ (List.mem_of_getElem? (l := tables_1_1) (i := 53) rfl)), rfl⟩
set_option maxRecDepth 8000 in
theorem zw_54 : (Cond.superclass "java/util/ArrayList" "java/util/AbstractList") ∈ gtbl := List.mem_filter.mpr ⟨List.mem_append_right _ (List.mem_append_left _ (List.mem_of_getElem? (l := tables_1_1) (i := 54) rfl)), rfl⟩
set_option maxRecDepth 8000 in
theorem zw_55 : (Cond.arrayClass FieldType.int) ∈ gtbl := List.mem_filter.mpr ⟨List.mem_append_right _ (List.mem_append_left _ (List.mem_of_getElem? (l := tables_1_1) (i := 55) rfl)), rfl⟩
set_option maxRecDepth 8000 in
theorem zw_56 : (Cond.classLink "LifeboatHouse" (32 : Nat) "LifeboatHouse$Tides") ∈ gtbl := List.mem_filter.mpr ⟨List.mem_append_right _ (List.mem_append_left _ (List.mem_of_getElem? (l := tables_1_1) (i := 56) rfl)), rfl⟩
set_option maxRecDepth 8000 in
theorem zw_57 : (Cond.instantiable "LifeboatHouse$Tides" (2 : Nat)) ∈ gtbl := List.mem_filter.mpr ⟨List.mem_append_right _ (List.mem_append_left _ (List.mem_of_getElem? (l := tables_1_1) (i := 57) rfl)), rfl⟩
set_option maxRecDepth 8000 in
theorem zw_58 : (Cond.methodLink "LifeboatHouse" (34 : Nat) ({ cls := "LifeboatHouse$Tides", name := "<init>", desc := "()V" } : MethodName)) ∈ gtbl := List.mem_filter.mpr ⟨List.mem_append_right _ (List.mem_append_left _ (List.mem_of_getElem? (l := tables_1_1) (i := 58) rfl)), rfl⟩
set_option maxRecDepth 8000 in
theorem zw_59 : (Cond.instanceMethod ({ cls := "LifeboatHouse$Tides", name := "<init>", desc := "()V" } : MethodName)) ∈ gtbl := List.mem_filter.mpr ⟨List.mem_append_right _ (List.mem_append_left _ (List.mem_of_getElem? (l := tables_1_1) (i := 59) rfl)), rfl⟩
set_option maxRecDepth 8000 in
theorem zw_60 : (Cond.code ({ cls := "LifeboatHouse$Tides", name := "<init>", desc := "()V" } : MethodName) prog_10_method_1_code (1 : Nat) (Option.none : Option FieldType)) ∈ gtbl := List.mem_filter.mpr ⟨List.mem_append_right _ (List.mem_append_left _ (List.mem_of_getElem? (l := tables_1_1) (i := 60) rfl)), rfl⟩
set_option maxRecDepth 8000 in
theorem zw_61 : (Cond.methodLink "LifeboatHouse$Tides" (1 : Nat) ({ cls := "java/lang/Object", name := "<init>", desc := "()V" } : MethodName)) ∈ gtbl := List.mem_filter.mpr ⟨List.mem_append_right _ (List.mem_append_left _ (List.mem_of_getElem? (l := tables_1_1) (i := 61) rfl)), rfl⟩
set_option maxRecDepth 8000 in
theorem zw_62 : (Cond.methodLink "LifeboatHouse$Tides" (17 : Nat) ({ cls := "java/util/Arrays", name := "fill", desc := "([II)V" } : MethodName)) ∈ gtbl := List.mem_filter.mpr ⟨List.mem_append_right _ (List.mem_append_left _ (List.mem_of_getElem? (l := tables_1_1) (i := 62) rfl)), rfl⟩
set_option maxRecDepth 8000 in
theorem zw_63 : (Cond.static ({ cls := "java/util/Arrays", name := "fill", desc := "([II)V" } : MethodName)) ∈ gtbl := List.mem_filter.mpr ⟨List.mem_append_right _ (List.mem_append_left _ (List.mem_of_getElem? (l := tables_1_1) (i := 63) rfl)), rfl⟩
set_option maxRecDepth 8000 in
theorem zw_64 : (Cond.code ({ cls := "java/util/Arrays", name := "fill", desc := "([II)V" } : MethodName) prog_21_method_103_code (4 : Nat) (Option.none : Option FieldType)) ∈ gtbl := List.mem_filter.mpr ⟨List.mem_append_right _ (List.mem_append_left _ (List.mem_of_getElem? (l := tables_1_1) (i := 64) rfl)), rfl⟩
set_option maxRecDepth 8000 in
theorem zw_65 : (Cond.fieldLink "LifeboatHouse$Tides" (9 : Nat) "LifeboatHouse$Tides" "high" "[I") ∈ gtbl := List.mem_filter.mpr ⟨List.mem_append_right _ (List.mem_append_left _ (List.mem_of_getElem? (l := tables_1_1) (i := 65) rfl)), rfl⟩
set_option maxRecDepth 8000 in
theorem zw_66 : (Cond.fieldLink "LifeboatHouse$Tides" (13 : Nat) "LifeboatHouse$Tides" "leastTold" "I") ∈ gtbl := List.mem_filter.mpr ⟨List.mem_append_right _ (List.mem_append_left _ (List.mem_of_getElem? (l := tables_1_1) (i := 66) rfl)), rfl⟩
set_option maxRecDepth 8000 in
theorem zw_67 : (Cond.laysFinal "LifeboatHouse$Tides" "LifeboatHouse$Tides" "high" "[I") ∈ gtbl := List.mem_filter.mpr ⟨List.mem_append_right _ (List.mem_append_left _ (List.mem_of_getElem? (l := tables_1_1) (i := 67) rfl)), rfl⟩
set_option maxRecDepth 8000 in
theorem zw_68 : (Cond.soleField "LifeboatHouse$Tides" "high") ∈ gtbl := List.mem_filter.mpr ⟨List.mem_append_right _ (List.mem_append_left _ (List.mem_of_getElem? (l := tables_1_1) (i := 68) rfl)), rfl⟩
set_option maxRecDepth 8000 in
theorem zw_69 : (Cond.lays "LifeboatHouse$Tides" "LifeboatHouse$Tides" "leastTold" "I") ∈ gtbl := List.mem_filter.mpr ⟨List.mem_append_right _ (List.mem_append_left _ (List.mem_of_getElem? (l := tables_1_1) (i := 69) rfl)), rfl⟩
set_option maxRecDepth 8000 in
theorem zw_70 : (Cond.soleField "LifeboatHouse$Tides" "leastTold") ∈ gtbl := List.mem_filter.mpr ⟨List.mem_append_right _ (List.mem_append_left _ (List.mem_of_getElem? (l := tables_1_1) (i := 70) rfl)), rfl⟩
set_option maxRecDepth 8000 in
theorem zw_71 : (Cond.superclass "LifeboatHouse$Tides" "java/lang/Object") ∈ gtbl := List.mem_filter.mpr ⟨List.mem_append_right _ (List.mem_append_left _ (List.mem_of_getElem? (l := tables_1_1) (i := 71) rfl)), rfl⟩
set_option maxRecDepth 8000 in
theorem zw_72 : (Cond.classLink "LifeboatHouse" (39 : Nat) "LifeboatHouse$CrewRows") ∈ gtbl := List.mem_filter.mpr ⟨List.mem_append_right _ (List.mem_append_left _ (List.mem_of_getElem? (l := tables_1_1) (i := 72) rfl)), rfl⟩
set_option maxRecDepth 8000 in
theorem zw_73 : (Cond.instantiable "LifeboatHouse$CrewRows" (2 : Nat)) ∈ gtbl := List.mem_filter.mpr ⟨List.mem_append_right _ (List.mem_append_left _ (List.mem_of_getElem? (l := tables_1_1) (i := 73) rfl)), rfl⟩
set_option maxRecDepth 8000 in
theorem zw_74 : (Cond.methodLinkNest "LifeboatHouse" (41 : Nat) ({ cls := "LifeboatHouse$CrewRows", name := "<init>", desc := "()V" } : MethodName) "LifeboatHouse") ∈ ntbl := List.mem_filter.mpr ⟨List.mem_append_right _ (List.mem_append_left _ (List.mem_of_getElem? (l := tables_1_1) (i := 74) rfl)), rfl⟩
set_option maxRecDepth 8000 in
theorem zw_75 : (Cond.instanceMethod ({ cls := "LifeboatHouse$CrewRows", name := "<init>", desc := "()V" } : MethodName)) ∈ gtbl := List.mem_filter.mpr ⟨List.mem_append_right _ (List.mem_append_left _ (List.mem_of_getElem? (l := tables_1_1) (i := 75) rfl)), rfl⟩
set_option maxRecDepth 8000 in
theorem zw_76 : (Cond.code ({ cls := "LifeboatHouse$CrewRows", name := "<init>", desc := "()V" } : MethodName) prog_4_method_1_code (1 : Nat) (Option.none : Option FieldType)) ∈ gtbl := List.mem_filter.mpr ⟨List.mem_append_right _ (List.mem_append_left _ (List.mem_of_getElem? (l := tables_1_1) (i := 76) rfl)), rfl⟩
set_option maxRecDepth 8000 in
theorem zw_77 : (Cond.methodLink "LifeboatHouse$CrewRows" (3 : Nat) ({ cls := "java/lang/Object", name := "<init>", desc := "()V" } : MethodName)) ∈ gtbl := List.mem_filter.mpr ⟨List.mem_append_right _ (List.mem_append_left _ (List.mem_of_getElem? (l := tables_1_1) (i := 77) rfl)), rfl⟩
set_option maxRecDepth 8000 in
theorem zw_78 : (Cond.fieldLink "LifeboatHouse$CrewRows" (11 : Nat) "LifeboatHouse$CrewRows" "parts" "[I") ∈ gtbl := List.mem_filter.mpr ⟨List.mem_append_right _ (List.mem_append_left _ (List.mem_of_getElem? (l := tables_1_1) (i := 78) rfl)), rfl⟩
set_option maxRecDepth 8000 in
theorem zw_79 : (Cond.fieldLink "LifeboatHouse$CrewRows" (15 : Nat) "LifeboatHouse$CrewRows" "top" "I") ∈ gtbl := List.mem_filter.mpr ⟨List.mem_append_right _ (List.mem_append_left _ (List.mem_of_getElem? (l := tables_1_1) (i := 79) rfl)), rfl⟩
set_option maxRecDepth 8000 in
theorem zw_80 : (Cond.laysFinal "LifeboatHouse$CrewRows" "LifeboatHouse$CrewRows" "parts" "[I") ∈ gtbl := List.mem_filter.mpr ⟨List.mem_append_right _ (List.mem_append_left _ (List.mem_of_getElem? (l := tables_1_1) (i := 80) rfl)), rfl⟩
set_option maxRecDepth 8000 in
theorem zw_81 : (Cond.soleField "LifeboatHouse$CrewRows" "parts") ∈ gtbl := List.mem_filter.mpr ⟨List.mem_append_right _ (List.mem_append_left _ (List.mem_of_getElem? (l := tables_1_1) (i := 81) rfl)), rfl⟩
set_option maxRecDepth 8000 in
theorem zw_82 : (Cond.lays "LifeboatHouse$CrewRows" "LifeboatHouse$CrewRows" "top" "I") ∈ gtbl := List.mem_filter.mpr ⟨List.mem_append_right _ (List.mem_append_left _ (List.mem_of_getElem? (l := tables_1_1) (i := 82) rfl)), rfl⟩
set_option maxRecDepth 8000 in
theorem zw_83 : (Cond.soleField "LifeboatHouse$CrewRows" "top") ∈ gtbl := List.mem_filter.mpr ⟨List.mem_append_right _ (List.mem_append_left _ (List.mem_of_getElem? (l := tables_1_1) (i := 83) rfl)), rfl⟩
set_option maxRecDepth 8000 in
theorem zw_84 : (Cond.superclass "LifeboatHouse$CrewRows" "java/lang/Object") ∈ gtbl := List.mem_filter.mpr ⟨List.mem_append_right _ (List.mem_append_left _ (List.mem_of_getElem? (l := tables_1_1) (i := 84) rfl)), rfl⟩
set_option maxRecDepth 8000 in
theorem zw_85 : (Cond.classLink "LifeboatHouse" (46 : Nat) "LifeboatHouse$Pair") ∈ gtbl := List.mem_filter.mpr ⟨List.mem_append_right _ (List.mem_append_left _ (List.mem_of_getElem? (l := tables_1_1) (i := 85) rfl)), rfl⟩
set_option maxRecDepth 8000 in
theorem zw_86 : (Cond.instantiable "LifeboatHouse$Pair" (4 : Nat)) ∈ gtbl := List.mem_filter.mpr ⟨List.mem_append_right _ (List.mem_append_left _ (List.mem_of_getElem? (l := tables_1_1) (i := 86) rfl)), rfl⟩
set_option maxRecDepth 8000 in
theorem zw_87 : (Cond.methodLinkNest "LifeboatHouse" (48 : Nat) ({ cls := "LifeboatHouse$Pair", name := "<init>", desc := "()V" } : MethodName) "LifeboatHouse") ∈ ntbl := List.mem_filter.mpr ⟨List.mem_append_right _ (List.mem_append_left _ (List.mem_of_getElem? (l := tables_1_1) (i := 87) rfl)), rfl⟩
set_option maxRecDepth 8000 in
theorem zw_88 : (Cond.instanceMethod ({ cls := "LifeboatHouse$Pair", name := "<init>", desc := "()V" } : MethodName)) ∈ gtbl := List.mem_filter.mpr ⟨List.mem_append_right _ (List.mem_append_left _ (List.mem_of_getElem? (l := tables_1_1) (i := 88) rfl)), rfl⟩
set_option maxRecDepth 8000 in
theorem zw_89 : (Cond.code ({ cls := "LifeboatHouse$Pair", name := "<init>", desc := "()V" } : MethodName) prog_7_method_1_code (1 : Nat) (Option.none : Option FieldType)) ∈ gtbl := List.mem_filter.mpr ⟨List.mem_append_right _ (List.mem_append_left _ (List.mem_of_getElem? (l := tables_1_1) (i := 89) rfl)), rfl⟩
set_option maxRecDepth 8000 in
theorem zw_90 : (Cond.methodLink "LifeboatHouse$Pair" (3 : Nat) ({ cls := "java/lang/Object", name := "<init>", desc := "()V" } : MethodName)) ∈ gtbl := List.mem_filter.mpr ⟨List.mem_append_right _ (List.mem_append_left _ (List.mem_of_getElem? (l := tables_1_1) (i := 90) rfl)), rfl⟩
set_option maxRecDepth 8000 in
theorem zw_91 : (Cond.fieldLink "LifeboatHouse$Pair" (9 : Nat) "LifeboatHouse$Pair" "later" "I") ∈ gtbl := List.mem_filter.mpr ⟨List.mem_append_right _ (List.mem_append_left _ (List.mem_of_getElem? (l := tables_1_1) (i := 91) rfl)), rfl⟩
set_option maxRecDepth 8000 in
theorem zw_92 : (Cond.fieldLink "LifeboatHouse" (203 : Nat) "LifeboatHouse$Pair" "later" "I") ∈ gtbl := List.mem_filter.mpr ⟨List.mem_append_right _ (List.mem_append_left _ (List.mem_of_getElem? (l := tables_1_1) (i := 92) rfl)), rfl⟩
set_option maxRecDepth 8000 in
theorem zw_93 : (Cond.fieldLink "LifeboatHouse$Pair" (15 : Nat) "LifeboatHouse$Pair" "oneBoat" "I") ∈ gtbl := List.mem_filter.mpr ⟨List.mem_append_right _ (List.mem_append_left _ (List.mem_of_getElem? (l := tables_1_1) (i := 93) rfl)), rfl⟩
set_option maxRecDepth 8000 in
theorem zw_94 : (Cond.fieldLink "LifeboatHouse" (206 : Nat) "LifeboatHouse$Pair" "oneBoat" "I") ∈ gtbl := List.mem_filter.mpr ⟨List.mem_append_right _ (List.mem_append_left _ (List.mem_of_getElem? (l := tables_1_1) (i := 94) rfl)), rfl⟩
set_option maxRecDepth 8000 in
theorem zw_95 : (Cond.fieldLink "LifeboatHouse$Pair" (18 : Nat) "LifeboatHouse$Pair" "otherBoat" "I") ∈ gtbl := List.mem_filter.mpr ⟨List.mem_append_right _ (List.mem_append_left _ (List.mem_of_getElem? (l := tables_1_1) (i := 95) rfl)), rfl⟩
set_option maxRecDepth 8000 in
theorem zw_96 : (Cond.fieldLink "LifeboatHouse" (209 : Nat) "LifeboatHouse$Pair" "otherBoat" "I") ∈ gtbl := List.mem_filter.mpr ⟨List.mem_append_right _ (List.mem_append_left _ (List.mem_of_getElem? (l := tables_1_1) (i := 96) rfl)), rfl⟩
set_option maxRecDepth 8000 in
theorem zw_97 : (Cond.fieldLink "LifeboatHouse$Pair" (21 : Nat) "LifeboatHouse$Pair" "together" "I") ∈ gtbl := List.mem_filter.mpr ⟨List.mem_append_right _ (List.mem_append_left _ (List.mem_of_getElem? (l := tables_1_1) (i := 97) rfl)), rfl⟩
set_option maxRecDepth 8000 in
theorem zw_98 : (Cond.lays "LifeboatHouse$Pair" "LifeboatHouse$Pair" "later" "I") ∈ gtbl := List.mem_filter.mpr ⟨List.mem_append_right _ (List.mem_append_left _ (List.mem_of_getElem? (l := tables_1_1) (i := 98) rfl)), rfl⟩
set_option maxRecDepth 8000 in
theorem zw_99 : (Cond.soleField "LifeboatHouse$Pair" "later") ∈ gtbl := List.mem_filter.mpr ⟨List.mem_append_right _ (List.mem_append_left _ (List.mem_of_getElem? (l := tables_1_1) (i := 99) rfl)), rfl⟩
set_option maxRecDepth 8000 in
theorem zw_100 : (Cond.lays "LifeboatHouse$Pair" "LifeboatHouse$Pair" "oneBoat" "I") ∈ gtbl := List.mem_filter.mpr ⟨List.mem_append_right _ (List.mem_append_left _ (List.mem_of_getElem? (l := tables_1_1) (i := 100) rfl)), rfl⟩
set_option maxRecDepth 8000 in
theorem zw_101 : (Cond.soleField "LifeboatHouse$Pair" "oneBoat") ∈ gtbl := List.mem_filter.mpr ⟨List.mem_append_right _ (List.mem_append_left _ (List.mem_of_getElem? (l := tables_1_1) (i := 101) rfl)), rfl⟩
set_option maxRecDepth 8000 in
theorem zw_102 : (Cond.lays "LifeboatHouse$Pair" "LifeboatHouse$Pair" "otherBoat" "I") ∈ gtbl := List.mem_filter.mpr ⟨List.mem_append_right _ (List.mem_append_left _ (List.mem_of_getElem? (l := tables_1_1) (i := 102) rfl)), rfl⟩
set_option maxRecDepth 8000 in
theorem zw_103 : (Cond.soleField "LifeboatHouse$Pair" "otherBoat") ∈ gtbl := List.mem_filter.mpr ⟨List.mem_append_right _ (List.mem_append_left _ (List.mem_of_getElem? (l := tables_1_1) (i := 103) rfl)), rfl⟩
set_option maxRecDepth 8000 in
theorem zw_104 : (Cond.lays "LifeboatHouse$Pair" "LifeboatHouse$Pair" "together" "I") ∈ gtbl := List.mem_filter.mpr ⟨List.mem_append_right _ (List.mem_append_left _ (List.mem_of_getElem? (l := tables_1_1) (i := 104) rfl)), rfl⟩
set_option maxRecDepth 8000 in
theorem zw_105 : (Cond.soleField "LifeboatHouse$Pair" "together") ∈ gtbl := List.mem_filter.mpr ⟨List.mem_append_right _ (List.mem_append_left _ (List.mem_of_getElem? (l := tables_1_1) (i := 105) rfl)), rfl⟩
set_option maxRecDepth 8000 in
theorem zw_106 : (Cond.superclass "LifeboatHouse$Pair" "java/lang/Object") ∈ gtbl := List.mem_filter.mpr ⟨List.mem_append_right _ (List.mem_append_left _ (List.mem_of_getElem? (l := tables_1_1) (i := 106) rfl)), rfl⟩
set_option maxRecDepth 8000 in
theorem zw_107 : (Cond.classLink "LifeboatHouse" (53 : Nat) "LifeboatHouse$FlankPlan") ∈ gtbl := List.mem_filter.mpr ⟨List.mem_append_right _ (List.mem_append_left _ (List.mem_of_getElem? (l := tables_1_1) (i := 107) rfl)), rfl⟩
set_option maxRecDepth 8000 in
theorem zw_108 : (Cond.instantiable "LifeboatHouse$FlankPlan" (7 : Nat)) ∈ gtbl := List.mem_filter.mpr ⟨List.mem_append_right _ (List.mem_append_left _ (List.mem_of_getElem? (l := tables_1_1) (i := 108) rfl)), rfl⟩
set_option maxRecDepth 8000 in
theorem zw_109 : (Cond.methodLinkNest "LifeboatHouse" (55 : Nat) ({ cls := "LifeboatHouse$FlankPlan", name := "<init>", desc := "()V" } : MethodName) "LifeboatHouse") ∈ ntbl := List.mem_filter.mpr ⟨List.mem_append_right _ (List.mem_append_left _ (List.mem_of_getElem? (l := tables_1_1) (i := 109) rfl)), rfl⟩
set_option maxRecDepth 8000 in
theorem zw_110 : (Cond.instanceMethod ({ cls := "LifeboatHouse$FlankPlan", name := "<init>", desc := "()V" } : MethodName)) ∈ gtbl := List.mem_filter.mpr ⟨List.mem_append_right _ (List.mem_append_left _ (List.mem_of_getElem? (l := tables_1_1) (i := 110) rfl)), rfl⟩
set_option maxRecDepth 8000 in
theorem zw_111 : (Cond.code ({ cls := "LifeboatHouse$FlankPlan", name := "<init>", desc := "()V" } : MethodName) prog_5_method_1_code (1 : Nat) (Option.none : Option FieldType)) ∈ gtbl := List.mem_filter.mpr ⟨List.mem_append_right _ (List.mem_append_left _ (List.mem_of_getElem? (l := tables_1_1) (i := 111) rfl)), rfl⟩
set_option maxRecDepth 8000 in
theorem zw_112 : (Cond.methodLink "LifeboatHouse$FlankPlan" (3 : Nat) ({ cls := "java/lang/Object", name := "<init>", desc := "()V" } : MethodName)) ∈ gtbl := List.mem_filter.mpr ⟨List.mem_append_right _ (List.mem_append_left _ (List.mem_of_getElem? (l := tables_1_1) (i := 112) rfl)), rfl⟩
set_option maxRecDepth 8000 in
theorem zw_113 : (Cond.fieldLink "LifeboatHouse$FlankPlan" (9 : Nat) "LifeboatHouse$FlankPlan" "bestFrom" "[I") ∈ gtbl := List.mem_filter.mpr ⟨List.mem_append_right _ (List.mem_append_left _ (List.mem_of_getElem? (l := tables_1_1) (i := 113) rfl)), rfl⟩
set_option maxRecDepth 8000 in
theorem zw_114 : (Cond.fieldLink "LifeboatHouse" (265 : Nat) "LifeboatHouse$FlankPlan" "bestFrom" "[I") ∈ gtbl := List.mem_filter.mpr ⟨List.mem_append_right _ (List.mem_append_left _ (List.mem_of_getElem? (l := tables_1_1) (i := 114) rfl)), rfl⟩
set_option maxRecDepth 8000 in
theorem zw_115 : (Cond.fieldLink "LifeboatHouse$FlankPlan" (15 : Nat) "LifeboatHouse$FlankPlan" "bestHelped" "I") ∈ gtbl := List.mem_filter.mpr ⟨List.mem_append_right _ (List.mem_append_left _ (List.mem_of_getElem? (l := tables_1_1) (i := 115) rfl)), rfl⟩
set_option maxRecDepth 8000 in
theorem zw_116 : (Cond.fieldLink "LifeboatHouse" (259 : Nat) "LifeboatHouse$FlankPlan" "bestHelped" "I") ∈ gtbl := List.mem_filter.mpr ⟨List.mem_append_right _ (List.mem_append_left _ (List.mem_of_getElem? (l := tables_1_1) (i := 116) rfl)), rfl⟩
set_option maxRecDepth 8000 in
theorem zw_117 : (Cond.fieldLink "LifeboatHouse$FlankPlan" (19 : Nat) "LifeboatHouse$FlankPlan" "bestMiles" "I") ∈ gtbl := List.mem_filter.mpr ⟨List.mem_append_right _ (List.mem_append_left _ (List.mem_of_getElem? (l := tables_1_1) (i := 117) rfl)), rfl⟩
set_option maxRecDepth 8000 in
theorem zw_118 : (Cond.fieldLink "LifeboatHouse" (262 : Nat) "LifeboatHouse$FlankPlan" "bestMiles" "I") ∈ gtbl := List.mem_filter.mpr ⟨List.mem_append_right _ (List.mem_append_left _ (List.mem_of_getElem? (l := tables_1_1) (i := 118) rfl)), rfl⟩
set_option maxRecDepth 8000 in
theorem zw_119 : (Cond.fieldLink "LifeboatHouse$FlankPlan" (22 : Nat) "LifeboatHouse$FlankPlan" "miles" "[I") ∈ gtbl := List.mem_filter.mpr ⟨List.mem_append_right _ (List.mem_append_left _ (List.mem_of_getElem? (l := tables_1_1) (i := 119) rfl)), rfl⟩
set_option maxRecDepth 8000 in
theorem zw_120 : (Cond.fieldLink "LifeboatHouse$FlankPlan" (25 : Nat) "LifeboatHouse$FlankPlan" "spare" "[I") ∈ gtbl := List.mem_filter.mpr ⟨List.mem_append_right _ (List.mem_append_left _ (List.mem_of_getElem? (l := tables_1_1) (i := 120) rfl)), rfl⟩
set_option maxRecDepth 8000 in
theorem zw_121 : (Cond.fieldLink "LifeboatHouse$FlankPlan" (28 : Nat) "LifeboatHouse$FlankPlan" "bare" "[Z") ∈ gtbl := List.mem_filter.mpr ⟨List.mem_append_right _ (List.mem_append_left _ (List.mem_of_getElem? (l := tables_1_1) (i := 121) rfl)), rfl⟩
set_option maxRecDepth 8000 in
theorem zw_122 : (Cond.fieldLink "LifeboatHouse$FlankPlan" (32 : Nat) "LifeboatHouse$FlankPlan" "from" "[I") ∈ gtbl := List.mem_filter.mpr ⟨List.mem_append_right _ (List.mem_append_left _ (List.mem_of_getElem? (l := tables_1_1) (i := 122) rfl)), rfl⟩
set_option maxRecDepth 8000 in
theorem zw_123 : (Cond.laysFinal "LifeboatHouse$FlankPlan" "LifeboatHouse$FlankPlan" "bestFrom" "[I") ∈ gtbl := List.mem_filter.mpr ⟨List.mem_append_right _ (List.mem_append_left _ (List.mem_of_getElem? (l := tables_1_1) (i := 123) rfl)), rfl⟩
set_option maxRecDepth 8000 in
theorem zw_124 : (Cond.soleField "LifeboatHouse$FlankPlan" "bestFrom") ∈ gtbl := List.mem_filter.mpr ⟨List.mem_append_right _ (List.mem_append_left _ (List.mem_of_getElem? (l := tables_1_1) (i := 124) rfl)), rfl⟩
set_option maxRecDepth 8000 in
theorem zw_125 : (Cond.lays "LifeboatHouse$FlankPlan" "LifeboatHouse$FlankPlan" "bestHelped" "I") ∈ gtbl := List.mem_filter.mpr ⟨List.mem_append_right _ (List.mem_append_left _ (List.mem_of_getElem? (l := tables_1_1) (i := 125) rfl)), rfl⟩
set_option maxRecDepth 8000 in
theorem zw_126 : (Cond.soleField "LifeboatHouse$FlankPlan" "bestHelped") ∈ gtbl := List.mem_filter.mpr ⟨List.mem_append_right _ (List.mem_append_left _ (List.mem_of_getElem? (l := tables_1_1) (i := 126) rfl)), rfl⟩
set_option maxRecDepth 8000 in
theorem zw_127 : (Cond.lays "LifeboatHouse$FlankPlan" "LifeboatHouse$FlankPlan" "bestMiles" "I") ∈ gtbl := List.mem_filter.mpr ⟨List.mem_append_right _ (List.mem_append_left _ (List.mem_of_getElem? (l := tables_1_1) (i := 127) rfl)), rfl⟩
set_option maxRecDepth 8000 in
theorem zw_128 : (Cond.soleField "LifeboatHouse$FlankPlan" "bestMiles") ∈ gtbl := List.mem_filter.mpr ⟨List.mem_append_right _ (List.mem_append_left _ (List.mem_of_getElem? (l := tables_1_1) (i := 128) rfl)), rfl⟩
set_option maxRecDepth 8000 in
theorem zw_129 : (Cond.laysFinal "LifeboatHouse$FlankPlan" "LifeboatHouse$FlankPlan" "miles" "[I") ∈ gtbl := List.mem_filter.mpr ⟨List.mem_append_right _ (List.mem_append_left _ (List.mem_of_getElem? (l := tables_1_1) (i := 129) rfl)), rfl⟩
set_option maxRecDepth 8000 in
theorem zw_130 : (Cond.soleField "LifeboatHouse$FlankPlan" "miles") ∈ gtbl := List.mem_filter.mpr ⟨List.mem_append_right _ (List.mem_append_left _ (List.mem_of_getElem? (l := tables_1_1) (i := 130) rfl)), rfl⟩
set_option maxRecDepth 8000 in
theorem zw_131 : (Cond.laysFinal "LifeboatHouse$FlankPlan" "LifeboatHouse$FlankPlan" "spare" "[I") ∈ gtbl := List.mem_filter.mpr ⟨List.mem_append_right _ (List.mem_append_left _ (List.mem_of_getElem? (l := tables_1_1) (i := 131) rfl)), rfl⟩
set_option maxRecDepth 8000 in
theorem zw_132 : (Cond.soleField "LifeboatHouse$FlankPlan" "spare") ∈ gtbl := List.mem_filter.mpr ⟨List.mem_append_right _ (List.mem_append_left _ (List.mem_of_getElem? (l := tables_1_1) (i := 132) rfl)), rfl⟩
set_option maxRecDepth 8000 in
theorem zw_133 : (Cond.laysFinal "LifeboatHouse$FlankPlan" "LifeboatHouse$FlankPlan" "bare" "[Z") ∈ gtbl := List.mem_filter.mpr ⟨List.mem_append_right _ (List.mem_append_left _ (List.mem_of_getElem? (l := tables_1_1) (i := 133) rfl)), rfl⟩
set_option maxRecDepth 8000 in
theorem zw_134 : (Cond.soleField "LifeboatHouse$FlankPlan" "bare") ∈ gtbl := List.mem_filter.mpr ⟨List.mem_append_right _ (List.mem_append_left _ (List.mem_of_getElem? (l := tables_1_1) (i := 134) rfl)), rfl⟩
set_option maxRecDepth 8000 in
theorem zw_135 : (Cond.laysFinal "LifeboatHouse$FlankPlan" "LifeboatHouse$FlankPlan" "from" "[I") ∈ gtbl := List.mem_filter.mpr ⟨List.mem_append_right _ (List.mem_append_left _ (List.mem_of_getElem? (l := tables_1_1) (i := 135) rfl)), rfl⟩
set_option maxRecDepth 8000 in
theorem zw_136 : (Cond.soleField "LifeboatHouse$FlankPlan" "from") ∈ gtbl := List.mem_filter.mpr ⟨List.mem_append_right _ (List.mem_append_left _ (List.mem_of_getElem? (l := tables_1_1) (i := 136) rfl)), rfl⟩
set_option maxRecDepth 8000 in
theorem zw_137 : (Cond.superclass "LifeboatHouse$FlankPlan" "java/lang/Object") ∈ gtbl := List.mem_filter.mpr ⟨List.mem_append_right _ (List.mem_append_left _ (List.mem_of_getElem? (l := tables_1_1) (i := 137) rfl)), rfl⟩
set_option maxRecDepth 8000 in
theorem zw_138 : (Cond.arrayClass FieldType.boolean) ∈ gtbl := List.mem_filter.mpr ⟨List.mem_append_right _ (List.mem_append_left _ (List.mem_of_getElem? (l := tables_1_1) (i := 138) rfl)), rfl⟩
set_option maxRecDepth 8000 in
theorem zw_139 : (Cond.classLink "LifeboatHouse" (60 : Nat) "LifeboatHouse$Search") ∈ gtbl := List.mem_filter.mpr ⟨List.mem_append_right _ (List.mem_append_left _ (List.mem_of_getElem? (l := tables_1_1) (i := 139) rfl)), rfl⟩
set_option maxRecDepth 8000 in
theorem zw_140 : (Cond.instantiable "LifeboatHouse$Search" (4 : Nat)) ∈ gtbl := List.mem_filter.mpr ⟨List.mem_append_right _ (List.mem_append_left _ (List.mem_of_getElem? (l := tables_1_1) (i := 140) rfl)), rfl⟩
set_option maxRecDepth 8000 in
theorem zw_141 : (Cond.methodLinkNest "LifeboatHouse" (62 : Nat) ({ cls := "LifeboatHouse$Search", name := "<init>", desc := "()V" } : MethodName) "LifeboatHouse") ∈ ntbl := List.mem_filter.mpr ⟨List.mem_append_right _ (List.mem_append_left _ (List.mem_of_getElem? (l := tables_1_1) (i := 141) rfl)), rfl⟩
set_option maxRecDepth 8000 in
theorem zw_142 : (Cond.instanceMethod ({ cls := "LifeboatHouse$Search", name := "<init>", desc := "()V" } : MethodName)) ∈ gtbl := List.mem_filter.mpr ⟨List.mem_append_right _ (List.mem_append_left _ (List.mem_of_getElem? (l := tables_1_1) (i := 142) rfl)), rfl⟩
set_option maxRecDepth 8000 in
theorem zw_143 : (Cond.code ({ cls := "LifeboatHouse$Search", name := "<init>", desc := "()V" } : MethodName) prog_9_method_1_code (1 : Nat) (Option.none : Option FieldType)) ∈ gtbl := List.mem_filter.mpr ⟨List.mem_append_right _ (List.mem_append_left _ (List.mem_of_getElem? (l := tables_1_1) (i := 143) rfl)), rfl⟩
set_option maxRecDepth 8000 in
theorem zw_144 : (Cond.methodLink "LifeboatHouse$Search" (3 : Nat) ({ cls := "java/lang/Object", name := "<init>", desc := "()V" } : MethodName)) ∈ gtbl := List.mem_filter.mpr ⟨List.mem_append_right _ (List.mem_append_left _ (List.mem_of_getElem? (l := tables_1_1) (i := 144) rfl)), rfl⟩
set_option maxRecDepth 8000 in
theorem zw_145 : (Cond.fieldLink "LifeboatHouse$Search" (9 : Nat) "LifeboatHouse$Search" "worth" "[I") ∈ gtbl := List.mem_filter.mpr ⟨List.mem_append_right _ (List.mem_append_left _ (List.mem_of_getElem? (l := tables_1_1) (i := 145) rfl)), rfl⟩
set_option maxRecDepth 8000 in
theorem zw_146 : (Cond.fieldLink "LifeboatHouse" (277 : Nat) "LifeboatHouse$Search" "worth" "[I") ∈ gtbl := List.mem_filter.mpr ⟨List.mem_append_right _ (List.mem_append_left _ (List.mem_of_getElem? (l := tables_1_1) (i := 146) rfl)), rfl⟩
set_option maxRecDepth 8000 in
theorem zw_147 : (Cond.fieldLink "LifeboatHouse$Search" (15 : Nat) "LifeboatHouse$Search" "looked" "[I") ∈ gtbl := List.mem_filter.mpr ⟨List.mem_append_right _ (List.mem_append_left _ (List.mem_of_getElem? (l := tables_1_1) (i := 147) rfl)), rfl⟩
set_option maxRecDepth 8000 in
theorem zw_148 : (Cond.fieldLink "LifeboatHouse" (292 : Nat) "LifeboatHouse$Search" "looked" "[I") ∈ gtbl := List.mem_filter.mpr ⟨List.mem_append_right _ (List.mem_append_left _ (List.mem_of_getElem? (l := tables_1_1) (i := 148) rfl)), rfl⟩
set_option maxRecDepth 8000 in
theorem zw_149 : (Cond.fieldLink "LifeboatHouse$Search" (18 : Nat) "LifeboatHouse$Search" "found" "I") ∈ gtbl := List.mem_filter.mpr ⟨List.mem_append_right _ (List.mem_append_left _ (List.mem_of_getElem? (l := tables_1_1) (i := 149) rfl)), rfl⟩
set_option maxRecDepth 8000 in
theorem zw_150 : (Cond.fieldLink "LifeboatHouse" (289 : Nat) "LifeboatHouse$Search" "found" "I") ∈ gtbl := List.mem_filter.mpr ⟨List.mem_append_right _ (List.mem_append_left _ (List.mem_of_getElem? (l := tables_1_1) (i := 150) rfl)), rfl⟩
set_option maxRecDepth 8000 in
theorem zw_151 : (Cond.fieldLink "LifeboatHouse$Search" (22 : Nat) "LifeboatHouse$Search" "left" "[I") ∈ gtbl := List.mem_filter.mpr ⟨List.mem_append_right _ (List.mem_append_left _ (List.mem_of_getElem? (l := tables_1_1) (i := 151) rfl)), rfl⟩
set_option maxRecDepth 8000 in
theorem zw_152 : (Cond.laysFinal "LifeboatHouse$Search" "LifeboatHouse$Search" "worth" "[I") ∈ gtbl := List.mem_filter.mpr ⟨List.mem_append_right _ (List.mem_append_left _ (List.mem_of_getElem? (l := tables_1_1) (i := 152) rfl)), rfl⟩
set_option maxRecDepth 8000 in
theorem zw_153 : (Cond.soleField "LifeboatHouse$Search" "worth") ∈ gtbl := List.mem_filter.mpr ⟨List.mem_append_right _ (List.mem_append_left _ (List.mem_of_getElem? (l := tables_1_1) (i := 153) rfl)), rfl⟩
set_option maxRecDepth 8000 in
theorem zw_154 : (Cond.laysFinal "LifeboatHouse$Search" "LifeboatHouse$Search" "looked" "[I") ∈ gtbl := List.mem_filter.mpr ⟨List.mem_append_right _ (List.mem_append_left _ (List.mem_of_getElem? (l := tables_1_1) (i := 154) rfl)), rfl⟩
set_option maxRecDepth 8000 in
theorem zw_155 : (Cond.soleField "LifeboatHouse$Search" "looked") ∈ gtbl := List.mem_filter.mpr ⟨List.mem_append_right _ (List.mem_append_left _ (List.mem_of_getElem? (l := tables_1_1) (i := 155) rfl)), rfl⟩
set_option maxRecDepth 8000 in
theorem zw_156 : (Cond.lays "LifeboatHouse$Search" "LifeboatHouse$Search" "found" "I") ∈ gtbl := List.mem_filter.mpr ⟨List.mem_append_right _ (List.mem_append_left _ (List.mem_of_getElem? (l := tables_1_1) (i := 156) rfl)), rfl⟩
set_option maxRecDepth 8000 in
theorem zw_157 : (Cond.soleField "LifeboatHouse$Search" "found") ∈ gtbl := List.mem_filter.mpr ⟨List.mem_append_right _ (List.mem_append_left _ (List.mem_of_getElem? (l := tables_1_1) (i := 157) rfl)), rfl⟩
set_option maxRecDepth 8000 in
theorem zw_158 : (Cond.laysFinal "LifeboatHouse$Search" "LifeboatHouse$Search" "left" "[I") ∈ gtbl := List.mem_filter.mpr ⟨List.mem_append_right _ (List.mem_append_left _ (List.mem_of_getElem? (l := tables_1_1) (i := 158) rfl)), rfl⟩
set_option maxRecDepth 8000 in
theorem zw_159 : (Cond.soleField "LifeboatHouse$Search" "left") ∈ gtbl := List.mem_filter.mpr ⟨List.mem_append_right _ (List.mem_append_left _ (List.mem_of_getElem? (l := tables_1_1) (i := 159) rfl)), rfl⟩
set_option maxRecDepth 8000 in
theorem zw_160 : (Cond.superclass "LifeboatHouse$Search" "java/lang/Object") ∈ gtbl := List.mem_filter.mpr ⟨List.mem_append_right _ (List.mem_append_left _ (List.mem_of_getElem? (l := tables_1_1) (i := 160) rfl)), rfl⟩
set_option maxRecDepth 8000 in
theorem zw_161 : (Cond.fieldLink "LifeboatHouse" (9 : Nat) "LifeboatHouse" "miles" "[I") ∈ gtbl := List.mem_filter.mpr ⟨List.mem_append_right _ (List.mem_append_left _ (List.mem_of_getElem? (l := tables_1_1) (i := 161) rfl)), rfl⟩
set_option maxRecDepth 8000 in
theorem zw_162 : (Cond.fieldLink "LifeboatHouse" (13 : Nat) "LifeboatHouse" "needs" "[I") ∈ gtbl := List.mem_filter.mpr ⟨List.mem_append_right _ (List.mem_append_left _ (List.mem_of_getElem? (l := tables_1_1) (i := 162) rfl)), rfl⟩
set_option maxRecDepth 8000 in
theorem zw_163 : (Cond.fieldLink "LifeboatHouse" (19 : Nat) "LifeboatHouse" "people" "Ljava/util/ArrayList;") ∈ gtbl := List.mem_filter.mpr ⟨List.mem_append_right _ (List.mem_append_left _ (List.mem_of_getElem? (l := tables_1_1) (i := 163) rfl)), rfl⟩
set_option maxRecDepth 8000 in
theorem zw_164 : (Cond.fieldLink "LifeboatHouse" (23 : Nat) "LifeboatHouse" "boats" "Ljava/util/ArrayList;") ∈ gtbl := List.mem_filter.mpr ⟨List.mem_append_right _ (List.mem_append_left _ (List.mem_of_getElem? (l := tables_1_1) (i := 164) rfl)), rfl⟩
set_option maxRecDepth 8000 in
theorem zw_165 : (Cond.fieldLink "LifeboatHouse" (26 : Nat) "LifeboatHouse" "calls" "Ljava/util/ArrayList;") ∈ gtbl := List.mem_filter.mpr ⟨List.mem_append_right _ (List.mem_append_left _ (List.mem_of_getElem? (l := tables_1_1) (i := 165) rfl)), rfl⟩
set_option maxRecDepth 8000 in
theorem zw_166 : (Cond.fieldLink "LifeboatHouse" (29 : Nat) "LifeboatHouse" "launches" "Ljava/util/ArrayList;") ∈ gtbl := List.mem_filter.mpr ⟨List.mem_append_right _ (List.mem_append_left _ (List.mem_of_getElem? (l := tables_1_1) (i := 166) rfl)), rfl⟩
set_option maxRecDepth 8000 in
theorem zw_167 : (Cond.fieldLink "LifeboatHouse" (35 : Nat) "LifeboatHouse" "tides" "LLifeboatHouse$Tides;") ∈ gtbl := List.mem_filter.mpr ⟨List.mem_append_right _ (List.mem_append_left _ (List.mem_of_getElem? (l := tables_1_1) (i := 167) rfl)), rfl⟩
set_option maxRecDepth 8000 in
theorem zw_168 : (Cond.fieldLink "LifeboatHouse" (42 : Nat) "LifeboatHouse" "crewRows" "LLifeboatHouse$CrewRows;") ∈ gtbl := List.mem_filter.mpr ⟨List.mem_append_right _ (List.mem_append_left _ (List.mem_of_getElem? (l := tables_1_1) (i := 168) rfl)), rfl⟩
set_option maxRecDepth 8000 in
theorem zw_169 : (Cond.fieldLink "LifeboatHouse" (49 : Nat) "LifeboatHouse" "pair" "LLifeboatHouse$Pair;") ∈ gtbl := List.mem_filter.mpr ⟨List.mem_append_right _ (List.mem_append_left _ (List.mem_of_getElem? (l := tables_1_1) (i := 169) rfl)), rfl⟩
set_option maxRecDepth 8000 in
theorem zw_170 : (Cond.fieldLink "LifeboatHouse" (56 : Nat) "LifeboatHouse" "flankPlan" "LLifeboatHouse$FlankPlan;") ∈ gtbl := List.mem_filter.mpr ⟨List.mem_append_right _ (List.mem_append_left _ (List.mem_of_getElem? (l := tables_1_1) (i := 170) rfl)), rfl⟩
set_option maxRecDepth 8000 in
theorem zw_171 : (Cond.fieldLink "LifeboatHouse" (63 : Nat) "LifeboatHouse" "search" "LLifeboatHouse$Search;") ∈ gtbl := List.mem_filter.mpr ⟨List.mem_append_right _ (List.mem_append_left _ (List.mem_of_getElem? (l := tables_1_1) (i := 171) rfl)), rfl⟩
set_option maxRecDepth 8000 in
theorem zw_172 : (Cond.fieldLink "LifeboatHouse" (67 : Nat) "LifeboatHouse" "refused" "[I") ∈ gtbl := List.mem_filter.mpr ⟨List.mem_append_right _ (List.mem_append_left _ (List.mem_of_getElem? (l := tables_1_1) (i := 172) rfl)), rfl⟩
set_option maxRecDepth 8000 in
theorem zw_173 : (Cond.fieldLink "LifeboatHouse" (70 : Nat) "LifeboatHouse" "minute" "I") ∈ gtbl := List.mem_filter.mpr ⟨List.mem_append_right _ (List.mem_append_left _ (List.mem_of_getElem? (l := tables_1_1) (i := 173) rfl)), rfl⟩
set_option maxRecDepth 8000 in
theorem zw_174 : (Cond.fieldLink "LifeboatHouse" (74 : Nat) "LifeboatHouse" "size" "I") ∈ gtbl := List.mem_filter.mpr ⟨List.mem_append_right _ (List.mem_append_left _ (List.mem_of_getElem? (l := tables_1_1) (i := 174) rfl)), rfl⟩
set_option maxRecDepth 8000 in
theorem zw_175 : (Cond.fieldLink "LifeboatHouse" (77 : Nat) "LifeboatHouse" "gather" "I") ∈ gtbl := List.mem_filter.mpr ⟨List.mem_append_right _ (List.mem_append_left _ (List.mem_of_getElem? (l := tables_1_1) (i := 175) rfl)), rfl⟩
set_option maxRecDepth 8000 in
theorem zw_176 : (Cond.laysFinal "LifeboatHouse" "LifeboatHouse" "miles" "[I") ∈ gtbl := List.mem_filter.mpr ⟨List.mem_append_right _ (List.mem_append_left _ (List.mem_of_getElem? (l := tables_1_1) (i := 176) rfl)), rfl⟩
set_option maxRecDepth 8000 in
theorem zw_177 : (Cond.soleField "LifeboatHouse" "miles") ∈ gtbl := List.mem_filter.mpr ⟨List.mem_append_right _ (List.mem_append_left _ (List.mem_of_getElem? (l := tables_1_1) (i := 177) rfl)), rfl⟩
set_option maxRecDepth 8000 in
theorem zw_178 : (Cond.laysFinal "LifeboatHouse" "LifeboatHouse" "needs" "[I") ∈ gtbl := List.mem_filter.mpr ⟨List.mem_append_right _ (List.mem_append_left _ (List.mem_of_getElem? (l := tables_1_1) (i := 178) rfl)), rfl⟩
set_option maxRecDepth 8000 in
theorem zw_179 : (Cond.soleField "LifeboatHouse" "needs") ∈ gtbl := List.mem_filter.mpr ⟨List.mem_append_right _ (List.mem_append_left _ (List.mem_of_getElem? (l := tables_1_1) (i := 179) rfl)), rfl⟩
set_option maxRecDepth 8000 in
theorem zw_180 : (Cond.laysFinal "LifeboatHouse" "LifeboatHouse" "people" "Ljava/util/ArrayList;") ∈ gtbl := List.mem_filter.mpr ⟨List.mem_append_right _ (List.mem_append_left _ (List.mem_of_getElem? (l := tables_1_1) (i := 180) rfl)), rfl⟩
set_option maxRecDepth 8000 in
theorem zw_181 : (Cond.soleField "LifeboatHouse" "people") ∈ gtbl := List.mem_filter.mpr ⟨List.mem_append_right _ (List.mem_append_left _ (List.mem_of_getElem? (l := tables_1_1) (i := 181) rfl)), rfl⟩
set_option maxRecDepth 8000 in
theorem zw_182 : (Cond.laysFinal "LifeboatHouse" "LifeboatHouse" "boats" "Ljava/util/ArrayList;") ∈ gtbl := List.mem_filter.mpr ⟨List.mem_append_right _ (List.mem_append_left _ (List.mem_of_getElem? (l := tables_1_1) (i := 182) rfl)), rfl⟩
set_option maxRecDepth 8000 in
theorem zw_183 : (Cond.soleField "LifeboatHouse" "boats") ∈ gtbl := List.mem_filter.mpr ⟨List.mem_append_right _ (List.mem_append_left _ (List.mem_of_getElem? (l := tables_1_1) (i := 183) rfl)), rfl⟩
set_option maxRecDepth 8000 in
theorem zw_184 : (Cond.laysFinal "LifeboatHouse" "LifeboatHouse" "calls" "Ljava/util/ArrayList;") ∈ gtbl := List.mem_filter.mpr ⟨List.mem_append_right _ (List.mem_append_left _ (List.mem_of_getElem? (l := tables_1_1) (i := 184) rfl)), rfl⟩
set_option maxRecDepth 8000 in
theorem zw_185 : (Cond.soleField "LifeboatHouse" "calls") ∈ gtbl := List.mem_filter.mpr ⟨List.mem_append_right _ (List.mem_append_left _ (List.mem_of_getElem? (l := tables_1_1) (i := 185) rfl)), rfl⟩
set_option maxRecDepth 8000 in
theorem zw_186 : (Cond.laysFinal "LifeboatHouse" "LifeboatHouse" "launches" "Ljava/util/ArrayList;") ∈ gtbl := List.mem_filter.mpr ⟨List.mem_append_right _ (List.mem_append_left _ (List.mem_of_getElem? (l := tables_1_1) (i := 186) rfl)), rfl⟩
set_option maxRecDepth 8000 in
theorem zw_187 : (Cond.soleField "LifeboatHouse" "launches") ∈ gtbl := List.mem_filter.mpr ⟨List.mem_append_right _ (List.mem_append_left _ (List.mem_of_getElem? (l := tables_1_1) (i := 187) rfl)), rfl⟩
set_option maxRecDepth 8000 in
theorem zw_188 : (Cond.laysFinal "LifeboatHouse" "LifeboatHouse" "tides" "LLifeboatHouse$Tides;") ∈ gtbl := List.mem_filter.mpr ⟨List.mem_append_right _ (List.mem_append_left _ (List.mem_of_getElem? (l := tables_1_1) (i := 188) rfl)), rfl⟩
set_option maxRecDepth 8000 in
theorem zw_189 : (Cond.soleField "LifeboatHouse" "tides") ∈ gtbl := List.mem_filter.mpr ⟨List.mem_append_right _ (List.mem_append_left _ (List.mem_of_getElem? (l := tables_1_1) (i := 189) rfl)), rfl⟩
set_option maxRecDepth 8000 in
theorem zw_190 : (Cond.laysFinal "LifeboatHouse" "LifeboatHouse" "crewRows" "LLifeboatHouse$CrewRows;") ∈ gtbl := List.mem_filter.mpr ⟨List.mem_append_right _ (List.mem_append_left _ (List.mem_of_getElem? (l := tables_1_1) (i := 190) rfl)), rfl⟩
set_option maxRecDepth 8000 in
theorem zw_191 : (Cond.soleField "LifeboatHouse" "crewRows") ∈ gtbl := List.mem_filter.mpr ⟨List.mem_append_right _ (List.mem_append_left _ (List.mem_of_getElem? (l := tables_1_1) (i := 191) rfl)), rfl⟩
set_option maxRecDepth 8000 in
theorem zw_192 : (Cond.laysFinal "LifeboatHouse" "LifeboatHouse" "pair" "LLifeboatHouse$Pair;") ∈ gtbl := List.mem_filter.mpr ⟨List.mem_append_right _ (List.mem_append_left _ (List.mem_of_getElem? (l := tables_1_1) (i := 192) rfl)), rfl⟩
set_option maxRecDepth 8000 in
theorem zw_193 : (Cond.soleField "LifeboatHouse" "pair") ∈ gtbl := List.mem_filter.mpr ⟨List.mem_append_right _ (List.mem_append_left _ (List.mem_of_getElem? (l := tables_1_1) (i := 193) rfl)), rfl⟩
set_option maxRecDepth 8000 in
theorem zw_194 : (Cond.laysFinal "LifeboatHouse" "LifeboatHouse" "flankPlan" "LLifeboatHouse$FlankPlan;") ∈ gtbl := List.mem_filter.mpr ⟨List.mem_append_right _ (List.mem_append_left _ (List.mem_of_getElem? (l := tables_1_1) (i := 194) rfl)), rfl⟩
set_option maxRecDepth 8000 in
theorem zw_195 : (Cond.soleField "LifeboatHouse" "flankPlan") ∈ gtbl := List.mem_filter.mpr ⟨List.mem_append_right _ (List.mem_append_left _ (List.mem_of_getElem? (l := tables_1_1) (i := 195) rfl)), rfl⟩
set_option maxRecDepth 8000 in
theorem zw_196 : (Cond.laysFinal "LifeboatHouse" "LifeboatHouse" "search" "LLifeboatHouse$Search;") ∈ gtbl := List.mem_filter.mpr ⟨List.mem_append_right _ (List.mem_append_left _ (List.mem_of_getElem? (l := tables_1_1) (i := 196) rfl)), rfl⟩
set_option maxRecDepth 8000 in
theorem zw_197 : (Cond.soleField "LifeboatHouse" "search") ∈ gtbl := List.mem_filter.mpr ⟨List.mem_append_right _ (List.mem_append_left _ (List.mem_of_getElem? (l := tables_1_1) (i := 197) rfl)), rfl⟩
set_option maxRecDepth 8000 in
theorem zw_198 : (Cond.laysFinal "LifeboatHouse" "LifeboatHouse" "refused" "[I") ∈ gtbl := List.mem_filter.mpr ⟨List.mem_append_right _ (List.mem_append_left _ (List.mem_of_getElem? (l := tables_1_1) (i := 198) rfl)), rfl⟩
set_option maxRecDepth 8000 in
theorem zw_199 : (Cond.soleField "LifeboatHouse" "refused") ∈ gtbl := List.mem_filter.mpr ⟨List.mem_append_right _ (List.mem_append_left _ (List.mem_of_getElem? (l := tables_1_1) (i := 199) rfl)), rfl⟩
set_option maxRecDepth 8000 in
theorem zw_200 : (Cond.lays "LifeboatHouse" "LifeboatHouse" "minute" "I") ∈ gtbl := List.mem_filter.mpr ⟨List.mem_append_right _ (List.mem_append_left _ (List.mem_of_getElem? (l := tables_1_1) (i := 200) rfl)), rfl⟩
set_option maxRecDepth 8000 in
theorem zw_201 : (Cond.soleField "LifeboatHouse" "minute") ∈ gtbl := List.mem_filter.mpr ⟨List.mem_append_right _ (List.mem_append_left _ (List.mem_of_getElem? (l := tables_1_1) (i := 201) rfl)), rfl⟩
set_option maxRecDepth 8000 in
theorem zw_202 : (Cond.lays "LifeboatHouse" "LifeboatHouse" "size" "I") ∈ gtbl := List.mem_filter.mpr ⟨List.mem_append_right _ (List.mem_append_left _ (List.mem_of_getElem? (l := tables_1_1) (i := 202) rfl)), rfl⟩
set_option maxRecDepth 8000 in
theorem zw_203 : (Cond.soleField "LifeboatHouse" "size") ∈ gtbl := List.mem_filter.mpr ⟨List.mem_append_right _ (List.mem_append_left _ (List.mem_of_getElem? (l := tables_1_1) (i := 203) rfl)), rfl⟩
set_option maxRecDepth 8000 in
theorem zw_204 : (Cond.lays "LifeboatHouse" "LifeboatHouse" "gather" "I") ∈ gtbl := List.mem_filter.mpr ⟨List.mem_append_right _ (List.mem_append_left _ (List.mem_of_getElem? (l := tables_1_1) (i := 204) rfl)), rfl⟩
set_option maxRecDepth 8000 in
theorem zw_205 : (Cond.soleField "LifeboatHouse" "gather") ∈ gtbl := List.mem_filter.mpr ⟨List.mem_append_right _ (List.mem_append_left _ (List.mem_of_getElem? (l := tables_1_1) (i := 205) rfl)), rfl⟩
set_option maxRecDepth 8000 in
theorem zw_206 : (Cond.superclass "LifeboatHouse" "java/lang/Object") ∈ gtbl := List.mem_filter.mpr ⟨List.mem_append_right _ (List.mem_append_left _ (List.mem_of_getElem? (l := tables_1_1) (i := 206) rfl)), rfl⟩
set_option maxRecDepth 8000 in
theorem zw_207 : (Cond.methodLink "LifeboatHouseLaw" (13 : Nat) ({ cls := "LifeboatHouse", name := "station", desc := "(III)I" } : MethodName)) ∈ gtbl := List.mem_filter.mpr ⟨List.mem_append_right _ (List.mem_append_left _ (List.mem_of_getElem? (l := tables_1_1) (i := 207) rfl)), rfl⟩
set_option maxRecDepth 8000 in
theorem zw_208 : (Cond.instanceMethod ({ cls := "LifeboatHouse", name := "station", desc := "(III)I" } : MethodName)) ∈ gtbl := List.mem_filter.mpr ⟨List.mem_append_right _ (List.mem_append_left _ (List.mem_of_getElem? (l := tables_1_1) (i := 208) rfl)), rfl⟩
set_option maxRecDepth 8000 in
theorem zw_209 : (Cond.selects "LifeboatHouse" ({ cls := "LifeboatHouse", name := "station", desc := "(III)I" } : MethodName) ({ cls := "LifeboatHouse", name := "station", desc := "(III)I" } : MethodName)) ∈ gtbl := List.mem_filter.mpr ⟨List.mem_append_right _ (List.mem_append_left _ (List.mem_of_getElem? (l := tables_1_1) (i := 209) rfl)), rfl⟩
set_option maxRecDepth 8000 in
theorem zw_210 : (Cond.code ({ cls := "LifeboatHouse", name := "station", desc := "(III)I" } : MethodName) prog_1_method_2_code (7 : Nat) (Option.some FieldType.int)) ∈ gtbl := List.mem_filter.mpr ⟨List.mem_append_right _ (List.mem_append_left _ (List.mem_of_getElem? (l := tables_1_1) (i := 210) rfl)), rfl⟩
set_option maxRecDepth 8000 in
theorem zw_211 : (Cond.methodLink "LifeboatHouse" (80 : Nat) ({ cls := "LifeboatHouse", name := "isStation", desc := "(I)Z" } : MethodName)) ∈ gtbl := List.mem_filter.mpr ⟨List.mem_append_right _ (List.mem_append_left _ (List.mem_of_getElem? (l := tables_1_1) (i := 211) rfl)), rfl⟩
set_option maxRecDepth 8000 in
theorem zw_212 : (Cond.static ({ cls := "LifeboatHouse", name := "isStation", desc := "(I)Z" } : MethodName)) ∈ gtbl := List.mem_filter.mpr ⟨List.mem_append_right _ (List.mem_append_left _ (List.mem_of_getElem? (l := tables_1_1) (i := 212) rfl)), rfl⟩
set_option maxRecDepth 8000 in
theorem zw_213 : (Cond.code ({ cls := "LifeboatHouse", name := "isStation", desc := "(I)Z" } : MethodName) prog_1_method_49_code (1 : Nat) (Option.some FieldType.boolean)) ∈ gtbl := List.mem_filter.mpr ⟨List.mem_append_right _ (List.mem_append_left _ (List.mem_of_getElem? (l := tables_1_1) (i := 213) rfl)), rfl⟩
set_option maxRecDepth 8000 in
theorem zw_214 : (Cond.methodLink "LifeboatHouse" (84 : Nat) ({ cls := "LifeboatHouse", name := "refuse", desc := "(I)I" } : MethodName)) ∈ gtbl := List.mem_filter.mpr ⟨List.mem_append_right _ (List.mem_append_left _ (List.mem_of_getElem? (l := tables_1_1) (i := 214) rfl)), rfl⟩
set_option maxRecDepth 8000 in
theorem zw_215 : (Cond.privateMethod ({ cls := "LifeboatHouse", name := "refuse", desc := "(I)I" } : MethodName)) ∈ lw_tbl := List.mem_append_right _ (List.mem_append_left _ (List.mem_of_getElem? (l := tables_1_1) (i := 215) rfl))
set_option maxRecDepth 8000 in
theorem zw_216 : (Cond.instanceMethod ({ cls := "LifeboatHouse", name := "refuse", desc := "(I)I" } : MethodName)) ∈ gtbl := List.mem_filter.mpr ⟨List.mem_append_right _ (List.mem_append_left _ (List.mem_of_getElem? (l := tables_1_1) (i := 216) rfl)), rfl⟩
set_option maxRecDepth 8000 in
theorem zw_217 : (Cond.code ({ cls := "LifeboatHouse", name := "refuse", desc := "(I)I" } : MethodName) prog_1_method_47_code (2 : Nat) (Option.some FieldType.int)) ∈ gtbl := List.mem_filter.mpr ⟨List.mem_append_right _ (List.mem_append_left _ (List.mem_of_getElem? (l := tables_1_1) (i := 217) rfl)), rfl⟩
set_option maxRecDepth 8000 in
theorem zw_218 : (Cond.methodLink "LifeboatHouse" (88 : Nat) ({ cls := "LifeboatHouse", name := "outside", desc := "(III)I" } : MethodName)) ∈ gtbl := List.mem_filter.mpr ⟨List.mem_append_right _ (List.mem_append_left _ (List.mem_of_getElem? (l := tables_1_1) (i := 218) rfl)), rfl⟩
set_option maxRecDepth 8000 in
theorem zw_219 : (Cond.static ({ cls := "LifeboatHouse", name := "outside", desc := "(III)I" } : MethodName)) ∈ gtbl := List.mem_filter.mpr ⟨List.mem_append_right _ (List.mem_append_left _ (List.mem_of_getElem? (l := tables_1_1) (i := 219) rfl)), rfl⟩
set_option maxRecDepth 8000 in
theorem zw_220 : (Cond.code ({ cls := "LifeboatHouse", name := "outside", desc := "(III)I" } : MethodName) prog_1_method_48_code (3 : Nat) (Option.some FieldType.int)) ∈ gtbl := List.mem_filter.mpr ⟨List.mem_append_right _ (List.mem_append_left _ (List.mem_of_getElem? (l := tables_1_1) (i := 220) rfl)), rfl⟩
set_option maxRecDepth 8000 in
theorem zw_221 : (Cond.methodLink "LifeboatHouseLaw" (18 : Nat) ({ cls := "LifeboatHouse", name := "person", desc := "(III)I" } : MethodName)) ∈ gtbl := List.mem_filter.mpr ⟨List.mem_append_right _ (List.mem_append_left _ (List.mem_of_getElem? (l := tables_1_1) (i := 221) rfl)), rfl⟩
set_option maxRecDepth 8000 in
theorem zw_222 : (Cond.instanceMethod ({ cls := "LifeboatHouse", name := "person", desc := "(III)I" } : MethodName)) ∈ gtbl := List.mem_filter.mpr ⟨List.mem_append_right _ (List.mem_append_left _ (List.mem_of_getElem? (l := tables_1_1) (i := 222) rfl)), rfl⟩
set_option maxRecDepth 8000 in
theorem zw_223 : (Cond.selects "LifeboatHouse" ({ cls := "LifeboatHouse", name := "person", desc := "(III)I" } : MethodName) ({ cls := "LifeboatHouse", name := "person", desc := "(III)I" } : MethodName)) ∈ gtbl := List.mem_filter.mpr ⟨List.mem_append_right _ (List.mem_append_left _ (List.mem_of_getElem? (l := tables_1_1) (i := 223) rfl)), rfl⟩
set_option maxRecDepth 8000 in
theorem zw_224 : (Cond.code ({ cls := "LifeboatHouse", name := "person", desc := "(III)I" } : MethodName) prog_1_method_3_code (4 : Nat) (Option.some FieldType.int)) ∈ gtbl := List.mem_filter.mpr ⟨List.mem_append_right _ (List.mem_append_left _ (List.mem_of_getElem? (l := tables_1_1) (i := 224) rfl)), rfl⟩
set_option maxRecDepth 8000 in
theorem zw_225 : (Cond.methodLink "LifeboatHouse" (92 : Nat) ({ cls := "java/util/ArrayList", name := "size", desc := "()I" } : MethodName)) ∈ gtbl := List.mem_filter.mpr ⟨List.mem_append_right _ (List.mem_append_left _ (List.mem_of_getElem? (l := tables_1_1) (i := 225) rfl)), rfl⟩
set_option maxRecDepth 8000 in
theorem zw_226 : (Cond.instanceMethod ({ cls := "java/util/ArrayList", name := "size", desc := "()I" } : MethodName)) ∈ gtbl := List.mem_filter.mpr ⟨List.mem_append_right _ (List.mem_append_left _ (List.mem_of_getElem? (l := tables_1_1) (i := 226) rfl)), rfl⟩
set_option maxRecDepth 8000 in
theorem zw_227 : (Cond.selects "java/util/ArrayList" ({ cls := "java/util/ArrayList", name := "size", desc := "()I" } : MethodName) ({ cls := "java/util/ArrayList", name := "size", desc := "()I" } : MethodName)) ∈ gtbl := List.mem_filter.mpr ⟨List.mem_append_right _ (List.mem_append_left _ (List.mem_of_getElem? (l := tables_1_1) (i := 227) rfl)), rfl⟩
set_option maxRecDepth 8000 in
theorem zw_228 : (Cond.code ({ cls := "java/util/ArrayList", name := "size", desc := "()I" } : MethodName) prog_20_method_8_code (1 : Nat) (Option.some FieldType.int)) ∈ gtbl := List.mem_filter.mpr ⟨List.mem_append_right _ (List.mem_append_left _ (List.mem_of_getElem? (l := tables_1_1) (i := 228) rfl)), rfl⟩
set_option maxRecDepth 8000 in
theorem zw_229 : (Cond.classLink "LifeboatHouse" (95 : Nat) "LifeboatHouse$Person") ∈ gtbl := List.mem_filter.mpr ⟨List.mem_append_right _ (List.mem_append_left _ (List.mem_of_getElem? (l := tables_1_1) (i := 229) rfl)), rfl⟩
set_option maxRecDepth 8000 in
theorem zw_230 : (Cond.instantiable "LifeboatHouse$Person" (6 : Nat)) ∈ gtbl := List.mem_filter.mpr ⟨List.mem_append_right _ (List.mem_append_left _ (List.mem_of_getElem? (l := tables_1_1) (i := 230) rfl)), rfl⟩
set_option maxRecDepth 8000 in
theorem zw_231 : (Cond.methodLink "LifeboatHouse" (97 : Nat) ({ cls := "LifeboatHouse$Person", name := "<init>", desc := "(III)V" } : MethodName)) ∈ gtbl := List.mem_filter.mpr ⟨List.mem_append_right _ (List.mem_append_left _ (List.mem_of_getElem? (l := tables_1_1) (i := 231) rfl)), rfl⟩
set_option maxRecDepth 8000 in
theorem zw_232 : (Cond.instanceMethod ({ cls := "LifeboatHouse$Person", name := "<init>", desc := "(III)V" } : MethodName)) ∈ gtbl := List.mem_filter.mpr ⟨List.mem_append_right _ (List.mem_append_left _ (List.mem_of_getElem? (l := tables_1_1) (i := 232) rfl)), rfl⟩
set_option maxRecDepth 8000 in
theorem zw_233 : (Cond.code ({ cls := "LifeboatHouse$Person", name := "<init>", desc := "(III)V" } : MethodName) prog_8_method_1_code (4 : Nat) (Option.none : Option FieldType)) ∈ gtbl := List.mem_filter.mpr ⟨List.mem_append_right _ (List.mem_append_left _ (List.mem_of_getElem? (l := tables_1_1) (i := 233) rfl)), rfl⟩
set_option maxRecDepth 8000 in
theorem zw_234 : (Cond.methodLink "LifeboatHouse$Person" (3 : Nat) ({ cls := "java/lang/Object", name := "<init>", desc := "()V" } : MethodName)) ∈ gtbl := List.mem_filter.mpr ⟨List.mem_append_right _ (List.mem_append_left _ (List.mem_of_getElem? (l := tables_1_1) (i := 234) rfl)), rfl⟩
set_option maxRecDepth 8000 in
theorem zw_235 : (Cond.fieldLink "LifeboatHouse$Person" (22 : Nat) "LifeboatHouse$Person" "station" "I") ∈ gtbl := List.mem_filter.mpr ⟨List.mem_append_right _ (List.mem_append_left _ (List.mem_of_getElem? (l := tables_1_1) (i := 235) rfl)), rfl⟩
set_option maxRecDepth 8000 in
theorem zw_236 : (Cond.fieldLink "LifeboatHouse" (138 : Nat) "LifeboatHouse$Person" "station" "I") ∈ gtbl := List.mem_filter.mpr ⟨List.mem_append_right _ (List.mem_append_left _ (List.mem_of_getElem? (l := tables_1_1) (i := 236) rfl)), rfl⟩
set_option maxRecDepth 8000 in
theorem zw_237 : (Cond.fieldLink "LifeboatHouse$Person" (25 : Nat) "LifeboatHouse$Person" "skills" "I") ∈ gtbl := List.mem_filter.mpr ⟨List.mem_append_right _ (List.mem_append_left _ (List.mem_of_getElem? (l := tables_1_1) (i := 237) rfl)), rfl⟩
set_option maxRecDepth 8000 in
theorem zw_238 : (Cond.fieldLink "LifeboatHouse" (141 : Nat) "LifeboatHouse$Person" "skills" "I") ∈ gtbl := List.mem_filter.mpr ⟨List.mem_append_right _ (List.mem_append_left _ (List.mem_of_getElem? (l := tables_1_1) (i := 238) rfl)), rfl⟩
set_option maxRecDepth 8000 in
theorem zw_239 : (Cond.fieldLink "LifeboatHouse$Person" (9 : Nat) "LifeboatHouse$Person" "paged" "[I") ∈ gtbl := List.mem_filter.mpr ⟨List.mem_append_right _ (List.mem_append_left _ (List.mem_of_getElem? (l := tables_1_1) (i := 239) rfl)), rfl⟩
set_option maxRecDepth 8000 in
theorem zw_240 : (Cond.fieldLink "LifeboatHouse" (114 : Nat) "LifeboatHouse$Person" "paged" "[I") ∈ gtbl := List.mem_filter.mpr ⟨List.mem_append_right _ (List.mem_append_right _ (List.mem_append_left _ (List.mem_of_getElem? (l := tables_1_2) (i := 0) rfl))), rfl⟩
set_option maxRecDepth 8000 in
theorem zw_241 : (Cond.fieldLink "LifeboatHouse$Person" (15 : Nat) "LifeboatHouse$Person" "came" "[I") ∈ gtbl := List.mem_filter.mpr ⟨List.mem_append_right _ (List.mem_append_right _ (List.mem_append_left _ (List.mem_of_getElem? (l := tables_1_2) (i := 1) rfl))), rfl⟩
set_option maxRecDepth 8000 in
theorem zw_242 : (Cond.fieldLink "LifeboatHouse" (117 : Nat) "LifeboatHouse$Person" "came" "[I") ∈ gtbl := List.mem_filter.mpr ⟨List.mem_append_right _ (List.mem_append_right _ (List.mem_append_left _ (List.mem_of_getElem? (l := tables_1_2) (i := 2) rfl))), rfl⟩
set_option maxRecDepth 8000 in
theorem zw_243 : (Cond.fieldLink "LifeboatHouse$Person" (28 : Nat) "LifeboatHouse$Person" "papers" "I") ∈ gtbl := List.mem_filter.mpr ⟨List.mem_append_right _ (List.mem_append_right _ (List.mem_append_left _ (List.mem_of_getElem? (l := tables_1_2) (i := 3) rfl))), rfl⟩
set_option maxRecDepth 8000 in
theorem zw_244 : (Cond.fieldLink "LifeboatHouse" (108 : Nat) "LifeboatHouse$Person" "papers" "I") ∈ gtbl := List.mem_filter.mpr ⟨List.mem_append_right _ (List.mem_append_right _ (List.mem_append_left _ (List.mem_of_getElem? (l := tables_1_2) (i := 4) rfl))), rfl⟩
set_option maxRecDepth 8000 in
theorem zw_245 : (Cond.fieldLink "LifeboatHouse$Person" (18 : Nat) "LifeboatHouse$Person" "restTill" "I") ∈ gtbl := List.mem_filter.mpr ⟨List.mem_append_right _ (List.mem_append_right _ (List.mem_append_left _ (List.mem_of_getElem? (l := tables_1_2) (i := 5) rfl))), rfl⟩
set_option maxRecDepth 8000 in
theorem zw_246 : (Cond.fieldLink "LifeboatHouse" (295 : Nat) "LifeboatHouse$Person" "restTill" "I") ∈ gtbl := List.mem_filter.mpr ⟨List.mem_append_right _ (List.mem_append_right _ (List.mem_append_left _ (List.mem_of_getElem? (l := tables_1_2) (i := 6) rfl))), rfl⟩
set_option maxRecDepth 8000 in
theorem zw_247 : (Cond.laysFinal "LifeboatHouse$Person" "LifeboatHouse$Person" "station" "I") ∈ gtbl := List.mem_filter.mpr ⟨List.mem_append_right _ (List.mem_append_right _ (List.mem_append_left _ (List.mem_of_getElem? (l := tables_1_2) (i := 7) rfl))), rfl⟩
set_option maxRecDepth 8000 in
theorem zw_248 : (Cond.soleField "LifeboatHouse$Person" "station") ∈ gtbl := List.mem_filter.mpr ⟨List.mem_append_right _ (List.mem_append_right _ (List.mem_append_left _ (List.mem_of_getElem? (l := tables_1_2) (i := 8) rfl))), rfl⟩
set_option maxRecDepth 8000 in
theorem zw_249 : (Cond.laysFinal "LifeboatHouse$Person" "LifeboatHouse$Person" "skills" "I") ∈ gtbl := List.mem_filter.mpr ⟨List.mem_append_right _ (List.mem_append_right _ (List.mem_append_left _ (List.mem_of_getElem? (l := tables_1_2) (i := 9) rfl))), rfl⟩
set_option maxRecDepth 8000 in
theorem zw_250 : (Cond.soleField "LifeboatHouse$Person" "skills") ∈ gtbl := List.mem_filter.mpr ⟨List.mem_append_right _ (List.mem_append_right _ (List.mem_append_left _ (List.mem_of_getElem? (l := tables_1_2) (i := 10) rfl))), rfl⟩
set_option maxRecDepth 8000 in
theorem zw_251 : (Cond.laysFinal "LifeboatHouse$Person" "LifeboatHouse$Person" "paged" "[I") ∈ gtbl := List.mem_filter.mpr ⟨List.mem_append_right _ (List.mem_append_right _ (List.mem_append_left _ (List.mem_of_getElem? (l := tables_1_2) (i := 11) rfl))), rfl⟩
set_option maxRecDepth 8000 in
theorem zw_252 : (Cond.soleField "LifeboatHouse$Person" "paged") ∈ gtbl := List.mem_filter.mpr ⟨List.mem_append_right _ (List.mem_append_right _ (List.mem_append_left _ (List.mem_of_getElem? (l := tables_1_2) (i := 12) rfl))), rfl⟩
set_option maxRecDepth 8000 in
theorem zw_253 : (Cond.laysFinal "LifeboatHouse$Person" "LifeboatHouse$Person" "came" "[I") ∈ gtbl := List.mem_filter.mpr ⟨List.mem_append_right _ (List.mem_append_right _ (List.mem_append_left _ (List.mem_of_getElem? (l := tables_1_2) (i := 13) rfl))), rfl⟩
set_option maxRecDepth 8000 in
theorem zw_254 : (Cond.soleField "LifeboatHouse$Person" "came") ∈ gtbl := List.mem_filter.mpr ⟨List.mem_append_right _ (List.mem_append_right _ (List.mem_append_left _ (List.mem_of_getElem? (l := tables_1_2) (i := 14) rfl))), rfl⟩
set_option maxRecDepth 8000 in
theorem zw_255 : (Cond.lays "LifeboatHouse$Person" "LifeboatHouse$Person" "papers" "I") ∈ gtbl := List.mem_filter.mpr ⟨List.mem_append_right _ (List.mem_append_right _ (List.mem_append_left _ (List.mem_of_getElem? (l := tables_1_2) (i := 15) rfl))), rfl⟩
set_option maxRecDepth 8000 in
theorem zw_256 : (Cond.soleField "LifeboatHouse$Person" "papers") ∈ gtbl := List.mem_filter.mpr ⟨List.mem_append_right _ (List.mem_append_right _ (List.mem_append_left _ (List.mem_of_getElem? (l := tables_1_2) (i := 16) rfl))), rfl⟩
set_option maxRecDepth 8000 in
theorem zw_257 : (Cond.lays "LifeboatHouse$Person" "LifeboatHouse$Person" "restTill" "I") ∈ gtbl := List.mem_filter.mpr ⟨List.mem_append_right _ (List.mem_append_right _ (List.mem_append_left _ (List.mem_of_getElem? (l := tables_1_2) (i := 17) rfl))), rfl⟩
set_option maxRecDepth 8000 in
theorem zw_258 : (Cond.soleField "LifeboatHouse$Person" "restTill") ∈ gtbl := List.mem_filter.mpr ⟨List.mem_append_right _ (List.mem_append_right _ (List.mem_append_left _ (List.mem_of_getElem? (l := tables_1_2) (i := 18) rfl))), rfl⟩
set_option maxRecDepth 8000 in
theorem zw_259 : (Cond.superclass "LifeboatHouse$Person" "java/lang/Object") ∈ gtbl := List.mem_filter.mpr ⟨List.mem_append_right _ (List.mem_append_right _ (List.mem_append_left _ (List.mem_of_getElem? (l := tables_1_2) (i := 19) rfl))), rfl⟩
set_option maxRecDepth 8000 in
theorem zw_260 : (Cond.methodLink "LifeboatHouse" (100 : Nat) ({ cls := "java/util/ArrayList", name := "add", desc := "(Ljava/lang/Object;)Z" } : MethodName)) ∈ gtbl := List.mem_filter.mpr ⟨List.mem_append_right _ (List.mem_append_right _ (List.mem_append_left _ (List.mem_of_getElem? (l := tables_1_2) (i := 20) rfl))), rfl⟩
set_option maxRecDepth 8000 in
theorem zw_261 : (Cond.instanceMethod ({ cls := "java/util/ArrayList", name := "add", desc := "(Ljava/lang/Object;)Z" } : MethodName)) ∈ gtbl := List.mem_filter.mpr ⟨List.mem_append_right _ (List.mem_append_right _ (List.mem_append_left _ (List.mem_of_getElem? (l := tables_1_2) (i := 21) rfl))), rfl⟩
set_option maxRecDepth 8000 in
theorem zw_262 : (Cond.selects "java/util/ArrayList" ({ cls := "java/util/ArrayList", name := "add", desc := "(Ljava/lang/Object;)Z" } : MethodName) ({ cls := "java/util/ArrayList", name := "add", desc := "(Ljava/lang/Object;)Z" } : MethodName)) ∈ gtbl := List.mem_filter.mpr ⟨List.mem_append_right _ (List.mem_append_right _ (List.mem_append_left _ (List.mem_of_getElem? (l := tables_1_2) (i := 22) rfl))), rfl⟩
set_option maxRecDepth 8000 in
theorem zw_263 : (Cond.code ({ cls := "java/util/ArrayList", name := "add", desc := "(Ljava/lang/Object;)Z" } : MethodName) prog_20_method_25_code (2 : Nat) (Option.some FieldType.boolean)) ∈ gtbl := List.mem_filter.mpr ⟨List.mem_append_right _ (List.mem_append_right _ (List.mem_append_left _ (List.mem_of_getElem? (l := tables_1_2) (i := 23) rfl))), rfl⟩
set_option maxRecDepth 8000 in
theorem zw_264 : (Cond.methodLink "java/util/ArrayList" (131 : Nat) ({ cls := "java/util/ArrayList", name := "add", desc := "(Ljava/lang/Object;[Ljava/lang/Object;I)V" } : MethodName)) ∈ gtbl := List.mem_filter.mpr ⟨List.mem_append_right _ (List.mem_append_right _ (List.mem_append_left _ (List.mem_of_getElem? (l := tables_1_2) (i := 24) rfl))), rfl⟩
set_option maxRecDepth 8000 in
theorem zw_265 : (Cond.privateMethod ({ cls := "java/util/ArrayList", name := "add", desc := "(Ljava/lang/Object;[Ljava/lang/Object;I)V" } : MethodName)) ∈ lw_tbl := List.mem_append_right _ (List.mem_append_right _ (List.mem_append_left _ (List.mem_of_getElem? (l := tables_1_2) (i := 25) rfl)))
set_option maxRecDepth 8000 in
theorem zw_266 : (Cond.instanceMethod ({ cls := "java/util/ArrayList", name := "add", desc := "(Ljava/lang/Object;[Ljava/lang/Object;I)V" } : MethodName)) ∈ gtbl := List.mem_filter.mpr ⟨List.mem_append_right _ (List.mem_append_right _ (List.mem_append_left _ (List.mem_of_getElem? (l := tables_1_2) (i := 26) rfl))), rfl⟩
set_option maxRecDepth 8000 in
theorem zw_267 : (Cond.code ({ cls := "java/util/ArrayList", name := "add", desc := "(Ljava/lang/Object;[Ljava/lang/Object;I)V" } : MethodName) prog_20_method_24_code (4 : Nat) (Option.none : Option FieldType)) ∈ gtbl := List.mem_filter.mpr ⟨List.mem_append_right _ (List.mem_append_right _ (List.mem_append_left _ (List.mem_of_getElem? (l := tables_1_2) (i := 27) rfl))), rfl⟩
set_option maxRecDepth 8000 in
theorem zw_268 : (Cond.methodLink "java/util/ArrayList" (129 : Nat) ({ cls := "java/util/ArrayList", name := "grow", desc := "()[Ljava/lang/Object;" } : MethodName)) ∈ gtbl := List.mem_filter.mpr ⟨List.mem_append_right _ (List.mem_append_right _ (List.mem_append_left _ (List.mem_of_getElem? (l := tables_1_2) (i := 28) rfl))), rfl⟩
set_option maxRecDepth 8000 in
theorem zw_269 : (Cond.privateMethod ({ cls := "java/util/ArrayList", name := "grow", desc := "()[Ljava/lang/Object;" } : MethodName)) ∈ lw_tbl := List.mem_append_right _ (List.mem_append_right _ (List.mem_append_left _ (List.mem_of_getElem? (l := tables_1_2) (i := 29) rfl)))
set_option maxRecDepth 8000 in
theorem zw_270 : (Cond.instanceMethod ({ cls := "java/util/ArrayList", name := "grow", desc := "()[Ljava/lang/Object;" } : MethodName)) ∈ gtbl := List.mem_filter.mpr ⟨List.mem_append_right _ (List.mem_append_right _ (List.mem_append_left _ (List.mem_of_getElem? (l := tables_1_2) (i := 30) rfl))), rfl⟩
set_option maxRecDepth 8000 in
theorem zw_271 : (Cond.code ({ cls := "java/util/ArrayList", name := "grow", desc := "()[Ljava/lang/Object;" } : MethodName) prog_20_method_7_code (1 : Nat) (Option.some (FieldType.array (FieldType.object "java/lang/Object")))) ∈ gtbl := List.mem_filter.mpr ⟨List.mem_append_right _ (List.mem_append_right _ (List.mem_append_left _ (List.mem_of_getElem? (l := tables_1_2) (i := 31) rfl))), rfl⟩
set_option maxRecDepth 8000 in
theorem zw_272 : (Cond.methodLink "java/util/ArrayList" (69 : Nat) ({ cls := "java/util/ArrayList", name := "grow", desc := "(I)[Ljava/lang/Object;" } : MethodName)) ∈ gtbl := List.mem_filter.mpr ⟨List.mem_append_right _ (List.mem_append_right _ (List.mem_append_left _ (List.mem_of_getElem? (l := tables_1_2) (i := 32) rfl))), rfl⟩
set_option maxRecDepth 8000 in
theorem zw_273 : (Cond.privateMethod ({ cls := "java/util/ArrayList", name := "grow", desc := "(I)[Ljava/lang/Object;" } : MethodName)) ∈ lw_tbl := List.mem_append_right _ (List.mem_append_right _ (List.mem_append_left _ (List.mem_of_getElem? (l := tables_1_2) (i := 33) rfl)))
set_option maxRecDepth 8000 in
theorem zw_274 : (Cond.instanceMethod ({ cls := "java/util/ArrayList", name := "grow", desc := "(I)[Ljava/lang/Object;" } : MethodName)) ∈ gtbl := List.mem_filter.mpr ⟨List.mem_append_right _ (List.mem_append_right _ (List.mem_append_left _ (List.mem_of_getElem? (l := tables_1_2) (i := 34) rfl))), rfl⟩
set_option maxRecDepth 8000 in
theorem zw_275 : (Cond.code ({ cls := "java/util/ArrayList", name := "grow", desc := "(I)[Ljava/lang/Object;" } : MethodName) prog_20_method_6_code (4 : Nat) (Option.some (FieldType.array (FieldType.object "java/lang/Object")))) ∈ gtbl := List.mem_filter.mpr ⟨List.mem_append_right _ (List.mem_append_right _ (List.mem_append_left _ (List.mem_of_getElem? (l := tables_1_2) (i := 35) rfl))), rfl⟩
set_option maxRecDepth 8000 in
theorem zw_276 : (Cond.methodLink "java/util/ArrayList" (73 : Nat) ({ cls := "jdk/internal/util/ArraysSupport", name := "newLength", desc := "(III)I" } : MethodName)) ∈ gtbl := List.mem_filter.mpr ⟨List.mem_append_right _ (List.mem_append_right _ (List.mem_append_left _ (List.mem_of_getElem? (l := tables_1_2) (i := 36) rfl))), rfl⟩
set_option maxRecDepth 8000 in
theorem zw_277 : (Cond.static ({ cls := "jdk/internal/util/ArraysSupport", name := "newLength", desc := "(III)I" } : MethodName)) ∈ gtbl := List.mem_filter.mpr ⟨List.mem_append_right _ (List.mem_append_right _ (List.mem_append_left _ (List.mem_of_getElem? (l := tables_1_2) (i := 37) rfl))), rfl⟩
set_option maxRecDepth 8000 in
theorem zw_278 : (Cond.code ({ cls := "jdk/internal/util/ArraysSupport", name := "newLength", desc := "(III)I" } : MethodName) prog_27_method_27_code (4 : Nat) (Option.some FieldType.int)) ∈ gtbl := List.mem_filter.mpr ⟨List.mem_append_right _ (List.mem_append_right _ (List.mem_append_left _ (List.mem_of_getElem? (l := tables_1_2) (i := 38) rfl))), rfl⟩
set_option maxRecDepth 8000 in
theorem zw_279 : (Cond.methodLink "jdk/internal/util/ArraysSupport" (194 : Nat) ({ cls := "java/lang/Math", name := "max", desc := "(II)I" } : MethodName)) ∈ gtbl := List.mem_filter.mpr ⟨List.mem_append_right _ (List.mem_append_right _ (List.mem_append_left _ (List.mem_of_getElem? (l := tables_1_2) (i := 39) rfl))), rfl⟩
set_option maxRecDepth 8000 in
theorem zw_280 : (Cond.static ({ cls := "java/lang/Math", name := "max", desc := "(II)I" } : MethodName)) ∈ gtbl := List.mem_filter.mpr ⟨List.mem_append_right _ (List.mem_append_right _ (List.mem_append_left _ (List.mem_of_getElem? (l := tables_1_2) (i := 40) rfl))), rfl⟩
set_option maxRecDepth 8000 in
theorem zw_281 : (Cond.code ({ cls := "java/lang/Math", name := "max", desc := "(II)I" } : MethodName) prog_16_method_65_code (2 : Nat) (Option.some FieldType.int)) ∈ gtbl := List.mem_filter.mpr ⟨List.mem_append_right _ (List.mem_append_right _ (List.mem_append_left _ (List.mem_of_getElem? (l := tables_1_2) (i := 41) rfl))), rfl⟩
set_option maxRecDepth 8000 in
theorem zw_282 : (Cond.constant "jdk/internal/util/ArraysSupport" (200 : Nat) (2147483639 : Int32)) ∈ gtbl := List.mem_filter.mpr ⟨List.mem_append_right _ (List.mem_append_right _ (List.mem_append_left _ (List.mem_of_getElem? (l := tables_1_2) (i := 42) rfl))), rfl⟩
set_option maxRecDepth 8000 in
theorem zw_283 : (Cond.methodLink "jdk/internal/util/ArraysSupport" (201 : Nat) ({ cls := "jdk/internal/util/ArraysSupport", name := "hugeLength", desc := "(II)I" } : MethodName)) ∈ gtbl := List.mem_filter.mpr ⟨List.mem_append_right _ (List.mem_append_right _ (List.mem_append_left _ (List.mem_of_getElem? (l := tables_1_2) (i := 43) rfl))), rfl⟩
set_option maxRecDepth 8000 in
theorem zw_284 : (Cond.static ({ cls := "jdk/internal/util/ArraysSupport", name := "hugeLength", desc := "(II)I" } : MethodName)) ∈ gtbl := List.mem_filter.mpr ⟨List.mem_append_right _ (List.mem_append_right _ (List.mem_append_left _ (List.mem_of_getElem? (l := tables_1_2) (i := 44) rfl))), rfl⟩
set_option maxRecDepth 8000 in
theorem zw_285 : (Cond.code ({ cls := "jdk/internal/util/ArraysSupport", name := "hugeLength", desc := "(II)I" } : MethodName) prog_27_method_28_code (3 : Nat) (Option.some FieldType.int)) ∈ gtbl := List.mem_filter.mpr ⟨List.mem_append_right _ (List.mem_append_right _ (List.mem_append_left _ (List.mem_of_getElem? (l := tables_1_2) (i := 45) rfl))), rfl⟩
set_option maxRecDepth 8000 in
theorem zw_286 : (Cond.methodLink "java/util/ArrayList" (66 : Nat) ({ cls := "java/util/Arrays", name := "copyOf", desc := "([Ljava/lang/Object;I)[Ljava/lang/Object;" } : MethodName)) ∈ gtbl := List.mem_filter.mpr ⟨List.mem_append_right _ (List.mem_append_right _ (List.mem_append_left _ (List.mem_of_getElem? (l := tables_1_2) (i := 46) rfl))), rfl⟩
set_option maxRecDepth 8000 in
theorem zw_287 : (Cond.static ({ cls := "java/util/Arrays", name := "copyOf", desc := "([Ljava/lang/Object;I)[Ljava/lang/Object;" } : MethodName)) ∈ gtbl := List.mem_filter.mpr ⟨List.mem_append_right _ (List.mem_append_right _ (List.mem_append_left _ (List.mem_of_getElem? (l := tables_1_2) (i := 47) rfl))), rfl⟩
set_option maxRecDepth 8000 in
theorem zw_288 : (Cond.code ({ cls := "java/util/Arrays", name := "copyOf", desc := "([Ljava/lang/Object;I)[Ljava/lang/Object;" } : MethodName) prog_21_method_119_code (2 : Nat) (Option.some (FieldType.array (FieldType.object "java/lang/Object")))) ∈ gtbl := List.mem_filter.mpr ⟨List.mem_append_right _ (List.mem_append_right _ (List.mem_append_left _ (List.mem_of_getElem? (l := tables_1_2) (i := 48) rfl))), rfl⟩
set_option maxRecDepth 8000 in
theorem zw_289 : (Cond.methodLink "java/util/Arrays" (86 : Nat) ({ cls := "java/lang/Object", name := "getClass", desc := "()Ljava/lang/Class;" } : MethodName)) ∈ gtbl := List.mem_filter.mpr ⟨List.mem_append_right _ (List.mem_append_right _ (List.mem_append_left _ (List.mem_of_getElem? (l := tables_1_2) (i := 49) rfl))), rfl⟩
set_option maxRecDepth 8000 in
theorem zw_290 : (Cond.instanceMethod ({ cls := "java/lang/Object", name := "getClass", desc := "()Ljava/lang/Class;" } : MethodName)) ∈ gtbl := List.mem_filter.mpr ⟨List.mem_append_right _ (List.mem_append_right _ (List.mem_append_left _ (List.mem_of_getElem? (l := tables_1_2) (i := 50) rfl))), rfl⟩
set_option maxRecDepth 8000 in
theorem zw_291 : (Cond.sameMethod "java/lang/Object" "java/lang/Object" "getClass" "()Ljava/lang/Class;") ∈ gtbl := List.mem_filter.mpr ⟨List.mem_append_right _ (List.mem_append_right _ (List.mem_append_left _ (List.mem_of_getElem? (l := tables_1_2) (i := 51) rfl))), rfl⟩
set_option maxRecDepth 8000 in
theorem zw_292 : (Cond.selects "LifeboatHouse" ({ cls := "java/lang/Object", name := "getClass", desc := "()Ljava/lang/Class;" } : MethodName) ({ cls := "java/lang/Object", name := "getClass", desc := "()Ljava/lang/Class;" } : MethodName)) ∈ gtbl := List.mem_filter.mpr ⟨List.mem_append_right _ (List.mem_append_right _ (List.mem_append_left _ (List.mem_of_getElem? (l := tables_1_2) (i := 52) rfl))), rfl⟩
set_option maxRecDepth 8000 in
theorem zw_293 : (Cond.selects "LifeboatHouse$Boat" ({ cls := "java/lang/Object", name := "getClass", desc := "()Ljava/lang/Class;" } : MethodName) ({ cls := "java/lang/Object", name := "getClass", desc := "()Ljava/lang/Class;" } : MethodName)) ∈ gtbl := List.mem_filter.mpr ⟨List.mem_append_right _ (List.mem_append_right _ (List.mem_append_left _ (List.mem_of_getElem? (l := tables_1_2) (i := 53) rfl))), rfl⟩
set_option maxRecDepth 8000 in
theorem zw_294 : (Cond.selects "LifeboatHouse$Call" ({ cls := "java/lang/Object", name := "getClass", desc := "()Ljava/lang/Class;" } : MethodName) ({ cls := "java/lang/Object", name := "getClass", desc := "()Ljava/lang/Class;" } : MethodName)) ∈ gtbl := List.mem_filter.mpr ⟨List.mem_append_right _ (List.mem_append_right _ (List.mem_append_left _ (List.mem_of_getElem? (l := tables_1_2) (i := 54) rfl))), rfl⟩
set_option maxRecDepth 8000 in
theorem zw_295 : (Cond.selects "LifeboatHouse$CrewRows" ({ cls := "java/lang/Object", name := "getClass", desc := "()Ljava/lang/Class;" } : MethodName) ({ cls := "java/lang/Object", name := "getClass", desc := "()Ljava/lang/Class;" } : MethodName)) ∈ gtbl := List.mem_filter.mpr ⟨List.mem_append_right _ (List.mem_append_right _ (List.mem_append_left _ (List.mem_of_getElem? (l := tables_1_2) (i := 55) rfl))), rfl⟩
set_option maxRecDepth 8000 in
theorem zw_296 : (Cond.selects "LifeboatHouse$FlankPlan" ({ cls := "java/lang/Object", name := "getClass", desc := "()Ljava/lang/Class;" } : MethodName) ({ cls := "java/lang/Object", name := "getClass", desc := "()Ljava/lang/Class;" } : MethodName)) ∈ gtbl := List.mem_filter.mpr ⟨List.mem_append_right _ (List.mem_append_right _ (List.mem_append_left _ (List.mem_of_getElem? (l := tables_1_2) (i := 56) rfl))), rfl⟩
set_option maxRecDepth 8000 in
theorem zw_297 : (Cond.selects "LifeboatHouse$Launch" ({ cls := "java/lang/Object", name := "getClass", desc := "()Ljava/lang/Class;" } : MethodName) ({ cls := "java/lang/Object", name := "getClass", desc := "()Ljava/lang/Class;" } : MethodName)) ∈ gtbl := List.mem_filter.mpr ⟨List.mem_append_right _ (List.mem_append_right _ (List.mem_append_left _ (List.mem_of_getElem? (l := tables_1_2) (i := 57) rfl))), rfl⟩
set_option maxRecDepth 8000 in
theorem zw_298 : (Cond.selects "LifeboatHouse$Pair" ({ cls := "java/lang/Object", name := "getClass", desc := "()Ljava/lang/Class;" } : MethodName) ({ cls := "java/lang/Object", name := "getClass", desc := "()Ljava/lang/Class;" } : MethodName)) ∈ gtbl := List.mem_filter.mpr ⟨List.mem_append_right _ (List.mem_append_right _ (List.mem_append_left _ (List.mem_of_getElem? (l := tables_1_2) (i := 58) rfl))), rfl⟩
set_option maxRecDepth 8000 in
theorem zw_299 : (Cond.selects "LifeboatHouse$Person" ({ cls := "java/lang/Object", name := "getClass", desc := "()Ljava/lang/Class;" } : MethodName) ({ cls := "java/lang/Object", name := "getClass", desc := "()Ljava/lang/Class;" } : MethodName)) ∈ gtbl := List.mem_filter.mpr ⟨List.mem_append_right _ (List.mem_append_right _ (List.mem_append_left _ (List.mem_of_getElem? (l := tables_1_2) (i := 59) rfl))), rfl⟩
set_option maxRecDepth 8000 in
theorem zw_300 : (Cond.selects "LifeboatHouse$Search" ({ cls := "java/lang/Object", name := "getClass", desc := "()Ljava/lang/Class;" } : MethodName) ({ cls := "java/lang/Object", name := "getClass", desc := "()Ljava/lang/Class;" } : MethodName)) ∈ gtbl := List.mem_filter.mpr ⟨List.mem_append_right _ (List.mem_append_right _ (List.mem_append_left _ (List.mem_of_getElem? (l := tables_1_2) (i := 60) rfl))), rfl⟩
set_option maxRecDepth 8000 in
theorem zw_301 : (Cond.selects "LifeboatHouse$Tides" ({ cls := "java/lang/Object", name := "getClass", desc := "()Ljava/lang/Class;" } : MethodName) ({ cls := "java/lang/Object", name := "getClass", desc := "()Ljava/lang/Class;" } : MethodName)) ∈ gtbl := List.mem_filter.mpr ⟨List.mem_append_right _ (List.mem_append_right _ (List.mem_append_left _ (List.mem_of_getElem? (l := tables_1_2) (i := 61) rfl))), rfl⟩
set_option maxRecDepth 8000 in
theorem zw_302 : (Cond.selects "LifeboatHouseModel" ({ cls := "java/lang/Object", name := "getClass", desc := "()Ljava/lang/Class;" } : MethodName) ({ cls := "java/lang/Object", name := "getClass", desc := "()Ljava/lang/Class;" } : MethodName)) ∈ gtbl := List.mem_filter.mpr ⟨List.mem_append_right _ (List.mem_append_right _ (List.mem_append_left _ (List.mem_of_getElem? (l := tables_1_2) (i := 62) rfl))), rfl⟩
set_option maxRecDepth 8000 in
theorem zw_303 : (Cond.selects "java/util/ArrayList" ({ cls := "java/lang/Object", name := "getClass", desc := "()Ljava/lang/Class;" } : MethodName) ({ cls := "java/lang/Object", name := "getClass", desc := "()Ljava/lang/Class;" } : MethodName)) ∈ gtbl := List.mem_filter.mpr ⟨List.mem_append_right _ (List.mem_append_right _ (List.mem_append_left _ (List.mem_of_getElem? (l := tables_1_2) (i := 63) rfl))), rfl⟩
set_option maxRecDepth 8000 in
theorem zw_304 : (Cond.native ({ cls := "java/lang/Object", name := "getClass", desc := "()Ljava/lang/Class;" } : MethodName)) ∈ gtbl := List.mem_filter.mpr ⟨List.mem_append_right _ (List.mem_append_right _ (List.mem_append_left _ (List.mem_of_getElem? (l := tables_1_2) (i := 64) rfl))), rfl⟩
set_option maxRecDepth 8000 in
theorem zw_305 : (Cond.methodLink "java/util/Arrays" (300 : Nat) ({ cls := "java/util/Arrays", name := "copyOf", desc := "([Ljava/lang/Object;ILjava/lang/Class;)[Ljava/lang/Object;" } : MethodName)) ∈ gtbl := List.mem_filter.mpr ⟨List.mem_append_right _ (List.mem_append_right _ (List.mem_append_left _ (List.mem_of_getElem? (l := tables_1_2) (i := 65) rfl))), rfl⟩
set_option maxRecDepth 8000 in
theorem zw_306 : (Cond.static ({ cls := "java/util/Arrays", name := "copyOf", desc := "([Ljava/lang/Object;ILjava/lang/Class;)[Ljava/lang/Object;" } : MethodName)) ∈ gtbl := List.mem_filter.mpr ⟨List.mem_append_right _ (List.mem_append_right _ (List.mem_append_left _ (List.mem_of_getElem? (l := tables_1_2) (i := 66) rfl))), rfl⟩
set_option maxRecDepth 8000 in
theorem zw_307 : (Cond.code ({ cls := "java/util/Arrays", name := "copyOf", desc := "([Ljava/lang/Object;ILjava/lang/Class;)[Ljava/lang/Object;" } : MethodName) prog_21_method_120_code (4 : Nat) (Option.some (FieldType.array (FieldType.object "java/lang/Object")))) ∈ gtbl := List.mem_filter.mpr ⟨List.mem_append_right _ (List.mem_append_right _ (List.mem_append_left _ (List.mem_of_getElem? (l := tables_1_2) (i := 67) rfl))), rfl⟩
set_option maxRecDepth 8000 in
theorem zw_308 : (Cond.classLink "java/util/Arrays" (110 : Nat) "[Ljava/lang/Object;") ∈ gtbl := List.mem_filter.mpr ⟨List.mem_append_right _ (List.mem_append_right _ (List.mem_append_left _ (List.mem_of_getElem? (l := tables_1_2) (i := 68) rfl))), rfl⟩
set_option maxRecDepth 8000 in
theorem zw_309 : (Cond.arrayOver (FieldType.object "java/lang/Object")) ∈ lw_tbl := List.mem_append_right _ (List.mem_append_right _ (List.mem_append_left _ (List.mem_of_getElem? (l := tables_1_2) (i := 69) rfl)))
set_option maxRecDepth 8000 in
theorem zw_310 : (Cond.classLink "java/util/Arrays" (2 : Nat) "java/lang/Object") ∈ gtbl := List.mem_filter.mpr ⟨List.mem_append_right _ (List.mem_append_right _ (List.mem_append_left _ (List.mem_of_getElem? (l := tables_1_2) (i := 70) rfl))), rfl⟩
set_option maxRecDepth 8000 in
theorem zw_311 : (Cond.methodLink "java/util/Arrays" (304 : Nat) ({ cls := "java/lang/Math", name := "min", desc := "(II)I" } : MethodName)) ∈ gtbl := List.mem_filter.mpr ⟨List.mem_append_right _ (List.mem_append_right _ (List.mem_append_left _ (List.mem_of_getElem? (l := tables_1_2) (i := 71) rfl))), rfl⟩
set_option maxRecDepth 8000 in
theorem zw_312 : (Cond.static ({ cls := "java/lang/Math", name := "min", desc := "(II)I" } : MethodName)) ∈ gtbl := List.mem_filter.mpr ⟨List.mem_append_right _ (List.mem_append_right _ (List.mem_append_left _ (List.mem_of_getElem? (l := tables_1_2) (i := 72) rfl))), rfl⟩
set_option maxRecDepth 8000 in
theorem zw_313 : (Cond.code ({ cls := "java/lang/Math", name := "min", desc := "(II)I" } : MethodName) prog_16_method_69_code (2 : Nat) (Option.some FieldType.int)) ∈ gtbl := List.mem_filter.mpr ⟨List.mem_append_right _ (List.mem_append_right _ (List.mem_append_left _ (List.mem_of_getElem? (l := tables_1_2) (i := 73) rfl))), rfl⟩
set_option maxRecDepth 8000 in
theorem zw_314 : (Cond.methodLink "java/util/Arrays" (150 : Nat) ({ cls := "java/lang/System", name := "arraycopy", desc := "(Ljava/lang/Object;ILjava/lang/Object;II)V" } : MethodName)) ∈ gtbl := List.mem_filter.mpr ⟨List.mem_append_right _ (List.mem_append_right _ (List.mem_append_left _ (List.mem_of_getElem? (l := tables_1_2) (i := 74) rfl))), rfl⟩
set_option maxRecDepth 8000 in
theorem zw_315 : (Cond.static ({ cls := "java/lang/System", name := "arraycopy", desc := "(Ljava/lang/Object;ILjava/lang/Object;II)V" } : MethodName)) ∈ gtbl := List.mem_filter.mpr ⟨List.mem_append_right _ (List.mem_append_right _ (List.mem_append_left _ (List.mem_of_getElem? (l := tables_1_2) (i := 75) rfl))), rfl⟩
set_option maxRecDepth 8000 in
theorem zw_316 : (Cond.native ({ cls := "java/lang/System", name := "arraycopy", desc := "(Ljava/lang/Object;ILjava/lang/Object;II)V" } : MethodName)) ∈ gtbl := List.mem_filter.mpr ⟨List.mem_append_right _ (List.mem_append_right _ (List.mem_append_left _ (List.mem_of_getElem? (l := tables_1_2) (i := 76) rfl))), rfl⟩
set_option maxRecDepth 8000 in
theorem zw_317 : (Cond.methodLink "java/util/ArrayList" (79 : Nat) ({ cls := "java/lang/Math", name := "max", desc := "(II)I" } : MethodName)) ∈ gtbl := List.mem_filter.mpr ⟨List.mem_append_right _ (List.mem_append_right _ (List.mem_append_left _ (List.mem_of_getElem? (l := tables_1_2) (i := 77) rfl))), rfl⟩
set_option maxRecDepth 8000 in
theorem zw_318 : (Cond.classLink "java/util/ArrayList" (7 : Nat) "java/lang/Object") ∈ gtbl := List.mem_filter.mpr ⟨List.mem_append_right _ (List.mem_append_right _ (List.mem_append_left _ (List.mem_of_getElem? (l := tables_1_2) (i := 78) rfl))), rfl⟩
set_option maxRecDepth 8000 in
theorem zw_319 : (Cond.methodLink "LifeboatHouseLaw" (22 : Nat) ({ cls := "LifeboatHouse", name := "papers", desc := "(II)I" } : MethodName)) ∈ gtbl := List.mem_filter.mpr ⟨List.mem_append_right _ (List.mem_append_right _ (List.mem_append_left _ (List.mem_of_getElem? (l := tables_1_2) (i := 79) rfl))), rfl⟩
set_option maxRecDepth 8000 in
theorem zw_320 : (Cond.instanceMethod ({ cls := "LifeboatHouse", name := "papers", desc := "(II)I" } : MethodName)) ∈ gtbl := List.mem_filter.mpr ⟨List.mem_append_right _ (List.mem_append_right _ (List.mem_append_left _ (List.mem_of_getElem? (l := tables_1_2) (i := 80) rfl))), rfl⟩
set_option maxRecDepth 8000 in
theorem zw_321 : (Cond.selects "LifeboatHouse" ({ cls := "LifeboatHouse", name := "papers", desc := "(II)I" } : MethodName) ({ cls := "LifeboatHouse", name := "papers", desc := "(II)I" } : MethodName)) ∈ gtbl := List.mem_filter.mpr ⟨List.mem_append_right _ (List.mem_append_right _ (List.mem_append_left _ (List.mem_of_getElem? (l := tables_1_2) (i := 81) rfl))), rfl⟩
set_option maxRecDepth 8000 in
theorem zw_322 : (Cond.code ({ cls := "LifeboatHouse", name := "papers", desc := "(II)I" } : MethodName) prog_1_method_4_code (6 : Nat) (Option.some FieldType.int)) ∈ gtbl := List.mem_filter.mpr ⟨List.mem_append_right _ (List.mem_append_right _ (List.mem_append_left _ (List.mem_of_getElem? (l := tables_1_2) (i := 82) rfl))), rfl⟩
set_option maxRecDepth 8000 in
theorem zw_323 : (Cond.methodLink "LifeboatHouse" (104 : Nat) ({ cls := "LifeboatHouse", name := "personAt", desc := "(I)LLifeboatHouse$Person;" } : MethodName)) ∈ gtbl := List.mem_filter.mpr ⟨List.mem_append_right _ (List.mem_append_right _ (List.mem_append_left _ (List.mem_of_getElem? (l := tables_1_2) (i := 83) rfl))), rfl⟩
set_option maxRecDepth 8000 in
theorem zw_324 : (Cond.privateMethod ({ cls := "LifeboatHouse", name := "personAt", desc := "(I)LLifeboatHouse$Person;" } : MethodName)) ∈ lw_tbl := List.mem_append_right _ (List.mem_append_right _ (List.mem_append_left _ (List.mem_of_getElem? (l := tables_1_2) (i := 84) rfl)))
set_option maxRecDepth 8000 in
theorem zw_325 : (Cond.instanceMethod ({ cls := "LifeboatHouse", name := "personAt", desc := "(I)LLifeboatHouse$Person;" } : MethodName)) ∈ gtbl := List.mem_filter.mpr ⟨List.mem_append_right _ (List.mem_append_right _ (List.mem_append_left _ (List.mem_of_getElem? (l := tables_1_2) (i := 85) rfl))), rfl⟩
set_option maxRecDepth 8000 in
theorem zw_326 : (Cond.code ({ cls := "LifeboatHouse", name := "personAt", desc := "(I)LLifeboatHouse$Person;" } : MethodName) prog_1_method_53_code (2 : Nat) (Option.some (FieldType.object "LifeboatHouse$Person"))) ∈ gtbl := List.mem_filter.mpr ⟨List.mem_append_right _ (List.mem_append_right _ (List.mem_append_left _ (List.mem_of_getElem? (l := tables_1_2) (i := 86) rfl))), rfl⟩
set_option maxRecDepth 8000 in
theorem zw_327 : (Cond.methodLink "LifeboatHouse" (134 : Nat) ({ cls := "java/util/ArrayList", name := "get", desc := "(I)Ljava/lang/Object;" } : MethodName)) ∈ gtbl := List.mem_filter.mpr ⟨List.mem_append_right _ (List.mem_append_right _ (List.mem_append_left _ (List.mem_of_getElem? (l := tables_1_2) (i := 87) rfl))), rfl⟩
set_option maxRecDepth 8000 in
theorem zw_328 : (Cond.instanceMethod ({ cls := "java/util/ArrayList", name := "get", desc := "(I)Ljava/lang/Object;" } : MethodName)) ∈ gtbl := List.mem_filter.mpr ⟨List.mem_append_right _ (List.mem_append_right _ (List.mem_append_left _ (List.mem_of_getElem? (l := tables_1_2) (i := 88) rfl))), rfl⟩
set_option maxRecDepth 8000 in
theorem zw_329 : (Cond.selects "java/util/ArrayList" ({ cls := "java/util/ArrayList", name := "get", desc := "(I)Ljava/lang/Object;" } : MethodName) ({ cls := "java/util/ArrayList", name := "get", desc := "(I)Ljava/lang/Object;" } : MethodName)) ∈ gtbl := List.mem_filter.mpr ⟨List.mem_append_right _ (List.mem_append_right _ (List.mem_append_left _ (List.mem_of_getElem? (l := tables_1_2) (i := 89) rfl))), rfl⟩
set_option maxRecDepth 8000 in
theorem zw_330 : (Cond.code ({ cls := "java/util/ArrayList", name := "get", desc := "(I)Ljava/lang/Object;" } : MethodName) prog_20_method_20_code (2 : Nat) (Option.some (FieldType.object "java/lang/Object"))) ∈ gtbl := List.mem_filter.mpr ⟨List.mem_append_right _ (List.mem_append_right _ (List.mem_append_left _ (List.mem_of_getElem? (l := tables_1_2) (i := 90) rfl))), rfl⟩
set_option maxRecDepth 8000 in
theorem zw_331 : (Cond.methodLink "java/util/ArrayList" (118 : Nat) ({ cls := "java/util/Objects", name := "checkIndex", desc := "(II)I" } : MethodName)) ∈ gtbl := List.mem_filter.mpr ⟨List.mem_append_right _ (List.mem_append_right _ (List.mem_append_left _ (List.mem_of_getElem? (l := tables_1_2) (i := 91) rfl))), rfl⟩
set_option maxRecDepth 8000 in
theorem zw_332 : (Cond.static ({ cls := "java/util/Objects", name := "checkIndex", desc := "(II)I" } : MethodName)) ∈ gtbl := List.mem_filter.mpr ⟨List.mem_append_right _ (List.mem_append_right _ (List.mem_append_left _ (List.mem_of_getElem? (l := tables_1_2) (i := 92) rfl))), rfl⟩
set_option maxRecDepth 8000 in
theorem zw_333 : (Cond.code ({ cls := "java/util/Objects", name := "checkIndex", desc := "(II)I" } : MethodName) prog_24_method_17_code (2 : Nat) (Option.some FieldType.int)) ∈ gtbl := List.mem_filter.mpr ⟨List.mem_append_right _ (List.mem_append_right _ (List.mem_append_left _ (List.mem_of_getElem? (l := tables_1_2) (i := 93) rfl))), rfl⟩
set_option maxRecDepth 8000 in
theorem zw_334 : (Cond.methodLink "java/util/Objects" (105 : Nat) ({ cls := "jdk/internal/util/Preconditions", name := "checkIndex", desc := "(IILjava/util/function/BiFunction;)I" } : MethodName)) ∈ gtbl := List.mem_filter.mpr ⟨List.mem_append_right _ (List.mem_append_right _ (List.mem_append_left _ (List.mem_of_getElem? (l := tables_1_2) (i := 94) rfl))), rfl⟩
set_option maxRecDepth 8000 in
theorem zw_335 : (Cond.static ({ cls := "jdk/internal/util/Preconditions", name := "checkIndex", desc := "(IILjava/util/function/BiFunction;)I" } : MethodName)) ∈ gtbl := List.mem_filter.mpr ⟨List.mem_append_right _ (List.mem_append_right _ (List.mem_append_left _ (List.mem_of_getElem? (l := tables_1_2) (i := 95) rfl))), rfl⟩
set_option maxRecDepth 8000 in
theorem zw_336 : (Cond.code ({ cls := "jdk/internal/util/Preconditions", name := "checkIndex", desc := "(IILjava/util/function/BiFunction;)I" } : MethodName) prog_28_method_11_code (3 : Nat) (Option.some FieldType.int)) ∈ gtbl := List.mem_filter.mpr ⟨List.mem_append_right _ (List.mem_append_right _ (List.mem_append_left _ (List.mem_of_getElem? (l := tables_1_2) (i := 96) rfl))), rfl⟩
set_option maxRecDepth 8000 in
theorem zw_337 : (Cond.methodLink "java/util/ArrayList" (123 : Nat) ({ cls := "java/util/ArrayList", name := "elementData", desc := "(I)Ljava/lang/Object;" } : MethodName)) ∈ gtbl := List.mem_filter.mpr ⟨List.mem_append_right _ (List.mem_append_right _ (List.mem_append_left _ (List.mem_of_getElem? (l := tables_1_2) (i := 97) rfl))), rfl⟩
set_option maxRecDepth 8000 in
theorem zw_338 : (Cond.instanceMethod ({ cls := "java/util/ArrayList", name := "elementData", desc := "(I)Ljava/lang/Object;" } : MethodName)) ∈ gtbl := List.mem_filter.mpr ⟨List.mem_append_right _ (List.mem_append_right _ (List.mem_append_left _ (List.mem_of_getElem? (l := tables_1_2) (i := 98) rfl))), rfl⟩
set_option maxRecDepth 8000 in
theorem zw_339 : (Cond.selects "java/util/ArrayList" ({ cls := "java/util/ArrayList", name := "elementData", desc := "(I)Ljava/lang/Object;" } : MethodName) ({ cls := "java/util/ArrayList", name := "elementData", desc := "(I)Ljava/lang/Object;" } : MethodName)) ∈ gtbl := List.mem_filter.mpr ⟨List.mem_append_right _ (List.mem_append_right _ (List.mem_append_left _ (List.mem_of_getElem? (l := tables_1_2) (i := 99) rfl))), rfl⟩
set_option maxRecDepth 8000 in
theorem zw_340 : (Cond.code ({ cls := "java/util/ArrayList", name := "elementData", desc := "(I)Ljava/lang/Object;" } : MethodName) prog_20_method_18_code (2 : Nat) (Option.some (FieldType.object "java/lang/Object"))) ∈ gtbl := List.mem_filter.mpr ⟨List.mem_append_right _ (List.mem_append_right _ (List.mem_append_left _ (List.mem_of_getElem? (l := tables_1_2) (i := 100) rfl))), rfl⟩
set_option maxRecDepth 8000 in
theorem zw_341 : (Cond.methodLink "LifeboatHouseLaw" (27 : Nat) ({ cls := "LifeboatHouse", name := "page", desc := "(IZ)I" } : MethodName)) ∈ gtbl := List.mem_filter.mpr ⟨List.mem_append_right _ (List.mem_append_right _ (List.mem_append_left _ (List.mem_of_getElem? (l := tables_1_2) (i := 101) rfl))), rfl⟩
set_option maxRecDepth 8000 in
theorem zw_342 : (Cond.instanceMethod ({ cls := "LifeboatHouse", name := "page", desc := "(IZ)I" } : MethodName)) ∈ gtbl := List.mem_filter.mpr ⟨List.mem_append_right _ (List.mem_append_right _ (List.mem_append_left _ (List.mem_of_getElem? (l := tables_1_2) (i := 102) rfl))), rfl⟩
set_option maxRecDepth 8000 in
theorem zw_343 : (Cond.selects "LifeboatHouse" ({ cls := "LifeboatHouse", name := "page", desc := "(IZ)I" } : MethodName) ({ cls := "LifeboatHouse", name := "page", desc := "(IZ)I" } : MethodName)) ∈ gtbl := List.mem_filter.mpr ⟨List.mem_append_right _ (List.mem_append_right _ (List.mem_append_left _ (List.mem_of_getElem? (l := tables_1_2) (i := 103) rfl))), rfl⟩
set_option maxRecDepth 8000 in
theorem zw_344 : (Cond.code ({ cls := "LifeboatHouse", name := "page", desc := "(IZ)I" } : MethodName) prog_1_method_5_code (5 : Nat) (Option.some FieldType.int)) ∈ gtbl := List.mem_filter.mpr ⟨List.mem_append_right _ (List.mem_append_right _ (List.mem_append_left _ (List.mem_of_getElem? (l := tables_1_2) (i := 104) rfl))), rfl⟩
set_option maxRecDepth 8000 in
theorem zw_345 : (Cond.methodLink "LifeboatHouse" (111 : Nat) ({ cls := "LifeboatHouse", name := "bandNow", desc := "()I" } : MethodName)) ∈ gtbl := List.mem_filter.mpr ⟨List.mem_append_right _ (List.mem_append_right _ (List.mem_append_left _ (List.mem_of_getElem? (l := tables_1_2) (i := 105) rfl))), rfl⟩
set_option maxRecDepth 8000 in
theorem zw_346 : (Cond.privateMethod ({ cls := "LifeboatHouse", name := "bandNow", desc := "()I" } : MethodName)) ∈ lw_tbl := List.mem_append_right _ (List.mem_append_right _ (List.mem_append_left _ (List.mem_of_getElem? (l := tables_1_2) (i := 106) rfl)))
set_option maxRecDepth 8000 in
theorem zw_347 : (Cond.instanceMethod ({ cls := "LifeboatHouse", name := "bandNow", desc := "()I" } : MethodName)) ∈ gtbl := List.mem_filter.mpr ⟨List.mem_append_right _ (List.mem_append_right _ (List.mem_append_left _ (List.mem_of_getElem? (l := tables_1_2) (i := 107) rfl))), rfl⟩
set_option maxRecDepth 8000 in
theorem zw_348 : (Cond.code ({ cls := "LifeboatHouse", name := "bandNow", desc := "()I" } : MethodName) prog_1_method_15_code (3 : Nat) (Option.some FieldType.int)) ∈ gtbl := List.mem_filter.mpr ⟨List.mem_append_right _ (List.mem_append_right _ (List.mem_append_left _ (List.mem_of_getElem? (l := tables_1_2) (i := 108) rfl))), rfl⟩
set_option maxRecDepth 8000 in
theorem zw_349 : (Cond.methodLink "LifeboatHouseLaw" (32 : Nat) ({ cls := "LifeboatHouse", name := "partOf", desc := "(II)I" } : MethodName)) ∈ gtbl := List.mem_filter.mpr ⟨List.mem_append_right _ (List.mem_append_right _ (List.mem_append_left _ (List.mem_of_getElem? (l := tables_1_2) (i := 109) rfl))), rfl⟩
set_option maxRecDepth 8000 in
theorem zw_350 : (Cond.instanceMethod ({ cls := "LifeboatHouse", name := "partOf", desc := "(II)I" } : MethodName)) ∈ gtbl := List.mem_filter.mpr ⟨List.mem_append_right _ (List.mem_append_right _ (List.mem_append_left _ (List.mem_of_getElem? (l := tables_1_2) (i := 110) rfl))), rfl⟩
set_option maxRecDepth 8000 in
theorem zw_351 : (Cond.selects "LifeboatHouse" ({ cls := "LifeboatHouse", name := "partOf", desc := "(II)I" } : MethodName) ({ cls := "LifeboatHouse", name := "partOf", desc := "(II)I" } : MethodName)) ∈ gtbl := List.mem_filter.mpr ⟨List.mem_append_right _ (List.mem_append_right _ (List.mem_append_left _ (List.mem_of_getElem? (l := tables_1_2) (i := 111) rfl))), rfl⟩
set_option maxRecDepth 8000 in
theorem zw_352 : (Cond.code ({ cls := "LifeboatHouse", name := "partOf", desc := "(II)I" } : MethodName) prog_1_method_6_code (4 : Nat) (Option.some FieldType.int)) ∈ gtbl := List.mem_filter.mpr ⟨List.mem_append_right _ (List.mem_append_right _ (List.mem_append_left _ (List.mem_of_getElem? (l := tables_1_2) (i := 112) rfl))), rfl⟩
set_option maxRecDepth 8000 in
theorem zw_353 : (Cond.methodLink "LifeboatHouse" (120 : Nat) ({ cls := "LifeboatHouse", name := "isBand", desc := "(I)Z" } : MethodName)) ∈ gtbl := List.mem_filter.mpr ⟨List.mem_append_right _ (List.mem_append_right _ (List.mem_append_left _ (List.mem_of_getElem? (l := tables_1_2) (i := 113) rfl))), rfl⟩
set_option maxRecDepth 8000 in
theorem zw_354 : (Cond.static ({ cls := "LifeboatHouse", name := "isBand", desc := "(I)Z" } : MethodName)) ∈ gtbl := List.mem_filter.mpr ⟨List.mem_append_right _ (List.mem_append_right _ (List.mem_append_left _ (List.mem_of_getElem? (l := tables_1_2) (i := 114) rfl))), rfl⟩
set_option maxRecDepth 8000 in
theorem zw_355 : (Cond.code ({ cls := "LifeboatHouse", name := "isBand", desc := "(I)Z" } : MethodName) prog_1_method_50_code (1 : Nat) (Option.some FieldType.boolean)) ∈ gtbl := List.mem_filter.mpr ⟨List.mem_append_right _ (List.mem_append_right _ (List.mem_append_left _ (List.mem_of_getElem? (l := tables_1_2) (i := 115) rfl))), rfl⟩
set_option maxRecDepth 8000 in
theorem zw_356 : (Cond.methodLink "LifeboatHouse" (123 : Nat) ({ cls := "LifeboatHouse$Person", name := "partIn", desc := "(II)I" } : MethodName)) ∈ gtbl := List.mem_filter.mpr ⟨List.mem_append_right _ (List.mem_append_right _ (List.mem_append_left _ (List.mem_of_getElem? (l := tables_1_2) (i := 116) rfl))), rfl⟩
set_option maxRecDepth 8000 in
theorem zw_357 : (Cond.instanceMethod ({ cls := "LifeboatHouse$Person", name := "partIn", desc := "(II)I" } : MethodName)) ∈ gtbl := List.mem_filter.mpr ⟨List.mem_append_right _ (List.mem_append_right _ (List.mem_append_left _ (List.mem_of_getElem? (l := tables_1_2) (i := 117) rfl))), rfl⟩
set_option maxRecDepth 8000 in
theorem zw_358 : (Cond.selects "LifeboatHouse$Person" ({ cls := "LifeboatHouse$Person", name := "partIn", desc := "(II)I" } : MethodName) ({ cls := "LifeboatHouse$Person", name := "partIn", desc := "(II)I" } : MethodName)) ∈ gtbl := List.mem_filter.mpr ⟨List.mem_append_right _ (List.mem_append_right _ (List.mem_append_left _ (List.mem_of_getElem? (l := tables_1_2) (i := 118) rfl))), rfl⟩
set_option maxRecDepth 8000 in
theorem zw_359 : (Cond.code ({ cls := "LifeboatHouse$Person", name := "partIn", desc := "(II)I" } : MethodName) prog_8_method_2_code (5 : Nat) (Option.some FieldType.int)) ∈ gtbl := List.mem_filter.mpr ⟨List.mem_append_right _ (List.mem_append_right _ (List.mem_append_left _ (List.mem_of_getElem? (l := tables_1_2) (i := 119) rfl))), rfl⟩
set_option maxRecDepth 8000 in
theorem zw_360 : (Cond.methodLink "LifeboatHouseLaw" (36 : Nat) ({ cls := "LifeboatHouse", name := "set", desc := "(II)I" } : MethodName)) ∈ gtbl := List.mem_filter.mpr ⟨List.mem_append_right _ (List.mem_append_right _ (List.mem_append_left _ (List.mem_of_getElem? (l := tables_1_2) (i := 120) rfl))), rfl⟩
set_option maxRecDepth 8000 in
theorem zw_361 : (Cond.instanceMethod ({ cls := "LifeboatHouse", name := "set", desc := "(II)I" } : MethodName)) ∈ gtbl := List.mem_filter.mpr ⟨List.mem_append_right _ (List.mem_append_right _ (List.mem_append_left _ (List.mem_of_getElem? (l := tables_1_2) (i := 121) rfl))), rfl⟩
set_option maxRecDepth 8000 in
theorem zw_362 : (Cond.selects "LifeboatHouse" ({ cls := "LifeboatHouse", name := "set", desc := "(II)I" } : MethodName) ({ cls := "LifeboatHouse", name := "set", desc := "(II)I" } : MethodName)) ∈ gtbl := List.mem_filter.mpr ⟨List.mem_append_right _ (List.mem_append_right _ (List.mem_append_left _ (List.mem_of_getElem? (l := tables_1_2) (i := 122) rfl))), rfl⟩
set_option maxRecDepth 8000 in
theorem zw_363 : (Cond.code ({ cls := "LifeboatHouse", name := "set", desc := "(II)I" } : MethodName) prog_1_method_7_code (5 : Nat) (Option.some FieldType.int)) ∈ gtbl := List.mem_filter.mpr ⟨List.mem_append_right _ (List.mem_append_right _ (List.mem_append_left _ (List.mem_of_getElem? (l := tables_1_2) (i := 123) rfl))), rfl⟩
set_option maxRecDepth 8000 in
theorem zw_364 : (Cond.methodLink "LifeboatHouseLaw" (40 : Nat) ({ cls := "LifeboatHouse", name := "chance", desc := "(II)I" } : MethodName)) ∈ gtbl := List.mem_filter.mpr ⟨List.mem_append_right _ (List.mem_append_right _ (List.mem_append_left _ (List.mem_of_getElem? (l := tables_1_2) (i := 124) rfl))), rfl⟩
set_option maxRecDepth 8000 in
theorem zw_365 : (Cond.instanceMethod ({ cls := "LifeboatHouse", name := "chance", desc := "(II)I" } : MethodName)) ∈ gtbl := List.mem_filter.mpr ⟨List.mem_append_right _ (List.mem_append_right _ (List.mem_append_left _ (List.mem_of_getElem? (l := tables_1_2) (i := 125) rfl))), rfl⟩
set_option maxRecDepth 8000 in
theorem zw_366 : (Cond.selects "LifeboatHouse" ({ cls := "LifeboatHouse", name := "chance", desc := "(II)I" } : MethodName) ({ cls := "LifeboatHouse", name := "chance", desc := "(II)I" } : MethodName)) ∈ gtbl := List.mem_filter.mpr ⟨List.mem_append_right _ (List.mem_append_right _ (List.mem_append_left _ (List.mem_of_getElem? (l := tables_1_2) (i := 126) rfl))), rfl⟩
set_option maxRecDepth 8000 in
theorem zw_367 : (Cond.code ({ cls := "LifeboatHouse", name := "chance", desc := "(II)I" } : MethodName) prog_1_method_8_code (3 : Nat) (Option.some FieldType.int)) ∈ gtbl := List.mem_filter.mpr ⟨List.mem_append_right _ (List.mem_append_right _ (List.mem_append_left _ (List.mem_of_getElem? (l := tables_1_2) (i := 127) rfl))), rfl⟩
set_option maxRecDepth 8000 in
theorem zw_368 : (Cond.methodLink "LifeboatHouse" (127 : Nat) ({ cls := "LifeboatHouse", name := "crewChance", desc := "(II)I" } : MethodName)) ∈ gtbl := List.mem_filter.mpr ⟨List.mem_append_right _ (List.mem_append_right _ (List.mem_append_left _ (List.mem_of_getElem? (l := tables_1_2) (i := 128) rfl))), rfl⟩
set_option maxRecDepth 8000 in
theorem zw_369 : (Cond.privateMethod ({ cls := "LifeboatHouse", name := "crewChance", desc := "(II)I" } : MethodName)) ∈ lw_tbl := List.mem_append_right _ (List.mem_append_right _ (List.mem_append_left _ (List.mem_of_getElem? (l := tables_1_2) (i := 129) rfl)))
set_option maxRecDepth 8000 in
theorem zw_370 : (Cond.instanceMethod ({ cls := "LifeboatHouse", name := "crewChance", desc := "(II)I" } : MethodName)) ∈ gtbl := List.mem_filter.mpr ⟨List.mem_append_right _ (List.mem_append_right _ (List.mem_append_left _ (List.mem_of_getElem? (l := tables_1_2) (i := 130) rfl))), rfl⟩
set_option maxRecDepth 8000 in
theorem zw_371 : (Cond.code ({ cls := "LifeboatHouse", name := "crewChance", desc := "(II)I" } : MethodName) prog_1_method_10_code (6 : Nat) (Option.some FieldType.int)) ∈ gtbl := List.mem_filter.mpr ⟨List.mem_append_right _ (List.mem_append_right _ (List.mem_append_left _ (List.mem_of_getElem? (l := tables_1_2) (i := 131) rfl))), rfl⟩
set_option maxRecDepth 8000 in
theorem zw_372 : (Cond.methodLink "LifeboatHouse" (131 : Nat) ({ cls := "LifeboatHouse$CrewRows", name := "clear", desc := "()V" } : MethodName)) ∈ gtbl := List.mem_filter.mpr ⟨List.mem_append_right _ (List.mem_append_right _ (List.mem_append_left _ (List.mem_of_getElem? (l := tables_1_2) (i := 132) rfl))), rfl⟩
set_option maxRecDepth 8000 in
theorem zw_373 : (Cond.instanceMethod ({ cls := "LifeboatHouse$CrewRows", name := "clear", desc := "()V" } : MethodName)) ∈ gtbl := List.mem_filter.mpr ⟨List.mem_append_right _ (List.mem_append_right _ (List.mem_append_left _ (List.mem_of_getElem? (l := tables_1_2) (i := 133) rfl))), rfl⟩
set_option maxRecDepth 8000 in
theorem zw_374 : (Cond.selects "LifeboatHouse$CrewRows" ({ cls := "LifeboatHouse$CrewRows", name := "clear", desc := "()V" } : MethodName) ({ cls := "LifeboatHouse$CrewRows", name := "clear", desc := "()V" } : MethodName)) ∈ gtbl := List.mem_filter.mpr ⟨List.mem_append_right _ (List.mem_append_right _ (List.mem_append_left _ (List.mem_of_getElem? (l := tables_1_2) (i := 134) rfl))), rfl⟩
set_option maxRecDepth 8000 in
theorem zw_375 : (Cond.code ({ cls := "LifeboatHouse$CrewRows", name := "clear", desc := "()V" } : MethodName) prog_4_method_2_code (1 : Nat) (Option.none : Option FieldType)) ∈ gtbl := List.mem_filter.mpr ⟨List.mem_append_right _ (List.mem_append_right _ (List.mem_append_left _ (List.mem_of_getElem? (l := tables_1_2) (i := 135) rfl))), rfl⟩
set_option maxRecDepth 8000 in
theorem zw_376 : (Cond.methodLink "LifeboatHouse$CrewRows" (19 : Nat) ({ cls := "java/util/Arrays", name := "fill", desc := "([II)V" } : MethodName)) ∈ gtbl := List.mem_filter.mpr ⟨List.mem_append_right _ (List.mem_append_right _ (List.mem_append_left _ (List.mem_of_getElem? (l := tables_1_2) (i := 136) rfl))), rfl⟩
set_option maxRecDepth 8000 in
theorem zw_377 : (Cond.constant "LifeboatHouse$CrewRows" (25 : Nat) (1048576 : Int32)) ∈ gtbl := List.mem_filter.mpr ⟨List.mem_append_right _ (List.mem_append_right _ (List.mem_append_left _ (List.mem_of_getElem? (l := tables_1_2) (i := 137) rfl))), rfl⟩
set_option maxRecDepth 8000 in
theorem zw_378 : (Cond.methodLink "LifeboatHouse" (144 : Nat) ({ cls := "LifeboatHouse$CrewRows", name := "mayCome", desc := "(II)V" } : MethodName)) ∈ gtbl := List.mem_filter.mpr ⟨List.mem_append_right _ (List.mem_append_right _ (List.mem_append_left _ (List.mem_of_getElem? (l := tables_1_2) (i := 138) rfl))), rfl⟩
set_option maxRecDepth 8000 in
theorem zw_379 : (Cond.instanceMethod ({ cls := "LifeboatHouse$CrewRows", name := "mayCome", desc := "(II)V" } : MethodName)) ∈ gtbl := List.mem_filter.mpr ⟨List.mem_append_right _ (List.mem_append_right _ (List.mem_append_left _ (List.mem_of_getElem? (l := tables_1_2) (i := 139) rfl))), rfl⟩
set_option maxRecDepth 8000 in
theorem zw_380 : (Cond.selects "LifeboatHouse$CrewRows" ({ cls := "LifeboatHouse$CrewRows", name := "mayCome", desc := "(II)V" } : MethodName) ({ cls := "LifeboatHouse$CrewRows", name := "mayCome", desc := "(II)V" } : MethodName)) ∈ gtbl := List.mem_filter.mpr ⟨List.mem_append_right _ (List.mem_append_right _ (List.mem_append_left _ (List.mem_of_getElem? (l := tables_1_2) (i := 140) rfl))), rfl⟩
set_option maxRecDepth 8000 in
theorem zw_381 : (Cond.code ({ cls := "LifeboatHouse$CrewRows", name := "mayCome", desc := "(II)V" } : MethodName) prog_4_method_3_code (6 : Nat) (Option.none : Option FieldType)) ∈ gtbl := List.mem_filter.mpr ⟨List.mem_append_right _ (List.mem_append_right _ (List.mem_append_left _ (List.mem_of_getElem? (l := tables_1_2) (i := 141) rfl))), rfl⟩
set_option maxRecDepth 8000 in
theorem zw_382 : (Cond.methodLink "LifeboatHouse$CrewRows" (26 : Nat) ({ cls := "LifeboatHouse$CrewRows", name := "rowWith", desc := "(II)I" } : MethodName)) ∈ gtbl := List.mem_filter.mpr ⟨List.mem_append_right _ (List.mem_append_right _ (List.mem_append_left _ (List.mem_of_getElem? (l := tables_1_2) (i := 142) rfl))), rfl⟩
set_option maxRecDepth 8000 in
theorem zw_383 : (Cond.static ({ cls := "LifeboatHouse$CrewRows", name := "rowWith", desc := "(II)I" } : MethodName)) ∈ gtbl := List.mem_filter.mpr ⟨List.mem_append_right _ (List.mem_append_right _ (List.mem_append_left _ (List.mem_of_getElem? (l := tables_1_2) (i := 143) rfl))), rfl⟩
set_option maxRecDepth 8000 in
theorem zw_384 : (Cond.code ({ cls := "LifeboatHouse$CrewRows", name := "rowWith", desc := "(II)I" } : MethodName) prog_4_method_5_code (3 : Nat) (Option.some FieldType.int)) ∈ gtbl := List.mem_filter.mpr ⟨List.mem_append_right _ (List.mem_append_right _ (List.mem_append_left _ (List.mem_of_getElem? (l := tables_1_2) (i := 144) rfl))), rfl⟩
set_option maxRecDepth 8000 in
theorem zw_385 : (Cond.methodLink "LifeboatHouse$CrewRows" (34 : Nat) ({ cls := "LifeboatHouse$CrewRows", name := "stepUp", desc := "(III)I" } : MethodName)) ∈ gtbl := List.mem_filter.mpr ⟨List.mem_append_right _ (List.mem_append_right _ (List.mem_append_left _ (List.mem_of_getElem? (l := tables_1_2) (i := 145) rfl))), rfl⟩
set_option maxRecDepth 8000 in
theorem zw_386 : (Cond.static ({ cls := "LifeboatHouse$CrewRows", name := "stepUp", desc := "(III)I" } : MethodName)) ∈ gtbl := List.mem_filter.mpr ⟨List.mem_append_right _ (List.mem_append_right _ (List.mem_append_left _ (List.mem_of_getElem? (l := tables_1_2) (i := 146) rfl))), rfl⟩
set_option maxRecDepth 8000 in
theorem zw_387 : (Cond.code ({ cls := "LifeboatHouse$CrewRows", name := "stepUp", desc := "(III)I" } : MethodName) prog_4_method_6_code (3 : Nat) (Option.some FieldType.int)) ∈ gtbl := List.mem_filter.mpr ⟨List.mem_append_right _ (List.mem_append_right _ (List.mem_append_left _ (List.mem_of_getElem? (l := tables_1_2) (i := 147) rfl))), rfl⟩
set_option maxRecDepth 8000 in
theorem zw_388 : (Cond.methodLink "LifeboatHouse" (148 : Nat) ({ cls := "LifeboatHouse$CrewRows", name := "standing", desc := "(I)I" } : MethodName)) ∈ gtbl := List.mem_filter.mpr ⟨List.mem_append_right _ (List.mem_append_right _ (List.mem_append_left _ (List.mem_of_getElem? (l := tables_1_2) (i := 148) rfl))), rfl⟩
set_option maxRecDepth 8000 in
theorem zw_389 : (Cond.instanceMethod ({ cls := "LifeboatHouse$CrewRows", name := "standing", desc := "(I)I" } : MethodName)) ∈ gtbl := List.mem_filter.mpr ⟨List.mem_append_right _ (List.mem_append_right _ (List.mem_append_left _ (List.mem_of_getElem? (l := tables_1_2) (i := 149) rfl))), rfl⟩
set_option maxRecDepth 8000 in
theorem zw_390 : (Cond.selects "LifeboatHouse$CrewRows" ({ cls := "LifeboatHouse$CrewRows", name := "standing", desc := "(I)I" } : MethodName) ({ cls := "LifeboatHouse$CrewRows", name := "standing", desc := "(I)I" } : MethodName)) ∈ gtbl := List.mem_filter.mpr ⟨List.mem_append_right _ (List.mem_append_right _ (List.mem_append_left _ (List.mem_of_getElem? (l := tables_1_2) (i := 150) rfl))), rfl⟩
set_option maxRecDepth 8000 in
theorem zw_391 : (Cond.code ({ cls := "LifeboatHouse$CrewRows", name := "standing", desc := "(I)I" } : MethodName) prog_4_method_4_code (4 : Nat) (Option.some FieldType.int)) ∈ gtbl := List.mem_filter.mpr ⟨List.mem_append_right _ (List.mem_append_right _ (List.mem_append_left _ (List.mem_of_getElem? (l := tables_1_2) (i := 151) rfl))), rfl⟩
set_option maxRecDepth 8000 in
theorem zw_392 : (Cond.methodLink "LifeboatHouse$CrewRows" (30 : Nat) ({ cls := "LifeboatHouse$CrewRows", name := "stands", desc := "(II)Z" } : MethodName)) ∈ gtbl := List.mem_filter.mpr ⟨List.mem_append_right _ (List.mem_append_right _ (List.mem_append_left _ (List.mem_of_getElem? (l := tables_1_2) (i := 152) rfl))), rfl⟩
set_option maxRecDepth 8000 in
theorem zw_393 : (Cond.static ({ cls := "LifeboatHouse$CrewRows", name := "stands", desc := "(II)Z" } : MethodName)) ∈ gtbl := List.mem_filter.mpr ⟨List.mem_append_right _ (List.mem_append_right _ (List.mem_append_left _ (List.mem_of_getElem? (l := tables_1_2) (i := 153) rfl))), rfl⟩
set_option maxRecDepth 8000 in
theorem zw_394 : (Cond.code ({ cls := "LifeboatHouse$CrewRows", name := "stands", desc := "(II)Z" } : MethodName) prog_4_method_7_code (9 : Nat) (Option.some FieldType.boolean)) ∈ gtbl := List.mem_filter.mpr ⟨List.mem_append_right _ (List.mem_append_right _ (List.mem_append_left _ (List.mem_of_getElem? (l := tables_1_2) (i := 154) rfl))), rfl⟩
set_option maxRecDepth 8000 in
theorem zw_395 : (Cond.methodLink "LifeboatHouseLaw" (44 : Nat) ({ cls := "LifeboatHouse", name := "weak", desc := "(II)I" } : MethodName)) ∈ gtbl := List.mem_filter.mpr ⟨List.mem_append_right _ (List.mem_append_right _ (List.mem_append_left _ (List.mem_of_getElem? (l := tables_1_2) (i := 155) rfl))), rfl⟩
set_option maxRecDepth 8000 in
theorem zw_396 : (Cond.instanceMethod ({ cls := "LifeboatHouse", name := "weak", desc := "(II)I" } : MethodName)) ∈ gtbl := List.mem_filter.mpr ⟨List.mem_append_right _ (List.mem_append_right _ (List.mem_append_left _ (List.mem_of_getElem? (l := tables_1_2) (i := 156) rfl))), rfl⟩
set_option maxRecDepth 8000 in
theorem zw_397 : (Cond.selects "LifeboatHouse" ({ cls := "LifeboatHouse", name := "weak", desc := "(II)I" } : MethodName) ({ cls := "LifeboatHouse", name := "weak", desc := "(II)I" } : MethodName)) ∈ gtbl := List.mem_filter.mpr ⟨List.mem_append_right _ (List.mem_append_right _ (List.mem_append_left _ (List.mem_of_getElem? (l := tables_1_2) (i := 157) rfl))), rfl⟩
set_option maxRecDepth 8000 in
theorem zw_398 : (Cond.code ({ cls := "LifeboatHouse", name := "weak", desc := "(II)I" } : MethodName) prog_1_method_9_code (7 : Nat) (Option.some FieldType.int)) ∈ gtbl := List.mem_filter.mpr ⟨List.mem_append_right _ (List.mem_append_right _ (List.mem_append_left _ (List.mem_of_getElem? (l := tables_1_2) (i := 158) rfl))), rfl⟩
set_option maxRecDepth 8000 in
theorem zw_399 : (Cond.constant "LifeboatHouse" (130 : Nat) (1048576 : Int32)) ∈ gtbl := List.mem_filter.mpr ⟨List.mem_append_right _ (List.mem_append_right _ (List.mem_append_left _ (List.mem_of_getElem? (l := tables_1_2) (i := 159) rfl))), rfl⟩
set_option maxRecDepth 8000 in
theorem zw_400 : (Cond.methodLink "LifeboatHouseLaw" (48 : Nat) ({ cls := "LifeboatHouse", name := "tide", desc := "(II)I" } : MethodName)) ∈ gtbl := List.mem_filter.mpr ⟨List.mem_append_right _ (List.mem_append_right _ (List.mem_append_left _ (List.mem_of_getElem? (l := tables_1_2) (i := 160) rfl))), rfl⟩
set_option maxRecDepth 8000 in
theorem zw_401 : (Cond.instanceMethod ({ cls := "LifeboatHouse", name := "tide", desc := "(II)I" } : MethodName)) ∈ gtbl := List.mem_filter.mpr ⟨List.mem_append_right _ (List.mem_append_right _ (List.mem_append_left _ (List.mem_of_getElem? (l := tables_1_2) (i := 161) rfl))), rfl⟩
set_option maxRecDepth 8000 in
theorem zw_402 : (Cond.selects "LifeboatHouse" ({ cls := "LifeboatHouse", name := "tide", desc := "(II)I" } : MethodName) ({ cls := "LifeboatHouse", name := "tide", desc := "(II)I" } : MethodName)) ∈ gtbl := List.mem_filter.mpr ⟨List.mem_append_right _ (List.mem_append_right _ (List.mem_append_left _ (List.mem_of_getElem? (l := tables_1_2) (i := 162) rfl))), rfl⟩
set_option maxRecDepth 8000 in
theorem zw_403 : (Cond.code ({ cls := "LifeboatHouse", name := "tide", desc := "(II)I" } : MethodName) prog_1_method_11_code (4 : Nat) (Option.some FieldType.int)) ∈ gtbl := List.mem_filter.mpr ⟨List.mem_append_right _ (List.mem_append_right _ (List.mem_append_left _ (List.mem_of_getElem? (l := tables_1_2) (i := 163) rfl))), rfl⟩
set_option maxRecDepth 8000 in
theorem zw_404 : (Cond.methodLink "LifeboatHouse" (151 : Nat) ({ cls := "LifeboatHouse$Tides", name := "tell", desc := "(II)V" } : MethodName)) ∈ gtbl := List.mem_filter.mpr ⟨List.mem_append_right _ (List.mem_append_right _ (List.mem_append_left _ (List.mem_of_getElem? (l := tables_1_2) (i := 164) rfl))), rfl⟩
set_option maxRecDepth 8000 in
theorem zw_405 : (Cond.instanceMethod ({ cls := "LifeboatHouse$Tides", name := "tell", desc := "(II)V" } : MethodName)) ∈ gtbl := List.mem_filter.mpr ⟨List.mem_append_right _ (List.mem_append_right _ (List.mem_append_left _ (List.mem_of_getElem? (l := tables_1_2) (i := 165) rfl))), rfl⟩
set_option maxRecDepth 8000 in
theorem zw_406 : (Cond.selects "LifeboatHouse$Tides" ({ cls := "LifeboatHouse$Tides", name := "tell", desc := "(II)V" } : MethodName) ({ cls := "LifeboatHouse$Tides", name := "tell", desc := "(II)V" } : MethodName)) ∈ gtbl := List.mem_filter.mpr ⟨List.mem_append_right _ (List.mem_append_right _ (List.mem_append_left _ (List.mem_of_getElem? (l := tables_1_2) (i := 166) rfl))), rfl⟩
set_option maxRecDepth 8000 in
theorem zw_407 : (Cond.code ({ cls := "LifeboatHouse$Tides", name := "tell", desc := "(II)V" } : MethodName) prog_10_method_2_code (5 : Nat) (Option.none : Option FieldType)) ∈ gtbl := List.mem_filter.mpr ⟨List.mem_append_right _ (List.mem_append_right _ (List.mem_append_left _ (List.mem_of_getElem? (l := tables_1_2) (i := 167) rfl))), rfl⟩
set_option maxRecDepth 8000 in
theorem zw_408 : (Cond.methodLink "LifeboatHouseLaw" (52 : Nat) ({ cls := "LifeboatHouse", name := "slip", desc := "(II)I" } : MethodName)) ∈ gtbl := List.mem_filter.mpr ⟨List.mem_append_right _ (List.mem_append_right _ (List.mem_append_left _ (List.mem_of_getElem? (l := tables_1_2) (i := 168) rfl))), rfl⟩
set_option maxRecDepth 8000 in
theorem zw_409 : (Cond.instanceMethod ({ cls := "LifeboatHouse", name := "slip", desc := "(II)I" } : MethodName)) ∈ gtbl := List.mem_filter.mpr ⟨List.mem_append_right _ (List.mem_append_right _ (List.mem_append_left _ (List.mem_of_getElem? (l := tables_1_2) (i := 169) rfl))), rfl⟩
set_option maxRecDepth 8000 in
theorem zw_410 : (Cond.selects "LifeboatHouse" ({ cls := "LifeboatHouse", name := "slip", desc := "(II)I" } : MethodName) ({ cls := "LifeboatHouse", name := "slip", desc := "(II)I" } : MethodName)) ∈ gtbl := List.mem_filter.mpr ⟨List.mem_append_right _ (List.mem_append_right _ (List.mem_append_left _ (List.mem_of_getElem? (l := tables_1_2) (i := 170) rfl))), rfl⟩
set_option maxRecDepth 8000 in
theorem zw_411 : (Cond.code ({ cls := "LifeboatHouse", name := "slip", desc := "(II)I" } : MethodName) prog_1_method_12_code (4 : Nat) (Option.some FieldType.int)) ∈ gtbl := List.mem_filter.mpr ⟨List.mem_append_right _ (List.mem_append_right _ (List.mem_append_left _ (List.mem_of_getElem? (l := tables_1_2) (i := 171) rfl))), rfl⟩
set_option maxRecDepth 8000 in
theorem zw_412 : (Cond.methodLink "LifeboatHouse" (154 : Nat) ({ cls := "LifeboatHouse", name := "isOpen", desc := "(II)Z" } : MethodName)) ∈ gtbl := List.mem_filter.mpr ⟨List.mem_append_right _ (List.mem_append_right _ (List.mem_append_left _ (List.mem_of_getElem? (l := tables_1_2) (i := 172) rfl))), rfl⟩
set_option maxRecDepth 8000 in
theorem zw_413 : (Cond.privateMethod ({ cls := "LifeboatHouse", name := "isOpen", desc := "(II)Z" } : MethodName)) ∈ lw_tbl := List.mem_append_right _ (List.mem_append_right _ (List.mem_append_left _ (List.mem_of_getElem? (l := tables_1_2) (i := 173) rfl)))
set_option maxRecDepth 8000 in
theorem zw_414 : (Cond.instanceMethod ({ cls := "LifeboatHouse", name := "isOpen", desc := "(II)Z" } : MethodName)) ∈ gtbl := List.mem_filter.mpr ⟨List.mem_append_right _ (List.mem_append_right _ (List.mem_append_left _ (List.mem_of_getElem? (l := tables_1_2) (i := 174) rfl))), rfl⟩
set_option maxRecDepth 8000 in
theorem zw_415 : (Cond.code ({ cls := "LifeboatHouse", name := "isOpen", desc := "(II)Z" } : MethodName) prog_1_method_14_code (3 : Nat) (Option.some FieldType.boolean)) ∈ gtbl := List.mem_filter.mpr ⟨List.mem_append_right _ (List.mem_append_right _ (List.mem_append_left _ (List.mem_of_getElem? (l := tables_1_2) (i := 175) rfl))), rfl⟩
set_option maxRecDepth 8000 in
theorem zw_416 : (Cond.methodLink "LifeboatHouse" (159 : Nat) ({ cls := "LifeboatHouse$Tides", name := "feet", desc := "(I)I" } : MethodName)) ∈ gtbl := List.mem_filter.mpr ⟨List.mem_append_right _ (List.mem_append_right _ (List.mem_append_left _ (List.mem_of_getElem? (l := tables_1_2) (i := 176) rfl))), rfl⟩
set_option maxRecDepth 8000 in
theorem zw_417 : (Cond.instanceMethod ({ cls := "LifeboatHouse$Tides", name := "feet", desc := "(I)I" } : MethodName)) ∈ gtbl := List.mem_filter.mpr ⟨List.mem_append_right _ (List.mem_append_right _ (List.mem_append_left _ (List.mem_of_getElem? (l := tables_1_2) (i := 177) rfl))), rfl⟩
set_option maxRecDepth 8000 in
theorem zw_418 : (Cond.selects "LifeboatHouse$Tides" ({ cls := "LifeboatHouse$Tides", name := "feet", desc := "(I)I" } : MethodName) ({ cls := "LifeboatHouse$Tides", name := "feet", desc := "(I)I" } : MethodName)) ∈ gtbl := List.mem_filter.mpr ⟨List.mem_append_right _ (List.mem_append_right _ (List.mem_append_left _ (List.mem_of_getElem? (l := tables_1_2) (i := 178) rfl))), rfl⟩
set_option maxRecDepth 8000 in
theorem zw_419 : (Cond.code ({ cls := "LifeboatHouse$Tides", name := "feet", desc := "(I)I" } : MethodName) prog_10_method_3_code (3 : Nat) (Option.some FieldType.int)) ∈ gtbl := List.mem_filter.mpr ⟨List.mem_append_right _ (List.mem_append_right _ (List.mem_append_left _ (List.mem_of_getElem? (l := tables_1_2) (i := 179) rfl))), rfl⟩
set_option maxRecDepth 8000 in
theorem zw_420 : (Cond.methodLink "LifeboatHouse$Tides" (23 : Nat) ({ cls := "java/lang/Math", name := "floorMod", desc := "(II)I" } : MethodName)) ∈ gtbl := List.mem_filter.mpr ⟨List.mem_append_right _ (List.mem_append_right _ (List.mem_append_left _ (List.mem_of_getElem? (l := tables_1_2) (i := 180) rfl))), rfl⟩
set_option maxRecDepth 8000 in
theorem zw_421 : (Cond.static ({ cls := "java/lang/Math", name := "floorMod", desc := "(II)I" } : MethodName)) ∈ gtbl := List.mem_filter.mpr ⟨List.mem_append_right _ (List.mem_append_right _ (List.mem_append_left _ (List.mem_of_getElem? (l := tables_1_2) (i := 181) rfl))), rfl⟩
set_option maxRecDepth 8000 in
theorem zw_422 : (Cond.code ({ cls := "java/lang/Math", name := "floorMod", desc := "(II)I" } : MethodName) prog_16_method_50_code (3 : Nat) (Option.some FieldType.int)) ∈ gtbl := List.mem_filter.mpr ⟨List.mem_append_right _ (List.mem_append_right _ (List.mem_append_left _ (List.mem_of_getElem? (l := tables_1_2) (i := 182) rfl))), rfl⟩
set_option maxRecDepth 8000 in
theorem zw_423 : (Cond.methodLink "LifeboatHouseLaw" (56 : Nat) ({ cls := "LifeboatHouse", name := "minutes", desc := "(I)I" } : MethodName)) ∈ gtbl := List.mem_filter.mpr ⟨List.mem_append_right _ (List.mem_append_right _ (List.mem_append_left _ (List.mem_of_getElem? (l := tables_1_2) (i := 183) rfl))), rfl⟩
set_option maxRecDepth 8000 in
theorem zw_424 : (Cond.instanceMethod ({ cls := "LifeboatHouse", name := "minutes", desc := "(I)I" } : MethodName)) ∈ gtbl := List.mem_filter.mpr ⟨List.mem_append_right _ (List.mem_append_right _ (List.mem_append_left _ (List.mem_of_getElem? (l := tables_1_2) (i := 184) rfl))), rfl⟩
set_option maxRecDepth 8000 in
theorem zw_425 : (Cond.selects "LifeboatHouse" ({ cls := "LifeboatHouse", name := "minutes", desc := "(I)I" } : MethodName) ({ cls := "LifeboatHouse", name := "minutes", desc := "(I)I" } : MethodName)) ∈ gtbl := List.mem_filter.mpr ⟨List.mem_append_right _ (List.mem_append_right _ (List.mem_append_left _ (List.mem_of_getElem? (l := tables_1_2) (i := 185) rfl))), rfl⟩
set_option maxRecDepth 8000 in
theorem zw_426 : (Cond.code ({ cls := "LifeboatHouse", name := "minutes", desc := "(I)I" } : MethodName) prog_1_method_13_code (2 : Nat) (Option.some FieldType.int)) ∈ gtbl := List.mem_filter.mpr ⟨List.mem_append_right _ (List.mem_append_right _ (List.mem_append_left _ (List.mem_of_getElem? (l := tables_1_2) (i := 186) rfl))), rfl⟩
set_option maxRecDepth 8000 in
theorem zw_427 : (Cond.constant "LifeboatHouse" (158 : Nat) (200000 : Int32)) ∈ gtbl := List.mem_filter.mpr ⟨List.mem_append_right _ (List.mem_append_right _ (List.mem_append_left _ (List.mem_of_getElem? (l := tables_1_2) (i := 187) rfl))), rfl⟩
set_option maxRecDepth 8000 in
theorem zw_428 : (Cond.methodLink "LifeboatHouseLaw" (61 : Nat) ({ cls := "LifeboatHouse", name := "boat", desc := "(II)I" } : MethodName)) ∈ gtbl := List.mem_filter.mpr ⟨List.mem_append_right _ (List.mem_append_right _ (List.mem_append_left _ (List.mem_of_getElem? (l := tables_1_2) (i := 188) rfl))), rfl⟩
set_option maxRecDepth 8000 in
theorem zw_429 : (Cond.instanceMethod ({ cls := "LifeboatHouse", name := "boat", desc := "(II)I" } : MethodName)) ∈ gtbl := List.mem_filter.mpr ⟨List.mem_append_right _ (List.mem_append_right _ (List.mem_append_left _ (List.mem_of_getElem? (l := tables_1_2) (i := 189) rfl))), rfl⟩
set_option maxRecDepth 8000 in
theorem zw_430 : (Cond.selects "LifeboatHouse" ({ cls := "LifeboatHouse", name := "boat", desc := "(II)I" } : MethodName) ({ cls := "LifeboatHouse", name := "boat", desc := "(II)I" } : MethodName)) ∈ gtbl := List.mem_filter.mpr ⟨List.mem_append_right _ (List.mem_append_right _ (List.mem_append_left _ (List.mem_of_getElem? (l := tables_1_2) (i := 190) rfl))), rfl⟩
set_option maxRecDepth 8000 in
theorem zw_431 : (Cond.code ({ cls := "LifeboatHouse", name := "boat", desc := "(II)I" } : MethodName) prog_1_method_16_code (3 : Nat) (Option.some FieldType.int)) ∈ gtbl := List.mem_filter.mpr ⟨List.mem_append_right _ (List.mem_append_right _ (List.mem_append_left _ (List.mem_of_getElem? (l := tables_1_2) (i := 191) rfl))), rfl⟩
set_option maxRecDepth 8000 in
theorem zw_432 : (Cond.classLink "LifeboatHouse" (162 : Nat) "LifeboatHouse$Boat") ∈ gtbl := List.mem_filter.mpr ⟨List.mem_append_right _ (List.mem_append_right _ (List.mem_append_left _ (List.mem_of_getElem? (l := tables_1_2) (i := 192) rfl))), rfl⟩
set_option maxRecDepth 8000 in
theorem zw_433 : (Cond.instantiable "LifeboatHouse$Boat" (4 : Nat)) ∈ gtbl := List.mem_filter.mpr ⟨List.mem_append_right _ (List.mem_append_right _ (List.mem_append_left _ (List.mem_of_getElem? (l := tables_1_2) (i := 193) rfl))), rfl⟩
set_option maxRecDepth 8000 in
theorem zw_434 : (Cond.methodLink "LifeboatHouse" (164 : Nat) ({ cls := "LifeboatHouse$Boat", name := "<init>", desc := "(II)V" } : MethodName)) ∈ gtbl := List.mem_filter.mpr ⟨List.mem_append_right _ (List.mem_append_right _ (List.mem_append_left _ (List.mem_of_getElem? (l := tables_1_2) (i := 194) rfl))), rfl⟩
set_option maxRecDepth 8000 in
theorem zw_435 : (Cond.instanceMethod ({ cls := "LifeboatHouse$Boat", name := "<init>", desc := "(II)V" } : MethodName)) ∈ gtbl := List.mem_filter.mpr ⟨List.mem_append_right _ (List.mem_append_right _ (List.mem_append_left _ (List.mem_of_getElem? (l := tables_1_2) (i := 195) rfl))), rfl⟩
set_option maxRecDepth 8000 in
theorem zw_436 : (Cond.code ({ cls := "LifeboatHouse$Boat", name := "<init>", desc := "(II)V" } : MethodName) prog_2_method_1_code (3 : Nat) (Option.none : Option FieldType)) ∈ gtbl := List.mem_filter.mpr ⟨List.mem_append_right _ (List.mem_append_right _ (List.mem_append_left _ (List.mem_of_getElem? (l := tables_1_2) (i := 196) rfl))), rfl⟩
set_option maxRecDepth 8000 in
theorem zw_437 : (Cond.methodLink "LifeboatHouse$Boat" (3 : Nat) ({ cls := "java/lang/Object", name := "<init>", desc := "()V" } : MethodName)) ∈ gtbl := List.mem_filter.mpr ⟨List.mem_append_right _ (List.mem_append_right _ (List.mem_append_left _ (List.mem_of_getElem? (l := tables_1_2) (i := 197) rfl))), rfl⟩
set_option maxRecDepth 8000 in
theorem zw_438 : (Cond.fieldLink "LifeboatHouse$Boat" (22 : Nat) "LifeboatHouse$Boat" "fuel" "I") ∈ gtbl := List.mem_filter.mpr ⟨List.mem_append_right _ (List.mem_append_right _ (List.mem_append_left _ (List.mem_of_getElem? (l := tables_1_2) (i := 198) rfl))), rfl⟩
set_option maxRecDepth 8000 in
theorem zw_439 : (Cond.fieldLink "LifeboatHouse" (245 : Nat) "LifeboatHouse$Boat" "fuel" "I") ∈ gtbl := List.mem_filter.mpr ⟨List.mem_append_right _ (List.mem_append_right _ (List.mem_append_left _ (List.mem_of_getElem? (l := tables_1_2) (i := 199) rfl))), rfl⟩
set_option maxRecDepth 8000 in
theorem zw_440 : (Cond.fieldLink "LifeboatHouse$Boat" (9 : Nat) "LifeboatHouse$Boat" "speeds" "[I") ∈ gtbl := List.mem_filter.mpr ⟨List.mem_append_right _ (List.mem_append_right _ (List.mem_append_left _ (List.mem_of_getElem? (l := tables_1_2) (i := 200) rfl))), rfl⟩
set_option maxRecDepth 8000 in
theorem zw_441 : (Cond.fieldLink "LifeboatHouse" (173 : Nat) "LifeboatHouse$Boat" "speeds" "[I") ∈ gtbl := List.mem_filter.mpr ⟨List.mem_append_right _ (List.mem_append_right _ (List.mem_append_left _ (List.mem_of_getElem? (l := tables_1_2) (i := 201) rfl))), rfl⟩
set_option maxRecDepth 8000 in
theorem zw_442 : (Cond.fieldLink "LifeboatHouse$Boat" (19 : Nat) "LifeboatHouse$Boat" "station" "I") ∈ gtbl := List.mem_filter.mpr ⟨List.mem_append_right _ (List.mem_append_right _ (List.mem_append_left _ (List.mem_of_getElem? (l := tables_1_2) (i := 202) rfl))), rfl⟩
set_option maxRecDepth 8000 in
theorem zw_443 : (Cond.fieldLink "LifeboatHouse" (179 : Nat) "LifeboatHouse$Boat" "station" "I") ∈ gtbl := List.mem_filter.mpr ⟨List.mem_append_right _ (List.mem_append_right _ (List.mem_append_left _ (List.mem_of_getElem? (l := tables_1_2) (i := 203) rfl))), rfl⟩
set_option maxRecDepth 8000 in
theorem zw_444 : (Cond.fieldLink "LifeboatHouse$Boat" (15 : Nat) "LifeboatHouse$Boat" "awayTill" "I") ∈ gtbl := List.mem_filter.mpr ⟨List.mem_append_right _ (List.mem_append_right _ (List.mem_append_left _ (List.mem_of_getElem? (l := tables_1_2) (i := 204) rfl))), rfl⟩
set_option maxRecDepth 8000 in
theorem zw_445 : (Cond.fieldLink "LifeboatHouse" (231 : Nat) "LifeboatHouse$Boat" "awayTill" "I") ∈ gtbl := List.mem_filter.mpr ⟨List.mem_append_right _ (List.mem_append_right _ (List.mem_append_left _ (List.mem_of_getElem? (l := tables_1_2) (i := 205) rfl))), rfl⟩
set_option maxRecDepth 8000 in
theorem zw_446 : (Cond.laysFinal "LifeboatHouse$Boat" "LifeboatHouse$Boat" "fuel" "I") ∈ gtbl := List.mem_filter.mpr ⟨List.mem_append_right _ (List.mem_append_right _ (List.mem_append_left _ (List.mem_of_getElem? (l := tables_1_2) (i := 206) rfl))), rfl⟩
set_option maxRecDepth 8000 in
theorem zw_447 : (Cond.soleField "LifeboatHouse$Boat" "fuel") ∈ gtbl := List.mem_filter.mpr ⟨List.mem_append_right _ (List.mem_append_right _ (List.mem_append_left _ (List.mem_of_getElem? (l := tables_1_2) (i := 207) rfl))), rfl⟩
set_option maxRecDepth 8000 in
theorem zw_448 : (Cond.laysFinal "LifeboatHouse$Boat" "LifeboatHouse$Boat" "speeds" "[I") ∈ gtbl := List.mem_filter.mpr ⟨List.mem_append_right _ (List.mem_append_right _ (List.mem_append_left _ (List.mem_of_getElem? (l := tables_1_2) (i := 208) rfl))), rfl⟩
set_option maxRecDepth 8000 in
theorem zw_449 : (Cond.soleField "LifeboatHouse$Boat" "speeds") ∈ gtbl := List.mem_filter.mpr ⟨List.mem_append_right _ (List.mem_append_right _ (List.mem_append_left _ (List.mem_of_getElem? (l := tables_1_2) (i := 209) rfl))), rfl⟩
set_option maxRecDepth 8000 in
theorem zw_450 : (Cond.lays "LifeboatHouse$Boat" "LifeboatHouse$Boat" "station" "I") ∈ gtbl := List.mem_filter.mpr ⟨List.mem_append_right _ (List.mem_append_right _ (List.mem_append_left _ (List.mem_of_getElem? (l := tables_1_2) (i := 210) rfl))), rfl⟩
set_option maxRecDepth 8000 in
theorem zw_451 : (Cond.soleField "LifeboatHouse$Boat" "station") ∈ gtbl := List.mem_filter.mpr ⟨List.mem_append_right _ (List.mem_append_right _ (List.mem_append_left _ (List.mem_of_getElem? (l := tables_1_2) (i := 211) rfl))), rfl⟩
set_option maxRecDepth 8000 in
theorem zw_452 : (Cond.lays "LifeboatHouse$Boat" "LifeboatHouse$Boat" "awayTill" "I") ∈ gtbl := List.mem_filter.mpr ⟨List.mem_append_right _ (List.mem_append_right _ (List.mem_append_left _ (List.mem_of_getElem? (l := tables_1_2) (i := 212) rfl))), rfl⟩
set_option maxRecDepth 8000 in
theorem zw_453 : (Cond.soleField "LifeboatHouse$Boat" "awayTill") ∈ gtbl := List.mem_filter.mpr ⟨List.mem_append_right _ (List.mem_append_right _ (List.mem_append_left _ (List.mem_of_getElem? (l := tables_1_2) (i := 213) rfl))), rfl⟩
set_option maxRecDepth 8000 in
theorem zw_454 : (Cond.superclass "LifeboatHouse$Boat" "java/lang/Object") ∈ gtbl := List.mem_filter.mpr ⟨List.mem_append_right _ (List.mem_append_right _ (List.mem_append_left _ (List.mem_of_getElem? (l := tables_1_2) (i := 214) rfl))), rfl⟩
set_option maxRecDepth 8000 in
theorem zw_455 : (Cond.methodLink "LifeboatHouseLaw" (65 : Nat) ({ cls := "LifeboatHouse", name := "speed", desc := "(III)I" } : MethodName)) ∈ gtbl := List.mem_filter.mpr ⟨List.mem_append_right _ (List.mem_append_right _ (List.mem_append_left _ (List.mem_of_getElem? (l := tables_1_2) (i := 215) rfl))), rfl⟩
set_option maxRecDepth 8000 in
theorem zw_456 : (Cond.instanceMethod ({ cls := "LifeboatHouse", name := "speed", desc := "(III)I" } : MethodName)) ∈ gtbl := List.mem_filter.mpr ⟨List.mem_append_right _ (List.mem_append_right _ (List.mem_append_left _ (List.mem_of_getElem? (l := tables_1_2) (i := 216) rfl))), rfl⟩
set_option maxRecDepth 8000 in
theorem zw_457 : (Cond.selects "LifeboatHouse" ({ cls := "LifeboatHouse", name := "speed", desc := "(III)I" } : MethodName) ({ cls := "LifeboatHouse", name := "speed", desc := "(III)I" } : MethodName)) ∈ gtbl := List.mem_filter.mpr ⟨List.mem_append_right _ (List.mem_append_right _ (List.mem_append_left _ (List.mem_of_getElem? (l := tables_1_2) (i := 217) rfl))), rfl⟩
set_option maxRecDepth 8000 in
theorem zw_458 : (Cond.code ({ cls := "LifeboatHouse", name := "speed", desc := "(III)I" } : MethodName) prog_1_method_17_code (7 : Nat) (Option.some FieldType.int)) ∈ gtbl := List.mem_filter.mpr ⟨List.mem_append_right _ (List.mem_append_right _ (List.mem_append_left _ (List.mem_of_getElem? (l := tables_1_2) (i := 218) rfl))), rfl⟩
set_option maxRecDepth 8000 in
theorem zw_459 : (Cond.methodLink "LifeboatHouse" (166 : Nat) ({ cls := "LifeboatHouse", name := "boatAt", desc := "(I)LLifeboatHouse$Boat;" } : MethodName)) ∈ gtbl := List.mem_filter.mpr ⟨List.mem_append_right _ (List.mem_append_right _ (List.mem_append_left _ (List.mem_of_getElem? (l := tables_1_2) (i := 219) rfl))), rfl⟩
set_option maxRecDepth 8000 in
theorem zw_460 : (Cond.privateMethod ({ cls := "LifeboatHouse", name := "boatAt", desc := "(I)LLifeboatHouse$Boat;" } : MethodName)) ∈ lw_tbl := List.mem_append_right _ (List.mem_append_right _ (List.mem_append_left _ (List.mem_of_getElem? (l := tables_1_2) (i := 220) rfl)))
set_option maxRecDepth 8000 in
theorem zw_461 : (Cond.instanceMethod ({ cls := "LifeboatHouse", name := "boatAt", desc := "(I)LLifeboatHouse$Boat;" } : MethodName)) ∈ gtbl := List.mem_filter.mpr ⟨List.mem_append_right _ (List.mem_append_right _ (List.mem_append_left _ (List.mem_of_getElem? (l := tables_1_2) (i := 221) rfl))), rfl⟩
set_option maxRecDepth 8000 in
theorem zw_462 : (Cond.code ({ cls := "LifeboatHouse", name := "boatAt", desc := "(I)LLifeboatHouse$Boat;" } : MethodName) prog_1_method_54_code (2 : Nat) (Option.some (FieldType.object "LifeboatHouse$Boat"))) ∈ gtbl := List.mem_filter.mpr ⟨List.mem_append_right _ (List.mem_append_right _ (List.mem_append_left _ (List.mem_of_getElem? (l := tables_1_2) (i := 222) rfl))), rfl⟩
set_option maxRecDepth 8000 in
theorem zw_463 : (Cond.methodLink "LifeboatHouse" (170 : Nat) ({ cls := "LifeboatHouse", name := "isSea", desc := "(I)Z" } : MethodName)) ∈ gtbl := List.mem_filter.mpr ⟨List.mem_append_right _ (List.mem_append_right _ (List.mem_append_left _ (List.mem_of_getElem? (l := tables_1_2) (i := 223) rfl))), rfl⟩
set_option maxRecDepth 8000 in
theorem zw_464 : (Cond.static ({ cls := "LifeboatHouse", name := "isSea", desc := "(I)Z" } : MethodName)) ∈ gtbl := List.mem_filter.mpr ⟨List.mem_append_right _ (List.mem_append_right _ (List.mem_append_left _ (List.mem_of_getElem? (l := tables_1_2) (i := 224) rfl))), rfl⟩
set_option maxRecDepth 8000 in
theorem zw_465 : (Cond.code ({ cls := "LifeboatHouse", name := "isSea", desc := "(I)Z" } : MethodName) prog_1_method_51_code (1 : Nat) (Option.some FieldType.boolean)) ∈ gtbl := List.mem_filter.mpr ⟨List.mem_append_right _ (List.mem_append_right _ (List.mem_append_left _ (List.mem_of_getElem? (l := tables_1_2) (i := 225) rfl))), rfl⟩
set_option maxRecDepth 8000 in
theorem zw_466 : (Cond.methodLink "LifeboatHouseLaw" (69 : Nat) ({ cls := "LifeboatHouse", name := "move", desc := "(II)I" } : MethodName)) ∈ gtbl := List.mem_filter.mpr ⟨List.mem_append_right _ (List.mem_append_right _ (List.mem_append_left _ (List.mem_of_getElem? (l := tables_1_2) (i := 226) rfl))), rfl⟩
set_option maxRecDepth 8000 in
theorem zw_467 : (Cond.instanceMethod ({ cls := "LifeboatHouse", name := "move", desc := "(II)I" } : MethodName)) ∈ gtbl := List.mem_filter.mpr ⟨List.mem_append_right _ (List.mem_append_right _ (List.mem_append_left _ (List.mem_of_getElem? (l := tables_1_2) (i := 227) rfl))), rfl⟩
set_option maxRecDepth 8000 in
theorem zw_468 : (Cond.selects "LifeboatHouse" ({ cls := "LifeboatHouse", name := "move", desc := "(II)I" } : MethodName) ({ cls := "LifeboatHouse", name := "move", desc := "(II)I" } : MethodName)) ∈ gtbl := List.mem_filter.mpr ⟨List.mem_append_right _ (List.mem_append_right _ (List.mem_append_left _ (List.mem_of_getElem? (l := tables_1_2) (i := 228) rfl))), rfl⟩
set_option maxRecDepth 8000 in
theorem zw_469 : (Cond.code ({ cls := "LifeboatHouse", name := "move", desc := "(II)I" } : MethodName) prog_1_method_18_code (5 : Nat) (Option.some FieldType.int)) ∈ gtbl := List.mem_filter.mpr ⟨List.mem_append_right _ (List.mem_append_right _ (List.mem_append_left _ (List.mem_of_getElem? (l := tables_1_2) (i := 229) rfl))), rfl⟩
set_option maxRecDepth 8000 in
theorem zw_470 : (Cond.methodLink "LifeboatHouse" (176 : Nat) ({ cls := "LifeboatHouse$Boat", name := "isAway", desc := "(I)Z" } : MethodName)) ∈ gtbl := List.mem_filter.mpr ⟨List.mem_append_right _ (List.mem_append_right _ (List.mem_append_left _ (List.mem_of_getElem? (l := tables_1_2) (i := 230) rfl))), rfl⟩
set_option maxRecDepth 8000 in
theorem zw_471 : (Cond.instanceMethod ({ cls := "LifeboatHouse$Boat", name := "isAway", desc := "(I)Z" } : MethodName)) ∈ gtbl := List.mem_filter.mpr ⟨List.mem_append_right _ (List.mem_append_right _ (List.mem_append_left _ (List.mem_of_getElem? (l := tables_1_2) (i := 231) rfl))), rfl⟩
set_option maxRecDepth 8000 in
theorem zw_472 : (Cond.selects "LifeboatHouse$Boat" ({ cls := "LifeboatHouse$Boat", name := "isAway", desc := "(I)Z" } : MethodName) ({ cls := "LifeboatHouse$Boat", name := "isAway", desc := "(I)Z" } : MethodName)) ∈ gtbl := List.mem_filter.mpr ⟨List.mem_append_right _ (List.mem_append_right _ (List.mem_append_left _ (List.mem_of_getElem? (l := tables_1_2) (i := 232) rfl))), rfl⟩
set_option maxRecDepth 8000 in
theorem zw_473 : (Cond.code ({ cls := "LifeboatHouse$Boat", name := "isAway", desc := "(I)Z" } : MethodName) prog_2_method_2_code (2 : Nat) (Option.some FieldType.boolean)) ∈ gtbl := List.mem_filter.mpr ⟨List.mem_append_right _ (List.mem_append_right _ (List.mem_append_left _ (List.mem_of_getElem? (l := tables_1_2) (i := 233) rfl))), rfl⟩
set_option maxRecDepth 8000 in
theorem zw_474 : (Cond.methodLink "LifeboatHouseLaw" (73 : Nat) ({ cls := "LifeboatHouse", name := "call", desc := "(III)I" } : MethodName)) ∈ gtbl := List.mem_filter.mpr ⟨List.mem_append_right _ (List.mem_append_right _ (List.mem_append_left _ (List.mem_of_getElem? (l := tables_1_2) (i := 234) rfl))), rfl⟩
set_option maxRecDepth 8000 in
theorem zw_475 : (Cond.instanceMethod ({ cls := "LifeboatHouse", name := "call", desc := "(III)I" } : MethodName)) ∈ gtbl := List.mem_filter.mpr ⟨List.mem_append_right _ (List.mem_append_right _ (List.mem_append_left _ (List.mem_of_getElem? (l := tables_1_2) (i := 235) rfl))), rfl⟩
set_option maxRecDepth 8000 in
theorem zw_476 : (Cond.selects "LifeboatHouse" ({ cls := "LifeboatHouse", name := "call", desc := "(III)I" } : MethodName) ({ cls := "LifeboatHouse", name := "call", desc := "(III)I" } : MethodName)) ∈ gtbl := List.mem_filter.mpr ⟨List.mem_append_right _ (List.mem_append_right _ (List.mem_append_left _ (List.mem_of_getElem? (l := tables_1_2) (i := 236) rfl))), rfl⟩
set_option maxRecDepth 8000 in
theorem zw_477 : (Cond.code ({ cls := "LifeboatHouse", name := "call", desc := "(III)I" } : MethodName) prog_1_method_19_code (4 : Nat) (Option.some FieldType.int)) ∈ gtbl := List.mem_filter.mpr ⟨List.mem_append_right _ (List.mem_append_right _ (List.mem_append_left _ (List.mem_of_getElem? (l := tables_1_2) (i := 237) rfl))), rfl⟩
set_option maxRecDepth 8000 in
theorem zw_478 : (Cond.classLink "LifeboatHouse" (180 : Nat) "LifeboatHouse$Call") ∈ gtbl := List.mem_filter.mpr ⟨List.mem_append_right _ (List.mem_append_right _ (List.mem_append_left _ (List.mem_of_getElem? (l := tables_1_2) (i := 238) rfl))), rfl⟩
set_option maxRecDepth 8000 in
theorem zw_479 : (Cond.instantiable "LifeboatHouse$Call" (3 : Nat)) ∈ gtbl := List.mem_filter.mpr ⟨List.mem_append_right _ (List.mem_append_right _ (List.mem_append_left _ (List.mem_of_getElem? (l := tables_1_2) (i := 239) rfl))), rfl⟩
set_option maxRecDepth 8000 in
theorem zw_480 : (Cond.methodLink "LifeboatHouse" (182 : Nat) ({ cls := "LifeboatHouse$Call", name := "<init>", desc := "(III)V" } : MethodName)) ∈ gtbl := List.mem_filter.mpr ⟨List.mem_append_right _ (List.mem_append_right _ (List.mem_append_right _ (List.mem_append_left _ (List.mem_of_getElem? (l := tables_1_3) (i := 0) rfl)))), rfl⟩
set_option maxRecDepth 8000 in
theorem zw_481 : (Cond.instanceMethod ({ cls := "LifeboatHouse$Call", name := "<init>", desc := "(III)V" } : MethodName)) ∈ gtbl := List.mem_filter.mpr ⟨List.mem_append_right _ (List.mem_append_right _ (List.mem_append_right _ (List.mem_append_left _ (List.mem_of_getElem? (l := tables_1_3) (i := 1) rfl)))), rfl⟩
set_option maxRecDepth 8000 in
theorem zw_482 : (Cond.code ({ cls := "LifeboatHouse$Call", name := "<init>", desc := "(III)V" } : MethodName) prog_3_method_1_code (4 : Nat) (Option.none : Option FieldType)) ∈ gtbl := List.mem_filter.mpr ⟨List.mem_append_right _ (List.mem_append_right _ (List.mem_append_right _ (List.mem_append_left _ (List.mem_of_getElem? (l := tables_1_3) (i := 2) rfl)))), rfl⟩
set_option maxRecDepth 8000 in
theorem zw_483 : (Cond.methodLink "LifeboatHouse$Call" (1 : Nat) ({ cls := "java/lang/Object", name := "<init>", desc := "()V" } : MethodName)) ∈ gtbl := List.mem_filter.mpr ⟨List.mem_append_right _ (List.mem_append_right _ (List.mem_append_right _ (List.mem_append_left _ (List.mem_of_getElem? (l := tables_1_3) (i := 3) rfl)))), rfl⟩
set_option maxRecDepth 8000 in
theorem zw_484 : (Cond.fieldLink "LifeboatHouse$Call" (7 : Nat) "LifeboatHouse$Call" "miles" "I") ∈ gtbl := List.mem_filter.mpr ⟨List.mem_append_right _ (List.mem_append_right _ (List.mem_append_right _ (List.mem_append_left _ (List.mem_of_getElem? (l := tables_1_3) (i := 4) rfl)))), rfl⟩
set_option maxRecDepth 8000 in
theorem zw_485 : (Cond.fieldLink "LifeboatHouse" (237 : Nat) "LifeboatHouse$Call" "miles" "I") ∈ gtbl := List.mem_filter.mpr ⟨List.mem_append_right _ (List.mem_append_right _ (List.mem_append_right _ (List.mem_append_left _ (List.mem_of_getElem? (l := tables_1_3) (i := 5) rfl)))), rfl⟩
set_option maxRecDepth 8000 in
theorem zw_486 : (Cond.fieldLink "LifeboatHouse$Call" (13 : Nat) "LifeboatHouse$Call" "out" "I") ∈ gtbl := List.mem_filter.mpr ⟨List.mem_append_right _ (List.mem_append_right _ (List.mem_append_right _ (List.mem_append_left _ (List.mem_of_getElem? (l := tables_1_3) (i := 6) rfl)))), rfl⟩
set_option maxRecDepth 8000 in
theorem zw_487 : (Cond.fieldLink "LifeboatHouse" (242 : Nat) "LifeboatHouse$Call" "out" "I") ∈ gtbl := List.mem_filter.mpr ⟨List.mem_append_right _ (List.mem_append_right _ (List.mem_append_right _ (List.mem_append_left _ (List.mem_of_getElem? (l := tables_1_3) (i := 7) rfl)))), rfl⟩
set_option maxRecDepth 8000 in
theorem zw_488 : (Cond.fieldLink "LifeboatHouse$Call" (16 : Nat) "LifeboatHouse$Call" "sea" "I") ∈ gtbl := List.mem_filter.mpr ⟨List.mem_append_right _ (List.mem_append_right _ (List.mem_append_right _ (List.mem_append_left _ (List.mem_of_getElem? (l := tables_1_3) (i := 8) rfl)))), rfl⟩
set_option maxRecDepth 8000 in
theorem zw_489 : (Cond.fieldLink "LifeboatHouse" (212 : Nat) "LifeboatHouse$Call" "sea" "I") ∈ gtbl := List.mem_filter.mpr ⟨List.mem_append_right _ (List.mem_append_right _ (List.mem_append_right _ (List.mem_append_left _ (List.mem_of_getElem? (l := tables_1_3) (i := 9) rfl)))), rfl⟩
set_option maxRecDepth 8000 in
theorem zw_490 : (Cond.laysFinal "LifeboatHouse$Call" "LifeboatHouse$Call" "miles" "I") ∈ gtbl := List.mem_filter.mpr ⟨List.mem_append_right _ (List.mem_append_right _ (List.mem_append_right _ (List.mem_append_left _ (List.mem_of_getElem? (l := tables_1_3) (i := 10) rfl)))), rfl⟩
set_option maxRecDepth 8000 in
theorem zw_491 : (Cond.soleField "LifeboatHouse$Call" "miles") ∈ gtbl := List.mem_filter.mpr ⟨List.mem_append_right _ (List.mem_append_right _ (List.mem_append_right _ (List.mem_append_left _ (List.mem_of_getElem? (l := tables_1_3) (i := 11) rfl)))), rfl⟩
set_option maxRecDepth 8000 in
theorem zw_492 : (Cond.laysFinal "LifeboatHouse$Call" "LifeboatHouse$Call" "out" "I") ∈ gtbl := List.mem_filter.mpr ⟨List.mem_append_right _ (List.mem_append_right _ (List.mem_append_right _ (List.mem_append_left _ (List.mem_of_getElem? (l := tables_1_3) (i := 12) rfl)))), rfl⟩
set_option maxRecDepth 8000 in
theorem zw_493 : (Cond.soleField "LifeboatHouse$Call" "out") ∈ gtbl := List.mem_filter.mpr ⟨List.mem_append_right _ (List.mem_append_right _ (List.mem_append_right _ (List.mem_append_left _ (List.mem_of_getElem? (l := tables_1_3) (i := 13) rfl)))), rfl⟩
set_option maxRecDepth 8000 in
theorem zw_494 : (Cond.laysFinal "LifeboatHouse$Call" "LifeboatHouse$Call" "sea" "I") ∈ gtbl := List.mem_filter.mpr ⟨List.mem_append_right _ (List.mem_append_right _ (List.mem_append_right _ (List.mem_append_left _ (List.mem_of_getElem? (l := tables_1_3) (i := 14) rfl)))), rfl⟩
set_option maxRecDepth 8000 in
theorem zw_495 : (Cond.soleField "LifeboatHouse$Call" "sea") ∈ gtbl := List.mem_filter.mpr ⟨List.mem_append_right _ (List.mem_append_right _ (List.mem_append_right _ (List.mem_append_left _ (List.mem_of_getElem? (l := tables_1_3) (i := 15) rfl)))), rfl⟩
set_option maxRecDepth 8000 in
theorem zw_496 : (Cond.superclass "LifeboatHouse$Call" "java/lang/Object") ∈ gtbl := List.mem_filter.mpr ⟨List.mem_append_right _ (List.mem_append_right _ (List.mem_append_right _ (List.mem_append_left _ (List.mem_of_getElem? (l := tables_1_3) (i := 16) rfl)))), rfl⟩
set_option maxRecDepth 8000 in
theorem zw_497 : (Cond.methodLink "LifeboatHouseLaw" (77 : Nat) ({ cls := "LifeboatHouse", name := "reach", desc := "(III)I" } : MethodName)) ∈ gtbl := List.mem_filter.mpr ⟨List.mem_append_right _ (List.mem_append_right _ (List.mem_append_right _ (List.mem_append_left _ (List.mem_of_getElem? (l := tables_1_3) (i := 17) rfl)))), rfl⟩
set_option maxRecDepth 8000 in
theorem zw_498 : (Cond.instanceMethod ({ cls := "LifeboatHouse", name := "reach", desc := "(III)I" } : MethodName)) ∈ gtbl := List.mem_filter.mpr ⟨List.mem_append_right _ (List.mem_append_right _ (List.mem_append_right _ (List.mem_append_left _ (List.mem_of_getElem? (l := tables_1_3) (i := 18) rfl)))), rfl⟩
set_option maxRecDepth 8000 in
theorem zw_499 : (Cond.selects "LifeboatHouse" ({ cls := "LifeboatHouse", name := "reach", desc := "(III)I" } : MethodName) ({ cls := "LifeboatHouse", name := "reach", desc := "(III)I" } : MethodName)) ∈ gtbl := List.mem_filter.mpr ⟨List.mem_append_right _ (List.mem_append_right _ (List.mem_append_right _ (List.mem_append_left _ (List.mem_of_getElem? (l := tables_1_3) (i := 19) rfl)))), rfl⟩
set_option maxRecDepth 8000 in
theorem zw_500 : (Cond.code ({ cls := "LifeboatHouse", name := "reach", desc := "(III)I" } : MethodName) prog_1_method_20_code (6 : Nat) (Option.some FieldType.int)) ∈ gtbl := List.mem_filter.mpr ⟨List.mem_append_right _ (List.mem_append_right _ (List.mem_append_right _ (List.mem_append_left _ (List.mem_of_getElem? (l := tables_1_3) (i := 20) rfl)))), rfl⟩
set_option maxRecDepth 8000 in
theorem zw_501 : (Cond.methodLink "LifeboatHouse" (183 : Nat) ({ cls := "LifeboatHouse", name := "callAt", desc := "(I)LLifeboatHouse$Call;" } : MethodName)) ∈ gtbl := List.mem_filter.mpr ⟨List.mem_append_right _ (List.mem_append_right _ (List.mem_append_right _ (List.mem_append_left _ (List.mem_of_getElem? (l := tables_1_3) (i := 21) rfl)))), rfl⟩
set_option maxRecDepth 8000 in
theorem zw_502 : (Cond.privateMethod ({ cls := "LifeboatHouse", name := "callAt", desc := "(I)LLifeboatHouse$Call;" } : MethodName)) ∈ lw_tbl := List.mem_append_right _ (List.mem_append_right _ (List.mem_append_right _ (List.mem_append_left _ (List.mem_of_getElem? (l := tables_1_3) (i := 22) rfl))))
set_option maxRecDepth 8000 in
theorem zw_503 : (Cond.instanceMethod ({ cls := "LifeboatHouse", name := "callAt", desc := "(I)LLifeboatHouse$Call;" } : MethodName)) ∈ gtbl := List.mem_filter.mpr ⟨List.mem_append_right _ (List.mem_append_right _ (List.mem_append_right _ (List.mem_append_left _ (List.mem_of_getElem? (l := tables_1_3) (i := 23) rfl)))), rfl⟩
set_option maxRecDepth 8000 in
theorem zw_504 : (Cond.code ({ cls := "LifeboatHouse", name := "callAt", desc := "(I)LLifeboatHouse$Call;" } : MethodName) prog_1_method_55_code (2 : Nat) (Option.some (FieldType.object "LifeboatHouse$Call"))) ∈ gtbl := List.mem_filter.mpr ⟨List.mem_append_right _ (List.mem_append_right _ (List.mem_append_right _ (List.mem_append_left _ (List.mem_of_getElem? (l := tables_1_3) (i := 24) rfl)))), rfl⟩
set_option maxRecDepth 8000 in
theorem zw_505 : (Cond.methodLink "LifeboatHouse" (187 : Nat) ({ cls := "LifeboatHouse", name := "canGo", desc := "(LLifeboatHouse$Boat;LLifeboatHouse$Call;)Z" } : MethodName)) ∈ gtbl := List.mem_filter.mpr ⟨List.mem_append_right _ (List.mem_append_right _ (List.mem_append_right _ (List.mem_append_left _ (List.mem_of_getElem? (l := tables_1_3) (i := 25) rfl)))), rfl⟩
set_option maxRecDepth 8000 in
theorem zw_506 : (Cond.privateMethod ({ cls := "LifeboatHouse", name := "canGo", desc := "(LLifeboatHouse$Boat;LLifeboatHouse$Call;)Z" } : MethodName)) ∈ lw_tbl := List.mem_append_right _ (List.mem_append_right _ (List.mem_append_right _ (List.mem_append_left _ (List.mem_of_getElem? (l := tables_1_3) (i := 26) rfl))))
set_option maxRecDepth 8000 in
theorem zw_507 : (Cond.instanceMethod ({ cls := "LifeboatHouse", name := "canGo", desc := "(LLifeboatHouse$Boat;LLifeboatHouse$Call;)Z" } : MethodName)) ∈ gtbl := List.mem_filter.mpr ⟨List.mem_append_right _ (List.mem_append_right _ (List.mem_append_right _ (List.mem_append_left _ (List.mem_of_getElem? (l := tables_1_3) (i := 27) rfl)))), rfl⟩
set_option maxRecDepth 8000 in
theorem zw_508 : (Cond.code ({ cls := "LifeboatHouse", name := "canGo", desc := "(LLifeboatHouse$Boat;LLifeboatHouse$Call;)Z" } : MethodName) prog_1_method_26_code (4 : Nat) (Option.some FieldType.boolean)) ∈ gtbl := List.mem_filter.mpr ⟨List.mem_append_right _ (List.mem_append_right _ (List.mem_append_right _ (List.mem_append_left _ (List.mem_of_getElem? (l := tables_1_3) (i := 28) rfl)))), rfl⟩
set_option maxRecDepth 8000 in
theorem zw_509 : (Cond.methodLink "LifeboatHouse" (220 : Nat) ({ cls := "LifeboatHouse", name := "wayOf", desc := "(LLifeboatHouse$Boat;LLifeboatHouse$Call;)I" } : MethodName)) ∈ gtbl := List.mem_filter.mpr ⟨List.mem_append_right _ (List.mem_append_right _ (List.mem_append_right _ (List.mem_append_left _ (List.mem_of_getElem? (l := tables_1_3) (i := 29) rfl)))), rfl⟩
set_option maxRecDepth 8000 in
theorem zw_510 : (Cond.privateMethod ({ cls := "LifeboatHouse", name := "wayOf", desc := "(LLifeboatHouse$Boat;LLifeboatHouse$Call;)I" } : MethodName)) ∈ lw_tbl := List.mem_append_right _ (List.mem_append_right _ (List.mem_append_right _ (List.mem_append_left _ (List.mem_of_getElem? (l := tables_1_3) (i := 30) rfl))))
set_option maxRecDepth 8000 in
theorem zw_511 : (Cond.instanceMethod ({ cls := "LifeboatHouse", name := "wayOf", desc := "(LLifeboatHouse$Boat;LLifeboatHouse$Call;)I" } : MethodName)) ∈ gtbl := List.mem_filter.mpr ⟨List.mem_append_right _ (List.mem_append_right _ (List.mem_append_right _ (List.mem_append_left _ (List.mem_of_getElem? (l := tables_1_3) (i := 31) rfl)))), rfl⟩
set_option maxRecDepth 8000 in
theorem zw_512 : (Cond.code ({ cls := "LifeboatHouse", name := "wayOf", desc := "(LLifeboatHouse$Boat;LLifeboatHouse$Call;)I" } : MethodName) prog_1_method_25_code (3 : Nat) (Option.some FieldType.int)) ∈ gtbl := List.mem_filter.mpr ⟨List.mem_append_right _ (List.mem_append_right _ (List.mem_append_right _ (List.mem_append_left _ (List.mem_of_getElem? (l := tables_1_3) (i := 32) rfl)))), rfl⟩
set_option maxRecDepth 8000 in
theorem zw_513 : (Cond.methodLink "LifeboatHouse" (239 : Nat) ({ cls := "java/lang/Math", name := "abs", desc := "(I)I" } : MethodName)) ∈ gtbl := List.mem_filter.mpr ⟨List.mem_append_right _ (List.mem_append_right _ (List.mem_append_right _ (List.mem_append_left _ (List.mem_of_getElem? (l := tables_1_3) (i := 33) rfl)))), rfl⟩
set_option maxRecDepth 8000 in
theorem zw_514 : (Cond.static ({ cls := "java/lang/Math", name := "abs", desc := "(I)I" } : MethodName)) ∈ gtbl := List.mem_filter.mpr ⟨List.mem_append_right _ (List.mem_append_right _ (List.mem_append_right _ (List.mem_append_left _ (List.mem_of_getElem? (l := tables_1_3) (i := 34) rfl)))), rfl⟩
set_option maxRecDepth 8000 in
theorem zw_515 : (Cond.code ({ cls := "java/lang/Math", name := "abs", desc := "(I)I" } : MethodName) prog_16_method_59_code (1 : Nat) (Option.some FieldType.int)) ∈ gtbl := List.mem_filter.mpr ⟨List.mem_append_right _ (List.mem_append_right _ (List.mem_append_right _ (List.mem_append_left _ (List.mem_of_getElem? (l := tables_1_3) (i := 35) rfl)))), rfl⟩
set_option maxRecDepth 8000 in
theorem zw_516 : (Cond.methodLink "LifeboatHouse" (223 : Nat) ({ cls := "LifeboatHouse", name := "cutUp", desc := "(II)I" } : MethodName)) ∈ gtbl := List.mem_filter.mpr ⟨List.mem_append_right _ (List.mem_append_right _ (List.mem_append_right _ (List.mem_append_left _ (List.mem_of_getElem? (l := tables_1_3) (i := 36) rfl)))), rfl⟩
set_option maxRecDepth 8000 in
theorem zw_517 : (Cond.static ({ cls := "LifeboatHouse", name := "cutUp", desc := "(II)I" } : MethodName)) ∈ gtbl := List.mem_filter.mpr ⟨List.mem_append_right _ (List.mem_append_right _ (List.mem_append_right _ (List.mem_append_left _ (List.mem_of_getElem? (l := tables_1_3) (i := 37) rfl)))), rfl⟩
set_option maxRecDepth 8000 in
theorem zw_518 : (Cond.code ({ cls := "LifeboatHouse", name := "cutUp", desc := "(II)I" } : MethodName) prog_1_method_56_code (2 : Nat) (Option.some FieldType.int)) ∈ gtbl := List.mem_filter.mpr ⟨List.mem_append_right _ (List.mem_append_right _ (List.mem_append_right _ (List.mem_append_left _ (List.mem_of_getElem? (l := tables_1_3) (i := 38) rfl)))), rfl⟩
set_option maxRecDepth 8000 in
theorem zw_519 : (Cond.methodLink "LifeboatHouse" (191 : Nat) ({ cls := "LifeboatHouse", name := "launchMinute", desc := "(LLifeboatHouse$Boat;)I" } : MethodName)) ∈ gtbl := List.mem_filter.mpr ⟨List.mem_append_right _ (List.mem_append_right _ (List.mem_append_right _ (List.mem_append_left _ (List.mem_of_getElem? (l := tables_1_3) (i := 39) rfl)))), rfl⟩
set_option maxRecDepth 8000 in
theorem zw_520 : (Cond.privateMethod ({ cls := "LifeboatHouse", name := "launchMinute", desc := "(LLifeboatHouse$Boat;)I" } : MethodName)) ∈ lw_tbl := List.mem_append_right _ (List.mem_append_right _ (List.mem_append_right _ (List.mem_append_left _ (List.mem_of_getElem? (l := tables_1_3) (i := 40) rfl))))
set_option maxRecDepth 8000 in
theorem zw_521 : (Cond.instanceMethod ({ cls := "LifeboatHouse", name := "launchMinute", desc := "(LLifeboatHouse$Boat;)I" } : MethodName)) ∈ gtbl := List.mem_filter.mpr ⟨List.mem_append_right _ (List.mem_append_right _ (List.mem_append_right _ (List.mem_append_left _ (List.mem_of_getElem? (l := tables_1_3) (i := 41) rfl)))), rfl⟩
set_option maxRecDepth 8000 in
theorem zw_522 : (Cond.code ({ cls := "LifeboatHouse", name := "launchMinute", desc := "(LLifeboatHouse$Boat;)I" } : MethodName) prog_1_method_27_code (5 : Nat) (Option.some FieldType.int)) ∈ gtbl := List.mem_filter.mpr ⟨List.mem_append_right _ (List.mem_append_right _ (List.mem_append_right _ (List.mem_append_left _ (List.mem_of_getElem? (l := tables_1_3) (i := 42) rfl)))), rfl⟩
set_option maxRecDepth 8000 in
theorem zw_523 : (Cond.methodLink "LifeboatHouse" (215 : Nat) ({ cls := "java/lang/Math", name := "max", desc := "(II)I" } : MethodName)) ∈ gtbl := List.mem_filter.mpr ⟨List.mem_append_right _ (List.mem_append_right _ (List.mem_append_right _ (List.mem_append_left _ (List.mem_of_getElem? (l := tables_1_3) (i := 43) rfl)))), rfl⟩
set_option maxRecDepth 8000 in
theorem zw_524 : (Cond.methodLink "LifeboatHouse" (195 : Nat) ({ cls := "LifeboatHouse", name := "reachedMinute", desc := "(LLifeboatHouse$Boat;LLifeboatHouse$Call;)I" } : MethodName)) ∈ gtbl := List.mem_filter.mpr ⟨List.mem_append_right _ (List.mem_append_right _ (List.mem_append_right _ (List.mem_append_left _ (List.mem_of_getElem? (l := tables_1_3) (i := 44) rfl)))), rfl⟩
set_option maxRecDepth 8000 in
theorem zw_525 : (Cond.privateMethod ({ cls := "LifeboatHouse", name := "reachedMinute", desc := "(LLifeboatHouse$Boat;LLifeboatHouse$Call;)I" } : MethodName)) ∈ lw_tbl := List.mem_append_right _ (List.mem_append_right _ (List.mem_append_right _ (List.mem_append_left _ (List.mem_of_getElem? (l := tables_1_3) (i := 45) rfl))))
set_option maxRecDepth 8000 in
theorem zw_526 : (Cond.instanceMethod ({ cls := "LifeboatHouse", name := "reachedMinute", desc := "(LLifeboatHouse$Boat;LLifeboatHouse$Call;)I" } : MethodName)) ∈ gtbl := List.mem_filter.mpr ⟨List.mem_append_right _ (List.mem_append_right _ (List.mem_append_right _ (List.mem_append_left _ (List.mem_of_getElem? (l := tables_1_3) (i := 46) rfl)))), rfl⟩
set_option maxRecDepth 8000 in
theorem zw_527 : (Cond.code ({ cls := "LifeboatHouse", name := "reachedMinute", desc := "(LLifeboatHouse$Boat;LLifeboatHouse$Call;)I" } : MethodName) prog_1_method_28_code (4 : Nat) (Option.some FieldType.int)) ∈ gtbl := List.mem_filter.mpr ⟨List.mem_append_right _ (List.mem_append_right _ (List.mem_append_right _ (List.mem_append_left _ (List.mem_of_getElem? (l := tables_1_3) (i := 47) rfl)))), rfl⟩
set_option maxRecDepth 8000 in
theorem zw_528 : (Cond.methodLink "LifeboatHouseLaw" (81 : Nat) ({ cls := "LifeboatHouse", name := "first", desc := "(I)I" } : MethodName)) ∈ gtbl := List.mem_filter.mpr ⟨List.mem_append_right _ (List.mem_append_right _ (List.mem_append_right _ (List.mem_append_left _ (List.mem_of_getElem? (l := tables_1_3) (i := 48) rfl)))), rfl⟩
set_option maxRecDepth 8000 in
theorem zw_529 : (Cond.instanceMethod ({ cls := "LifeboatHouse", name := "first", desc := "(I)I" } : MethodName)) ∈ gtbl := List.mem_filter.mpr ⟨List.mem_append_right _ (List.mem_append_right _ (List.mem_append_right _ (List.mem_append_left _ (List.mem_of_getElem? (l := tables_1_3) (i := 49) rfl)))), rfl⟩
set_option maxRecDepth 8000 in
theorem zw_530 : (Cond.selects "LifeboatHouse" ({ cls := "LifeboatHouse", name := "first", desc := "(I)I" } : MethodName) ({ cls := "LifeboatHouse", name := "first", desc := "(I)I" } : MethodName)) ∈ gtbl := List.mem_filter.mpr ⟨List.mem_append_right _ (List.mem_append_right _ (List.mem_append_right _ (List.mem_append_left _ (List.mem_of_getElem? (l := tables_1_3) (i := 50) rfl)))), rfl⟩
set_option maxRecDepth 8000 in
theorem zw_531 : (Cond.code ({ cls := "LifeboatHouse", name := "first", desc := "(I)I" } : MethodName) prog_1_method_21_code (7 : Nat) (Option.some FieldType.int)) ∈ gtbl := List.mem_filter.mpr ⟨List.mem_append_right _ (List.mem_append_right _ (List.mem_append_right _ (List.mem_append_left _ (List.mem_of_getElem? (l := tables_1_3) (i := 51) rfl)))), rfl⟩
set_option maxRecDepth 8000 in
theorem zw_532 : (Cond.methodLink "LifeboatHouseLaw" (85 : Nat) ({ cls := "LifeboatHouse", name := "two", desc := "(III)I" } : MethodName)) ∈ gtbl := List.mem_filter.mpr ⟨List.mem_append_right _ (List.mem_append_right _ (List.mem_append_right _ (List.mem_append_left _ (List.mem_of_getElem? (l := tables_1_3) (i := 52) rfl)))), rfl⟩
set_option maxRecDepth 8000 in
theorem zw_533 : (Cond.instanceMethod ({ cls := "LifeboatHouse", name := "two", desc := "(III)I" } : MethodName)) ∈ gtbl := List.mem_filter.mpr ⟨List.mem_append_right _ (List.mem_append_right _ (List.mem_append_right _ (List.mem_append_left _ (List.mem_of_getElem? (l := tables_1_3) (i := 53) rfl)))), rfl⟩
set_option maxRecDepth 8000 in
theorem zw_534 : (Cond.selects "LifeboatHouse" ({ cls := "LifeboatHouse", name := "two", desc := "(III)I" } : MethodName) ({ cls := "LifeboatHouse", name := "two", desc := "(III)I" } : MethodName)) ∈ gtbl := List.mem_filter.mpr ⟨List.mem_append_right _ (List.mem_append_right _ (List.mem_append_right _ (List.mem_append_left _ (List.mem_of_getElem? (l := tables_1_3) (i := 54) rfl)))), rfl⟩
set_option maxRecDepth 8000 in
theorem zw_535 : (Cond.code ({ cls := "LifeboatHouse", name := "two", desc := "(III)I" } : MethodName) prog_1_method_22_code (6 : Nat) (Option.some FieldType.int)) ∈ gtbl := List.mem_filter.mpr ⟨List.mem_append_right _ (List.mem_append_right _ (List.mem_append_right _ (List.mem_append_left _ (List.mem_of_getElem? (l := tables_1_3) (i := 55) rfl)))), rfl⟩
set_option maxRecDepth 8000 in
theorem zw_536 : (Cond.methodLink "LifeboatHouse" (199 : Nat) ({ cls := "LifeboatHouse", name := "pairBoats", desc := "(LLifeboatHouse$Call;LLifeboatHouse$Call;)V" } : MethodName)) ∈ gtbl := List.mem_filter.mpr ⟨List.mem_append_right _ (List.mem_append_right _ (List.mem_append_right _ (List.mem_append_left _ (List.mem_of_getElem? (l := tables_1_3) (i := 56) rfl)))), rfl⟩
set_option maxRecDepth 8000 in
theorem zw_537 : (Cond.privateMethod ({ cls := "LifeboatHouse", name := "pairBoats", desc := "(LLifeboatHouse$Call;LLifeboatHouse$Call;)V" } : MethodName)) ∈ lw_tbl := List.mem_append_right _ (List.mem_append_right _ (List.mem_append_right _ (List.mem_append_left _ (List.mem_of_getElem? (l := tables_1_3) (i := 57) rfl))))
set_option maxRecDepth 8000 in
theorem zw_538 : (Cond.instanceMethod ({ cls := "LifeboatHouse", name := "pairBoats", desc := "(LLifeboatHouse$Call;LLifeboatHouse$Call;)V" } : MethodName)) ∈ gtbl := List.mem_filter.mpr ⟨List.mem_append_right _ (List.mem_append_right _ (List.mem_append_right _ (List.mem_append_left _ (List.mem_of_getElem? (l := tables_1_3) (i := 58) rfl)))), rfl⟩
set_option maxRecDepth 8000 in
theorem zw_539 : (Cond.code ({ cls := "LifeboatHouse", name := "pairBoats", desc := "(LLifeboatHouse$Call;LLifeboatHouse$Call;)V" } : MethodName) prog_1_method_29_code (7 : Nat) (Option.none : Option FieldType)) ∈ gtbl := List.mem_filter.mpr ⟨List.mem_append_right _ (List.mem_append_right _ (List.mem_append_right _ (List.mem_append_left _ (List.mem_of_getElem? (l := tables_1_3) (i := 59) rfl)))), rfl⟩
set_option maxRecDepth 8000 in
theorem zw_540 : (Cond.methodLink "LifeboatHouse" (248 : Nat) ({ cls := "LifeboatHouse$Pair", name := "clear", desc := "()V" } : MethodName)) ∈ gtbl := List.mem_filter.mpr ⟨List.mem_append_right _ (List.mem_append_right _ (List.mem_append_right _ (List.mem_append_left _ (List.mem_of_getElem? (l := tables_1_3) (i := 60) rfl)))), rfl⟩
set_option maxRecDepth 8000 in
theorem zw_541 : (Cond.instanceMethod ({ cls := "LifeboatHouse$Pair", name := "clear", desc := "()V" } : MethodName)) ∈ gtbl := List.mem_filter.mpr ⟨List.mem_append_right _ (List.mem_append_right _ (List.mem_append_right _ (List.mem_append_left _ (List.mem_of_getElem? (l := tables_1_3) (i := 61) rfl)))), rfl⟩
set_option maxRecDepth 8000 in
theorem zw_542 : (Cond.selects "LifeboatHouse$Pair" ({ cls := "LifeboatHouse$Pair", name := "clear", desc := "()V" } : MethodName) ({ cls := "LifeboatHouse$Pair", name := "clear", desc := "()V" } : MethodName)) ∈ gtbl := List.mem_filter.mpr ⟨List.mem_append_right _ (List.mem_append_right _ (List.mem_append_right _ (List.mem_append_left _ (List.mem_of_getElem? (l := tables_1_3) (i := 62) rfl)))), rfl⟩
set_option maxRecDepth 8000 in
theorem zw_543 : (Cond.code ({ cls := "LifeboatHouse$Pair", name := "clear", desc := "()V" } : MethodName) prog_7_method_2_code (1 : Nat) (Option.none : Option FieldType)) ∈ gtbl := List.mem_filter.mpr ⟨List.mem_append_right _ (List.mem_append_right _ (List.mem_append_right _ (List.mem_append_left _ (List.mem_of_getElem? (l := tables_1_3) (i := 63) rfl)))), rfl⟩
set_option maxRecDepth 8000 in
theorem zw_544 : (Cond.methodLink "LifeboatHouse" (249 : Nat) ({ cls := "LifeboatHouse$Pair", name := "offer", desc := "(IIII)V" } : MethodName)) ∈ gtbl := List.mem_filter.mpr ⟨List.mem_append_right _ (List.mem_append_right _ (List.mem_append_right _ (List.mem_append_left _ (List.mem_of_getElem? (l := tables_1_3) (i := 64) rfl)))), rfl⟩
set_option maxRecDepth 8000 in
theorem zw_545 : (Cond.instanceMethod ({ cls := "LifeboatHouse$Pair", name := "offer", desc := "(IIII)V" } : MethodName)) ∈ gtbl := List.mem_filter.mpr ⟨List.mem_append_right _ (List.mem_append_right _ (List.mem_append_right _ (List.mem_append_left _ (List.mem_of_getElem? (l := tables_1_3) (i := 65) rfl)))), rfl⟩
set_option maxRecDepth 8000 in
theorem zw_546 : (Cond.selects "LifeboatHouse$Pair" ({ cls := "LifeboatHouse$Pair", name := "offer", desc := "(IIII)V" } : MethodName) ({ cls := "LifeboatHouse$Pair", name := "offer", desc := "(IIII)V" } : MethodName)) ∈ gtbl := List.mem_filter.mpr ⟨List.mem_append_right _ (List.mem_append_right _ (List.mem_append_right _ (List.mem_append_left _ (List.mem_of_getElem? (l := tables_1_3) (i := 66) rfl)))), rfl⟩
set_option maxRecDepth 8000 in
theorem zw_547 : (Cond.code ({ cls := "LifeboatHouse$Pair", name := "offer", desc := "(IIII)V" } : MethodName) prog_7_method_3_code (8 : Nat) (Option.none : Option FieldType)) ∈ gtbl := List.mem_filter.mpr ⟨List.mem_append_right _ (List.mem_append_right _ (List.mem_append_right _ (List.mem_append_left _ (List.mem_of_getElem? (l := tables_1_3) (i := 67) rfl)))), rfl⟩
set_option maxRecDepth 8000 in
theorem zw_548 : (Cond.methodLink "LifeboatHouse$Pair" (24 : Nat) ({ cls := "java/lang/Math", name := "max", desc := "(II)I" } : MethodName)) ∈ gtbl := List.mem_filter.mpr ⟨List.mem_append_right _ (List.mem_append_right _ (List.mem_append_right _ (List.mem_append_left _ (List.mem_of_getElem? (l := tables_1_3) (i := 68) rfl)))), rfl⟩
set_option maxRecDepth 8000 in
theorem zw_549 : (Cond.methodLink "LifeboatHouseLaw" (89 : Nat) ({ cls := "LifeboatHouse", name := "send", desc := "(IIIZ)I" } : MethodName)) ∈ gtbl := List.mem_filter.mpr ⟨List.mem_append_right _ (List.mem_append_right _ (List.mem_append_right _ (List.mem_append_left _ (List.mem_of_getElem? (l := tables_1_3) (i := 69) rfl)))), rfl⟩
set_option maxRecDepth 8000 in
theorem zw_550 : (Cond.instanceMethod ({ cls := "LifeboatHouse", name := "send", desc := "(IIIZ)I" } : MethodName)) ∈ gtbl := List.mem_filter.mpr ⟨List.mem_append_right _ (List.mem_append_right _ (List.mem_append_right _ (List.mem_append_left _ (List.mem_of_getElem? (l := tables_1_3) (i := 70) rfl)))), rfl⟩
set_option maxRecDepth 8000 in
theorem zw_551 : (Cond.selects "LifeboatHouse" ({ cls := "LifeboatHouse", name := "send", desc := "(IIIZ)I" } : MethodName) ({ cls := "LifeboatHouse", name := "send", desc := "(IIIZ)I" } : MethodName)) ∈ gtbl := List.mem_filter.mpr ⟨List.mem_append_right _ (List.mem_append_right _ (List.mem_append_right _ (List.mem_append_left _ (List.mem_of_getElem? (l := tables_1_3) (i := 71) rfl)))), rfl⟩
set_option maxRecDepth 8000 in
theorem zw_552 : (Cond.code ({ cls := "LifeboatHouse", name := "send", desc := "(IIIZ)I" } : MethodName) prog_1_method_23_code (10 : Nat) (Option.some FieldType.int)) ∈ gtbl := List.mem_filter.mpr ⟨List.mem_append_right _ (List.mem_append_right _ (List.mem_append_right _ (List.mem_append_left _ (List.mem_of_getElem? (l := tables_1_3) (i := 72) rfl)))), rfl⟩
set_option maxRecDepth 8000 in
theorem zw_553 : (Cond.classLink "LifeboatHouse" (226 : Nat) "LifeboatHouse$Launch") ∈ gtbl := List.mem_filter.mpr ⟨List.mem_append_right _ (List.mem_append_right _ (List.mem_append_right _ (List.mem_append_left _ (List.mem_of_getElem? (l := tables_1_3) (i := 73) rfl)))), rfl⟩
set_option maxRecDepth 8000 in
theorem zw_554 : (Cond.instantiable "LifeboatHouse$Launch" (5 : Nat)) ∈ gtbl := List.mem_filter.mpr ⟨List.mem_append_right _ (List.mem_append_right _ (List.mem_append_right _ (List.mem_append_left _ (List.mem_of_getElem? (l := tables_1_3) (i := 74) rfl)))), rfl⟩
set_option maxRecDepth 8000 in
theorem zw_555 : (Cond.methodLink "LifeboatHouse" (228 : Nat) ({ cls := "LifeboatHouse$Launch", name := "<init>", desc := "(IIIII)V" } : MethodName)) ∈ gtbl := List.mem_filter.mpr ⟨List.mem_append_right _ (List.mem_append_right _ (List.mem_append_right _ (List.mem_append_left _ (List.mem_of_getElem? (l := tables_1_3) (i := 75) rfl)))), rfl⟩
set_option maxRecDepth 8000 in
theorem zw_556 : (Cond.instanceMethod ({ cls := "LifeboatHouse$Launch", name := "<init>", desc := "(IIIII)V" } : MethodName)) ∈ gtbl := List.mem_filter.mpr ⟨List.mem_append_right _ (List.mem_append_right _ (List.mem_append_right _ (List.mem_append_left _ (List.mem_of_getElem? (l := tables_1_3) (i := 76) rfl)))), rfl⟩
set_option maxRecDepth 8000 in
theorem zw_557 : (Cond.code ({ cls := "LifeboatHouse$Launch", name := "<init>", desc := "(IIIII)V" } : MethodName) prog_6_method_1_code (6 : Nat) (Option.none : Option FieldType)) ∈ gtbl := List.mem_filter.mpr ⟨List.mem_append_right _ (List.mem_append_right _ (List.mem_append_right _ (List.mem_append_left _ (List.mem_of_getElem? (l := tables_1_3) (i := 77) rfl)))), rfl⟩
set_option maxRecDepth 8000 in
theorem zw_558 : (Cond.methodLink "LifeboatHouse$Launch" (1 : Nat) ({ cls := "java/lang/Object", name := "<init>", desc := "()V" } : MethodName)) ∈ gtbl := List.mem_filter.mpr ⟨List.mem_append_right _ (List.mem_append_right _ (List.mem_append_right _ (List.mem_append_left _ (List.mem_of_getElem? (l := tables_1_3) (i := 78) rfl)))), rfl⟩
set_option maxRecDepth 8000 in
theorem zw_559 : (Cond.fieldLink "LifeboatHouse$Launch" (7 : Nat) "LifeboatHouse$Launch" "boat" "I") ∈ gtbl := List.mem_filter.mpr ⟨List.mem_append_right _ (List.mem_append_right _ (List.mem_append_right _ (List.mem_append_left _ (List.mem_of_getElem? (l := tables_1_3) (i := 79) rfl)))), rfl⟩
set_option maxRecDepth 8000 in
theorem zw_560 : (Cond.fieldLink "LifeboatHouse$Launch" (13 : Nat) "LifeboatHouse$Launch" "call" "I") ∈ gtbl := List.mem_filter.mpr ⟨List.mem_append_right _ (List.mem_append_right _ (List.mem_append_right _ (List.mem_append_left _ (List.mem_of_getElem? (l := tables_1_3) (i := 80) rfl)))), rfl⟩
set_option maxRecDepth 8000 in
theorem zw_561 : (Cond.fieldLink "LifeboatHouse$Launch" (16 : Nat) "LifeboatHouse$Launch" "launched" "I") ∈ gtbl := List.mem_filter.mpr ⟨List.mem_append_right _ (List.mem_append_right _ (List.mem_append_right _ (List.mem_append_left _ (List.mem_of_getElem? (l := tables_1_3) (i := 81) rfl)))), rfl⟩
set_option maxRecDepth 8000 in
theorem zw_562 : (Cond.fieldLink "LifeboatHouse$Launch" (19 : Nat) "LifeboatHouse$Launch" "reached" "I") ∈ gtbl := List.mem_filter.mpr ⟨List.mem_append_right _ (List.mem_append_right _ (List.mem_append_right _ (List.mem_append_left _ (List.mem_of_getElem? (l := tables_1_3) (i := 82) rfl)))), rfl⟩
set_option maxRecDepth 8000 in
theorem zw_563 : (Cond.fieldLink "LifeboatHouse$Launch" (22 : Nat) "LifeboatHouse$Launch" "home" "I") ∈ gtbl := List.mem_filter.mpr ⟨List.mem_append_right _ (List.mem_append_right _ (List.mem_append_right _ (List.mem_append_left _ (List.mem_of_getElem? (l := tables_1_3) (i := 83) rfl)))), rfl⟩
set_option maxRecDepth 8000 in
theorem zw_564 : (Cond.laysFinal "LifeboatHouse$Launch" "LifeboatHouse$Launch" "boat" "I") ∈ gtbl := List.mem_filter.mpr ⟨List.mem_append_right _ (List.mem_append_right _ (List.mem_append_right _ (List.mem_append_left _ (List.mem_of_getElem? (l := tables_1_3) (i := 84) rfl)))), rfl⟩
set_option maxRecDepth 8000 in
theorem zw_565 : (Cond.soleField "LifeboatHouse$Launch" "boat") ∈ gtbl := List.mem_filter.mpr ⟨List.mem_append_right _ (List.mem_append_right _ (List.mem_append_right _ (List.mem_append_left _ (List.mem_of_getElem? (l := tables_1_3) (i := 85) rfl)))), rfl⟩
set_option maxRecDepth 8000 in
theorem zw_566 : (Cond.laysFinal "LifeboatHouse$Launch" "LifeboatHouse$Launch" "call" "I") ∈ gtbl := List.mem_filter.mpr ⟨List.mem_append_right _ (List.mem_append_right _ (List.mem_append_right _ (List.mem_append_left _ (List.mem_of_getElem? (l := tables_1_3) (i := 86) rfl)))), rfl⟩
set_option maxRecDepth 8000 in
theorem zw_567 : (Cond.soleField "LifeboatHouse$Launch" "call") ∈ gtbl := List.mem_filter.mpr ⟨List.mem_append_right _ (List.mem_append_right _ (List.mem_append_right _ (List.mem_append_left _ (List.mem_of_getElem? (l := tables_1_3) (i := 87) rfl)))), rfl⟩
set_option maxRecDepth 8000 in
theorem zw_568 : (Cond.laysFinal "LifeboatHouse$Launch" "LifeboatHouse$Launch" "launched" "I") ∈ gtbl := List.mem_filter.mpr ⟨List.mem_append_right _ (List.mem_append_right _ (List.mem_append_right _ (List.mem_append_left _ (List.mem_of_getElem? (l := tables_1_3) (i := 88) rfl)))), rfl⟩
set_option maxRecDepth 8000 in
theorem zw_569 : (Cond.soleField "LifeboatHouse$Launch" "launched") ∈ gtbl := List.mem_filter.mpr ⟨List.mem_append_right _ (List.mem_append_right _ (List.mem_append_right _ (List.mem_append_left _ (List.mem_of_getElem? (l := tables_1_3) (i := 89) rfl)))), rfl⟩
set_option maxRecDepth 8000 in
theorem zw_570 : (Cond.laysFinal "LifeboatHouse$Launch" "LifeboatHouse$Launch" "reached" "I") ∈ gtbl := List.mem_filter.mpr ⟨List.mem_append_right _ (List.mem_append_right _ (List.mem_append_right _ (List.mem_append_left _ (List.mem_of_getElem? (l := tables_1_3) (i := 90) rfl)))), rfl⟩
set_option maxRecDepth 8000 in
theorem zw_571 : (Cond.soleField "LifeboatHouse$Launch" "reached") ∈ gtbl := List.mem_filter.mpr ⟨List.mem_append_right _ (List.mem_append_right _ (List.mem_append_right _ (List.mem_append_left _ (List.mem_of_getElem? (l := tables_1_3) (i := 91) rfl)))), rfl⟩
set_option maxRecDepth 8000 in
theorem zw_572 : (Cond.laysFinal "LifeboatHouse$Launch" "LifeboatHouse$Launch" "home" "I") ∈ gtbl := List.mem_filter.mpr ⟨List.mem_append_right _ (List.mem_append_right _ (List.mem_append_right _ (List.mem_append_left _ (List.mem_of_getElem? (l := tables_1_3) (i := 92) rfl)))), rfl⟩
set_option maxRecDepth 8000 in
theorem zw_573 : (Cond.soleField "LifeboatHouse$Launch" "home") ∈ gtbl := List.mem_filter.mpr ⟨List.mem_append_right _ (List.mem_append_right _ (List.mem_append_right _ (List.mem_append_left _ (List.mem_of_getElem? (l := tables_1_3) (i := 93) rfl)))), rfl⟩
set_option maxRecDepth 8000 in
theorem zw_574 : (Cond.superclass "LifeboatHouse$Launch" "java/lang/Object") ∈ gtbl := List.mem_filter.mpr ⟨List.mem_append_right _ (List.mem_append_right _ (List.mem_append_right _ (List.mem_append_left _ (List.mem_of_getElem? (l := tables_1_3) (i := 94) rfl)))), rfl⟩
set_option maxRecDepth 8000 in
theorem zw_575 : (Cond.methodLink "LifeboatHouseLaw" (94 : Nat) ({ cls := "LifeboatHouse", name := "log", desc := "(II)I" } : MethodName)) ∈ gtbl := List.mem_filter.mpr ⟨List.mem_append_right _ (List.mem_append_right _ (List.mem_append_right _ (List.mem_append_left _ (List.mem_of_getElem? (l := tables_1_3) (i := 95) rfl)))), rfl⟩
set_option maxRecDepth 8000 in
theorem zw_576 : (Cond.instanceMethod ({ cls := "LifeboatHouse", name := "log", desc := "(II)I" } : MethodName)) ∈ gtbl := List.mem_filter.mpr ⟨List.mem_append_right _ (List.mem_append_right _ (List.mem_append_right _ (List.mem_append_left _ (List.mem_of_getElem? (l := tables_1_3) (i := 96) rfl)))), rfl⟩
set_option maxRecDepth 8000 in
theorem zw_577 : (Cond.selects "LifeboatHouse" ({ cls := "LifeboatHouse", name := "log", desc := "(II)I" } : MethodName) ({ cls := "LifeboatHouse", name := "log", desc := "(II)I" } : MethodName)) ∈ gtbl := List.mem_filter.mpr ⟨List.mem_append_right _ (List.mem_append_right _ (List.mem_append_right _ (List.mem_append_left _ (List.mem_of_getElem? (l := tables_1_3) (i := 97) rfl)))), rfl⟩
set_option maxRecDepth 8000 in
theorem zw_578 : (Cond.code ({ cls := "LifeboatHouse", name := "log", desc := "(II)I" } : MethodName) prog_1_method_24_code (3 : Nat) (Option.some FieldType.int)) ∈ gtbl := List.mem_filter.mpr ⟨List.mem_append_right _ (List.mem_append_right _ (List.mem_append_right _ (List.mem_append_left _ (List.mem_of_getElem? (l := tables_1_3) (i := 98) rfl)))), rfl⟩
set_option maxRecDepth 8000 in
theorem zw_579 : (Cond.methodLink "LifeboatHouse" (234 : Nat) ({ cls := "LifeboatHouse$Launch", name := "told", desc := "(I)I" } : MethodName)) ∈ gtbl := List.mem_filter.mpr ⟨List.mem_append_right _ (List.mem_append_right _ (List.mem_append_right _ (List.mem_append_left _ (List.mem_of_getElem? (l := tables_1_3) (i := 99) rfl)))), rfl⟩
set_option maxRecDepth 8000 in
theorem zw_580 : (Cond.instanceMethod ({ cls := "LifeboatHouse$Launch", name := "told", desc := "(I)I" } : MethodName)) ∈ gtbl := List.mem_filter.mpr ⟨List.mem_append_right _ (List.mem_append_right _ (List.mem_append_right _ (List.mem_append_left _ (List.mem_of_getElem? (l := tables_1_3) (i := 100) rfl)))), rfl⟩
set_option maxRecDepth 8000 in
theorem zw_581 : (Cond.selects "LifeboatHouse$Launch" ({ cls := "LifeboatHouse$Launch", name := "told", desc := "(I)I" } : MethodName) ({ cls := "LifeboatHouse$Launch", name := "told", desc := "(I)I" } : MethodName)) ∈ gtbl := List.mem_filter.mpr ⟨List.mem_append_right _ (List.mem_append_right _ (List.mem_append_right _ (List.mem_append_left _ (List.mem_of_getElem? (l := tables_1_3) (i := 101) rfl)))), rfl⟩
set_option maxRecDepth 8000 in
theorem zw_582 : (Cond.code ({ cls := "LifeboatHouse$Launch", name := "told", desc := "(I)I" } : MethodName) prog_6_method_2_code (2 : Nat) (Option.some FieldType.int)) ∈ gtbl := List.mem_filter.mpr ⟨List.mem_append_right _ (List.mem_append_right _ (List.mem_append_right _ (List.mem_append_left _ (List.mem_of_getElem? (l := tables_1_3) (i := 102) rfl)))), rfl⟩
set_option maxRecDepth 8000 in
theorem zw_583 : (Cond.methodLink "LifeboatHouseLaw" (98 : Nat) ({ cls := "LifeboatHouse", name := "covered", desc := "(I)I" } : MethodName)) ∈ gtbl := List.mem_filter.mpr ⟨List.mem_append_right _ (List.mem_append_right _ (List.mem_append_right _ (List.mem_append_left _ (List.mem_of_getElem? (l := tables_1_3) (i := 103) rfl)))), rfl⟩
set_option maxRecDepth 8000 in
theorem zw_584 : (Cond.instanceMethod ({ cls := "LifeboatHouse", name := "covered", desc := "(I)I" } : MethodName)) ∈ gtbl := List.mem_filter.mpr ⟨List.mem_append_right _ (List.mem_append_right _ (List.mem_append_right _ (List.mem_append_left _ (List.mem_of_getElem? (l := tables_1_3) (i := 104) rfl)))), rfl⟩
set_option maxRecDepth 8000 in
theorem zw_585 : (Cond.selects "LifeboatHouse" ({ cls := "LifeboatHouse", name := "covered", desc := "(I)I" } : MethodName) ({ cls := "LifeboatHouse", name := "covered", desc := "(I)I" } : MethodName)) ∈ gtbl := List.mem_filter.mpr ⟨List.mem_append_right _ (List.mem_append_right _ (List.mem_append_right _ (List.mem_append_left _ (List.mem_of_getElem? (l := tables_1_3) (i := 105) rfl)))), rfl⟩
set_option maxRecDepth 8000 in
theorem zw_586 : (Cond.code ({ cls := "LifeboatHouse", name := "covered", desc := "(I)I" } : MethodName) prog_1_method_30_code (2 : Nat) (Option.some FieldType.int)) ∈ gtbl := List.mem_filter.mpr ⟨List.mem_append_right _ (List.mem_append_right _ (List.mem_append_right _ (List.mem_append_left _ (List.mem_of_getElem? (l := tables_1_3) (i := 106) rfl)))), rfl⟩
set_option maxRecDepth 8000 in
theorem zw_587 : (Cond.methodLink "LifeboatHouse" (253 : Nat) ({ cls := "LifeboatHouse", name := "boatsReadyAt", desc := "(I)I" } : MethodName)) ∈ gtbl := List.mem_filter.mpr ⟨List.mem_append_right _ (List.mem_append_right _ (List.mem_append_right _ (List.mem_append_left _ (List.mem_of_getElem? (l := tables_1_3) (i := 107) rfl)))), rfl⟩
set_option maxRecDepth 8000 in
theorem zw_588 : (Cond.privateMethod ({ cls := "LifeboatHouse", name := "boatsReadyAt", desc := "(I)I" } : MethodName)) ∈ lw_tbl := List.mem_append_right _ (List.mem_append_right _ (List.mem_append_right _ (List.mem_append_left _ (List.mem_of_getElem? (l := tables_1_3) (i := 108) rfl))))
set_option maxRecDepth 8000 in
theorem zw_589 : (Cond.instanceMethod ({ cls := "LifeboatHouse", name := "boatsReadyAt", desc := "(I)I" } : MethodName)) ∈ gtbl := List.mem_filter.mpr ⟨List.mem_append_right _ (List.mem_append_right _ (List.mem_append_right _ (List.mem_append_left _ (List.mem_of_getElem? (l := tables_1_3) (i := 109) rfl)))), rfl⟩
set_option maxRecDepth 8000 in
theorem zw_590 : (Cond.code ({ cls := "LifeboatHouse", name := "boatsReadyAt", desc := "(I)I" } : MethodName) prog_1_method_34_code (5 : Nat) (Option.some FieldType.int)) ∈ gtbl := List.mem_filter.mpr ⟨List.mem_append_right _ (List.mem_append_right _ (List.mem_append_right _ (List.mem_append_left _ (List.mem_of_getElem? (l := tables_1_3) (i := 110) rfl)))), rfl⟩
set_option maxRecDepth 8000 in
theorem zw_591 : (Cond.methodLink "LifeboatHouseLaw" (102 : Nat) ({ cls := "LifeboatHouse", name := "flanks", desc := "(I)I" } : MethodName)) ∈ gtbl := List.mem_filter.mpr ⟨List.mem_append_right _ (List.mem_append_right _ (List.mem_append_right _ (List.mem_append_left _ (List.mem_of_getElem? (l := tables_1_3) (i := 111) rfl)))), rfl⟩
set_option maxRecDepth 8000 in
theorem zw_592 : (Cond.instanceMethod ({ cls := "LifeboatHouse", name := "flanks", desc := "(I)I" } : MethodName)) ∈ gtbl := List.mem_filter.mpr ⟨List.mem_append_right _ (List.mem_append_right _ (List.mem_append_right _ (List.mem_append_left _ (List.mem_of_getElem? (l := tables_1_3) (i := 112) rfl)))), rfl⟩
set_option maxRecDepth 8000 in
theorem zw_593 : (Cond.selects "LifeboatHouse" ({ cls := "LifeboatHouse", name := "flanks", desc := "(I)I" } : MethodName) ({ cls := "LifeboatHouse", name := "flanks", desc := "(I)I" } : MethodName)) ∈ gtbl := List.mem_filter.mpr ⟨List.mem_append_right _ (List.mem_append_right _ (List.mem_append_right _ (List.mem_append_left _ (List.mem_of_getElem? (l := tables_1_3) (i := 113) rfl)))), rfl⟩
set_option maxRecDepth 8000 in
theorem zw_594 : (Cond.code ({ cls := "LifeboatHouse", name := "flanks", desc := "(I)I" } : MethodName) prog_1_method_31_code (2 : Nat) (Option.some FieldType.int)) ∈ gtbl := List.mem_filter.mpr ⟨List.mem_append_right _ (List.mem_append_right _ (List.mem_append_right _ (List.mem_append_left _ (List.mem_of_getElem? (l := tables_1_3) (i := 114) rfl)))), rfl⟩
set_option maxRecDepth 8000 in
theorem zw_595 : (Cond.methodLink "LifeboatHouse" (256 : Nat) ({ cls := "LifeboatHouse", name := "planFlanks", desc := "()V" } : MethodName)) ∈ gtbl := List.mem_filter.mpr ⟨List.mem_append_right _ (List.mem_append_right _ (List.mem_append_right _ (List.mem_append_left _ (List.mem_of_getElem? (l := tables_1_3) (i := 115) rfl)))), rfl⟩
set_option maxRecDepth 8000 in
theorem zw_596 : (Cond.privateMethod ({ cls := "LifeboatHouse", name := "planFlanks", desc := "()V" } : MethodName)) ∈ lw_tbl := List.mem_append_right _ (List.mem_append_right _ (List.mem_append_right _ (List.mem_append_left _ (List.mem_of_getElem? (l := tables_1_3) (i := 116) rfl))))
set_option maxRecDepth 8000 in
theorem zw_597 : (Cond.instanceMethod ({ cls := "LifeboatHouse", name := "planFlanks", desc := "()V" } : MethodName)) ∈ gtbl := List.mem_filter.mpr ⟨List.mem_append_right _ (List.mem_append_right _ (List.mem_append_right _ (List.mem_append_left _ (List.mem_of_getElem? (l := tables_1_3) (i := 117) rfl)))), rfl⟩
set_option maxRecDepth 8000 in
theorem zw_598 : (Cond.code ({ cls := "LifeboatHouse", name := "planFlanks", desc := "()V" } : MethodName) prog_1_method_33_code (2 : Nat) (Option.none : Option FieldType)) ∈ gtbl := List.mem_filter.mpr ⟨List.mem_append_right _ (List.mem_append_right _ (List.mem_append_right _ (List.mem_append_left _ (List.mem_of_getElem? (l := tables_1_3) (i := 118) rfl)))), rfl⟩
set_option maxRecDepth 8000 in
theorem zw_599 : (Cond.methodLink "LifeboatHouse" (268 : Nat) ({ cls := "LifeboatHouse$FlankPlan", name := "tellReady", desc := "(III)V" } : MethodName)) ∈ gtbl := List.mem_filter.mpr ⟨List.mem_append_right _ (List.mem_append_right _ (List.mem_append_right _ (List.mem_append_left _ (List.mem_of_getElem? (l := tables_1_3) (i := 119) rfl)))), rfl⟩
set_option maxRecDepth 8000 in
theorem zw_600 : (Cond.instanceMethod ({ cls := "LifeboatHouse$FlankPlan", name := "tellReady", desc := "(III)V" } : MethodName)) ∈ gtbl := List.mem_filter.mpr ⟨List.mem_append_right _ (List.mem_append_right _ (List.mem_append_right _ (List.mem_append_left _ (List.mem_of_getElem? (l := tables_1_3) (i := 120) rfl)))), rfl⟩
set_option maxRecDepth 8000 in
theorem zw_601 : (Cond.selects "LifeboatHouse$FlankPlan" ({ cls := "LifeboatHouse$FlankPlan", name := "tellReady", desc := "(III)V" } : MethodName) ({ cls := "LifeboatHouse$FlankPlan", name := "tellReady", desc := "(III)V" } : MethodName)) ∈ gtbl := List.mem_filter.mpr ⟨List.mem_append_right _ (List.mem_append_right _ (List.mem_append_right _ (List.mem_append_left _ (List.mem_of_getElem? (l := tables_1_3) (i := 121) rfl)))), rfl⟩
set_option maxRecDepth 8000 in
theorem zw_602 : (Cond.code ({ cls := "LifeboatHouse$FlankPlan", name := "tellReady", desc := "(III)V" } : MethodName) prog_5_method_2_code (4 : Nat) (Option.none : Option FieldType)) ∈ gtbl := List.mem_filter.mpr ⟨List.mem_append_right _ (List.mem_append_right _ (List.mem_append_right _ (List.mem_append_left _ (List.mem_of_getElem? (l := tables_1_3) (i := 122) rfl)))), rfl⟩
set_option maxRecDepth 8000 in
theorem zw_603 : (Cond.methodLink "LifeboatHouse$FlankPlan" (35 : Nat) ({ cls := "java/lang/Math", name := "max", desc := "(II)I" } : MethodName)) ∈ gtbl := List.mem_filter.mpr ⟨List.mem_append_right _ (List.mem_append_right _ (List.mem_append_right _ (List.mem_append_left _ (List.mem_of_getElem? (l := tables_1_3) (i := 123) rfl)))), rfl⟩
set_option maxRecDepth 8000 in
theorem zw_604 : (Cond.methodLink "LifeboatHouse" (271 : Nat) ({ cls := "LifeboatHouse$FlankPlan", name := "find", desc := "()V" } : MethodName)) ∈ gtbl := List.mem_filter.mpr ⟨List.mem_append_right _ (List.mem_append_right _ (List.mem_append_right _ (List.mem_append_left _ (List.mem_of_getElem? (l := tables_1_3) (i := 124) rfl)))), rfl⟩
set_option maxRecDepth 8000 in
theorem zw_605 : (Cond.instanceMethod ({ cls := "LifeboatHouse$FlankPlan", name := "find", desc := "()V" } : MethodName)) ∈ gtbl := List.mem_filter.mpr ⟨List.mem_append_right _ (List.mem_append_right _ (List.mem_append_right _ (List.mem_append_left _ (List.mem_of_getElem? (l := tables_1_3) (i := 125) rfl)))), rfl⟩
set_option maxRecDepth 8000 in
theorem zw_606 : (Cond.selects "LifeboatHouse$FlankPlan" ({ cls := "LifeboatHouse$FlankPlan", name := "find", desc := "()V" } : MethodName) ({ cls := "LifeboatHouse$FlankPlan", name := "find", desc := "()V" } : MethodName)) ∈ gtbl := List.mem_filter.mpr ⟨List.mem_append_right _ (List.mem_append_right _ (List.mem_append_right _ (List.mem_append_left _ (List.mem_of_getElem? (l := tables_1_3) (i := 126) rfl)))), rfl⟩
set_option maxRecDepth 8000 in
theorem zw_607 : (Cond.code ({ cls := "LifeboatHouse$FlankPlan", name := "find", desc := "()V" } : MethodName) prog_5_method_3_code (1 : Nat) (Option.none : Option FieldType)) ∈ gtbl := List.mem_filter.mpr ⟨List.mem_append_right _ (List.mem_append_right _ (List.mem_append_right _ (List.mem_append_left _ (List.mem_of_getElem? (l := tables_1_3) (i := 127) rfl)))), rfl⟩
set_option maxRecDepth 8000 in
theorem zw_608 : (Cond.methodLink "LifeboatHouse$FlankPlan" (41 : Nat) ({ cls := "LifeboatHouse$FlankPlan", name := "tryFrom", desc := "(III)V" } : MethodName)) ∈ gtbl := List.mem_filter.mpr ⟨List.mem_append_right _ (List.mem_append_right _ (List.mem_append_right _ (List.mem_append_left _ (List.mem_of_getElem? (l := tables_1_3) (i := 128) rfl)))), rfl⟩
set_option maxRecDepth 8000 in
theorem zw_609 : (Cond.privateMethod ({ cls := "LifeboatHouse$FlankPlan", name := "tryFrom", desc := "(III)V" } : MethodName)) ∈ lw_tbl := List.mem_append_right _ (List.mem_append_right _ (List.mem_append_right _ (List.mem_append_left _ (List.mem_of_getElem? (l := tables_1_3) (i := 129) rfl))))
set_option maxRecDepth 8000 in
theorem zw_610 : (Cond.instanceMethod ({ cls := "LifeboatHouse$FlankPlan", name := "tryFrom", desc := "(III)V" } : MethodName)) ∈ gtbl := List.mem_filter.mpr ⟨List.mem_append_right _ (List.mem_append_right _ (List.mem_append_right _ (List.mem_append_left _ (List.mem_of_getElem? (l := tables_1_3) (i := 130) rfl)))), rfl⟩
set_option maxRecDepth 8000 in
theorem zw_611 : (Cond.code ({ cls := "LifeboatHouse$FlankPlan", name := "tryFrom", desc := "(III)V" } : MethodName) prog_5_method_4_code (6 : Nat) (Option.none : Option FieldType)) ∈ gtbl := List.mem_filter.mpr ⟨List.mem_append_right _ (List.mem_append_right _ (List.mem_append_right _ (List.mem_append_left _ (List.mem_of_getElem? (l := tables_1_3) (i := 131) rfl)))), rfl⟩
set_option maxRecDepth 8000 in
theorem zw_612 : (Cond.methodLink "LifeboatHouse$FlankPlan" (45 : Nat) ({ cls := "LifeboatHouse$FlankPlan", name := "keepIfBetter", desc := "(II)V" } : MethodName)) ∈ gtbl := List.mem_filter.mpr ⟨List.mem_append_right _ (List.mem_append_right _ (List.mem_append_right _ (List.mem_append_left _ (List.mem_of_getElem? (l := tables_1_3) (i := 132) rfl)))), rfl⟩
set_option maxRecDepth 8000 in
theorem zw_613 : (Cond.privateMethod ({ cls := "LifeboatHouse$FlankPlan", name := "keepIfBetter", desc := "(II)V" } : MethodName)) ∈ lw_tbl := List.mem_append_right _ (List.mem_append_right _ (List.mem_append_right _ (List.mem_append_left _ (List.mem_of_getElem? (l := tables_1_3) (i := 133) rfl))))
set_option maxRecDepth 8000 in
theorem zw_614 : (Cond.instanceMethod ({ cls := "LifeboatHouse$FlankPlan", name := "keepIfBetter", desc := "(II)V" } : MethodName)) ∈ gtbl := List.mem_filter.mpr ⟨List.mem_append_right _ (List.mem_append_right _ (List.mem_append_right _ (List.mem_append_left _ (List.mem_of_getElem? (l := tables_1_3) (i := 134) rfl)))), rfl⟩
set_option maxRecDepth 8000 in
theorem zw_615 : (Cond.code ({ cls := "LifeboatHouse$FlankPlan", name := "keepIfBetter", desc := "(II)V" } : MethodName) prog_5_method_5_code (3 : Nat) (Option.none : Option FieldType)) ∈ gtbl := List.mem_filter.mpr ⟨List.mem_append_right _ (List.mem_append_right _ (List.mem_append_right _ (List.mem_append_left _ (List.mem_of_getElem? (l := tables_1_3) (i := 135) rfl)))), rfl⟩
set_option maxRecDepth 8000 in
theorem zw_616 : (Cond.methodLink "LifeboatHouse$FlankPlan" (53 : Nat) ({ cls := "java/lang/System", name := "arraycopy", desc := "(Ljava/lang/Object;ILjava/lang/Object;II)V" } : MethodName)) ∈ gtbl := List.mem_filter.mpr ⟨List.mem_append_right _ (List.mem_append_right _ (List.mem_append_right _ (List.mem_append_left _ (List.mem_of_getElem? (l := tables_1_3) (i := 136) rfl)))), rfl⟩
set_option maxRecDepth 8000 in
theorem zw_617 : (Cond.methodLink "LifeboatHouse$FlankPlan" (49 : Nat) ({ cls := "java/lang/Math", name := "abs", desc := "(I)I" } : MethodName)) ∈ gtbl := List.mem_filter.mpr ⟨List.mem_append_right _ (List.mem_append_right _ (List.mem_append_right _ (List.mem_append_left _ (List.mem_of_getElem? (l := tables_1_3) (i := 137) rfl)))), rfl⟩
set_option maxRecDepth 8000 in
theorem zw_618 : (Cond.methodLink "LifeboatHouseLaw" (106 : Nat) ({ cls := "LifeboatHouse", name := "flank", desc := "(I)I" } : MethodName)) ∈ gtbl := List.mem_filter.mpr ⟨List.mem_append_right _ (List.mem_append_right _ (List.mem_append_right _ (List.mem_append_left _ (List.mem_of_getElem? (l := tables_1_3) (i := 138) rfl)))), rfl⟩
set_option maxRecDepth 8000 in
theorem zw_619 : (Cond.instanceMethod ({ cls := "LifeboatHouse", name := "flank", desc := "(I)I" } : MethodName)) ∈ gtbl := List.mem_filter.mpr ⟨List.mem_append_right _ (List.mem_append_right _ (List.mem_append_right _ (List.mem_append_left _ (List.mem_of_getElem? (l := tables_1_3) (i := 139) rfl)))), rfl⟩
set_option maxRecDepth 8000 in
theorem zw_620 : (Cond.selects "LifeboatHouse" ({ cls := "LifeboatHouse", name := "flank", desc := "(I)I" } : MethodName) ({ cls := "LifeboatHouse", name := "flank", desc := "(I)I" } : MethodName)) ∈ gtbl := List.mem_filter.mpr ⟨List.mem_append_right _ (List.mem_append_right _ (List.mem_append_right _ (List.mem_append_left _ (List.mem_of_getElem? (l := tables_1_3) (i := 140) rfl)))), rfl⟩
set_option maxRecDepth 8000 in
theorem zw_621 : (Cond.code ({ cls := "LifeboatHouse", name := "flank", desc := "(I)I" } : MethodName) prog_1_method_32_code (2 : Nat) (Option.some FieldType.int)) ∈ gtbl := List.mem_filter.mpr ⟨List.mem_append_right _ (List.mem_append_right _ (List.mem_append_right _ (List.mem_append_left _ (List.mem_of_getElem? (l := tables_1_3) (i := 141) rfl)))), rfl⟩
set_option maxRecDepth 8000 in
theorem zw_622 : (Cond.methodLink "LifeboatHouseLaw" (110 : Nat) ({ cls := "LifeboatHouse", name := "box", desc := "(II)I" } : MethodName)) ∈ gtbl := List.mem_filter.mpr ⟨List.mem_append_right _ (List.mem_append_right _ (List.mem_append_right _ (List.mem_append_left _ (List.mem_of_getElem? (l := tables_1_3) (i := 142) rfl)))), rfl⟩
set_option maxRecDepth 8000 in
theorem zw_623 : (Cond.instanceMethod ({ cls := "LifeboatHouse", name := "box", desc := "(II)I" } : MethodName)) ∈ gtbl := List.mem_filter.mpr ⟨List.mem_append_right _ (List.mem_append_right _ (List.mem_append_right _ (List.mem_append_left _ (List.mem_of_getElem? (l := tables_1_3) (i := 143) rfl)))), rfl⟩
set_option maxRecDepth 8000 in
theorem zw_624 : (Cond.selects "LifeboatHouse" ({ cls := "LifeboatHouse", name := "box", desc := "(II)I" } : MethodName) ({ cls := "LifeboatHouse", name := "box", desc := "(II)I" } : MethodName)) ∈ gtbl := List.mem_filter.mpr ⟨List.mem_append_right _ (List.mem_append_right _ (List.mem_append_right _ (List.mem_append_left _ (List.mem_of_getElem? (l := tables_1_3) (i := 144) rfl)))), rfl⟩
set_option maxRecDepth 8000 in
theorem zw_625 : (Cond.code ({ cls := "LifeboatHouse", name := "box", desc := "(II)I" } : MethodName) prog_1_method_35_code (5 : Nat) (Option.some FieldType.int)) ∈ gtbl := List.mem_filter.mpr ⟨List.mem_append_right _ (List.mem_append_right _ (List.mem_append_right _ (List.mem_append_left _ (List.mem_of_getElem? (l := tables_1_3) (i := 145) rfl)))), rfl⟩
set_option maxRecDepth 8000 in
theorem zw_626 : (Cond.methodLink "LifeboatHouse" (274 : Nat) ({ cls := "LifeboatHouse", name := "isBox", desc := "(I)Z" } : MethodName)) ∈ gtbl := List.mem_filter.mpr ⟨List.mem_append_right _ (List.mem_append_right _ (List.mem_append_right _ (List.mem_append_left _ (List.mem_of_getElem? (l := tables_1_3) (i := 146) rfl)))), rfl⟩
set_option maxRecDepth 8000 in
theorem zw_627 : (Cond.static ({ cls := "LifeboatHouse", name := "isBox", desc := "(I)Z" } : MethodName)) ∈ gtbl := List.mem_filter.mpr ⟨List.mem_append_right _ (List.mem_append_right _ (List.mem_append_right _ (List.mem_append_left _ (List.mem_of_getElem? (l := tables_1_3) (i := 147) rfl)))), rfl⟩
set_option maxRecDepth 8000 in
theorem zw_628 : (Cond.code ({ cls := "LifeboatHouse", name := "isBox", desc := "(I)Z" } : MethodName) prog_1_method_52_code (1 : Nat) (Option.some FieldType.boolean)) ∈ gtbl := List.mem_filter.mpr ⟨List.mem_append_right _ (List.mem_append_right _ (List.mem_append_right _ (List.mem_append_left _ (List.mem_of_getElem? (l := tables_1_3) (i := 148) rfl)))), rfl⟩
set_option maxRecDepth 8000 in
theorem zw_629 : (Cond.methodLink "LifeboatHouseLaw" (114 : Nat) ({ cls := "LifeboatHouse", name := "look", desc := "(II)I" } : MethodName)) ∈ gtbl := List.mem_filter.mpr ⟨List.mem_append_right _ (List.mem_append_right _ (List.mem_append_right _ (List.mem_append_left _ (List.mem_of_getElem? (l := tables_1_3) (i := 149) rfl)))), rfl⟩
set_option maxRecDepth 8000 in
theorem zw_630 : (Cond.instanceMethod ({ cls := "LifeboatHouse", name := "look", desc := "(II)I" } : MethodName)) ∈ gtbl := List.mem_filter.mpr ⟨List.mem_append_right _ (List.mem_append_right _ (List.mem_append_right _ (List.mem_append_left _ (List.mem_of_getElem? (l := tables_1_3) (i := 150) rfl)))), rfl⟩
set_option maxRecDepth 8000 in
theorem zw_631 : (Cond.selects "LifeboatHouse" ({ cls := "LifeboatHouse", name := "look", desc := "(II)I" } : MethodName) ({ cls := "LifeboatHouse", name := "look", desc := "(II)I" } : MethodName)) ∈ gtbl := List.mem_filter.mpr ⟨List.mem_append_right _ (List.mem_append_right _ (List.mem_append_right _ (List.mem_append_left _ (List.mem_of_getElem? (l := tables_1_3) (i := 151) rfl)))), rfl⟩
set_option maxRecDepth 8000 in
theorem zw_632 : (Cond.code ({ cls := "LifeboatHouse", name := "look", desc := "(II)I" } : MethodName) prog_1_method_36_code (4 : Nat) (Option.some FieldType.int)) ∈ gtbl := List.mem_filter.mpr ⟨List.mem_append_right _ (List.mem_append_right _ (List.mem_append_right _ (List.mem_append_left _ (List.mem_of_getElem? (l := tables_1_3) (i := 152) rfl)))), rfl⟩
set_option maxRecDepth 8000 in
theorem zw_633 : (Cond.methodLink "LifeboatHouse" (280 : Nat) ({ cls := "LifeboatHouse$Search", name := "leftOf", desc := "(II)I" } : MethodName)) ∈ gtbl := List.mem_filter.mpr ⟨List.mem_append_right _ (List.mem_append_right _ (List.mem_append_right _ (List.mem_append_left _ (List.mem_of_getElem? (l := tables_1_3) (i := 153) rfl)))), rfl⟩
set_option maxRecDepth 8000 in
theorem zw_634 : (Cond.static ({ cls := "LifeboatHouse$Search", name := "leftOf", desc := "(II)I" } : MethodName)) ∈ gtbl := List.mem_filter.mpr ⟨List.mem_append_right _ (List.mem_append_right _ (List.mem_append_right _ (List.mem_append_left _ (List.mem_of_getElem? (l := tables_1_3) (i := 154) rfl)))), rfl⟩
set_option maxRecDepth 8000 in
theorem zw_635 : (Cond.code ({ cls := "LifeboatHouse$Search", name := "leftOf", desc := "(II)I" } : MethodName) prog_9_method_2_code (2 : Nat) (Option.some FieldType.int)) ∈ gtbl := List.mem_filter.mpr ⟨List.mem_append_right _ (List.mem_append_right _ (List.mem_append_right _ (List.mem_append_left _ (List.mem_of_getElem? (l := tables_1_3) (i := 155) rfl)))), rfl⟩
set_option maxRecDepth 8000 in
theorem zw_636 : (Cond.methodLink "LifeboatHouseLaw" (118 : Nat) ({ cls := "LifeboatHouse", name := "looks", desc := "(II)I" } : MethodName)) ∈ gtbl := List.mem_filter.mpr ⟨List.mem_append_right _ (List.mem_append_right _ (List.mem_append_right _ (List.mem_append_left _ (List.mem_of_getElem? (l := tables_1_3) (i := 156) rfl)))), rfl⟩
set_option maxRecDepth 8000 in
theorem zw_637 : (Cond.instanceMethod ({ cls := "LifeboatHouse", name := "looks", desc := "(II)I" } : MethodName)) ∈ gtbl := List.mem_filter.mpr ⟨List.mem_append_right _ (List.mem_append_right _ (List.mem_append_right _ (List.mem_append_left _ (List.mem_of_getElem? (l := tables_1_3) (i := 157) rfl)))), rfl⟩
set_option maxRecDepth 8000 in
theorem zw_638 : (Cond.selects "LifeboatHouse" ({ cls := "LifeboatHouse", name := "looks", desc := "(II)I" } : MethodName) ({ cls := "LifeboatHouse", name := "looks", desc := "(II)I" } : MethodName)) ∈ gtbl := List.mem_filter.mpr ⟨List.mem_append_right _ (List.mem_append_right _ (List.mem_append_right _ (List.mem_append_left _ (List.mem_of_getElem? (l := tables_1_3) (i := 158) rfl)))), rfl⟩
set_option maxRecDepth 8000 in
theorem zw_639 : (Cond.code ({ cls := "LifeboatHouse", name := "looks", desc := "(II)I" } : MethodName) prog_1_method_37_code (4 : Nat) (Option.some FieldType.int)) ∈ gtbl := List.mem_filter.mpr ⟨List.mem_append_right _ (List.mem_append_right _ (List.mem_append_right _ (List.mem_append_left _ (List.mem_of_getElem? (l := tables_1_3) (i := 159) rfl)))), rfl⟩
set_option maxRecDepth 8000 in
theorem zw_640 : (Cond.methodLink "LifeboatHouse" (283 : Nat) ({ cls := "LifeboatHouse", name := "wrongLooks", desc := "(II)I" } : MethodName)) ∈ gtbl := List.mem_filter.mpr ⟨List.mem_append_right _ (List.mem_append_right _ (List.mem_append_right _ (List.mem_append_left _ (List.mem_of_getElem? (l := tables_1_3) (i := 160) rfl)))), rfl⟩
set_option maxRecDepth 8000 in
theorem zw_641 : (Cond.static ({ cls := "LifeboatHouse", name := "wrongLooks", desc := "(II)I" } : MethodName)) ∈ gtbl := List.mem_filter.mpr ⟨List.mem_append_right _ (List.mem_append_right _ (List.mem_append_right _ (List.mem_append_left _ (List.mem_of_getElem? (l := tables_1_3) (i := 161) rfl)))), rfl⟩
set_option maxRecDepth 8000 in
theorem zw_642 : (Cond.code ({ cls := "LifeboatHouse", name := "wrongLooks", desc := "(II)I" } : MethodName) prog_1_method_39_code (2 : Nat) (Option.some FieldType.int)) ∈ gtbl := List.mem_filter.mpr ⟨List.mem_append_right _ (List.mem_append_right _ (List.mem_append_right _ (List.mem_append_left _ (List.mem_of_getElem? (l := tables_1_3) (i := 162) rfl)))), rfl⟩
set_option maxRecDepth 8000 in
theorem zw_643 : (Cond.methodLink "LifeboatHouse" (286 : Nat) ({ cls := "LifeboatHouse$Search", name := "plan", desc := "(II)V" } : MethodName)) ∈ gtbl := List.mem_filter.mpr ⟨List.mem_append_right _ (List.mem_append_right _ (List.mem_append_right _ (List.mem_append_left _ (List.mem_of_getElem? (l := tables_1_3) (i := 163) rfl)))), rfl⟩
set_option maxRecDepth 8000 in
theorem zw_644 : (Cond.instanceMethod ({ cls := "LifeboatHouse$Search", name := "plan", desc := "(II)V" } : MethodName)) ∈ gtbl := List.mem_filter.mpr ⟨List.mem_append_right _ (List.mem_append_right _ (List.mem_append_right _ (List.mem_append_left _ (List.mem_of_getElem? (l := tables_1_3) (i := 164) rfl)))), rfl⟩
set_option maxRecDepth 8000 in
theorem zw_645 : (Cond.selects "LifeboatHouse$Search" ({ cls := "LifeboatHouse$Search", name := "plan", desc := "(II)V" } : MethodName) ({ cls := "LifeboatHouse$Search", name := "plan", desc := "(II)V" } : MethodName)) ∈ gtbl := List.mem_filter.mpr ⟨List.mem_append_right _ (List.mem_append_right _ (List.mem_append_right _ (List.mem_append_left _ (List.mem_of_getElem? (l := tables_1_3) (i := 165) rfl)))), rfl⟩
set_option maxRecDepth 8000 in
theorem zw_646 : (Cond.code ({ cls := "LifeboatHouse$Search", name := "plan", desc := "(II)V" } : MethodName) prog_9_method_3_code (5 : Nat) (Option.none : Option FieldType)) ∈ gtbl := List.mem_filter.mpr ⟨List.mem_append_right _ (List.mem_append_right _ (List.mem_append_right _ (List.mem_append_left _ (List.mem_of_getElem? (l := tables_1_3) (i := 166) rfl)))), rfl⟩
set_option maxRecDepth 8000 in
theorem zw_647 : (Cond.methodLink "LifeboatHouse$Search" (25 : Nat) ({ cls := "java/lang/System", name := "arraycopy", desc := "(Ljava/lang/Object;ILjava/lang/Object;II)V" } : MethodName)) ∈ gtbl := List.mem_filter.mpr ⟨List.mem_append_right _ (List.mem_append_right _ (List.mem_append_right _ (List.mem_append_left _ (List.mem_of_getElem? (l := tables_1_3) (i := 167) rfl)))), rfl⟩
set_option maxRecDepth 8000 in
theorem zw_648 : (Cond.methodLink "LifeboatHouse$Search" (31 : Nat) ({ cls := "LifeboatHouse$Search", name := "richest", desc := "(I)I" } : MethodName)) ∈ gtbl := List.mem_filter.mpr ⟨List.mem_append_right _ (List.mem_append_right _ (List.mem_append_right _ (List.mem_append_left _ (List.mem_of_getElem? (l := tables_1_3) (i := 168) rfl)))), rfl⟩
set_option maxRecDepth 8000 in
theorem zw_649 : (Cond.privateMethod ({ cls := "LifeboatHouse$Search", name := "richest", desc := "(I)I" } : MethodName)) ∈ lw_tbl := List.mem_append_right _ (List.mem_append_right _ (List.mem_append_right _ (List.mem_append_left _ (List.mem_of_getElem? (l := tables_1_3) (i := 169) rfl))))
set_option maxRecDepth 8000 in
theorem zw_650 : (Cond.instanceMethod ({ cls := "LifeboatHouse$Search", name := "richest", desc := "(I)I" } : MethodName)) ∈ gtbl := List.mem_filter.mpr ⟨List.mem_append_right _ (List.mem_append_right _ (List.mem_append_right _ (List.mem_append_left _ (List.mem_of_getElem? (l := tables_1_3) (i := 170) rfl)))), rfl⟩
set_option maxRecDepth 8000 in
theorem zw_651 : (Cond.code ({ cls := "LifeboatHouse$Search", name := "richest", desc := "(I)I" } : MethodName) prog_9_method_4_code (4 : Nat) (Option.some FieldType.int)) ∈ gtbl := List.mem_filter.mpr ⟨List.mem_append_right _ (List.mem_append_right _ (List.mem_append_right _ (List.mem_append_left _ (List.mem_of_getElem? (l := tables_1_3) (i := 171) rfl)))), rfl⟩
set_option maxRecDepth 8000 in
theorem zw_652 : (Cond.methodLink "LifeboatHouse$Search" (35 : Nat) ({ cls := "LifeboatHouse$Search", name := "foundOf", desc := "(II)I" } : MethodName)) ∈ gtbl := List.mem_filter.mpr ⟨List.mem_append_right _ (List.mem_append_right _ (List.mem_append_right _ (List.mem_append_left _ (List.mem_of_getElem? (l := tables_1_3) (i := 172) rfl)))), rfl⟩
set_option maxRecDepth 8000 in
theorem zw_653 : (Cond.static ({ cls := "LifeboatHouse$Search", name := "foundOf", desc := "(II)I" } : MethodName)) ∈ gtbl := List.mem_filter.mpr ⟨List.mem_append_right _ (List.mem_append_right _ (List.mem_append_right _ (List.mem_append_left _ (List.mem_of_getElem? (l := tables_1_3) (i := 173) rfl)))), rfl⟩
set_option maxRecDepth 8000 in
theorem zw_654 : (Cond.code ({ cls := "LifeboatHouse$Search", name := "foundOf", desc := "(II)I" } : MethodName) prog_9_method_5_code (2 : Nat) (Option.some FieldType.int)) ∈ gtbl := List.mem_filter.mpr ⟨List.mem_append_right _ (List.mem_append_right _ (List.mem_append_right _ (List.mem_append_left _ (List.mem_of_getElem? (l := tables_1_3) (i := 174) rfl)))), rfl⟩
set_option maxRecDepth 8000 in
theorem zw_655 : (Cond.methodLink "LifeboatHouse$Search" (39 : Nat) ({ cls := "LifeboatHouse$Search", name := "leftOf", desc := "(II)I" } : MethodName)) ∈ gtbl := List.mem_filter.mpr ⟨List.mem_append_right _ (List.mem_append_right _ (List.mem_append_right _ (List.mem_append_left _ (List.mem_of_getElem? (l := tables_1_3) (i := 175) rfl)))), rfl⟩
set_option maxRecDepth 8000 in
theorem zw_656 : (Cond.methodLink "LifeboatHouseLaw" (122 : Nat) ({ cls := "LifeboatHouse", name := "lookAt", desc := "(III)I" } : MethodName)) ∈ gtbl := List.mem_filter.mpr ⟨List.mem_append_right _ (List.mem_append_right _ (List.mem_append_right _ (List.mem_append_left _ (List.mem_of_getElem? (l := tables_1_3) (i := 176) rfl)))), rfl⟩
set_option maxRecDepth 8000 in
theorem zw_657 : (Cond.instanceMethod ({ cls := "LifeboatHouse", name := "lookAt", desc := "(III)I" } : MethodName)) ∈ gtbl := List.mem_filter.mpr ⟨List.mem_append_right _ (List.mem_append_right _ (List.mem_append_right _ (List.mem_append_left _ (List.mem_of_getElem? (l := tables_1_3) (i := 177) rfl)))), rfl⟩
set_option maxRecDepth 8000 in
theorem zw_658 : (Cond.selects "LifeboatHouse" ({ cls := "LifeboatHouse", name := "lookAt", desc := "(III)I" } : MethodName) ({ cls := "LifeboatHouse", name := "lookAt", desc := "(III)I" } : MethodName)) ∈ gtbl := List.mem_filter.mpr ⟨List.mem_append_right _ (List.mem_append_right _ (List.mem_append_right _ (List.mem_append_left _ (List.mem_of_getElem? (l := tables_1_3) (i := 178) rfl)))), rfl⟩
set_option maxRecDepth 8000 in
theorem zw_659 : (Cond.code ({ cls := "LifeboatHouse", name := "lookAt", desc := "(III)I" } : MethodName) prog_1_method_38_code (5 : Nat) (Option.some FieldType.int)) ∈ gtbl := List.mem_filter.mpr ⟨List.mem_append_right _ (List.mem_append_right _ (List.mem_append_right _ (List.mem_append_left _ (List.mem_of_getElem? (l := tables_1_3) (i := 179) rfl)))), rfl⟩
set_option maxRecDepth 8000 in
theorem zw_660 : (Cond.methodLink "LifeboatHouseLaw" (126 : Nat) ({ cls := "LifeboatHouse", name := "rest", desc := "(II)I" } : MethodName)) ∈ gtbl := List.mem_filter.mpr ⟨List.mem_append_right _ (List.mem_append_right _ (List.mem_append_right _ (List.mem_append_left _ (List.mem_of_getElem? (l := tables_1_3) (i := 180) rfl)))), rfl⟩
set_option maxRecDepth 8000 in
theorem zw_661 : (Cond.instanceMethod ({ cls := "LifeboatHouse", name := "rest", desc := "(II)I" } : MethodName)) ∈ gtbl := List.mem_filter.mpr ⟨List.mem_append_right _ (List.mem_append_right _ (List.mem_append_right _ (List.mem_append_left _ (List.mem_of_getElem? (l := tables_1_3) (i := 181) rfl)))), rfl⟩
set_option maxRecDepth 8000 in
theorem zw_662 : (Cond.selects "LifeboatHouse" ({ cls := "LifeboatHouse", name := "rest", desc := "(II)I" } : MethodName) ({ cls := "LifeboatHouse", name := "rest", desc := "(II)I" } : MethodName)) ∈ gtbl := List.mem_filter.mpr ⟨List.mem_append_right _ (List.mem_append_right _ (List.mem_append_right _ (List.mem_append_left _ (List.mem_of_getElem? (l := tables_1_3) (i := 182) rfl)))), rfl⟩
set_option maxRecDepth 8000 in
theorem zw_663 : (Cond.code ({ cls := "LifeboatHouse", name := "rest", desc := "(II)I" } : MethodName) prog_1_method_40_code (6 : Nat) (Option.some FieldType.int)) ∈ gtbl := List.mem_filter.mpr ⟨List.mem_append_right _ (List.mem_append_right _ (List.mem_append_right _ (List.mem_append_left _ (List.mem_of_getElem? (l := tables_1_3) (i := 183) rfl)))), rfl⟩
set_option maxRecDepth 8000 in
theorem zw_664 : (Cond.methodLink "LifeboatHouseLaw" (130 : Nat) ({ cls := "LifeboatHouse", name := "turn", desc := "(II)I" } : MethodName)) ∈ gtbl := List.mem_filter.mpr ⟨List.mem_append_right _ (List.mem_append_right _ (List.mem_append_right _ (List.mem_append_left _ (List.mem_of_getElem? (l := tables_1_3) (i := 184) rfl)))), rfl⟩
set_option maxRecDepth 8000 in
theorem zw_665 : (Cond.instanceMethod ({ cls := "LifeboatHouse", name := "turn", desc := "(II)I" } : MethodName)) ∈ gtbl := List.mem_filter.mpr ⟨List.mem_append_right _ (List.mem_append_right _ (List.mem_append_right _ (List.mem_append_left _ (List.mem_of_getElem? (l := tables_1_3) (i := 185) rfl)))), rfl⟩
set_option maxRecDepth 8000 in
theorem zw_666 : (Cond.selects "LifeboatHouse" ({ cls := "LifeboatHouse", name := "turn", desc := "(II)I" } : MethodName) ({ cls := "LifeboatHouse", name := "turn", desc := "(II)I" } : MethodName)) ∈ gtbl := List.mem_filter.mpr ⟨List.mem_append_right _ (List.mem_append_right _ (List.mem_append_right _ (List.mem_append_left _ (List.mem_of_getElem? (l := tables_1_3) (i := 186) rfl)))), rfl⟩
set_option maxRecDepth 8000 in
theorem zw_667 : (Cond.code ({ cls := "LifeboatHouse", name := "turn", desc := "(II)I" } : MethodName) prog_1_method_41_code (4 : Nat) (Option.some FieldType.int)) ∈ gtbl := List.mem_filter.mpr ⟨List.mem_append_right _ (List.mem_append_right _ (List.mem_append_right _ (List.mem_append_left _ (List.mem_of_getElem? (l := tables_1_3) (i := 187) rfl)))), rfl⟩
set_option maxRecDepth 8000 in
theorem zw_668 : (Cond.methodLink "LifeboatHouse" (298 : Nat) ({ cls := "LifeboatHouse", name := "placeInTurn", desc := "(I)I" } : MethodName)) ∈ gtbl := List.mem_filter.mpr ⟨List.mem_append_right _ (List.mem_append_right _ (List.mem_append_right _ (List.mem_append_left _ (List.mem_of_getElem? (l := tables_1_3) (i := 188) rfl)))), rfl⟩
set_option maxRecDepth 8000 in
theorem zw_669 : (Cond.privateMethod ({ cls := "LifeboatHouse", name := "placeInTurn", desc := "(I)I" } : MethodName)) ∈ lw_tbl := List.mem_append_right _ (List.mem_append_right _ (List.mem_append_right _ (List.mem_append_left _ (List.mem_of_getElem? (l := tables_1_3) (i := 189) rfl))))
set_option maxRecDepth 8000 in
theorem zw_670 : (Cond.instanceMethod ({ cls := "LifeboatHouse", name := "placeInTurn", desc := "(I)I" } : MethodName)) ∈ gtbl := List.mem_filter.mpr ⟨List.mem_append_right _ (List.mem_append_right _ (List.mem_append_right _ (List.mem_append_left _ (List.mem_of_getElem? (l := tables_1_3) (i := 190) rfl)))), rfl⟩
set_option maxRecDepth 8000 in
theorem zw_671 : (Cond.code ({ cls := "LifeboatHouse", name := "placeInTurn", desc := "(I)I" } : MethodName) prog_1_method_42_code (6 : Nat) (Option.some FieldType.int)) ∈ gtbl := List.mem_filter.mpr ⟨List.mem_append_right _ (List.mem_append_right _ (List.mem_append_right _ (List.mem_append_left _ (List.mem_of_getElem? (l := tables_1_3) (i := 191) rfl)))), rfl⟩
set_option maxRecDepth 8000 in
theorem zw_672 : (Cond.methodLink "LifeboatHouseLaw" (134 : Nat) ({ cls := "LifeboatHouse", name := "personOf", desc := "(II)I" } : MethodName)) ∈ gtbl := List.mem_filter.mpr ⟨List.mem_append_right _ (List.mem_append_right _ (List.mem_append_right _ (List.mem_append_left _ (List.mem_of_getElem? (l := tables_1_3) (i := 192) rfl)))), rfl⟩
set_option maxRecDepth 8000 in
theorem zw_673 : (Cond.instanceMethod ({ cls := "LifeboatHouse", name := "personOf", desc := "(II)I" } : MethodName)) ∈ gtbl := List.mem_filter.mpr ⟨List.mem_append_right _ (List.mem_append_right _ (List.mem_append_right _ (List.mem_append_left _ (List.mem_of_getElem? (l := tables_1_3) (i := 193) rfl)))), rfl⟩
set_option maxRecDepth 8000 in
theorem zw_674 : (Cond.selects "LifeboatHouse" ({ cls := "LifeboatHouse", name := "personOf", desc := "(II)I" } : MethodName) ({ cls := "LifeboatHouse", name := "personOf", desc := "(II)I" } : MethodName)) ∈ gtbl := List.mem_filter.mpr ⟨List.mem_append_right _ (List.mem_append_right _ (List.mem_append_right _ (List.mem_append_left _ (List.mem_of_getElem? (l := tables_1_3) (i := 194) rfl)))), rfl⟩
set_option maxRecDepth 8000 in
theorem zw_675 : (Cond.code ({ cls := "LifeboatHouse", name := "personOf", desc := "(II)I" } : MethodName) prog_1_method_43_code (4 : Nat) (Option.some FieldType.int)) ∈ gtbl := List.mem_filter.mpr ⟨List.mem_append_right _ (List.mem_append_right _ (List.mem_append_right _ (List.mem_append_left _ (List.mem_of_getElem? (l := tables_1_3) (i := 195) rfl)))), rfl⟩
set_option maxRecDepth 8000 in
theorem zw_676 : (Cond.methodLink "LifeboatHouseLaw" (138 : Nat) ({ cls := "LifeboatHouse", name := "count", desc := "(I)I" } : MethodName)) ∈ gtbl := List.mem_filter.mpr ⟨List.mem_append_right _ (List.mem_append_right _ (List.mem_append_right _ (List.mem_append_left _ (List.mem_of_getElem? (l := tables_1_3) (i := 196) rfl)))), rfl⟩
set_option maxRecDepth 8000 in
theorem zw_677 : (Cond.instanceMethod ({ cls := "LifeboatHouse", name := "count", desc := "(I)I" } : MethodName)) ∈ gtbl := List.mem_filter.mpr ⟨List.mem_append_right _ (List.mem_append_right _ (List.mem_append_right _ (List.mem_append_left _ (List.mem_of_getElem? (l := tables_1_3) (i := 197) rfl)))), rfl⟩
set_option maxRecDepth 8000 in
theorem zw_678 : (Cond.selects "LifeboatHouse" ({ cls := "LifeboatHouse", name := "count", desc := "(I)I" } : MethodName) ({ cls := "LifeboatHouse", name := "count", desc := "(I)I" } : MethodName)) ∈ gtbl := List.mem_filter.mpr ⟨List.mem_append_right _ (List.mem_append_right _ (List.mem_append_right _ (List.mem_append_left _ (List.mem_of_getElem? (l := tables_1_3) (i := 198) rfl)))), rfl⟩
set_option maxRecDepth 8000 in
theorem zw_679 : (Cond.code ({ cls := "LifeboatHouse", name := "count", desc := "(I)I" } : MethodName) prog_1_method_44_code (2 : Nat) (Option.some FieldType.int)) ∈ gtbl := List.mem_filter.mpr ⟨List.mem_append_right _ (List.mem_append_right _ (List.mem_append_right _ (List.mem_append_left _ (List.mem_of_getElem? (l := tables_1_3) (i := 199) rfl)))), rfl⟩
set_option maxRecDepth 8000 in
theorem zw_680 : (Cond.methodLink "LifeboatHouse" (301 : Nat) ({ cls := "LifeboatHouse", name := "boatsAway", desc := "()I" } : MethodName)) ∈ gtbl := List.mem_filter.mpr ⟨List.mem_append_right _ (List.mem_append_right _ (List.mem_append_right _ (List.mem_append_left _ (List.mem_of_getElem? (l := tables_1_3) (i := 200) rfl)))), rfl⟩
set_option maxRecDepth 8000 in
theorem zw_681 : (Cond.privateMethod ({ cls := "LifeboatHouse", name := "boatsAway", desc := "()I" } : MethodName)) ∈ lw_tbl := List.mem_append_right _ (List.mem_append_right _ (List.mem_append_right _ (List.mem_append_left _ (List.mem_of_getElem? (l := tables_1_3) (i := 201) rfl))))
set_option maxRecDepth 8000 in
theorem zw_682 : (Cond.instanceMethod ({ cls := "LifeboatHouse", name := "boatsAway", desc := "()I" } : MethodName)) ∈ gtbl := List.mem_filter.mpr ⟨List.mem_append_right _ (List.mem_append_right _ (List.mem_append_right _ (List.mem_append_left _ (List.mem_of_getElem? (l := tables_1_3) (i := 202) rfl)))), rfl⟩
set_option maxRecDepth 8000 in
theorem zw_683 : (Cond.code ({ cls := "LifeboatHouse", name := "boatsAway", desc := "()I" } : MethodName) prog_1_method_45_code (3 : Nat) (Option.some FieldType.int)) ∈ gtbl := List.mem_filter.mpr ⟨List.mem_append_right _ (List.mem_append_right _ (List.mem_append_right _ (List.mem_append_left _ (List.mem_of_getElem? (l := tables_1_3) (i := 203) rfl)))), rfl⟩
set_option maxRecDepth 8000 in
theorem zw_684 : (Cond.methodLink "LifeboatHouse" (304 : Nat) ({ cls := "LifeboatHouse", name := "stationsCovered", desc := "()I" } : MethodName)) ∈ gtbl := List.mem_filter.mpr ⟨List.mem_append_right _ (List.mem_append_right _ (List.mem_append_right _ (List.mem_append_left _ (List.mem_of_getElem? (l := tables_1_3) (i := 204) rfl)))), rfl⟩
set_option maxRecDepth 8000 in
theorem zw_685 : (Cond.privateMethod ({ cls := "LifeboatHouse", name := "stationsCovered", desc := "()I" } : MethodName)) ∈ lw_tbl := List.mem_append_right _ (List.mem_append_right _ (List.mem_append_right _ (List.mem_append_left _ (List.mem_of_getElem? (l := tables_1_3) (i := 205) rfl))))
set_option maxRecDepth 8000 in
theorem zw_686 : (Cond.instanceMethod ({ cls := "LifeboatHouse", name := "stationsCovered", desc := "()I" } : MethodName)) ∈ gtbl := List.mem_filter.mpr ⟨List.mem_append_right _ (List.mem_append_right _ (List.mem_append_right _ (List.mem_append_left _ (List.mem_of_getElem? (l := tables_1_3) (i := 206) rfl)))), rfl⟩
set_option maxRecDepth 8000 in
theorem zw_687 : (Cond.code ({ cls := "LifeboatHouse", name := "stationsCovered", desc := "()I" } : MethodName) prog_1_method_46_code (3 : Nat) (Option.some FieldType.int)) ∈ gtbl := List.mem_filter.mpr ⟨List.mem_append_right _ (List.mem_append_right _ (List.mem_append_right _ (List.mem_append_left _ (List.mem_of_getElem? (l := tables_1_3) (i := 207) rfl)))), rfl⟩
set_option maxRecDepth 8000 in
theorem zw_688 : (Cond.classLink "LifeboatHouseLaw" (10 : Nat) "LifeboatHouseModel") ∈ gtbl := List.mem_filter.mpr ⟨List.mem_append_right _ (List.mem_append_right _ (List.mem_append_right _ (List.mem_append_left _ (List.mem_of_getElem? (l := tables_1_3) (i := 208) rfl)))), rfl⟩
set_option maxRecDepth 8000 in
theorem zw_689 : (Cond.instantiable "LifeboatHouseModel" (40 : Nat)) ∈ gtbl := List.mem_filter.mpr ⟨List.mem_append_right _ (List.mem_append_right _ (List.mem_append_right _ (List.mem_append_left _ (List.mem_of_getElem? (l := tables_1_3) (i := 209) rfl)))), rfl⟩
set_option maxRecDepth 8000 in
theorem zw_690 : (Cond.methodLink "LifeboatHouseLaw" (12 : Nat) ({ cls := "LifeboatHouseModel", name := "<init>", desc := "()V" } : MethodName)) ∈ gtbl := List.mem_filter.mpr ⟨List.mem_append_right _ (List.mem_append_right _ (List.mem_append_right _ (List.mem_append_left _ (List.mem_of_getElem? (l := tables_1_3) (i := 210) rfl)))), rfl⟩
set_option maxRecDepth 8000 in
theorem zw_691 : (Cond.instanceMethod ({ cls := "LifeboatHouseModel", name := "<init>", desc := "()V" } : MethodName)) ∈ gtbl := List.mem_filter.mpr ⟨List.mem_append_right _ (List.mem_append_right _ (List.mem_append_right _ (List.mem_append_left _ (List.mem_of_getElem? (l := tables_1_3) (i := 211) rfl)))), rfl⟩
set_option maxRecDepth 8000 in
theorem zw_692 : (Cond.code ({ cls := "LifeboatHouseModel", name := "<init>", desc := "()V" } : MethodName) prog_12_method_1_code (2 : Nat) (Option.none : Option FieldType)) ∈ gtbl := List.mem_filter.mpr ⟨List.mem_append_right _ (List.mem_append_right _ (List.mem_append_right _ (List.mem_append_left _ (List.mem_of_getElem? (l := tables_1_3) (i := 212) rfl)))), rfl⟩
set_option maxRecDepth 8000 in
theorem zw_693 : (Cond.methodLink "LifeboatHouseModel" (1 : Nat) ({ cls := "java/lang/Object", name := "<init>", desc := "()V" } : MethodName)) ∈ gtbl := List.mem_filter.mpr ⟨List.mem_append_right _ (List.mem_append_right _ (List.mem_append_right _ (List.mem_append_left _ (List.mem_of_getElem? (l := tables_1_3) (i := 213) rfl)))), rfl⟩
set_option maxRecDepth 8000 in
theorem zw_694 : (Cond.fieldLink "LifeboatHouseModel" (119 : Nat) "LifeboatHouseModel" "minute" "I") ∈ gtbl := List.mem_filter.mpr ⟨List.mem_append_right _ (List.mem_append_right _ (List.mem_append_right _ (List.mem_append_left _ (List.mem_of_getElem? (l := tables_1_3) (i := 214) rfl)))), rfl⟩
set_option maxRecDepth 8000 in
theorem zw_695 : (Cond.fieldLink "LifeboatHouseModel" (110 : Nat) "LifeboatHouseModel" "people" "I") ∈ gtbl := List.mem_filter.mpr ⟨List.mem_append_right _ (List.mem_append_right _ (List.mem_append_right _ (List.mem_append_left _ (List.mem_of_getElem? (l := tables_1_3) (i := 215) rfl)))), rfl⟩
set_option maxRecDepth 8000 in
theorem zw_696 : (Cond.fieldLink "LifeboatHouseModel" (113 : Nat) "LifeboatHouseModel" "boats" "I") ∈ gtbl := List.mem_filter.mpr ⟨List.mem_append_right _ (List.mem_append_right _ (List.mem_append_right _ (List.mem_append_left _ (List.mem_of_getElem? (l := tables_1_3) (i := 216) rfl)))), rfl⟩
set_option maxRecDepth 8000 in
theorem zw_697 : (Cond.fieldLink "LifeboatHouseModel" (116 : Nat) "LifeboatHouseModel" "calls" "I") ∈ gtbl := List.mem_filter.mpr ⟨List.mem_append_right _ (List.mem_append_right _ (List.mem_append_right _ (List.mem_append_left _ (List.mem_of_getElem? (l := tables_1_3) (i := 217) rfl)))), rfl⟩
set_option maxRecDepth 8000 in
theorem zw_698 : (Cond.fieldLink "LifeboatHouseModel" (201 : Nat) "LifeboatHouseModel" "logs" "I") ∈ gtbl := List.mem_filter.mpr ⟨List.mem_append_right _ (List.mem_append_right _ (List.mem_append_right _ (List.mem_append_left _ (List.mem_of_getElem? (l := tables_1_3) (i := 218) rfl)))), rfl⟩
set_option maxRecDepth 8000 in
theorem zw_699 : (Cond.fieldLink "LifeboatHouseModel" (7 : Nat) "LifeboatHouseModel" "crew" "I") ∈ gtbl := List.mem_filter.mpr ⟨List.mem_append_right _ (List.mem_append_right _ (List.mem_append_right _ (List.mem_append_left _ (List.mem_of_getElem? (l := tables_1_3) (i := 219) rfl)))), rfl⟩
set_option maxRecDepth 8000 in
theorem zw_700 : (Cond.fieldLink "LifeboatHouseModel" (13 : Nat) "LifeboatHouseModel" "gather" "I") ∈ gtbl := List.mem_filter.mpr ⟨List.mem_append_right _ (List.mem_append_right _ (List.mem_append_right _ (List.mem_append_left _ (List.mem_of_getElem? (l := tables_1_3) (i := 220) rfl)))), rfl⟩
set_option maxRecDepth 8000 in
theorem zw_701 : (Cond.fieldLink "LifeboatHouseModel" (16 : Nat) "LifeboatHouseModel" "miles" "[I") ∈ gtbl := List.mem_filter.mpr ⟨List.mem_append_right _ (List.mem_append_right _ (List.mem_append_right _ (List.mem_append_left _ (List.mem_of_getElem? (l := tables_1_3) (i := 221) rfl)))), rfl⟩
set_option maxRecDepth 8000 in
theorem zw_702 : (Cond.fieldLink "LifeboatHouseModel" (20 : Nat) "LifeboatHouseModel" "needs" "[I") ∈ gtbl := List.mem_filter.mpr ⟨List.mem_append_right _ (List.mem_append_right _ (List.mem_append_right _ (List.mem_append_left _ (List.mem_of_getElem? (l := tables_1_3) (i := 222) rfl)))), rfl⟩
set_option maxRecDepth 8000 in
theorem zw_703 : (Cond.fieldLink "LifeboatHouseModel" (23 : Nat) "LifeboatHouseModel" "home" "[I") ∈ gtbl := List.mem_filter.mpr ⟨List.mem_append_right _ (List.mem_append_right _ (List.mem_append_right _ (List.mem_append_left _ (List.mem_of_getElem? (l := tables_1_3) (i := 223) rfl)))), rfl⟩
set_option maxRecDepth 8000 in
theorem zw_704 : (Cond.fieldLink "LifeboatHouseModel" (26 : Nat) "LifeboatHouseModel" "skills" "[I") ∈ gtbl := List.mem_filter.mpr ⟨List.mem_append_right _ (List.mem_append_right _ (List.mem_append_right _ (List.mem_append_left _ (List.mem_of_getElem? (l := tables_1_3) (i := 224) rfl)))), rfl⟩
set_option maxRecDepth 8000 in
theorem zw_705 : (Cond.fieldLink "LifeboatHouseModel" (29 : Nat) "LifeboatHouseModel" "papers" "[I") ∈ gtbl := List.mem_filter.mpr ⟨List.mem_append_right _ (List.mem_append_right _ (List.mem_append_right _ (List.mem_append_left _ (List.mem_of_getElem? (l := tables_1_3) (i := 225) rfl)))), rfl⟩
set_option maxRecDepth 8000 in
theorem zw_706 : (Cond.fieldLink "LifeboatHouseModel" (32 : Nat) "LifeboatHouseModel" "rests" "[I") ∈ gtbl := List.mem_filter.mpr ⟨List.mem_append_right _ (List.mem_append_right _ (List.mem_append_right _ (List.mem_append_left _ (List.mem_of_getElem? (l := tables_1_3) (i := 226) rfl)))), rfl⟩
set_option maxRecDepth 8000 in
theorem zw_707 : (Cond.fieldLink "LifeboatHouseModel" (35 : Nat) "LifeboatHouseModel" "paged" "[I") ∈ gtbl := List.mem_filter.mpr ⟨List.mem_append_right _ (List.mem_append_right _ (List.mem_append_right _ (List.mem_append_left _ (List.mem_of_getElem? (l := tables_1_3) (i := 227) rfl)))), rfl⟩
set_option maxRecDepth 8000 in
theorem zw_708 : (Cond.fieldLink "LifeboatHouseModel" (38 : Nat) "LifeboatHouseModel" "came" "[I") ∈ gtbl := List.mem_filter.mpr ⟨List.mem_append_right _ (List.mem_append_right _ (List.mem_append_right _ (List.mem_append_left _ (List.mem_of_getElem? (l := tables_1_3) (i := 228) rfl)))), rfl⟩
set_option maxRecDepth 8000 in
theorem zw_709 : (Cond.fieldLink "LifeboatHouseModel" (41 : Nat) "LifeboatHouseModel" "high" "[I") ∈ gtbl := List.mem_filter.mpr ⟨List.mem_append_right _ (List.mem_append_right _ (List.mem_append_right _ (List.mem_append_left _ (List.mem_of_getElem? (l := tables_1_3) (i := 229) rfl)))), rfl⟩
set_option maxRecDepth 8000 in
theorem zw_710 : (Cond.fieldLink "LifeboatHouseModel" (44 : Nat) "LifeboatHouseModel" "at" "[I") ∈ gtbl := List.mem_filter.mpr ⟨List.mem_append_right _ (List.mem_append_right _ (List.mem_append_right _ (List.mem_append_left _ (List.mem_of_getElem? (l := tables_1_3) (i := 230) rfl)))), rfl⟩
set_option maxRecDepth 8000 in
theorem zw_711 : (Cond.fieldLink "LifeboatHouseModel" (47 : Nat) "LifeboatHouseModel" "fuel" "[I") ∈ gtbl := List.mem_filter.mpr ⟨List.mem_append_right _ (List.mem_append_right _ (List.mem_append_right _ (List.mem_append_left _ (List.mem_of_getElem? (l := tables_1_3) (i := 231) rfl)))), rfl⟩
set_option maxRecDepth 8000 in
theorem zw_712 : (Cond.fieldLink "LifeboatHouseModel" (50 : Nat) "LifeboatHouseModel" "away" "[I") ∈ gtbl := List.mem_filter.mpr ⟨List.mem_append_right _ (List.mem_append_right _ (List.mem_append_right _ (List.mem_append_left _ (List.mem_of_getElem? (l := tables_1_3) (i := 232) rfl)))), rfl⟩
set_option maxRecDepth 8000 in
theorem zw_713 : (Cond.fieldLink "LifeboatHouseModel" (53 : Nat) "LifeboatHouseModel" "speeds" "[I") ∈ gtbl := List.mem_filter.mpr ⟨List.mem_append_right _ (List.mem_append_right _ (List.mem_append_right _ (List.mem_append_left _ (List.mem_of_getElem? (l := tables_1_3) (i := 233) rfl)))), rfl⟩
set_option maxRecDepth 8000 in
theorem zw_714 : (Cond.fieldLink "LifeboatHouseModel" (56 : Nat) "LifeboatHouseModel" "callMiles" "[I") ∈ gtbl := List.mem_filter.mpr ⟨List.mem_append_right _ (List.mem_append_right _ (List.mem_append_right _ (List.mem_append_left _ (List.mem_of_getElem? (l := tables_1_3) (i := 234) rfl)))), rfl⟩
set_option maxRecDepth 8000 in
theorem zw_715 : (Cond.fieldLink "LifeboatHouseModel" (59 : Nat) "LifeboatHouseModel" "callOut" "[I") ∈ gtbl := List.mem_filter.mpr ⟨List.mem_append_right _ (List.mem_append_right _ (List.mem_append_right _ (List.mem_append_left _ (List.mem_of_getElem? (l := tables_1_3) (i := 235) rfl)))), rfl⟩
set_option maxRecDepth 8000 in
theorem zw_716 : (Cond.fieldLink "LifeboatHouseModel" (62 : Nat) "LifeboatHouseModel" "callSea" "[I") ∈ gtbl := List.mem_filter.mpr ⟨List.mem_append_right _ (List.mem_append_right _ (List.mem_append_right _ (List.mem_append_left _ (List.mem_of_getElem? (l := tables_1_3) (i := 236) rfl)))), rfl⟩
set_option maxRecDepth 8000 in
theorem zw_717 : (Cond.fieldLink "LifeboatHouseModel" (65 : Nat) "LifeboatHouseModel" "logBoat" "[I") ∈ gtbl := List.mem_filter.mpr ⟨List.mem_append_right _ (List.mem_append_right _ (List.mem_append_right _ (List.mem_append_left _ (List.mem_of_getElem? (l := tables_1_3) (i := 237) rfl)))), rfl⟩
set_option maxRecDepth 8000 in
theorem zw_718 : (Cond.fieldLink "LifeboatHouseModel" (68 : Nat) "LifeboatHouseModel" "logCall" "[I") ∈ gtbl := List.mem_filter.mpr ⟨List.mem_append_right _ (List.mem_append_right _ (List.mem_append_right _ (List.mem_append_left _ (List.mem_of_getElem? (l := tables_1_3) (i := 238) rfl)))), rfl⟩
set_option maxRecDepth 8000 in
theorem zw_719 : (Cond.fieldLink "LifeboatHouseModel" (71 : Nat) "LifeboatHouseModel" "logLaunch" "[I") ∈ gtbl := List.mem_filter.mpr ⟨List.mem_append_right _ (List.mem_append_right _ (List.mem_append_right _ (List.mem_append_left _ (List.mem_of_getElem? (l := tables_1_3) (i := 239) rfl)))), rfl⟩
set_option maxRecDepth 8000 in
theorem zw_720 : (Cond.fieldLink "LifeboatHouseModel" (74 : Nat) "LifeboatHouseModel" "logReached" "[I") ∈ gtbl := List.mem_filter.mpr ⟨List.mem_append_right _ (List.mem_append_right _ (List.mem_append_right _ (List.mem_append_right _ (List.mem_append_left _ (List.mem_of_getElem? (l := tables_1_4) (i := 0) rfl))))), rfl⟩
set_option maxRecDepth 8000 in
theorem zw_721 : (Cond.fieldLink "LifeboatHouseModel" (77 : Nat) "LifeboatHouseModel" "logHome" "[I") ∈ gtbl := List.mem_filter.mpr ⟨List.mem_append_right _ (List.mem_append_right _ (List.mem_append_right _ (List.mem_append_right _ (List.mem_append_left _ (List.mem_of_getElem? (l := tables_1_4) (i := 1) rfl))))), rfl⟩
set_option maxRecDepth 8000 in
theorem zw_722 : (Cond.fieldLink "LifeboatHouseModel" (80 : Nat) "LifeboatHouseModel" "worth" "[I") ∈ gtbl := List.mem_filter.mpr ⟨List.mem_append_right _ (List.mem_append_right _ (List.mem_append_right _ (List.mem_append_right _ (List.mem_append_left _ (List.mem_of_getElem? (l := tables_1_4) (i := 2) rfl))))), rfl⟩
set_option maxRecDepth 8000 in
theorem zw_723 : (Cond.fieldLink "LifeboatHouseModel" (83 : Nat) "LifeboatHouseModel" "tried" "[I") ∈ gtbl := List.mem_filter.mpr ⟨List.mem_append_right _ (List.mem_append_right _ (List.mem_append_right _ (List.mem_append_right _ (List.mem_append_left _ (List.mem_of_getElem? (l := tables_1_4) (i := 3) rfl))))), rfl⟩
set_option maxRecDepth 8000 in
theorem zw_724 : (Cond.fieldLink "LifeboatHouseModel" (86 : Nat) "LifeboatHouseModel" "looked" "[I") ∈ gtbl := List.mem_filter.mpr ⟨List.mem_append_right _ (List.mem_append_right _ (List.mem_append_right _ (List.mem_append_right _ (List.mem_append_left _ (List.mem_of_getElem? (l := tables_1_4) (i := 4) rfl))))), rfl⟩
set_option maxRecDepth 8000 in
theorem zw_725 : (Cond.fieldLink "LifeboatHouseModel" (89 : Nat) "LifeboatHouseModel" "refused" "[I") ∈ gtbl := List.mem_filter.mpr ⟨List.mem_append_right _ (List.mem_append_right _ (List.mem_append_right _ (List.mem_append_right _ (List.mem_append_left _ (List.mem_of_getElem? (l := tables_1_4) (i := 5) rfl))))), rfl⟩
set_option maxRecDepth 8000 in
theorem zw_726 : (Cond.fieldLink "LifeboatHouseModel" (92 : Nat) "LifeboatHouseModel" "ways" "[I") ∈ gtbl := List.mem_filter.mpr ⟨List.mem_append_right _ (List.mem_append_right _ (List.mem_append_right _ (List.mem_append_right _ (List.mem_append_left _ (List.mem_of_getElem? (l := tables_1_4) (i := 6) rfl))))), rfl⟩
set_option maxRecDepth 8000 in
theorem zw_727 : (Cond.fieldLink "LifeboatHouseModel" (95 : Nat) "LifeboatHouseModel" "next" "[I") ∈ gtbl := List.mem_filter.mpr ⟨List.mem_append_right _ (List.mem_append_right _ (List.mem_append_right _ (List.mem_append_right _ (List.mem_append_left _ (List.mem_of_getElem? (l := tables_1_4) (i := 7) rfl))))), rfl⟩
set_option maxRecDepth 8000 in
theorem zw_728 : (Cond.fieldLink "LifeboatHouseModel" (98 : Nat) "LifeboatHouseModel" "bare" "[I") ∈ gtbl := List.mem_filter.mpr ⟨List.mem_append_right _ (List.mem_append_right _ (List.mem_append_right _ (List.mem_append_right _ (List.mem_append_left _ (List.mem_of_getElem? (l := tables_1_4) (i := 8) rfl))))), rfl⟩
set_option maxRecDepth 8000 in
theorem zw_729 : (Cond.fieldLink "LifeboatHouseModel" (101 : Nat) "LifeboatHouseModel" "free" "[I") ∈ gtbl := List.mem_filter.mpr ⟨List.mem_append_right _ (List.mem_append_right _ (List.mem_append_right _ (List.mem_append_right _ (List.mem_append_left _ (List.mem_of_getElem? (l := tables_1_4) (i := 9) rfl))))), rfl⟩
set_option maxRecDepth 8000 in
theorem zw_730 : (Cond.fieldLink "LifeboatHouseModel" (104 : Nat) "LifeboatHouseModel" "choice" "[I") ∈ gtbl := List.mem_filter.mpr ⟨List.mem_append_right _ (List.mem_append_right _ (List.mem_append_right _ (List.mem_append_right _ (List.mem_append_left _ (List.mem_of_getElem? (l := tables_1_4) (i := 10) rfl))))), rfl⟩
set_option maxRecDepth 8000 in
theorem zw_731 : (Cond.fieldLink "LifeboatHouseModel" (107 : Nat) "LifeboatHouseModel" "best" "[I") ∈ gtbl := List.mem_filter.mpr ⟨List.mem_append_right _ (List.mem_append_right _ (List.mem_append_right _ (List.mem_append_right _ (List.mem_append_left _ (List.mem_of_getElem? (l := tables_1_4) (i := 11) rfl))))), rfl⟩
set_option maxRecDepth 8000 in
theorem zw_732 : (Cond.fieldLink "LifeboatHouseModel" (207 : Nat) "LifeboatHouseModel" "helped" "I") ∈ gtbl := List.mem_filter.mpr ⟨List.mem_append_right _ (List.mem_append_right _ (List.mem_append_right _ (List.mem_append_right _ (List.mem_append_left _ (List.mem_of_getElem? (l := tables_1_4) (i := 12) rfl))))), rfl⟩
set_option maxRecDepth 8000 in
theorem zw_733 : (Cond.fieldLink "LifeboatHouseModel" (210 : Nat) "LifeboatHouseModel" "helpMiles" "I") ∈ gtbl := List.mem_filter.mpr ⟨List.mem_append_right _ (List.mem_append_right _ (List.mem_append_right _ (List.mem_append_right _ (List.mem_append_left _ (List.mem_of_getElem? (l := tables_1_4) (i := 13) rfl))))), rfl⟩
set_option maxRecDepth 8000 in
theorem zw_734 : (Cond.lays "LifeboatHouseModel" "LifeboatHouseModel" "minute" "I") ∈ gtbl := List.mem_filter.mpr ⟨List.mem_append_right _ (List.mem_append_right _ (List.mem_append_right _ (List.mem_append_right _ (List.mem_append_left _ (List.mem_of_getElem? (l := tables_1_4) (i := 14) rfl))))), rfl⟩
set_option maxRecDepth 8000 in
theorem zw_735 : (Cond.soleField "LifeboatHouseModel" "minute") ∈ gtbl := List.mem_filter.mpr ⟨List.mem_append_right _ (List.mem_append_right _ (List.mem_append_right _ (List.mem_append_right _ (List.mem_append_left _ (List.mem_of_getElem? (l := tables_1_4) (i := 15) rfl))))), rfl⟩
set_option maxRecDepth 8000 in
theorem zw_736 : (Cond.lays "LifeboatHouseModel" "LifeboatHouseModel" "people" "I") ∈ gtbl := List.mem_filter.mpr ⟨List.mem_append_right _ (List.mem_append_right _ (List.mem_append_right _ (List.mem_append_right _ (List.mem_append_left _ (List.mem_of_getElem? (l := tables_1_4) (i := 16) rfl))))), rfl⟩
set_option maxRecDepth 8000 in
theorem zw_737 : (Cond.soleField "LifeboatHouseModel" "people") ∈ gtbl := List.mem_filter.mpr ⟨List.mem_append_right _ (List.mem_append_right _ (List.mem_append_right _ (List.mem_append_right _ (List.mem_append_left _ (List.mem_of_getElem? (l := tables_1_4) (i := 17) rfl))))), rfl⟩
set_option maxRecDepth 8000 in
theorem zw_738 : (Cond.lays "LifeboatHouseModel" "LifeboatHouseModel" "boats" "I") ∈ gtbl := List.mem_filter.mpr ⟨List.mem_append_right _ (List.mem_append_right _ (List.mem_append_right _ (List.mem_append_right _ (List.mem_append_left _ (List.mem_of_getElem? (l := tables_1_4) (i := 18) rfl))))), rfl⟩
set_option maxRecDepth 8000 in
theorem zw_739 : (Cond.soleField "LifeboatHouseModel" "boats") ∈ gtbl := List.mem_filter.mpr ⟨List.mem_append_right _ (List.mem_append_right _ (List.mem_append_right _ (List.mem_append_right _ (List.mem_append_left _ (List.mem_of_getElem? (l := tables_1_4) (i := 19) rfl))))), rfl⟩
set_option maxRecDepth 8000 in
theorem zw_740 : (Cond.lays "LifeboatHouseModel" "LifeboatHouseModel" "calls" "I") ∈ gtbl := List.mem_filter.mpr ⟨List.mem_append_right _ (List.mem_append_right _ (List.mem_append_right _ (List.mem_append_right _ (List.mem_append_left _ (List.mem_of_getElem? (l := tables_1_4) (i := 20) rfl))))), rfl⟩
set_option maxRecDepth 8000 in
theorem zw_741 : (Cond.soleField "LifeboatHouseModel" "calls") ∈ gtbl := List.mem_filter.mpr ⟨List.mem_append_right _ (List.mem_append_right _ (List.mem_append_right _ (List.mem_append_right _ (List.mem_append_left _ (List.mem_of_getElem? (l := tables_1_4) (i := 21) rfl))))), rfl⟩
set_option maxRecDepth 8000 in
theorem zw_742 : (Cond.lays "LifeboatHouseModel" "LifeboatHouseModel" "logs" "I") ∈ gtbl := List.mem_filter.mpr ⟨List.mem_append_right _ (List.mem_append_right _ (List.mem_append_right _ (List.mem_append_right _ (List.mem_append_left _ (List.mem_of_getElem? (l := tables_1_4) (i := 22) rfl))))), rfl⟩
set_option maxRecDepth 8000 in
theorem zw_743 : (Cond.soleField "LifeboatHouseModel" "logs") ∈ gtbl := List.mem_filter.mpr ⟨List.mem_append_right _ (List.mem_append_right _ (List.mem_append_right _ (List.mem_append_right _ (List.mem_append_left _ (List.mem_of_getElem? (l := tables_1_4) (i := 23) rfl))))), rfl⟩
set_option maxRecDepth 8000 in
theorem zw_744 : (Cond.lays "LifeboatHouseModel" "LifeboatHouseModel" "crew" "I") ∈ gtbl := List.mem_filter.mpr ⟨List.mem_append_right _ (List.mem_append_right _ (List.mem_append_right _ (List.mem_append_right _ (List.mem_append_left _ (List.mem_of_getElem? (l := tables_1_4) (i := 24) rfl))))), rfl⟩
set_option maxRecDepth 8000 in
theorem zw_745 : (Cond.soleField "LifeboatHouseModel" "crew") ∈ gtbl := List.mem_filter.mpr ⟨List.mem_append_right _ (List.mem_append_right _ (List.mem_append_right _ (List.mem_append_right _ (List.mem_append_left _ (List.mem_of_getElem? (l := tables_1_4) (i := 25) rfl))))), rfl⟩
set_option maxRecDepth 8000 in
theorem zw_746 : (Cond.lays "LifeboatHouseModel" "LifeboatHouseModel" "gather" "I") ∈ gtbl := List.mem_filter.mpr ⟨List.mem_append_right _ (List.mem_append_right _ (List.mem_append_right _ (List.mem_append_right _ (List.mem_append_left _ (List.mem_of_getElem? (l := tables_1_4) (i := 26) rfl))))), rfl⟩
set_option maxRecDepth 8000 in
theorem zw_747 : (Cond.soleField "LifeboatHouseModel" "gather") ∈ gtbl := List.mem_filter.mpr ⟨List.mem_append_right _ (List.mem_append_right _ (List.mem_append_right _ (List.mem_append_right _ (List.mem_append_left _ (List.mem_of_getElem? (l := tables_1_4) (i := 27) rfl))))), rfl⟩
set_option maxRecDepth 8000 in
theorem zw_748 : (Cond.laysFinal "LifeboatHouseModel" "LifeboatHouseModel" "miles" "[I") ∈ gtbl := List.mem_filter.mpr ⟨List.mem_append_right _ (List.mem_append_right _ (List.mem_append_right _ (List.mem_append_right _ (List.mem_append_left _ (List.mem_of_getElem? (l := tables_1_4) (i := 28) rfl))))), rfl⟩
set_option maxRecDepth 8000 in
theorem zw_749 : (Cond.soleField "LifeboatHouseModel" "miles") ∈ gtbl := List.mem_filter.mpr ⟨List.mem_append_right _ (List.mem_append_right _ (List.mem_append_right _ (List.mem_append_right _ (List.mem_append_left _ (List.mem_of_getElem? (l := tables_1_4) (i := 29) rfl))))), rfl⟩
set_option maxRecDepth 8000 in
theorem zw_750 : (Cond.laysFinal "LifeboatHouseModel" "LifeboatHouseModel" "needs" "[I") ∈ gtbl := List.mem_filter.mpr ⟨List.mem_append_right _ (List.mem_append_right _ (List.mem_append_right _ (List.mem_append_right _ (List.mem_append_left _ (List.mem_of_getElem? (l := tables_1_4) (i := 30) rfl))))), rfl⟩
set_option maxRecDepth 8000 in
theorem zw_751 : (Cond.soleField "LifeboatHouseModel" "needs") ∈ gtbl := List.mem_filter.mpr ⟨List.mem_append_right _ (List.mem_append_right _ (List.mem_append_right _ (List.mem_append_right _ (List.mem_append_left _ (List.mem_of_getElem? (l := tables_1_4) (i := 31) rfl))))), rfl⟩
set_option maxRecDepth 8000 in
theorem zw_752 : (Cond.laysFinal "LifeboatHouseModel" "LifeboatHouseModel" "home" "[I") ∈ gtbl := List.mem_filter.mpr ⟨List.mem_append_right _ (List.mem_append_right _ (List.mem_append_right _ (List.mem_append_right _ (List.mem_append_left _ (List.mem_of_getElem? (l := tables_1_4) (i := 32) rfl))))), rfl⟩
set_option maxRecDepth 8000 in
theorem zw_753 : (Cond.soleField "LifeboatHouseModel" "home") ∈ gtbl := List.mem_filter.mpr ⟨List.mem_append_right _ (List.mem_append_right _ (List.mem_append_right _ (List.mem_append_right _ (List.mem_append_left _ (List.mem_of_getElem? (l := tables_1_4) (i := 33) rfl))))), rfl⟩
set_option maxRecDepth 8000 in
theorem zw_754 : (Cond.laysFinal "LifeboatHouseModel" "LifeboatHouseModel" "skills" "[I") ∈ gtbl := List.mem_filter.mpr ⟨List.mem_append_right _ (List.mem_append_right _ (List.mem_append_right _ (List.mem_append_right _ (List.mem_append_left _ (List.mem_of_getElem? (l := tables_1_4) (i := 34) rfl))))), rfl⟩
set_option maxRecDepth 8000 in
theorem zw_755 : (Cond.soleField "LifeboatHouseModel" "skills") ∈ gtbl := List.mem_filter.mpr ⟨List.mem_append_right _ (List.mem_append_right _ (List.mem_append_right _ (List.mem_append_right _ (List.mem_append_left _ (List.mem_of_getElem? (l := tables_1_4) (i := 35) rfl))))), rfl⟩
set_option maxRecDepth 8000 in
theorem zw_756 : (Cond.laysFinal "LifeboatHouseModel" "LifeboatHouseModel" "papers" "[I") ∈ gtbl := List.mem_filter.mpr ⟨List.mem_append_right _ (List.mem_append_right _ (List.mem_append_right _ (List.mem_append_right _ (List.mem_append_left _ (List.mem_of_getElem? (l := tables_1_4) (i := 36) rfl))))), rfl⟩
set_option maxRecDepth 8000 in
theorem zw_757 : (Cond.soleField "LifeboatHouseModel" "papers") ∈ gtbl := List.mem_filter.mpr ⟨List.mem_append_right _ (List.mem_append_right _ (List.mem_append_right _ (List.mem_append_right _ (List.mem_append_left _ (List.mem_of_getElem? (l := tables_1_4) (i := 37) rfl))))), rfl⟩
set_option maxRecDepth 8000 in
theorem zw_758 : (Cond.laysFinal "LifeboatHouseModel" "LifeboatHouseModel" "rests" "[I") ∈ gtbl := List.mem_filter.mpr ⟨List.mem_append_right _ (List.mem_append_right _ (List.mem_append_right _ (List.mem_append_right _ (List.mem_append_left _ (List.mem_of_getElem? (l := tables_1_4) (i := 38) rfl))))), rfl⟩
set_option maxRecDepth 8000 in
theorem zw_759 : (Cond.soleField "LifeboatHouseModel" "rests") ∈ gtbl := List.mem_filter.mpr ⟨List.mem_append_right _ (List.mem_append_right _ (List.mem_append_right _ (List.mem_append_right _ (List.mem_append_left _ (List.mem_of_getElem? (l := tables_1_4) (i := 39) rfl))))), rfl⟩
set_option maxRecDepth 8000 in
theorem zw_760 : (Cond.laysFinal "LifeboatHouseModel" "LifeboatHouseModel" "paged" "[I") ∈ gtbl := List.mem_filter.mpr ⟨List.mem_append_right _ (List.mem_append_right _ (List.mem_append_right _ (List.mem_append_right _ (List.mem_append_left _ (List.mem_of_getElem? (l := tables_1_4) (i := 40) rfl))))), rfl⟩
set_option maxRecDepth 8000 in
theorem zw_761 : (Cond.soleField "LifeboatHouseModel" "paged") ∈ gtbl := List.mem_filter.mpr ⟨List.mem_append_right _ (List.mem_append_right _ (List.mem_append_right _ (List.mem_append_right _ (List.mem_append_left _ (List.mem_of_getElem? (l := tables_1_4) (i := 41) rfl))))), rfl⟩
set_option maxRecDepth 8000 in
theorem zw_762 : (Cond.laysFinal "LifeboatHouseModel" "LifeboatHouseModel" "came" "[I") ∈ gtbl := List.mem_filter.mpr ⟨List.mem_append_right _ (List.mem_append_right _ (List.mem_append_right _ (List.mem_append_right _ (List.mem_append_left _ (List.mem_of_getElem? (l := tables_1_4) (i := 42) rfl))))), rfl⟩
set_option maxRecDepth 8000 in
theorem zw_763 : (Cond.soleField "LifeboatHouseModel" "came") ∈ gtbl := List.mem_filter.mpr ⟨List.mem_append_right _ (List.mem_append_right _ (List.mem_append_right _ (List.mem_append_right _ (List.mem_append_left _ (List.mem_of_getElem? (l := tables_1_4) (i := 43) rfl))))), rfl⟩
set_option maxRecDepth 8000 in
theorem zw_764 : (Cond.laysFinal "LifeboatHouseModel" "LifeboatHouseModel" "high" "[I") ∈ gtbl := List.mem_filter.mpr ⟨List.mem_append_right _ (List.mem_append_right _ (List.mem_append_right _ (List.mem_append_right _ (List.mem_append_left _ (List.mem_of_getElem? (l := tables_1_4) (i := 44) rfl))))), rfl⟩
set_option maxRecDepth 8000 in
theorem zw_765 : (Cond.soleField "LifeboatHouseModel" "high") ∈ gtbl := List.mem_filter.mpr ⟨List.mem_append_right _ (List.mem_append_right _ (List.mem_append_right _ (List.mem_append_right _ (List.mem_append_left _ (List.mem_of_getElem? (l := tables_1_4) (i := 45) rfl))))), rfl⟩
set_option maxRecDepth 8000 in
theorem zw_766 : (Cond.laysFinal "LifeboatHouseModel" "LifeboatHouseModel" "at" "[I") ∈ gtbl := List.mem_filter.mpr ⟨List.mem_append_right _ (List.mem_append_right _ (List.mem_append_right _ (List.mem_append_right _ (List.mem_append_left _ (List.mem_of_getElem? (l := tables_1_4) (i := 46) rfl))))), rfl⟩
set_option maxRecDepth 8000 in
theorem zw_767 : (Cond.soleField "LifeboatHouseModel" "at") ∈ gtbl := List.mem_filter.mpr ⟨List.mem_append_right _ (List.mem_append_right _ (List.mem_append_right _ (List.mem_append_right _ (List.mem_append_left _ (List.mem_of_getElem? (l := tables_1_4) (i := 47) rfl))))), rfl⟩
set_option maxRecDepth 8000 in
theorem zw_768 : (Cond.laysFinal "LifeboatHouseModel" "LifeboatHouseModel" "fuel" "[I") ∈ gtbl := List.mem_filter.mpr ⟨List.mem_append_right _ (List.mem_append_right _ (List.mem_append_right _ (List.mem_append_right _ (List.mem_append_left _ (List.mem_of_getElem? (l := tables_1_4) (i := 48) rfl))))), rfl⟩
set_option maxRecDepth 8000 in
theorem zw_769 : (Cond.soleField "LifeboatHouseModel" "fuel") ∈ gtbl := List.mem_filter.mpr ⟨List.mem_append_right _ (List.mem_append_right _ (List.mem_append_right _ (List.mem_append_right _ (List.mem_append_left _ (List.mem_of_getElem? (l := tables_1_4) (i := 49) rfl))))), rfl⟩
set_option maxRecDepth 8000 in
theorem zw_770 : (Cond.laysFinal "LifeboatHouseModel" "LifeboatHouseModel" "away" "[I") ∈ gtbl := List.mem_filter.mpr ⟨List.mem_append_right _ (List.mem_append_right _ (List.mem_append_right _ (List.mem_append_right _ (List.mem_append_left _ (List.mem_of_getElem? (l := tables_1_4) (i := 50) rfl))))), rfl⟩
set_option maxRecDepth 8000 in
theorem zw_771 : (Cond.soleField "LifeboatHouseModel" "away") ∈ gtbl := List.mem_filter.mpr ⟨List.mem_append_right _ (List.mem_append_right _ (List.mem_append_right _ (List.mem_append_right _ (List.mem_append_left _ (List.mem_of_getElem? (l := tables_1_4) (i := 51) rfl))))), rfl⟩
set_option maxRecDepth 8000 in
theorem zw_772 : (Cond.laysFinal "LifeboatHouseModel" "LifeboatHouseModel" "speeds" "[I") ∈ gtbl := List.mem_filter.mpr ⟨List.mem_append_right _ (List.mem_append_right _ (List.mem_append_right _ (List.mem_append_right _ (List.mem_append_left _ (List.mem_of_getElem? (l := tables_1_4) (i := 52) rfl))))), rfl⟩
set_option maxRecDepth 8000 in
theorem zw_773 : (Cond.soleField "LifeboatHouseModel" "speeds") ∈ gtbl := List.mem_filter.mpr ⟨List.mem_append_right _ (List.mem_append_right _ (List.mem_append_right _ (List.mem_append_right _ (List.mem_append_left _ (List.mem_of_getElem? (l := tables_1_4) (i := 53) rfl))))), rfl⟩
set_option maxRecDepth 8000 in
theorem zw_774 : (Cond.laysFinal "LifeboatHouseModel" "LifeboatHouseModel" "callMiles" "[I") ∈ gtbl := List.mem_filter.mpr ⟨List.mem_append_right _ (List.mem_append_right _ (List.mem_append_right _ (List.mem_append_right _ (List.mem_append_left _ (List.mem_of_getElem? (l := tables_1_4) (i := 54) rfl))))), rfl⟩
set_option maxRecDepth 8000 in
theorem zw_775 : (Cond.soleField "LifeboatHouseModel" "callMiles") ∈ gtbl := List.mem_filter.mpr ⟨List.mem_append_right _ (List.mem_append_right _ (List.mem_append_right _ (List.mem_append_right _ (List.mem_append_left _ (List.mem_of_getElem? (l := tables_1_4) (i := 55) rfl))))), rfl⟩
set_option maxRecDepth 8000 in
theorem zw_776 : (Cond.laysFinal "LifeboatHouseModel" "LifeboatHouseModel" "callOut" "[I") ∈ gtbl := List.mem_filter.mpr ⟨List.mem_append_right _ (List.mem_append_right _ (List.mem_append_right _ (List.mem_append_right _ (List.mem_append_left _ (List.mem_of_getElem? (l := tables_1_4) (i := 56) rfl))))), rfl⟩
set_option maxRecDepth 8000 in
theorem zw_777 : (Cond.soleField "LifeboatHouseModel" "callOut") ∈ gtbl := List.mem_filter.mpr ⟨List.mem_append_right _ (List.mem_append_right _ (List.mem_append_right _ (List.mem_append_right _ (List.mem_append_left _ (List.mem_of_getElem? (l := tables_1_4) (i := 57) rfl))))), rfl⟩
set_option maxRecDepth 8000 in
theorem zw_778 : (Cond.laysFinal "LifeboatHouseModel" "LifeboatHouseModel" "callSea" "[I") ∈ gtbl := List.mem_filter.mpr ⟨List.mem_append_right _ (List.mem_append_right _ (List.mem_append_right _ (List.mem_append_right _ (List.mem_append_left _ (List.mem_of_getElem? (l := tables_1_4) (i := 58) rfl))))), rfl⟩
set_option maxRecDepth 8000 in
theorem zw_779 : (Cond.soleField "LifeboatHouseModel" "callSea") ∈ gtbl := List.mem_filter.mpr ⟨List.mem_append_right _ (List.mem_append_right _ (List.mem_append_right _ (List.mem_append_right _ (List.mem_append_left _ (List.mem_of_getElem? (l := tables_1_4) (i := 59) rfl))))), rfl⟩
set_option maxRecDepth 8000 in
theorem zw_780 : (Cond.laysFinal "LifeboatHouseModel" "LifeboatHouseModel" "logBoat" "[I") ∈ gtbl := List.mem_filter.mpr ⟨List.mem_append_right _ (List.mem_append_right _ (List.mem_append_right _ (List.mem_append_right _ (List.mem_append_left _ (List.mem_of_getElem? (l := tables_1_4) (i := 60) rfl))))), rfl⟩
set_option maxRecDepth 8000 in
theorem zw_781 : (Cond.soleField "LifeboatHouseModel" "logBoat") ∈ gtbl := List.mem_filter.mpr ⟨List.mem_append_right _ (List.mem_append_right _ (List.mem_append_right _ (List.mem_append_right _ (List.mem_append_left _ (List.mem_of_getElem? (l := tables_1_4) (i := 61) rfl))))), rfl⟩
set_option maxRecDepth 8000 in
theorem zw_782 : (Cond.laysFinal "LifeboatHouseModel" "LifeboatHouseModel" "logCall" "[I") ∈ gtbl := List.mem_filter.mpr ⟨List.mem_append_right _ (List.mem_append_right _ (List.mem_append_right _ (List.mem_append_right _ (List.mem_append_left _ (List.mem_of_getElem? (l := tables_1_4) (i := 62) rfl))))), rfl⟩
set_option maxRecDepth 8000 in
theorem zw_783 : (Cond.soleField "LifeboatHouseModel" "logCall") ∈ gtbl := List.mem_filter.mpr ⟨List.mem_append_right _ (List.mem_append_right _ (List.mem_append_right _ (List.mem_append_right _ (List.mem_append_left _ (List.mem_of_getElem? (l := tables_1_4) (i := 63) rfl))))), rfl⟩
set_option maxRecDepth 8000 in
theorem zw_784 : (Cond.laysFinal "LifeboatHouseModel" "LifeboatHouseModel" "logLaunch" "[I") ∈ gtbl := List.mem_filter.mpr ⟨List.mem_append_right _ (List.mem_append_right _ (List.mem_append_right _ (List.mem_append_right _ (List.mem_append_left _ (List.mem_of_getElem? (l := tables_1_4) (i := 64) rfl))))), rfl⟩
set_option maxRecDepth 8000 in
theorem zw_785 : (Cond.soleField "LifeboatHouseModel" "logLaunch") ∈ gtbl := List.mem_filter.mpr ⟨List.mem_append_right _ (List.mem_append_right _ (List.mem_append_right _ (List.mem_append_right _ (List.mem_append_left _ (List.mem_of_getElem? (l := tables_1_4) (i := 65) rfl))))), rfl⟩
set_option maxRecDepth 8000 in
theorem zw_786 : (Cond.laysFinal "LifeboatHouseModel" "LifeboatHouseModel" "logReached" "[I") ∈ gtbl := List.mem_filter.mpr ⟨List.mem_append_right _ (List.mem_append_right _ (List.mem_append_right _ (List.mem_append_right _ (List.mem_append_left _ (List.mem_of_getElem? (l := tables_1_4) (i := 66) rfl))))), rfl⟩
set_option maxRecDepth 8000 in
theorem zw_787 : (Cond.soleField "LifeboatHouseModel" "logReached") ∈ gtbl := List.mem_filter.mpr ⟨List.mem_append_right _ (List.mem_append_right _ (List.mem_append_right _ (List.mem_append_right _ (List.mem_append_left _ (List.mem_of_getElem? (l := tables_1_4) (i := 67) rfl))))), rfl⟩
set_option maxRecDepth 8000 in
theorem zw_788 : (Cond.laysFinal "LifeboatHouseModel" "LifeboatHouseModel" "logHome" "[I") ∈ gtbl := List.mem_filter.mpr ⟨List.mem_append_right _ (List.mem_append_right _ (List.mem_append_right _ (List.mem_append_right _ (List.mem_append_left _ (List.mem_of_getElem? (l := tables_1_4) (i := 68) rfl))))), rfl⟩
set_option maxRecDepth 8000 in
theorem zw_789 : (Cond.soleField "LifeboatHouseModel" "logHome") ∈ gtbl := List.mem_filter.mpr ⟨List.mem_append_right _ (List.mem_append_right _ (List.mem_append_right _ (List.mem_append_right _ (List.mem_append_left _ (List.mem_of_getElem? (l := tables_1_4) (i := 69) rfl))))), rfl⟩
set_option maxRecDepth 8000 in
theorem zw_790 : (Cond.laysFinal "LifeboatHouseModel" "LifeboatHouseModel" "worth" "[I") ∈ gtbl := List.mem_filter.mpr ⟨List.mem_append_right _ (List.mem_append_right _ (List.mem_append_right _ (List.mem_append_right _ (List.mem_append_left _ (List.mem_of_getElem? (l := tables_1_4) (i := 70) rfl))))), rfl⟩
set_option maxRecDepth 8000 in
theorem zw_791 : (Cond.soleField "LifeboatHouseModel" "worth") ∈ gtbl := List.mem_filter.mpr ⟨List.mem_append_right _ (List.mem_append_right _ (List.mem_append_right _ (List.mem_append_right _ (List.mem_append_left _ (List.mem_of_getElem? (l := tables_1_4) (i := 71) rfl))))), rfl⟩
set_option maxRecDepth 8000 in
theorem zw_792 : (Cond.laysFinal "LifeboatHouseModel" "LifeboatHouseModel" "tried" "[I") ∈ gtbl := List.mem_filter.mpr ⟨List.mem_append_right _ (List.mem_append_right _ (List.mem_append_right _ (List.mem_append_right _ (List.mem_append_left _ (List.mem_of_getElem? (l := tables_1_4) (i := 72) rfl))))), rfl⟩
set_option maxRecDepth 8000 in
theorem zw_793 : (Cond.soleField "LifeboatHouseModel" "tried") ∈ gtbl := List.mem_filter.mpr ⟨List.mem_append_right _ (List.mem_append_right _ (List.mem_append_right _ (List.mem_append_right _ (List.mem_append_left _ (List.mem_of_getElem? (l := tables_1_4) (i := 73) rfl))))), rfl⟩
set_option maxRecDepth 8000 in
theorem zw_794 : (Cond.laysFinal "LifeboatHouseModel" "LifeboatHouseModel" "looked" "[I") ∈ gtbl := List.mem_filter.mpr ⟨List.mem_append_right _ (List.mem_append_right _ (List.mem_append_right _ (List.mem_append_right _ (List.mem_append_left _ (List.mem_of_getElem? (l := tables_1_4) (i := 74) rfl))))), rfl⟩
set_option maxRecDepth 8000 in
theorem zw_795 : (Cond.soleField "LifeboatHouseModel" "looked") ∈ gtbl := List.mem_filter.mpr ⟨List.mem_append_right _ (List.mem_append_right _ (List.mem_append_right _ (List.mem_append_right _ (List.mem_append_left _ (List.mem_of_getElem? (l := tables_1_4) (i := 75) rfl))))), rfl⟩
set_option maxRecDepth 8000 in
theorem zw_796 : (Cond.laysFinal "LifeboatHouseModel" "LifeboatHouseModel" "refused" "[I") ∈ gtbl := List.mem_filter.mpr ⟨List.mem_append_right _ (List.mem_append_right _ (List.mem_append_right _ (List.mem_append_right _ (List.mem_append_left _ (List.mem_of_getElem? (l := tables_1_4) (i := 76) rfl))))), rfl⟩
set_option maxRecDepth 8000 in
theorem zw_797 : (Cond.soleField "LifeboatHouseModel" "refused") ∈ gtbl := List.mem_filter.mpr ⟨List.mem_append_right _ (List.mem_append_right _ (List.mem_append_right _ (List.mem_append_right _ (List.mem_append_left _ (List.mem_of_getElem? (l := tables_1_4) (i := 77) rfl))))), rfl⟩
set_option maxRecDepth 8000 in
theorem zw_798 : (Cond.laysFinal "LifeboatHouseModel" "LifeboatHouseModel" "ways" "[I") ∈ gtbl := List.mem_filter.mpr ⟨List.mem_append_right _ (List.mem_append_right _ (List.mem_append_right _ (List.mem_append_right _ (List.mem_append_left _ (List.mem_of_getElem? (l := tables_1_4) (i := 78) rfl))))), rfl⟩
set_option maxRecDepth 8000 in
theorem zw_799 : (Cond.soleField "LifeboatHouseModel" "ways") ∈ gtbl := List.mem_filter.mpr ⟨List.mem_append_right _ (List.mem_append_right _ (List.mem_append_right _ (List.mem_append_right _ (List.mem_append_left _ (List.mem_of_getElem? (l := tables_1_4) (i := 79) rfl))))), rfl⟩
set_option maxRecDepth 8000 in
theorem zw_800 : (Cond.laysFinal "LifeboatHouseModel" "LifeboatHouseModel" "next" "[I") ∈ gtbl := List.mem_filter.mpr ⟨List.mem_append_right _ (List.mem_append_right _ (List.mem_append_right _ (List.mem_append_right _ (List.mem_append_left _ (List.mem_of_getElem? (l := tables_1_4) (i := 80) rfl))))), rfl⟩
set_option maxRecDepth 8000 in
theorem zw_801 : (Cond.soleField "LifeboatHouseModel" "next") ∈ gtbl := List.mem_filter.mpr ⟨List.mem_append_right _ (List.mem_append_right _ (List.mem_append_right _ (List.mem_append_right _ (List.mem_append_left _ (List.mem_of_getElem? (l := tables_1_4) (i := 81) rfl))))), rfl⟩
set_option maxRecDepth 8000 in
theorem zw_802 : (Cond.laysFinal "LifeboatHouseModel" "LifeboatHouseModel" "bare" "[I") ∈ gtbl := List.mem_filter.mpr ⟨List.mem_append_right _ (List.mem_append_right _ (List.mem_append_right _ (List.mem_append_right _ (List.mem_append_left _ (List.mem_of_getElem? (l := tables_1_4) (i := 82) rfl))))), rfl⟩
set_option maxRecDepth 8000 in
theorem zw_803 : (Cond.soleField "LifeboatHouseModel" "bare") ∈ gtbl := List.mem_filter.mpr ⟨List.mem_append_right _ (List.mem_append_right _ (List.mem_append_right _ (List.mem_append_right _ (List.mem_append_left _ (List.mem_of_getElem? (l := tables_1_4) (i := 83) rfl))))), rfl⟩
set_option maxRecDepth 8000 in
theorem zw_804 : (Cond.laysFinal "LifeboatHouseModel" "LifeboatHouseModel" "free" "[I") ∈ gtbl := List.mem_filter.mpr ⟨List.mem_append_right _ (List.mem_append_right _ (List.mem_append_right _ (List.mem_append_right _ (List.mem_append_left _ (List.mem_of_getElem? (l := tables_1_4) (i := 84) rfl))))), rfl⟩
set_option maxRecDepth 8000 in
theorem zw_805 : (Cond.soleField "LifeboatHouseModel" "free") ∈ gtbl := List.mem_filter.mpr ⟨List.mem_append_right _ (List.mem_append_right _ (List.mem_append_right _ (List.mem_append_right _ (List.mem_append_left _ (List.mem_of_getElem? (l := tables_1_4) (i := 85) rfl))))), rfl⟩
set_option maxRecDepth 8000 in
theorem zw_806 : (Cond.laysFinal "LifeboatHouseModel" "LifeboatHouseModel" "choice" "[I") ∈ gtbl := List.mem_filter.mpr ⟨List.mem_append_right _ (List.mem_append_right _ (List.mem_append_right _ (List.mem_append_right _ (List.mem_append_left _ (List.mem_of_getElem? (l := tables_1_4) (i := 86) rfl))))), rfl⟩
set_option maxRecDepth 8000 in
theorem zw_807 : (Cond.soleField "LifeboatHouseModel" "choice") ∈ gtbl := List.mem_filter.mpr ⟨List.mem_append_right _ (List.mem_append_right _ (List.mem_append_right _ (List.mem_append_right _ (List.mem_append_left _ (List.mem_of_getElem? (l := tables_1_4) (i := 87) rfl))))), rfl⟩
set_option maxRecDepth 8000 in
theorem zw_808 : (Cond.laysFinal "LifeboatHouseModel" "LifeboatHouseModel" "best" "[I") ∈ gtbl := List.mem_filter.mpr ⟨List.mem_append_right _ (List.mem_append_right _ (List.mem_append_right _ (List.mem_append_right _ (List.mem_append_left _ (List.mem_of_getElem? (l := tables_1_4) (i := 88) rfl))))), rfl⟩
set_option maxRecDepth 8000 in
theorem zw_809 : (Cond.soleField "LifeboatHouseModel" "best") ∈ gtbl := List.mem_filter.mpr ⟨List.mem_append_right _ (List.mem_append_right _ (List.mem_append_right _ (List.mem_append_right _ (List.mem_append_left _ (List.mem_of_getElem? (l := tables_1_4) (i := 89) rfl))))), rfl⟩
set_option maxRecDepth 8000 in
theorem zw_810 : (Cond.lays "LifeboatHouseModel" "LifeboatHouseModel" "helped" "I") ∈ gtbl := List.mem_filter.mpr ⟨List.mem_append_right _ (List.mem_append_right _ (List.mem_append_right _ (List.mem_append_right _ (List.mem_append_left _ (List.mem_of_getElem? (l := tables_1_4) (i := 90) rfl))))), rfl⟩
set_option maxRecDepth 8000 in
theorem zw_811 : (Cond.soleField "LifeboatHouseModel" "helped") ∈ gtbl := List.mem_filter.mpr ⟨List.mem_append_right _ (List.mem_append_right _ (List.mem_append_right _ (List.mem_append_right _ (List.mem_append_left _ (List.mem_of_getElem? (l := tables_1_4) (i := 91) rfl))))), rfl⟩
set_option maxRecDepth 8000 in
theorem zw_812 : (Cond.lays "LifeboatHouseModel" "LifeboatHouseModel" "helpMiles" "I") ∈ gtbl := List.mem_filter.mpr ⟨List.mem_append_right _ (List.mem_append_right _ (List.mem_append_right _ (List.mem_append_right _ (List.mem_append_left _ (List.mem_of_getElem? (l := tables_1_4) (i := 92) rfl))))), rfl⟩
set_option maxRecDepth 8000 in
theorem zw_813 : (Cond.soleField "LifeboatHouseModel" "helpMiles") ∈ gtbl := List.mem_filter.mpr ⟨List.mem_append_right _ (List.mem_append_right _ (List.mem_append_right _ (List.mem_append_right _ (List.mem_append_left _ (List.mem_of_getElem? (l := tables_1_4) (i := 93) rfl))))), rfl⟩
set_option maxRecDepth 8000 in
theorem zw_814 : (Cond.superclass "LifeboatHouseModel" "java/lang/Object") ∈ gtbl := List.mem_filter.mpr ⟨List.mem_append_right _ (List.mem_append_right _ (List.mem_append_right _ (List.mem_append_right _ (List.mem_append_left _ (List.mem_of_getElem? (l := tables_1_4) (i := 94) rfl))))), rfl⟩
set_option maxRecDepth 8000 in
theorem zw_815 : (Cond.methodLink "LifeboatHouseLaw" (17 : Nat) ({ cls := "LifeboatHouseModel", name := "station", desc := "(III)I" } : MethodName)) ∈ gtbl := List.mem_filter.mpr ⟨List.mem_append_right _ (List.mem_append_right _ (List.mem_append_right _ (List.mem_append_right _ (List.mem_append_left _ (List.mem_of_getElem? (l := tables_1_4) (i := 95) rfl))))), rfl⟩
set_option maxRecDepth 8000 in
theorem zw_816 : (Cond.instanceMethod ({ cls := "LifeboatHouseModel", name := "station", desc := "(III)I" } : MethodName)) ∈ gtbl := List.mem_filter.mpr ⟨List.mem_append_right _ (List.mem_append_right _ (List.mem_append_right _ (List.mem_append_right _ (List.mem_append_left _ (List.mem_of_getElem? (l := tables_1_4) (i := 96) rfl))))), rfl⟩
set_option maxRecDepth 8000 in
theorem zw_817 : (Cond.selects "LifeboatHouseModel" ({ cls := "LifeboatHouseModel", name := "station", desc := "(III)I" } : MethodName) ({ cls := "LifeboatHouseModel", name := "station", desc := "(III)I" } : MethodName)) ∈ gtbl := List.mem_filter.mpr ⟨List.mem_append_right _ (List.mem_append_right _ (List.mem_append_right _ (List.mem_append_right _ (List.mem_append_left _ (List.mem_of_getElem? (l := tables_1_4) (i := 97) rfl))))), rfl⟩
set_option maxRecDepth 8000 in
theorem zw_818 : (Cond.code ({ cls := "LifeboatHouseModel", name := "station", desc := "(III)I" } : MethodName) prog_12_method_11_code (5 : Nat) (Option.some FieldType.int)) ∈ gtbl := List.mem_filter.mpr ⟨List.mem_append_right _ (List.mem_append_right _ (List.mem_append_right _ (List.mem_append_right _ (List.mem_append_left _ (List.mem_of_getElem? (l := tables_1_4) (i := 98) rfl))))), rfl⟩
set_option maxRecDepth 8000 in
theorem zw_819 : (Cond.methodLink "LifeboatHouseModel" (129 : Nat) ({ cls := "LifeboatHouseModel", name := "isStation", desc := "(I)Z" } : MethodName)) ∈ gtbl := List.mem_filter.mpr ⟨List.mem_append_right _ (List.mem_append_right _ (List.mem_append_right _ (List.mem_append_right _ (List.mem_append_left _ (List.mem_of_getElem? (l := tables_1_4) (i := 99) rfl))))), rfl⟩
set_option maxRecDepth 8000 in
theorem zw_820 : (Cond.static ({ cls := "LifeboatHouseModel", name := "isStation", desc := "(I)Z" } : MethodName)) ∈ gtbl := List.mem_filter.mpr ⟨List.mem_append_right _ (List.mem_append_right _ (List.mem_append_right _ (List.mem_append_right _ (List.mem_append_left _ (List.mem_of_getElem? (l := tables_1_4) (i := 100) rfl))))), rfl⟩
set_option maxRecDepth 8000 in
theorem zw_821 : (Cond.code ({ cls := "LifeboatHouseModel", name := "isStation", desc := "(I)Z" } : MethodName) prog_12_method_3_code (1 : Nat) (Option.some FieldType.boolean)) ∈ gtbl := List.mem_filter.mpr ⟨List.mem_append_right _ (List.mem_append_right _ (List.mem_append_right _ (List.mem_append_right _ (List.mem_append_left _ (List.mem_of_getElem? (l := tables_1_4) (i := 101) rfl))))), rfl⟩
set_option maxRecDepth 8000 in
theorem zw_822 : (Cond.methodLink "LifeboatHouseModel" (133 : Nat) ({ cls := "LifeboatHouseModel", name := "no", desc := "(I)I" } : MethodName)) ∈ gtbl := List.mem_filter.mpr ⟨List.mem_append_right _ (List.mem_append_right _ (List.mem_append_right _ (List.mem_append_right _ (List.mem_append_left _ (List.mem_of_getElem? (l := tables_1_4) (i := 102) rfl))))), rfl⟩
set_option maxRecDepth 8000 in
theorem zw_823 : (Cond.privateMethod ({ cls := "LifeboatHouseModel", name := "no", desc := "(I)I" } : MethodName)) ∈ lw_tbl := List.mem_append_right _ (List.mem_append_right _ (List.mem_append_right _ (List.mem_append_right _ (List.mem_append_left _ (List.mem_of_getElem? (l := tables_1_4) (i := 103) rfl)))))
set_option maxRecDepth 8000 in
theorem zw_824 : (Cond.instanceMethod ({ cls := "LifeboatHouseModel", name := "no", desc := "(I)I" } : MethodName)) ∈ gtbl := List.mem_filter.mpr ⟨List.mem_append_right _ (List.mem_append_right _ (List.mem_append_right _ (List.mem_append_right _ (List.mem_append_left _ (List.mem_of_getElem? (l := tables_1_4) (i := 104) rfl))))), rfl⟩
set_option maxRecDepth 8000 in
theorem zw_825 : (Cond.code ({ cls := "LifeboatHouseModel", name := "no", desc := "(I)I" } : MethodName) prog_12_method_2_code (2 : Nat) (Option.some FieldType.int)) ∈ gtbl := List.mem_filter.mpr ⟨List.mem_append_right _ (List.mem_append_right _ (List.mem_append_right _ (List.mem_append_right _ (List.mem_append_left _ (List.mem_of_getElem? (l := tables_1_4) (i := 105) rfl))))), rfl⟩
set_option maxRecDepth 8000 in
theorem zw_826 : (Cond.methodLink "LifeboatHouseLaw" (21 : Nat) ({ cls := "LifeboatHouseModel", name := "person", desc := "(III)I" } : MethodName)) ∈ gtbl := List.mem_filter.mpr ⟨List.mem_append_right _ (List.mem_append_right _ (List.mem_append_right _ (List.mem_append_right _ (List.mem_append_left _ (List.mem_of_getElem? (l := tables_1_4) (i := 106) rfl))))), rfl⟩
set_option maxRecDepth 8000 in
theorem zw_827 : (Cond.instanceMethod ({ cls := "LifeboatHouseModel", name := "person", desc := "(III)I" } : MethodName)) ∈ gtbl := List.mem_filter.mpr ⟨List.mem_append_right _ (List.mem_append_right _ (List.mem_append_right _ (List.mem_append_right _ (List.mem_append_left _ (List.mem_of_getElem? (l := tables_1_4) (i := 107) rfl))))), rfl⟩
set_option maxRecDepth 8000 in
theorem zw_828 : (Cond.selects "LifeboatHouseModel" ({ cls := "LifeboatHouseModel", name := "person", desc := "(III)I" } : MethodName) ({ cls := "LifeboatHouseModel", name := "person", desc := "(III)I" } : MethodName)) ∈ gtbl := List.mem_filter.mpr ⟨List.mem_append_right _ (List.mem_append_right _ (List.mem_append_right _ (List.mem_append_right _ (List.mem_append_left _ (List.mem_of_getElem? (l := tables_1_4) (i := 108) rfl))))), rfl⟩
set_option maxRecDepth 8000 in
theorem zw_829 : (Cond.code ({ cls := "LifeboatHouseModel", name := "person", desc := "(III)I" } : MethodName) prog_12_method_12_code (4 : Nat) (Option.some FieldType.int)) ∈ gtbl := List.mem_filter.mpr ⟨List.mem_append_right _ (List.mem_append_right _ (List.mem_append_right _ (List.mem_append_right _ (List.mem_append_left _ (List.mem_of_getElem? (l := tables_1_4) (i := 109) rfl))))), rfl⟩
set_option maxRecDepth 8000 in
theorem zw_830 : (Cond.methodLink "LifeboatHouseLaw" (26 : Nat) ({ cls := "LifeboatHouseModel", name := "papers", desc := "(II)I" } : MethodName)) ∈ gtbl := List.mem_filter.mpr ⟨List.mem_append_right _ (List.mem_append_right _ (List.mem_append_right _ (List.mem_append_right _ (List.mem_append_left _ (List.mem_of_getElem? (l := tables_1_4) (i := 110) rfl))))), rfl⟩
set_option maxRecDepth 8000 in
theorem zw_831 : (Cond.instanceMethod ({ cls := "LifeboatHouseModel", name := "papers", desc := "(II)I" } : MethodName)) ∈ gtbl := List.mem_filter.mpr ⟨List.mem_append_right _ (List.mem_append_right _ (List.mem_append_right _ (List.mem_append_right _ (List.mem_append_left _ (List.mem_of_getElem? (l := tables_1_4) (i := 111) rfl))))), rfl⟩
set_option maxRecDepth 8000 in
theorem zw_832 : (Cond.selects "LifeboatHouseModel" ({ cls := "LifeboatHouseModel", name := "papers", desc := "(II)I" } : MethodName) ({ cls := "LifeboatHouseModel", name := "papers", desc := "(II)I" } : MethodName)) ∈ gtbl := List.mem_filter.mpr ⟨List.mem_append_right _ (List.mem_append_right _ (List.mem_append_right _ (List.mem_append_right _ (List.mem_append_left _ (List.mem_of_getElem? (l := tables_1_4) (i := 112) rfl))))), rfl⟩
set_option maxRecDepth 8000 in
theorem zw_833 : (Cond.code ({ cls := "LifeboatHouseModel", name := "papers", desc := "(II)I" } : MethodName) prog_12_method_13_code (4 : Nat) (Option.some FieldType.int)) ∈ gtbl := List.mem_filter.mpr ⟨List.mem_append_right _ (List.mem_append_right _ (List.mem_append_right _ (List.mem_append_right _ (List.mem_append_left _ (List.mem_of_getElem? (l := tables_1_4) (i := 113) rfl))))), rfl⟩
set_option maxRecDepth 8000 in
theorem zw_834 : (Cond.methodLink "LifeboatHouseModel" (137 : Nat) ({ cls := "LifeboatHouseModel", name := "isPerson", desc := "(I)Z" } : MethodName)) ∈ gtbl := List.mem_filter.mpr ⟨List.mem_append_right _ (List.mem_append_right _ (List.mem_append_right _ (List.mem_append_right _ (List.mem_append_left _ (List.mem_of_getElem? (l := tables_1_4) (i := 114) rfl))))), rfl⟩
set_option maxRecDepth 8000 in
theorem zw_835 : (Cond.privateMethod ({ cls := "LifeboatHouseModel", name := "isPerson", desc := "(I)Z" } : MethodName)) ∈ lw_tbl := List.mem_append_right _ (List.mem_append_right _ (List.mem_append_right _ (List.mem_append_right _ (List.mem_append_left _ (List.mem_of_getElem? (l := tables_1_4) (i := 115) rfl)))))
set_option maxRecDepth 8000 in
theorem zw_836 : (Cond.instanceMethod ({ cls := "LifeboatHouseModel", name := "isPerson", desc := "(I)Z" } : MethodName)) ∈ gtbl := List.mem_filter.mpr ⟨List.mem_append_right _ (List.mem_append_right _ (List.mem_append_right _ (List.mem_append_right _ (List.mem_append_left _ (List.mem_of_getElem? (l := tables_1_4) (i := 116) rfl))))), rfl⟩
set_option maxRecDepth 8000 in
theorem zw_837 : (Cond.code ({ cls := "LifeboatHouseModel", name := "isPerson", desc := "(I)Z" } : MethodName) prog_12_method_4_code (2 : Nat) (Option.some FieldType.boolean)) ∈ gtbl := List.mem_filter.mpr ⟨List.mem_append_right _ (List.mem_append_right _ (List.mem_append_right _ (List.mem_append_right _ (List.mem_append_left _ (List.mem_of_getElem? (l := tables_1_4) (i := 117) rfl))))), rfl⟩
set_option maxRecDepth 8000 in
theorem zw_838 : (Cond.methodLink "LifeboatHouseLaw" (31 : Nat) ({ cls := "LifeboatHouseModel", name := "page", desc := "(IZ)I" } : MethodName)) ∈ gtbl := List.mem_filter.mpr ⟨List.mem_append_right _ (List.mem_append_right _ (List.mem_append_right _ (List.mem_append_right _ (List.mem_append_left _ (List.mem_of_getElem? (l := tables_1_4) (i := 118) rfl))))), rfl⟩
set_option maxRecDepth 8000 in
theorem zw_839 : (Cond.instanceMethod ({ cls := "LifeboatHouseModel", name := "page", desc := "(IZ)I" } : MethodName)) ∈ gtbl := List.mem_filter.mpr ⟨List.mem_append_right _ (List.mem_append_right _ (List.mem_append_right _ (List.mem_append_right _ (List.mem_append_left _ (List.mem_of_getElem? (l := tables_1_4) (i := 119) rfl))))), rfl⟩
set_option maxRecDepth 8000 in
theorem zw_840 : (Cond.selects "LifeboatHouseModel" ({ cls := "LifeboatHouseModel", name := "page", desc := "(IZ)I" } : MethodName) ({ cls := "LifeboatHouseModel", name := "page", desc := "(IZ)I" } : MethodName)) ∈ gtbl := List.mem_filter.mpr ⟨List.mem_append_right _ (List.mem_append_right _ (List.mem_append_right _ (List.mem_append_right _ (List.mem_append_left _ (List.mem_of_getElem? (l := tables_1_4) (i := 120) rfl))))), rfl⟩
set_option maxRecDepth 8000 in
theorem zw_841 : (Cond.code ({ cls := "LifeboatHouseModel", name := "page", desc := "(IZ)I" } : MethodName) prog_12_method_14_code (4 : Nat) (Option.some FieldType.int)) ∈ gtbl := List.mem_filter.mpr ⟨List.mem_append_right _ (List.mem_append_right _ (List.mem_append_right _ (List.mem_append_right _ (List.mem_append_left _ (List.mem_of_getElem? (l := tables_1_4) (i := 121) rfl))))), rfl⟩
set_option maxRecDepth 8000 in
theorem zw_842 : (Cond.methodLink "LifeboatHouseModel" (140 : Nat) ({ cls := "LifeboatHouseModel", name := "band", desc := "()I" } : MethodName)) ∈ gtbl := List.mem_filter.mpr ⟨List.mem_append_right _ (List.mem_append_right _ (List.mem_append_right _ (List.mem_append_right _ (List.mem_append_left _ (List.mem_of_getElem? (l := tables_1_4) (i := 122) rfl))))), rfl⟩
set_option maxRecDepth 8000 in
theorem zw_843 : (Cond.privateMethod ({ cls := "LifeboatHouseModel", name := "band", desc := "()I" } : MethodName)) ∈ lw_tbl := List.mem_append_right _ (List.mem_append_right _ (List.mem_append_right _ (List.mem_append_right _ (List.mem_append_left _ (List.mem_of_getElem? (l := tables_1_4) (i := 123) rfl)))))
set_option maxRecDepth 8000 in
theorem zw_844 : (Cond.instanceMethod ({ cls := "LifeboatHouseModel", name := "band", desc := "()I" } : MethodName)) ∈ gtbl := List.mem_filter.mpr ⟨List.mem_append_right _ (List.mem_append_right _ (List.mem_append_right _ (List.mem_append_right _ (List.mem_append_left _ (List.mem_of_getElem? (l := tables_1_4) (i := 124) rfl))))), rfl⟩
set_option maxRecDepth 8000 in
theorem zw_845 : (Cond.code ({ cls := "LifeboatHouseModel", name := "band", desc := "()I" } : MethodName) prog_12_method_10_code (1 : Nat) (Option.some FieldType.int)) ∈ gtbl := List.mem_filter.mpr ⟨List.mem_append_right _ (List.mem_append_right _ (List.mem_append_right _ (List.mem_append_right _ (List.mem_append_left _ (List.mem_of_getElem? (l := tables_1_4) (i := 125) rfl))))), rfl⟩
set_option maxRecDepth 8000 in
theorem zw_846 : (Cond.methodLink "LifeboatHouseModel" (122 : Nat) ({ cls := "LifeboatHouseModel", name := "hour", desc := "()I" } : MethodName)) ∈ gtbl := List.mem_filter.mpr ⟨List.mem_append_right _ (List.mem_append_right _ (List.mem_append_right _ (List.mem_append_right _ (List.mem_append_left _ (List.mem_of_getElem? (l := tables_1_4) (i := 126) rfl))))), rfl⟩
set_option maxRecDepth 8000 in
theorem zw_847 : (Cond.privateMethod ({ cls := "LifeboatHouseModel", name := "hour", desc := "()I" } : MethodName)) ∈ lw_tbl := List.mem_append_right _ (List.mem_append_right _ (List.mem_append_right _ (List.mem_append_right _ (List.mem_append_left _ (List.mem_of_getElem? (l := tables_1_4) (i := 127) rfl)))))
set_option maxRecDepth 8000 in
theorem zw_848 : (Cond.instanceMethod ({ cls := "LifeboatHouseModel", name := "hour", desc := "()I" } : MethodName)) ∈ gtbl := List.mem_filter.mpr ⟨List.mem_append_right _ (List.mem_append_right _ (List.mem_append_right _ (List.mem_append_right _ (List.mem_append_left _ (List.mem_of_getElem? (l := tables_1_4) (i := 128) rfl))))), rfl⟩
set_option maxRecDepth 8000 in
theorem zw_849 : (Cond.code ({ cls := "LifeboatHouseModel", name := "hour", desc := "()I" } : MethodName) prog_12_method_8_code (1 : Nat) (Option.some FieldType.int)) ∈ gtbl := List.mem_filter.mpr ⟨List.mem_append_right _ (List.mem_append_right _ (List.mem_append_right _ (List.mem_append_right _ (List.mem_append_left _ (List.mem_of_getElem? (l := tables_1_4) (i := 129) rfl))))), rfl⟩
set_option maxRecDepth 8000 in
theorem zw_850 : (Cond.methodLink "LifeboatHouseModel" (126 : Nat) ({ cls := "LifeboatHouseModel", name := "day", desc := "()I" } : MethodName)) ∈ gtbl := List.mem_filter.mpr ⟨List.mem_append_right _ (List.mem_append_right _ (List.mem_append_right _ (List.mem_append_right _ (List.mem_append_left _ (List.mem_of_getElem? (l := tables_1_4) (i := 130) rfl))))), rfl⟩
set_option maxRecDepth 8000 in
theorem zw_851 : (Cond.privateMethod ({ cls := "LifeboatHouseModel", name := "day", desc := "()I" } : MethodName)) ∈ lw_tbl := List.mem_append_right _ (List.mem_append_right _ (List.mem_append_right _ (List.mem_append_right _ (List.mem_append_left _ (List.mem_of_getElem? (l := tables_1_4) (i := 131) rfl)))))
set_option maxRecDepth 8000 in
theorem zw_852 : (Cond.instanceMethod ({ cls := "LifeboatHouseModel", name := "day", desc := "()I" } : MethodName)) ∈ gtbl := List.mem_filter.mpr ⟨List.mem_append_right _ (List.mem_append_right _ (List.mem_append_right _ (List.mem_append_right _ (List.mem_append_left _ (List.mem_of_getElem? (l := tables_1_4) (i := 132) rfl))))), rfl⟩
set_option maxRecDepth 8000 in
theorem zw_853 : (Cond.code ({ cls := "LifeboatHouseModel", name := "day", desc := "()I" } : MethodName) prog_12_method_9_code (1 : Nat) (Option.some FieldType.int)) ∈ gtbl := List.mem_filter.mpr ⟨List.mem_append_right _ (List.mem_append_right _ (List.mem_append_right _ (List.mem_append_right _ (List.mem_append_left _ (List.mem_of_getElem? (l := tables_1_4) (i := 133) rfl))))), rfl⟩
set_option maxRecDepth 8000 in
theorem zw_854 : (Cond.methodLink "LifeboatHouseLaw" (35 : Nat) ({ cls := "LifeboatHouseModel", name := "partOf", desc := "(II)I" } : MethodName)) ∈ gtbl := List.mem_filter.mpr ⟨List.mem_append_right _ (List.mem_append_right _ (List.mem_append_right _ (List.mem_append_right _ (List.mem_append_left _ (List.mem_of_getElem? (l := tables_1_4) (i := 134) rfl))))), rfl⟩
set_option maxRecDepth 8000 in
theorem zw_855 : (Cond.instanceMethod ({ cls := "LifeboatHouseModel", name := "partOf", desc := "(II)I" } : MethodName)) ∈ gtbl := List.mem_filter.mpr ⟨List.mem_append_right _ (List.mem_append_right _ (List.mem_append_right _ (List.mem_append_right _ (List.mem_append_left _ (List.mem_of_getElem? (l := tables_1_4) (i := 135) rfl))))), rfl⟩
set_option maxRecDepth 8000 in
theorem zw_856 : (Cond.selects "LifeboatHouseModel" ({ cls := "LifeboatHouseModel", name := "partOf", desc := "(II)I" } : MethodName) ({ cls := "LifeboatHouseModel", name := "partOf", desc := "(II)I" } : MethodName)) ∈ gtbl := List.mem_filter.mpr ⟨List.mem_append_right _ (List.mem_append_right _ (List.mem_append_right _ (List.mem_append_right _ (List.mem_append_left _ (List.mem_of_getElem? (l := tables_1_4) (i := 136) rfl))))), rfl⟩
set_option maxRecDepth 8000 in
theorem zw_857 : (Cond.code ({ cls := "LifeboatHouseModel", name := "partOf", desc := "(II)I" } : MethodName) prog_12_method_16_code (3 : Nat) (Option.some FieldType.int)) ∈ gtbl := List.mem_filter.mpr ⟨List.mem_append_right _ (List.mem_append_right _ (List.mem_append_right _ (List.mem_append_right _ (List.mem_append_left _ (List.mem_of_getElem? (l := tables_1_4) (i := 137) rfl))))), rfl⟩
set_option maxRecDepth 8000 in
theorem zw_858 : (Cond.methodLink "LifeboatHouseModel" (143 : Nat) ({ cls := "LifeboatHouseModel", name := "isBand", desc := "(I)Z" } : MethodName)) ∈ gtbl := List.mem_filter.mpr ⟨List.mem_append_right _ (List.mem_append_right _ (List.mem_append_right _ (List.mem_append_right _ (List.mem_append_left _ (List.mem_of_getElem? (l := tables_1_4) (i := 138) rfl))))), rfl⟩
set_option maxRecDepth 8000 in
theorem zw_859 : (Cond.static ({ cls := "LifeboatHouseModel", name := "isBand", desc := "(I)Z" } : MethodName)) ∈ gtbl := List.mem_filter.mpr ⟨List.mem_append_right _ (List.mem_append_right _ (List.mem_append_right _ (List.mem_append_right _ (List.mem_append_left _ (List.mem_of_getElem? (l := tables_1_4) (i := 139) rfl))))), rfl⟩
set_option maxRecDepth 8000 in
theorem zw_860 : (Cond.code ({ cls := "LifeboatHouseModel", name := "isBand", desc := "(I)Z" } : MethodName) prog_12_method_5_code (1 : Nat) (Option.some FieldType.boolean)) ∈ gtbl := List.mem_filter.mpr ⟨List.mem_append_right _ (List.mem_append_right _ (List.mem_append_right _ (List.mem_append_right _ (List.mem_append_left _ (List.mem_of_getElem? (l := tables_1_4) (i := 140) rfl))))), rfl⟩
set_option maxRecDepth 8000 in
theorem zw_861 : (Cond.methodLink "LifeboatHouseModel" (146 : Nat) ({ cls := "LifeboatHouseModel", name := "part", desc := "(II)I" } : MethodName)) ∈ gtbl := List.mem_filter.mpr ⟨List.mem_append_right _ (List.mem_append_right _ (List.mem_append_right _ (List.mem_append_right _ (List.mem_append_left _ (List.mem_of_getElem? (l := tables_1_4) (i := 141) rfl))))), rfl⟩
set_option maxRecDepth 8000 in
theorem zw_862 : (Cond.privateMethod ({ cls := "LifeboatHouseModel", name := "part", desc := "(II)I" } : MethodName)) ∈ lw_tbl := List.mem_append_right _ (List.mem_append_right _ (List.mem_append_right _ (List.mem_append_right _ (List.mem_append_left _ (List.mem_of_getElem? (l := tables_1_4) (i := 142) rfl)))))
set_option maxRecDepth 8000 in
theorem zw_863 : (Cond.instanceMethod ({ cls := "LifeboatHouseModel", name := "part", desc := "(II)I" } : MethodName)) ∈ gtbl := List.mem_filter.mpr ⟨List.mem_append_right _ (List.mem_append_right _ (List.mem_append_right _ (List.mem_append_right _ (List.mem_append_left _ (List.mem_of_getElem? (l := tables_1_4) (i := 143) rfl))))), rfl⟩
set_option maxRecDepth 8000 in
theorem zw_864 : (Cond.code ({ cls := "LifeboatHouseModel", name := "part", desc := "(II)I" } : MethodName) prog_12_method_15_code (3 : Nat) (Option.some FieldType.int)) ∈ gtbl := List.mem_filter.mpr ⟨List.mem_append_right _ (List.mem_append_right _ (List.mem_append_right _ (List.mem_append_right _ (List.mem_append_left _ (List.mem_of_getElem? (l := tables_1_4) (i := 144) rfl))))), rfl⟩
set_option maxRecDepth 8000 in
theorem zw_865 : (Cond.methodLink "LifeboatHouseLaw" (39 : Nat) ({ cls := "LifeboatHouseModel", name := "set", desc := "(II)I" } : MethodName)) ∈ gtbl := List.mem_filter.mpr ⟨List.mem_append_right _ (List.mem_append_right _ (List.mem_append_right _ (List.mem_append_right _ (List.mem_append_left _ (List.mem_of_getElem? (l := tables_1_4) (i := 145) rfl))))), rfl⟩
set_option maxRecDepth 8000 in
theorem zw_866 : (Cond.instanceMethod ({ cls := "LifeboatHouseModel", name := "set", desc := "(II)I" } : MethodName)) ∈ gtbl := List.mem_filter.mpr ⟨List.mem_append_right _ (List.mem_append_right _ (List.mem_append_right _ (List.mem_append_right _ (List.mem_append_left _ (List.mem_of_getElem? (l := tables_1_4) (i := 146) rfl))))), rfl⟩
set_option maxRecDepth 8000 in
theorem zw_867 : (Cond.selects "LifeboatHouseModel" ({ cls := "LifeboatHouseModel", name := "set", desc := "(II)I" } : MethodName) ({ cls := "LifeboatHouseModel", name := "set", desc := "(II)I" } : MethodName)) ∈ gtbl := List.mem_filter.mpr ⟨List.mem_append_right _ (List.mem_append_right _ (List.mem_append_right _ (List.mem_append_right _ (List.mem_append_left _ (List.mem_of_getElem? (l := tables_1_4) (i := 147) rfl))))), rfl⟩
set_option maxRecDepth 8000 in
theorem zw_868 : (Cond.code ({ cls := "LifeboatHouseModel", name := "set", desc := "(II)I" } : MethodName) prog_12_method_17_code (4 : Nat) (Option.some FieldType.int)) ∈ gtbl := List.mem_filter.mpr ⟨List.mem_append_right _ (List.mem_append_right _ (List.mem_append_right _ (List.mem_append_right _ (List.mem_append_left _ (List.mem_of_getElem? (l := tables_1_4) (i := 148) rfl))))), rfl⟩
set_option maxRecDepth 8000 in
theorem zw_869 : (Cond.methodLink "LifeboatHouseLaw" (43 : Nat) ({ cls := "LifeboatHouseModel", name := "chance", desc := "(II)I" } : MethodName)) ∈ gtbl := List.mem_filter.mpr ⟨List.mem_append_right _ (List.mem_append_right _ (List.mem_append_right _ (List.mem_append_right _ (List.mem_append_left _ (List.mem_of_getElem? (l := tables_1_4) (i := 149) rfl))))), rfl⟩
set_option maxRecDepth 8000 in
theorem zw_870 : (Cond.instanceMethod ({ cls := "LifeboatHouseModel", name := "chance", desc := "(II)I" } : MethodName)) ∈ gtbl := List.mem_filter.mpr ⟨List.mem_append_right _ (List.mem_append_right _ (List.mem_append_right _ (List.mem_append_right _ (List.mem_append_left _ (List.mem_of_getElem? (l := tables_1_4) (i := 150) rfl))))), rfl⟩
set_option maxRecDepth 8000 in
theorem zw_871 : (Cond.selects "LifeboatHouseModel" ({ cls := "LifeboatHouseModel", name := "chance", desc := "(II)I" } : MethodName) ({ cls := "LifeboatHouseModel", name := "chance", desc := "(II)I" } : MethodName)) ∈ gtbl := List.mem_filter.mpr ⟨List.mem_append_right _ (List.mem_append_right _ (List.mem_append_right _ (List.mem_append_right _ (List.mem_append_left _ (List.mem_of_getElem? (l := tables_1_4) (i := 151) rfl))))), rfl⟩
set_option maxRecDepth 8000 in
theorem zw_872 : (Cond.code ({ cls := "LifeboatHouseModel", name := "chance", desc := "(II)I" } : MethodName) prog_12_method_22_code (3 : Nat) (Option.some FieldType.int)) ∈ gtbl := List.mem_filter.mpr ⟨List.mem_append_right _ (List.mem_append_right _ (List.mem_append_right _ (List.mem_append_right _ (List.mem_append_left _ (List.mem_of_getElem? (l := tables_1_4) (i := 152) rfl))))), rfl⟩
set_option maxRecDepth 8000 in
theorem zw_873 : (Cond.methodLink "LifeboatHouseModel" (160 : Nat) ({ cls := "LifeboatHouseModel", name := "chanceOf", desc := "(II)I" } : MethodName)) ∈ gtbl := List.mem_filter.mpr ⟨List.mem_append_right _ (List.mem_append_right _ (List.mem_append_right _ (List.mem_append_right _ (List.mem_append_left _ (List.mem_of_getElem? (l := tables_1_4) (i := 153) rfl))))), rfl⟩
set_option maxRecDepth 8000 in
theorem zw_874 : (Cond.privateMethod ({ cls := "LifeboatHouseModel", name := "chanceOf", desc := "(II)I" } : MethodName)) ∈ lw_tbl := List.mem_append_right _ (List.mem_append_right _ (List.mem_append_right _ (List.mem_append_right _ (List.mem_append_left _ (List.mem_of_getElem? (l := tables_1_4) (i := 154) rfl)))))
set_option maxRecDepth 8000 in
theorem zw_875 : (Cond.instanceMethod ({ cls := "LifeboatHouseModel", name := "chanceOf", desc := "(II)I" } : MethodName)) ∈ gtbl := List.mem_filter.mpr ⟨List.mem_append_right _ (List.mem_append_right _ (List.mem_append_right _ (List.mem_append_right _ (List.mem_append_left _ (List.mem_of_getElem? (l := tables_1_4) (i := 155) rfl))))), rfl⟩
set_option maxRecDepth 8000 in
theorem zw_876 : (Cond.code ({ cls := "LifeboatHouseModel", name := "chanceOf", desc := "(II)I" } : MethodName) prog_12_method_21_code (7 : Nat) (Option.some FieldType.int)) ∈ gtbl := List.mem_filter.mpr ⟨List.mem_append_right _ (List.mem_append_right _ (List.mem_append_right _ (List.mem_append_right _ (List.mem_append_left _ (List.mem_of_getElem? (l := tables_1_4) (i := 156) rfl))))), rfl⟩
set_option maxRecDepth 8000 in
theorem zw_877 : (Cond.constant "LifeboatHouseModel" (153 : Nat) (1048576 : Int32)) ∈ gtbl := List.mem_filter.mpr ⟨List.mem_append_right _ (List.mem_append_right _ (List.mem_append_right _ (List.mem_append_right _ (List.mem_append_left _ (List.mem_of_getElem? (l := tables_1_4) (i := 157) rfl))))), rfl⟩
set_option maxRecDepth 8000 in
theorem zw_878 : (Cond.methodLink "LifeboatHouseModel" (154 : Nat) ({ cls := "LifeboatHouseModel", name := "comes", desc := "(II)I" } : MethodName)) ∈ gtbl := List.mem_filter.mpr ⟨List.mem_append_right _ (List.mem_append_right _ (List.mem_append_right _ (List.mem_append_right _ (List.mem_append_left _ (List.mem_of_getElem? (l := tables_1_4) (i := 158) rfl))))), rfl⟩
set_option maxRecDepth 8000 in
theorem zw_879 : (Cond.static ({ cls := "LifeboatHouseModel", name := "comes", desc := "(II)I" } : MethodName)) ∈ gtbl := List.mem_filter.mpr ⟨List.mem_append_right _ (List.mem_append_right _ (List.mem_append_right _ (List.mem_append_right _ (List.mem_append_left _ (List.mem_of_getElem? (l := tables_1_4) (i := 159) rfl))))), rfl⟩
set_option maxRecDepth 8000 in
theorem zw_880 : (Cond.code ({ cls := "LifeboatHouseModel", name := "comes", desc := "(II)I" } : MethodName) prog_12_method_19_code (7 : Nat) (Option.some FieldType.int)) ∈ gtbl := List.mem_filter.mpr ⟨List.mem_append_right _ (List.mem_append_right _ (List.mem_append_right _ (List.mem_append_right _ (List.mem_append_left _ (List.mem_of_getElem? (l := tables_1_4) (i := 160) rfl))))), rfl⟩
set_option maxRecDepth 8000 in
theorem zw_881 : (Cond.methodLink "LifeboatHouseModel" (150 : Nat) ({ cls := "LifeboatHouseModel", name := "more", desc := "(II)I" } : MethodName)) ∈ gtbl := List.mem_filter.mpr ⟨List.mem_append_right _ (List.mem_append_right _ (List.mem_append_right _ (List.mem_append_right _ (List.mem_append_left _ (List.mem_of_getElem? (l := tables_1_4) (i := 161) rfl))))), rfl⟩
set_option maxRecDepth 8000 in
theorem zw_882 : (Cond.static ({ cls := "LifeboatHouseModel", name := "more", desc := "(II)I" } : MethodName)) ∈ gtbl := List.mem_filter.mpr ⟨List.mem_append_right _ (List.mem_append_right _ (List.mem_append_right _ (List.mem_append_right _ (List.mem_append_left _ (List.mem_of_getElem? (l := tables_1_4) (i := 162) rfl))))), rfl⟩
set_option maxRecDepth 8000 in
theorem zw_883 : (Cond.code ({ cls := "LifeboatHouseModel", name := "more", desc := "(II)I" } : MethodName) prog_12_method_18_code (2 : Nat) (Option.some FieldType.int)) ∈ gtbl := List.mem_filter.mpr ⟨List.mem_append_right _ (List.mem_append_right _ (List.mem_append_right _ (List.mem_append_right _ (List.mem_append_left _ (List.mem_of_getElem? (l := tables_1_4) (i := 163) rfl))))), rfl⟩
set_option maxRecDepth 8000 in
theorem zw_884 : (Cond.methodLink "LifeboatHouseModel" (157 : Nat) ({ cls := "LifeboatHouseModel", name := "stands", desc := "(I)Z" } : MethodName)) ∈ gtbl := List.mem_filter.mpr ⟨List.mem_append_right _ (List.mem_append_right _ (List.mem_append_right _ (List.mem_append_right _ (List.mem_append_left _ (List.mem_of_getElem? (l := tables_1_4) (i := 164) rfl))))), rfl⟩
set_option maxRecDepth 8000 in
theorem zw_885 : (Cond.privateMethod ({ cls := "LifeboatHouseModel", name := "stands", desc := "(I)Z" } : MethodName)) ∈ lw_tbl := List.mem_append_right _ (List.mem_append_right _ (List.mem_append_right _ (List.mem_append_right _ (List.mem_append_left _ (List.mem_of_getElem? (l := tables_1_4) (i := 165) rfl)))))
set_option maxRecDepth 8000 in
theorem zw_886 : (Cond.instanceMethod ({ cls := "LifeboatHouseModel", name := "stands", desc := "(I)Z" } : MethodName)) ∈ gtbl := List.mem_filter.mpr ⟨List.mem_append_right _ (List.mem_append_right _ (List.mem_append_right _ (List.mem_append_right _ (List.mem_append_left _ (List.mem_of_getElem? (l := tables_1_4) (i := 166) rfl))))), rfl⟩
set_option maxRecDepth 8000 in
theorem zw_887 : (Cond.code ({ cls := "LifeboatHouseModel", name := "stands", desc := "(I)Z" } : MethodName) prog_12_method_20_code (8 : Nat) (Option.some FieldType.boolean)) ∈ gtbl := List.mem_filter.mpr ⟨List.mem_append_right _ (List.mem_append_right _ (List.mem_append_right _ (List.mem_append_right _ (List.mem_append_left _ (List.mem_of_getElem? (l := tables_1_4) (i := 167) rfl))))), rfl⟩
set_option maxRecDepth 8000 in
theorem zw_888 : (Cond.methodLink "LifeboatHouseLaw" (47 : Nat) ({ cls := "LifeboatHouseModel", name := "weak", desc := "(II)I" } : MethodName)) ∈ gtbl := List.mem_filter.mpr ⟨List.mem_append_right _ (List.mem_append_right _ (List.mem_append_right _ (List.mem_append_right _ (List.mem_append_left _ (List.mem_of_getElem? (l := tables_1_4) (i := 168) rfl))))), rfl⟩
set_option maxRecDepth 8000 in
theorem zw_889 : (Cond.instanceMethod ({ cls := "LifeboatHouseModel", name := "weak", desc := "(II)I" } : MethodName)) ∈ gtbl := List.mem_filter.mpr ⟨List.mem_append_right _ (List.mem_append_right _ (List.mem_append_right _ (List.mem_append_right _ (List.mem_append_left _ (List.mem_of_getElem? (l := tables_1_4) (i := 169) rfl))))), rfl⟩
set_option maxRecDepth 8000 in
theorem zw_890 : (Cond.selects "LifeboatHouseModel" ({ cls := "LifeboatHouseModel", name := "weak", desc := "(II)I" } : MethodName) ({ cls := "LifeboatHouseModel", name := "weak", desc := "(II)I" } : MethodName)) ∈ gtbl := List.mem_filter.mpr ⟨List.mem_append_right _ (List.mem_append_right _ (List.mem_append_right _ (List.mem_append_right _ (List.mem_append_left _ (List.mem_of_getElem? (l := tables_1_4) (i := 170) rfl))))), rfl⟩
set_option maxRecDepth 8000 in
theorem zw_891 : (Cond.code ({ cls := "LifeboatHouseModel", name := "weak", desc := "(II)I" } : MethodName) prog_12_method_23_code (5 : Nat) (Option.some FieldType.int)) ∈ gtbl := List.mem_filter.mpr ⟨List.mem_append_right _ (List.mem_append_right _ (List.mem_append_right _ (List.mem_append_right _ (List.mem_append_left _ (List.mem_of_getElem? (l := tables_1_4) (i := 171) rfl))))), rfl⟩
set_option maxRecDepth 8000 in
theorem zw_892 : (Cond.methodLink "LifeboatHouseLaw" (51 : Nat) ({ cls := "LifeboatHouseModel", name := "tide", desc := "(II)I" } : MethodName)) ∈ gtbl := List.mem_filter.mpr ⟨List.mem_append_right _ (List.mem_append_right _ (List.mem_append_right _ (List.mem_append_right _ (List.mem_append_left _ (List.mem_of_getElem? (l := tables_1_4) (i := 172) rfl))))), rfl⟩
set_option maxRecDepth 8000 in
theorem zw_893 : (Cond.instanceMethod ({ cls := "LifeboatHouseModel", name := "tide", desc := "(II)I" } : MethodName)) ∈ gtbl := List.mem_filter.mpr ⟨List.mem_append_right _ (List.mem_append_right _ (List.mem_append_right _ (List.mem_append_right _ (List.mem_append_left _ (List.mem_of_getElem? (l := tables_1_4) (i := 173) rfl))))), rfl⟩
set_option maxRecDepth 8000 in
theorem zw_894 : (Cond.selects "LifeboatHouseModel" ({ cls := "LifeboatHouseModel", name := "tide", desc := "(II)I" } : MethodName) ({ cls := "LifeboatHouseModel", name := "tide", desc := "(II)I" } : MethodName)) ∈ gtbl := List.mem_filter.mpr ⟨List.mem_append_right _ (List.mem_append_right _ (List.mem_append_right _ (List.mem_append_right _ (List.mem_append_left _ (List.mem_of_getElem? (l := tables_1_4) (i := 174) rfl))))), rfl⟩
set_option maxRecDepth 8000 in
theorem zw_895 : (Cond.code ({ cls := "LifeboatHouseModel", name := "tide", desc := "(II)I" } : MethodName) prog_12_method_24_code (3 : Nat) (Option.some FieldType.int)) ∈ gtbl := List.mem_filter.mpr ⟨List.mem_append_right _ (List.mem_append_right _ (List.mem_append_right _ (List.mem_append_right _ (List.mem_append_left _ (List.mem_of_getElem? (l := tables_1_4) (i := 175) rfl))))), rfl⟩
set_option maxRecDepth 8000 in
theorem zw_896 : (Cond.methodLink "LifeboatHouseLaw" (55 : Nat) ({ cls := "LifeboatHouseModel", name := "slip", desc := "(II)I" } : MethodName)) ∈ gtbl := List.mem_filter.mpr ⟨List.mem_append_right _ (List.mem_append_right _ (List.mem_append_right _ (List.mem_append_right _ (List.mem_append_left _ (List.mem_of_getElem? (l := tables_1_4) (i := 176) rfl))))), rfl⟩
set_option maxRecDepth 8000 in
theorem zw_897 : (Cond.instanceMethod ({ cls := "LifeboatHouseModel", name := "slip", desc := "(II)I" } : MethodName)) ∈ gtbl := List.mem_filter.mpr ⟨List.mem_append_right _ (List.mem_append_right _ (List.mem_append_right _ (List.mem_append_right _ (List.mem_append_left _ (List.mem_of_getElem? (l := tables_1_4) (i := 177) rfl))))), rfl⟩
set_option maxRecDepth 8000 in
theorem zw_898 : (Cond.selects "LifeboatHouseModel" ({ cls := "LifeboatHouseModel", name := "slip", desc := "(II)I" } : MethodName) ({ cls := "LifeboatHouseModel", name := "slip", desc := "(II)I" } : MethodName)) ∈ gtbl := List.mem_filter.mpr ⟨List.mem_append_right _ (List.mem_append_right _ (List.mem_append_right _ (List.mem_append_right _ (List.mem_append_left _ (List.mem_of_getElem? (l := tables_1_4) (i := 178) rfl))))), rfl⟩
set_option maxRecDepth 8000 in
theorem zw_899 : (Cond.code ({ cls := "LifeboatHouseModel", name := "slip", desc := "(II)I" } : MethodName) prog_12_method_27_code (3 : Nat) (Option.some FieldType.int)) ∈ gtbl := List.mem_filter.mpr ⟨List.mem_append_right _ (List.mem_append_right _ (List.mem_append_right _ (List.mem_append_right _ (List.mem_append_left _ (List.mem_of_getElem? (l := tables_1_4) (i := 179) rfl))))), rfl⟩
set_option maxRecDepth 8000 in
theorem zw_900 : (Cond.methodLink "LifeboatHouseModel" (166 : Nat) ({ cls := "LifeboatHouseModel", name := "isOpen", desc := "(II)Z" } : MethodName)) ∈ gtbl := List.mem_filter.mpr ⟨List.mem_append_right _ (List.mem_append_right _ (List.mem_append_right _ (List.mem_append_right _ (List.mem_append_left _ (List.mem_of_getElem? (l := tables_1_4) (i := 180) rfl))))), rfl⟩
set_option maxRecDepth 8000 in
theorem zw_901 : (Cond.privateMethod ({ cls := "LifeboatHouseModel", name := "isOpen", desc := "(II)Z" } : MethodName)) ∈ lw_tbl := List.mem_append_right _ (List.mem_append_right _ (List.mem_append_right _ (List.mem_append_right _ (List.mem_append_left _ (List.mem_of_getElem? (l := tables_1_4) (i := 181) rfl)))))
set_option maxRecDepth 8000 in
theorem zw_902 : (Cond.instanceMethod ({ cls := "LifeboatHouseModel", name := "isOpen", desc := "(II)Z" } : MethodName)) ∈ gtbl := List.mem_filter.mpr ⟨List.mem_append_right _ (List.mem_append_right _ (List.mem_append_right _ (List.mem_append_right _ (List.mem_append_left _ (List.mem_of_getElem? (l := tables_1_4) (i := 182) rfl))))), rfl⟩
set_option maxRecDepth 8000 in
theorem zw_903 : (Cond.code ({ cls := "LifeboatHouseModel", name := "isOpen", desc := "(II)Z" } : MethodName) prog_12_method_26_code (3 : Nat) (Option.some FieldType.boolean)) ∈ gtbl := List.mem_filter.mpr ⟨List.mem_append_right _ (List.mem_append_right _ (List.mem_append_right _ (List.mem_append_right _ (List.mem_append_left _ (List.mem_of_getElem? (l := tables_1_4) (i := 183) rfl))))), rfl⟩
set_option maxRecDepth 8000 in
theorem zw_904 : (Cond.methodLink "LifeboatHouseModel" (163 : Nat) ({ cls := "LifeboatHouseModel", name := "highOf", desc := "(I)I" } : MethodName)) ∈ gtbl := List.mem_filter.mpr ⟨List.mem_append_right _ (List.mem_append_right _ (List.mem_append_right _ (List.mem_append_right _ (List.mem_append_left _ (List.mem_of_getElem? (l := tables_1_4) (i := 184) rfl))))), rfl⟩
set_option maxRecDepth 8000 in
theorem zw_905 : (Cond.privateMethod ({ cls := "LifeboatHouseModel", name := "highOf", desc := "(I)I" } : MethodName)) ∈ lw_tbl := List.mem_append_right _ (List.mem_append_right _ (List.mem_append_right _ (List.mem_append_right _ (List.mem_append_left _ (List.mem_of_getElem? (l := tables_1_4) (i := 185) rfl)))))
set_option maxRecDepth 8000 in
theorem zw_906 : (Cond.instanceMethod ({ cls := "LifeboatHouseModel", name := "highOf", desc := "(I)I" } : MethodName)) ∈ gtbl := List.mem_filter.mpr ⟨List.mem_append_right _ (List.mem_append_right _ (List.mem_append_right _ (List.mem_append_right _ (List.mem_append_left _ (List.mem_of_getElem? (l := tables_1_4) (i := 186) rfl))))), rfl⟩
set_option maxRecDepth 8000 in
theorem zw_907 : (Cond.code ({ cls := "LifeboatHouseModel", name := "highOf", desc := "(I)I" } : MethodName) prog_12_method_25_code (5 : Nat) (Option.some FieldType.int)) ∈ gtbl := List.mem_filter.mpr ⟨List.mem_append_right _ (List.mem_append_right _ (List.mem_append_right _ (List.mem_append_right _ (List.mem_append_left _ (List.mem_of_getElem? (l := tables_1_4) (i := 187) rfl))))), rfl⟩
set_option maxRecDepth 8000 in
theorem zw_908 : (Cond.methodLink "LifeboatHouseLaw" (60 : Nat) ({ cls := "LifeboatHouseModel", name := "minutes", desc := "(I)I" } : MethodName)) ∈ gtbl := List.mem_filter.mpr ⟨List.mem_append_right _ (List.mem_append_right _ (List.mem_append_right _ (List.mem_append_right _ (List.mem_append_left _ (List.mem_of_getElem? (l := tables_1_4) (i := 188) rfl))))), rfl⟩
set_option maxRecDepth 8000 in
theorem zw_909 : (Cond.instanceMethod ({ cls := "LifeboatHouseModel", name := "minutes", desc := "(I)I" } : MethodName)) ∈ gtbl := List.mem_filter.mpr ⟨List.mem_append_right _ (List.mem_append_right _ (List.mem_append_right _ (List.mem_append_right _ (List.mem_append_left _ (List.mem_of_getElem? (l := tables_1_4) (i := 189) rfl))))), rfl⟩
set_option maxRecDepth 8000 in
theorem zw_910 : (Cond.selects "LifeboatHouseModel" ({ cls := "LifeboatHouseModel", name := "minutes", desc := "(I)I" } : MethodName) ({ cls := "LifeboatHouseModel", name := "minutes", desc := "(I)I" } : MethodName)) ∈ gtbl := List.mem_filter.mpr ⟨List.mem_append_right _ (List.mem_append_right _ (List.mem_append_right _ (List.mem_append_right _ (List.mem_append_left _ (List.mem_of_getElem? (l := tables_1_4) (i := 190) rfl))))), rfl⟩
set_option maxRecDepth 8000 in
theorem zw_911 : (Cond.code ({ cls := "LifeboatHouseModel", name := "minutes", desc := "(I)I" } : MethodName) prog_12_method_28_code (2 : Nat) (Option.some FieldType.int)) ∈ gtbl := List.mem_filter.mpr ⟨List.mem_append_right _ (List.mem_append_right _ (List.mem_append_right _ (List.mem_append_right _ (List.mem_append_left _ (List.mem_of_getElem? (l := tables_1_4) (i := 191) rfl))))), rfl⟩
set_option maxRecDepth 8000 in
theorem zw_912 : (Cond.constant "LifeboatHouseModel" (170 : Nat) (200000 : Int32)) ∈ gtbl := List.mem_filter.mpr ⟨List.mem_append_right _ (List.mem_append_right _ (List.mem_append_right _ (List.mem_append_right _ (List.mem_append_left _ (List.mem_of_getElem? (l := tables_1_4) (i := 192) rfl))))), rfl⟩
set_option maxRecDepth 8000 in
theorem zw_913 : (Cond.methodLink "LifeboatHouseLaw" (64 : Nat) ({ cls := "LifeboatHouseModel", name := "boat", desc := "(II)I" } : MethodName)) ∈ gtbl := List.mem_filter.mpr ⟨List.mem_append_right _ (List.mem_append_right _ (List.mem_append_right _ (List.mem_append_right _ (List.mem_append_left _ (List.mem_of_getElem? (l := tables_1_4) (i := 193) rfl))))), rfl⟩
set_option maxRecDepth 8000 in
theorem zw_914 : (Cond.instanceMethod ({ cls := "LifeboatHouseModel", name := "boat", desc := "(II)I" } : MethodName)) ∈ gtbl := List.mem_filter.mpr ⟨List.mem_append_right _ (List.mem_append_right _ (List.mem_append_right _ (List.mem_append_right _ (List.mem_append_left _ (List.mem_of_getElem? (l := tables_1_4) (i := 194) rfl))))), rfl⟩
set_option maxRecDepth 8000 in
theorem zw_915 : (Cond.selects "LifeboatHouseModel" ({ cls := "LifeboatHouseModel", name := "boat", desc := "(II)I" } : MethodName) ({ cls := "LifeboatHouseModel", name := "boat", desc := "(II)I" } : MethodName)) ∈ gtbl := List.mem_filter.mpr ⟨List.mem_append_right _ (List.mem_append_right _ (List.mem_append_right _ (List.mem_append_right _ (List.mem_append_left _ (List.mem_of_getElem? (l := tables_1_4) (i := 195) rfl))))), rfl⟩
set_option maxRecDepth 8000 in
theorem zw_916 : (Cond.code ({ cls := "LifeboatHouseModel", name := "boat", desc := "(II)I" } : MethodName) prog_12_method_29_code (3 : Nat) (Option.some FieldType.int)) ∈ gtbl := List.mem_filter.mpr ⟨List.mem_append_right _ (List.mem_append_right _ (List.mem_append_right _ (List.mem_append_right _ (List.mem_append_left _ (List.mem_of_getElem? (l := tables_1_4) (i := 196) rfl))))), rfl⟩
set_option maxRecDepth 8000 in
theorem zw_917 : (Cond.methodLink "LifeboatHouseLaw" (68 : Nat) ({ cls := "LifeboatHouseModel", name := "speed", desc := "(III)I" } : MethodName)) ∈ gtbl := List.mem_filter.mpr ⟨List.mem_append_right _ (List.mem_append_right _ (List.mem_append_right _ (List.mem_append_right _ (List.mem_append_left _ (List.mem_of_getElem? (l := tables_1_4) (i := 197) rfl))))), rfl⟩
set_option maxRecDepth 8000 in
theorem zw_918 : (Cond.instanceMethod ({ cls := "LifeboatHouseModel", name := "speed", desc := "(III)I" } : MethodName)) ∈ gtbl := List.mem_filter.mpr ⟨List.mem_append_right _ (List.mem_append_right _ (List.mem_append_right _ (List.mem_append_right _ (List.mem_append_left _ (List.mem_of_getElem? (l := tables_1_4) (i := 198) rfl))))), rfl⟩
set_option maxRecDepth 8000 in
theorem zw_919 : (Cond.selects "LifeboatHouseModel" ({ cls := "LifeboatHouseModel", name := "speed", desc := "(III)I" } : MethodName) ({ cls := "LifeboatHouseModel", name := "speed", desc := "(III)I" } : MethodName)) ∈ gtbl := List.mem_filter.mpr ⟨List.mem_append_right _ (List.mem_append_right _ (List.mem_append_right _ (List.mem_append_right _ (List.mem_append_left _ (List.mem_of_getElem? (l := tables_1_4) (i := 199) rfl))))), rfl⟩
set_option maxRecDepth 8000 in
theorem zw_920 : (Cond.code ({ cls := "LifeboatHouseModel", name := "speed", desc := "(III)I" } : MethodName) prog_12_method_30_code (5 : Nat) (Option.some FieldType.int)) ∈ gtbl := List.mem_filter.mpr ⟨List.mem_append_right _ (List.mem_append_right _ (List.mem_append_right _ (List.mem_append_right _ (List.mem_append_left _ (List.mem_of_getElem? (l := tables_1_4) (i := 200) rfl))))), rfl⟩
set_option maxRecDepth 8000 in
theorem zw_921 : (Cond.methodLink "LifeboatHouseModel" (171 : Nat) ({ cls := "LifeboatHouseModel", name := "isBoat", desc := "(I)Z" } : MethodName)) ∈ gtbl := List.mem_filter.mpr ⟨List.mem_append_right _ (List.mem_append_right _ (List.mem_append_right _ (List.mem_append_right _ (List.mem_append_left _ (List.mem_of_getElem? (l := tables_1_4) (i := 201) rfl))))), rfl⟩
set_option maxRecDepth 8000 in
theorem zw_922 : (Cond.privateMethod ({ cls := "LifeboatHouseModel", name := "isBoat", desc := "(I)Z" } : MethodName)) ∈ lw_tbl := List.mem_append_right _ (List.mem_append_right _ (List.mem_append_right _ (List.mem_append_right _ (List.mem_append_left _ (List.mem_of_getElem? (l := tables_1_4) (i := 202) rfl)))))
set_option maxRecDepth 8000 in
theorem zw_923 : (Cond.instanceMethod ({ cls := "LifeboatHouseModel", name := "isBoat", desc := "(I)Z" } : MethodName)) ∈ gtbl := List.mem_filter.mpr ⟨List.mem_append_right _ (List.mem_append_right _ (List.mem_append_right _ (List.mem_append_right _ (List.mem_append_left _ (List.mem_of_getElem? (l := tables_1_4) (i := 203) rfl))))), rfl⟩
set_option maxRecDepth 8000 in
theorem zw_924 : (Cond.code ({ cls := "LifeboatHouseModel", name := "isBoat", desc := "(I)Z" } : MethodName) prog_12_method_6_code (2 : Nat) (Option.some FieldType.boolean)) ∈ gtbl := List.mem_filter.mpr ⟨List.mem_append_right _ (List.mem_append_right _ (List.mem_append_right _ (List.mem_append_right _ (List.mem_append_left _ (List.mem_of_getElem? (l := tables_1_4) (i := 204) rfl))))), rfl⟩
set_option maxRecDepth 8000 in
theorem zw_925 : (Cond.methodLink "LifeboatHouseLaw" (72 : Nat) ({ cls := "LifeboatHouseModel", name := "move", desc := "(II)I" } : MethodName)) ∈ gtbl := List.mem_filter.mpr ⟨List.mem_append_right _ (List.mem_append_right _ (List.mem_append_right _ (List.mem_append_right _ (List.mem_append_left _ (List.mem_of_getElem? (l := tables_1_4) (i := 205) rfl))))), rfl⟩
set_option maxRecDepth 8000 in
theorem zw_926 : (Cond.instanceMethod ({ cls := "LifeboatHouseModel", name := "move", desc := "(II)I" } : MethodName)) ∈ gtbl := List.mem_filter.mpr ⟨List.mem_append_right _ (List.mem_append_right _ (List.mem_append_right _ (List.mem_append_right _ (List.mem_append_left _ (List.mem_of_getElem? (l := tables_1_4) (i := 206) rfl))))), rfl⟩
set_option maxRecDepth 8000 in
theorem zw_927 : (Cond.selects "LifeboatHouseModel" ({ cls := "LifeboatHouseModel", name := "move", desc := "(II)I" } : MethodName) ({ cls := "LifeboatHouseModel", name := "move", desc := "(II)I" } : MethodName)) ∈ gtbl := List.mem_filter.mpr ⟨List.mem_append_right _ (List.mem_append_right _ (List.mem_append_right _ (List.mem_append_right _ (List.mem_append_left _ (List.mem_of_getElem? (l := tables_1_4) (i := 207) rfl))))), rfl⟩
set_option maxRecDepth 8000 in
theorem zw_928 : (Cond.code ({ cls := "LifeboatHouseModel", name := "move", desc := "(II)I" } : MethodName) prog_12_method_32_code (4 : Nat) (Option.some FieldType.int)) ∈ gtbl := List.mem_filter.mpr ⟨List.mem_append_right _ (List.mem_append_right _ (List.mem_append_right _ (List.mem_append_right _ (List.mem_append_left _ (List.mem_of_getElem? (l := tables_1_4) (i := 208) rfl))))), rfl⟩
set_option maxRecDepth 8000 in
theorem zw_929 : (Cond.methodLink "LifeboatHouseModel" (174 : Nat) ({ cls := "LifeboatHouseModel", name := "isAway", desc := "(I)Z" } : MethodName)) ∈ gtbl := List.mem_filter.mpr ⟨List.mem_append_right _ (List.mem_append_right _ (List.mem_append_right _ (List.mem_append_right _ (List.mem_append_left _ (List.mem_of_getElem? (l := tables_1_4) (i := 209) rfl))))), rfl⟩
set_option maxRecDepth 8000 in
theorem zw_930 : (Cond.privateMethod ({ cls := "LifeboatHouseModel", name := "isAway", desc := "(I)Z" } : MethodName)) ∈ lw_tbl := List.mem_append_right _ (List.mem_append_right _ (List.mem_append_right _ (List.mem_append_right _ (List.mem_append_left _ (List.mem_of_getElem? (l := tables_1_4) (i := 210) rfl)))))
set_option maxRecDepth 8000 in
theorem zw_931 : (Cond.instanceMethod ({ cls := "LifeboatHouseModel", name := "isAway", desc := "(I)Z" } : MethodName)) ∈ gtbl := List.mem_filter.mpr ⟨List.mem_append_right _ (List.mem_append_right _ (List.mem_append_right _ (List.mem_append_right _ (List.mem_append_left _ (List.mem_of_getElem? (l := tables_1_4) (i := 211) rfl))))), rfl⟩
set_option maxRecDepth 8000 in
theorem zw_932 : (Cond.code ({ cls := "LifeboatHouseModel", name := "isAway", desc := "(I)Z" } : MethodName) prog_12_method_31_code (2 : Nat) (Option.some FieldType.boolean)) ∈ gtbl := List.mem_filter.mpr ⟨List.mem_append_right _ (List.mem_append_right _ (List.mem_append_right _ (List.mem_append_right _ (List.mem_append_left _ (List.mem_of_getElem? (l := tables_1_4) (i := 212) rfl))))), rfl⟩
set_option maxRecDepth 8000 in
theorem zw_933 : (Cond.methodLink "LifeboatHouseLaw" (76 : Nat) ({ cls := "LifeboatHouseModel", name := "call", desc := "(III)I" } : MethodName)) ∈ gtbl := List.mem_filter.mpr ⟨List.mem_append_right _ (List.mem_append_right _ (List.mem_append_right _ (List.mem_append_right _ (List.mem_append_left _ (List.mem_of_getElem? (l := tables_1_4) (i := 213) rfl))))), rfl⟩
set_option maxRecDepth 8000 in
theorem zw_934 : (Cond.instanceMethod ({ cls := "LifeboatHouseModel", name := "call", desc := "(III)I" } : MethodName)) ∈ gtbl := List.mem_filter.mpr ⟨List.mem_append_right _ (List.mem_append_right _ (List.mem_append_right _ (List.mem_append_right _ (List.mem_append_left _ (List.mem_of_getElem? (l := tables_1_4) (i := 214) rfl))))), rfl⟩
set_option maxRecDepth 8000 in
theorem zw_935 : (Cond.selects "LifeboatHouseModel" ({ cls := "LifeboatHouseModel", name := "call", desc := "(III)I" } : MethodName) ({ cls := "LifeboatHouseModel", name := "call", desc := "(III)I" } : MethodName)) ∈ gtbl := List.mem_filter.mpr ⟨List.mem_append_right _ (List.mem_append_right _ (List.mem_append_right _ (List.mem_append_right _ (List.mem_append_left _ (List.mem_of_getElem? (l := tables_1_4) (i := 215) rfl))))), rfl⟩
set_option maxRecDepth 8000 in
theorem zw_936 : (Cond.code ({ cls := "LifeboatHouseModel", name := "call", desc := "(III)I" } : MethodName) prog_12_method_33_code (4 : Nat) (Option.some FieldType.int)) ∈ gtbl := List.mem_filter.mpr ⟨List.mem_append_right _ (List.mem_append_right _ (List.mem_append_right _ (List.mem_append_right _ (List.mem_append_left _ (List.mem_of_getElem? (l := tables_1_4) (i := 216) rfl))))), rfl⟩
set_option maxRecDepth 8000 in
theorem zw_937 : (Cond.methodLink "LifeboatHouseLaw" (80 : Nat) ({ cls := "LifeboatHouseModel", name := "reach", desc := "(III)I" } : MethodName)) ∈ gtbl := List.mem_filter.mpr ⟨List.mem_append_right _ (List.mem_append_right _ (List.mem_append_right _ (List.mem_append_right _ (List.mem_append_left _ (List.mem_of_getElem? (l := tables_1_4) (i := 217) rfl))))), rfl⟩
set_option maxRecDepth 8000 in
theorem zw_938 : (Cond.instanceMethod ({ cls := "LifeboatHouseModel", name := "reach", desc := "(III)I" } : MethodName)) ∈ gtbl := List.mem_filter.mpr ⟨List.mem_append_right _ (List.mem_append_right _ (List.mem_append_right _ (List.mem_append_right _ (List.mem_append_left _ (List.mem_of_getElem? (l := tables_1_4) (i := 218) rfl))))), rfl⟩
set_option maxRecDepth 8000 in
theorem zw_939 : (Cond.selects "LifeboatHouseModel" ({ cls := "LifeboatHouseModel", name := "reach", desc := "(III)I" } : MethodName) ({ cls := "LifeboatHouseModel", name := "reach", desc := "(III)I" } : MethodName)) ∈ gtbl := List.mem_filter.mpr ⟨List.mem_append_right _ (List.mem_append_right _ (List.mem_append_right _ (List.mem_append_right _ (List.mem_append_left _ (List.mem_of_getElem? (l := tables_1_4) (i := 219) rfl))))), rfl⟩
set_option maxRecDepth 8000 in
theorem zw_940 : (Cond.code ({ cls := "LifeboatHouseModel", name := "reach", desc := "(III)I" } : MethodName) prog_12_method_41_code (4 : Nat) (Option.some FieldType.int)) ∈ gtbl := List.mem_filter.mpr ⟨List.mem_append_right _ (List.mem_append_right _ (List.mem_append_right _ (List.mem_append_right _ (List.mem_append_left _ (List.mem_of_getElem? (l := tables_1_4) (i := 220) rfl))))), rfl⟩
set_option maxRecDepth 8000 in
theorem zw_941 : (Cond.methodLink "LifeboatHouseModel" (195 : Nat) ({ cls := "LifeboatHouseModel", name := "isCall", desc := "(I)Z" } : MethodName)) ∈ gtbl := List.mem_filter.mpr ⟨List.mem_append_right _ (List.mem_append_right _ (List.mem_append_right _ (List.mem_append_right _ (List.mem_append_left _ (List.mem_of_getElem? (l := tables_1_4) (i := 221) rfl))))), rfl⟩
set_option maxRecDepth 8000 in
theorem zw_942 : (Cond.privateMethod ({ cls := "LifeboatHouseModel", name := "isCall", desc := "(I)Z" } : MethodName)) ∈ lw_tbl := List.mem_append_right _ (List.mem_append_right _ (List.mem_append_right _ (List.mem_append_right _ (List.mem_append_left _ (List.mem_of_getElem? (l := tables_1_4) (i := 222) rfl)))))
set_option maxRecDepth 8000 in
theorem zw_943 : (Cond.instanceMethod ({ cls := "LifeboatHouseModel", name := "isCall", desc := "(I)Z" } : MethodName)) ∈ gtbl := List.mem_filter.mpr ⟨List.mem_append_right _ (List.mem_append_right _ (List.mem_append_right _ (List.mem_append_right _ (List.mem_append_left _ (List.mem_of_getElem? (l := tables_1_4) (i := 223) rfl))))), rfl⟩
set_option maxRecDepth 8000 in
theorem zw_944 : (Cond.code ({ cls := "LifeboatHouseModel", name := "isCall", desc := "(I)Z" } : MethodName) prog_12_method_7_code (2 : Nat) (Option.some FieldType.boolean)) ∈ gtbl := List.mem_filter.mpr ⟨List.mem_append_right _ (List.mem_append_right _ (List.mem_append_right _ (List.mem_append_right _ (List.mem_append_left _ (List.mem_of_getElem? (l := tables_1_4) (i := 224) rfl))))), rfl⟩
set_option maxRecDepth 8000 in
theorem zw_945 : (Cond.methodLink "LifeboatHouseModel" (189 : Nat) ({ cls := "LifeboatHouseModel", name := "can", desc := "(II)Z" } : MethodName)) ∈ gtbl := List.mem_filter.mpr ⟨List.mem_append_right _ (List.mem_append_right _ (List.mem_append_right _ (List.mem_append_right _ (List.mem_append_left _ (List.mem_of_getElem? (l := tables_1_4) (i := 225) rfl))))), rfl⟩
set_option maxRecDepth 8000 in
theorem zw_946 : (Cond.privateMethod ({ cls := "LifeboatHouseModel", name := "can", desc := "(II)Z" } : MethodName)) ∈ lw_tbl := List.mem_append_right _ (List.mem_append_right _ (List.mem_append_right _ (List.mem_append_right _ (List.mem_append_left _ (List.mem_of_getElem? (l := tables_1_4) (i := 226) rfl)))))
set_option maxRecDepth 8000 in
theorem zw_947 : (Cond.instanceMethod ({ cls := "LifeboatHouseModel", name := "can", desc := "(II)Z" } : MethodName)) ∈ gtbl := List.mem_filter.mpr ⟨List.mem_append_right _ (List.mem_append_right _ (List.mem_append_right _ (List.mem_append_right _ (List.mem_append_left _ (List.mem_of_getElem? (l := tables_1_4) (i := 227) rfl))))), rfl⟩
set_option maxRecDepth 8000 in
theorem zw_948 : (Cond.code ({ cls := "LifeboatHouseModel", name := "can", desc := "(II)Z" } : MethodName) prog_12_method_38_code (4 : Nat) (Option.some FieldType.boolean)) ∈ gtbl := List.mem_filter.mpr ⟨List.mem_append_right _ (List.mem_append_right _ (List.mem_append_right _ (List.mem_append_right _ (List.mem_append_left _ (List.mem_of_getElem? (l := tables_1_4) (i := 228) rfl))))), rfl⟩
set_option maxRecDepth 8000 in
theorem zw_949 : (Cond.methodLink "LifeboatHouseModel" (180 : Nat) ({ cls := "LifeboatHouseModel", name := "speedFor", desc := "(II)I" } : MethodName)) ∈ gtbl := List.mem_filter.mpr ⟨List.mem_append_right _ (List.mem_append_right _ (List.mem_append_right _ (List.mem_append_right _ (List.mem_append_left _ (List.mem_of_getElem? (l := tables_1_4) (i := 229) rfl))))), rfl⟩
set_option maxRecDepth 8000 in
theorem zw_950 : (Cond.privateMethod ({ cls := "LifeboatHouseModel", name := "speedFor", desc := "(II)I" } : MethodName)) ∈ lw_tbl := List.mem_append_right _ (List.mem_append_right _ (List.mem_append_right _ (List.mem_append_right _ (List.mem_append_left _ (List.mem_of_getElem? (l := tables_1_4) (i := 230) rfl)))))
set_option maxRecDepth 8000 in
theorem zw_951 : (Cond.instanceMethod ({ cls := "LifeboatHouseModel", name := "speedFor", desc := "(II)I" } : MethodName)) ∈ gtbl := List.mem_filter.mpr ⟨List.mem_append_right _ (List.mem_append_right _ (List.mem_append_right _ (List.mem_append_right _ (List.mem_append_left _ (List.mem_of_getElem? (l := tables_1_4) (i := 231) rfl))))), rfl⟩
set_option maxRecDepth 8000 in
theorem zw_952 : (Cond.code ({ cls := "LifeboatHouseModel", name := "speedFor", desc := "(II)I" } : MethodName) prog_12_method_37_code (3 : Nat) (Option.some FieldType.int)) ∈ gtbl := List.mem_filter.mpr ⟨List.mem_append_right _ (List.mem_append_right _ (List.mem_append_right _ (List.mem_append_right _ (List.mem_append_left _ (List.mem_of_getElem? (l := tables_1_4) (i := 232) rfl))))), rfl⟩
set_option maxRecDepth 8000 in
theorem zw_953 : (Cond.methodLink "LifeboatHouseModel" (183 : Nat) ({ cls := "LifeboatHouseModel", name := "way", desc := "(II)I" } : MethodName)) ∈ gtbl := List.mem_filter.mpr ⟨List.mem_append_right _ (List.mem_append_right _ (List.mem_append_right _ (List.mem_append_right _ (List.mem_append_left _ (List.mem_of_getElem? (l := tables_1_4) (i := 233) rfl))))), rfl⟩
set_option maxRecDepth 8000 in
theorem zw_954 : (Cond.privateMethod ({ cls := "LifeboatHouseModel", name := "way", desc := "(II)I" } : MethodName)) ∈ lw_tbl := List.mem_append_right _ (List.mem_append_right _ (List.mem_append_right _ (List.mem_append_right _ (List.mem_append_left _ (List.mem_of_getElem? (l := tables_1_4) (i := 234) rfl)))))
set_option maxRecDepth 8000 in
theorem zw_955 : (Cond.instanceMethod ({ cls := "LifeboatHouseModel", name := "way", desc := "(II)I" } : MethodName)) ∈ gtbl := List.mem_filter.mpr ⟨List.mem_append_right _ (List.mem_append_right _ (List.mem_append_right _ (List.mem_append_right _ (List.mem_append_left _ (List.mem_of_getElem? (l := tables_1_4) (i := 235) rfl))))), rfl⟩
set_option maxRecDepth 8000 in
theorem zw_956 : (Cond.code ({ cls := "LifeboatHouseModel", name := "way", desc := "(II)I" } : MethodName) prog_12_method_36_code (3 : Nat) (Option.some FieldType.int)) ∈ gtbl := List.mem_filter.mpr ⟨List.mem_append_right _ (List.mem_append_right _ (List.mem_append_right _ (List.mem_append_right _ (List.mem_append_left _ (List.mem_of_getElem? (l := tables_1_4) (i := 236) rfl))))), rfl⟩
set_option maxRecDepth 8000 in
theorem zw_957 : (Cond.methodLink "LifeboatHouseModel" (177 : Nat) ({ cls := "LifeboatHouseModel", name := "size", desc := "(I)I" } : MethodName)) ∈ gtbl := List.mem_filter.mpr ⟨List.mem_append_right _ (List.mem_append_right _ (List.mem_append_right _ (List.mem_append_right _ (List.mem_append_left _ (List.mem_of_getElem? (l := tables_1_4) (i := 237) rfl))))), rfl⟩
set_option maxRecDepth 8000 in
theorem zw_958 : (Cond.static ({ cls := "LifeboatHouseModel", name := "size", desc := "(I)I" } : MethodName)) ∈ gtbl := List.mem_filter.mpr ⟨List.mem_append_right _ (List.mem_append_right _ (List.mem_append_right _ (List.mem_append_right _ (List.mem_append_left _ (List.mem_of_getElem? (l := tables_1_4) (i := 238) rfl))))), rfl⟩
set_option maxRecDepth 8000 in
theorem zw_959 : (Cond.code ({ cls := "LifeboatHouseModel", name := "size", desc := "(I)I" } : MethodName) prog_12_method_34_code (1 : Nat) (Option.some FieldType.int)) ∈ gtbl := List.mem_filter.mpr ⟨List.mem_append_right _ (List.mem_append_right _ (List.mem_append_right _ (List.mem_append_right _ (List.mem_append_left _ (List.mem_of_getElem? (l := tables_1_4) (i := 239) rfl))))), rfl⟩
set_option maxRecDepth 8000 in
theorem zw_960 : (Cond.methodLink "LifeboatHouseModel" (186 : Nat) ({ cls := "LifeboatHouseModel", name := "up", desc := "(II)I" } : MethodName)) ∈ gtbl := List.mem_filter.mpr ⟨List.mem_append_right _ (List.mem_append_right _ (List.mem_append_right _ (List.mem_append_right _ (List.mem_append_right _ (List.mem_of_getElem? (l := tables_1_5) (i := 0) rfl))))), rfl⟩
set_option maxRecDepth 8000 in
theorem zw_961 : (Cond.static ({ cls := "LifeboatHouseModel", name := "up", desc := "(II)I" } : MethodName)) ∈ gtbl := List.mem_filter.mpr ⟨List.mem_append_right _ (List.mem_append_right _ (List.mem_append_right _ (List.mem_append_right _ (List.mem_append_right _ (List.mem_of_getElem? (l := tables_1_5) (i := 1) rfl))))), rfl⟩
set_option maxRecDepth 8000 in
theorem zw_962 : (Cond.code ({ cls := "LifeboatHouseModel", name := "up", desc := "(II)I" } : MethodName) prog_12_method_35_code (2 : Nat) (Option.some FieldType.int)) ∈ gtbl := List.mem_filter.mpr ⟨List.mem_append_right _ (List.mem_append_right _ (List.mem_append_right _ (List.mem_append_right _ (List.mem_append_right _ (List.mem_of_getElem? (l := tables_1_5) (i := 2) rfl))))), rfl⟩
set_option maxRecDepth 8000 in
theorem zw_963 : (Cond.methodLink "LifeboatHouseModel" (198 : Nat) ({ cls := "LifeboatHouseModel", name := "reached", desc := "(II)I" } : MethodName)) ∈ gtbl := List.mem_filter.mpr ⟨List.mem_append_right _ (List.mem_append_right _ (List.mem_append_right _ (List.mem_append_right _ (List.mem_append_right _ (List.mem_of_getElem? (l := tables_1_5) (i := 3) rfl))))), rfl⟩
set_option maxRecDepth 8000 in
theorem zw_964 : (Cond.privateMethod ({ cls := "LifeboatHouseModel", name := "reached", desc := "(II)I" } : MethodName)) ∈ lw_tbl := List.mem_append_right _ (List.mem_append_right _ (List.mem_append_right _ (List.mem_append_right _ (List.mem_append_right _ (List.mem_of_getElem? (l := tables_1_5) (i := 4) rfl)))))
set_option maxRecDepth 8000 in
theorem zw_965 : (Cond.instanceMethod ({ cls := "LifeboatHouseModel", name := "reached", desc := "(II)I" } : MethodName)) ∈ gtbl := List.mem_filter.mpr ⟨List.mem_append_right _ (List.mem_append_right _ (List.mem_append_right _ (List.mem_append_right _ (List.mem_append_right _ (List.mem_of_getElem? (l := tables_1_5) (i := 5) rfl))))), rfl⟩
set_option maxRecDepth 8000 in
theorem zw_966 : (Cond.code ({ cls := "LifeboatHouseModel", name := "reached", desc := "(II)I" } : MethodName) prog_12_method_40_code (4 : Nat) (Option.some FieldType.int)) ∈ gtbl := List.mem_filter.mpr ⟨List.mem_append_right _ (List.mem_append_right _ (List.mem_append_right _ (List.mem_append_right _ (List.mem_append_right _ (List.mem_of_getElem? (l := tables_1_5) (i := 6) rfl))))), rfl⟩
set_option maxRecDepth 8000 in
theorem zw_967 : (Cond.methodLink "LifeboatHouseModel" (192 : Nat) ({ cls := "LifeboatHouseModel", name := "launch", desc := "(I)I" } : MethodName)) ∈ gtbl := List.mem_filter.mpr ⟨List.mem_append_right _ (List.mem_append_right _ (List.mem_append_right _ (List.mem_append_right _ (List.mem_append_right _ (List.mem_of_getElem? (l := tables_1_5) (i := 7) rfl))))), rfl⟩
set_option maxRecDepth 8000 in
theorem zw_968 : (Cond.privateMethod ({ cls := "LifeboatHouseModel", name := "launch", desc := "(I)I" } : MethodName)) ∈ lw_tbl := List.mem_append_right _ (List.mem_append_right _ (List.mem_append_right _ (List.mem_append_right _ (List.mem_append_right _ (List.mem_of_getElem? (l := tables_1_5) (i := 8) rfl)))))
set_option maxRecDepth 8000 in
theorem zw_969 : (Cond.instanceMethod ({ cls := "LifeboatHouseModel", name := "launch", desc := "(I)I" } : MethodName)) ∈ gtbl := List.mem_filter.mpr ⟨List.mem_append_right _ (List.mem_append_right _ (List.mem_append_right _ (List.mem_append_right _ (List.mem_append_right _ (List.mem_of_getElem? (l := tables_1_5) (i := 9) rfl))))), rfl⟩
set_option maxRecDepth 8000 in
theorem zw_970 : (Cond.code ({ cls := "LifeboatHouseModel", name := "launch", desc := "(I)I" } : MethodName) prog_12_method_39_code (5 : Nat) (Option.some FieldType.int)) ∈ gtbl := List.mem_filter.mpr ⟨List.mem_append_right _ (List.mem_append_right _ (List.mem_append_right _ (List.mem_append_right _ (List.mem_append_right _ (List.mem_of_getElem? (l := tables_1_5) (i := 10) rfl))))), rfl⟩
set_option maxRecDepth 8000 in
theorem zw_971 : (Cond.methodLink "LifeboatHouseLaw" (84 : Nat) ({ cls := "LifeboatHouseModel", name := "first", desc := "(I)I" } : MethodName)) ∈ gtbl := List.mem_filter.mpr ⟨List.mem_append_right _ (List.mem_append_right _ (List.mem_append_right _ (List.mem_append_right _ (List.mem_append_right _ (List.mem_of_getElem? (l := tables_1_5) (i := 11) rfl))))), rfl⟩
set_option maxRecDepth 8000 in
theorem zw_972 : (Cond.instanceMethod ({ cls := "LifeboatHouseModel", name := "first", desc := "(I)I" } : MethodName)) ∈ gtbl := List.mem_filter.mpr ⟨List.mem_append_right _ (List.mem_append_right _ (List.mem_append_right _ (List.mem_append_right _ (List.mem_append_right _ (List.mem_of_getElem? (l := tables_1_5) (i := 12) rfl))))), rfl⟩
set_option maxRecDepth 8000 in
theorem zw_973 : (Cond.selects "LifeboatHouseModel" ({ cls := "LifeboatHouseModel", name := "first", desc := "(I)I" } : MethodName) ({ cls := "LifeboatHouseModel", name := "first", desc := "(I)I" } : MethodName)) ∈ gtbl := List.mem_filter.mpr ⟨List.mem_append_right _ (List.mem_append_right _ (List.mem_append_right _ (List.mem_append_right _ (List.mem_append_right _ (List.mem_of_getElem? (l := tables_1_5) (i := 13) rfl))))), rfl⟩
set_option maxRecDepth 8000 in
theorem zw_974 : (Cond.code ({ cls := "LifeboatHouseModel", name := "first", desc := "(I)I" } : MethodName) prog_12_method_42_code (5 : Nat) (Option.some FieldType.int)) ∈ gtbl := List.mem_filter.mpr ⟨List.mem_append_right _ (List.mem_append_right _ (List.mem_append_right _ (List.mem_append_right _ (List.mem_append_right _ (List.mem_of_getElem? (l := tables_1_5) (i := 14) rfl))))), rfl⟩
set_option maxRecDepth 8000 in
theorem zw_975 : (Cond.methodLink "LifeboatHouseLaw" (88 : Nat) ({ cls := "LifeboatHouseModel", name := "two", desc := "(III)I" } : MethodName)) ∈ gtbl := List.mem_filter.mpr ⟨List.mem_append_right _ (List.mem_append_right _ (List.mem_append_right _ (List.mem_append_right _ (List.mem_append_right _ (List.mem_of_getElem? (l := tables_1_5) (i := 15) rfl))))), rfl⟩
set_option maxRecDepth 8000 in
theorem zw_976 : (Cond.instanceMethod ({ cls := "LifeboatHouseModel", name := "two", desc := "(III)I" } : MethodName)) ∈ gtbl := List.mem_filter.mpr ⟨List.mem_append_right _ (List.mem_append_right _ (List.mem_append_right _ (List.mem_append_right _ (List.mem_append_right _ (List.mem_of_getElem? (l := tables_1_5) (i := 16) rfl))))), rfl⟩
set_option maxRecDepth 8000 in
theorem zw_977 : (Cond.selects "LifeboatHouseModel" ({ cls := "LifeboatHouseModel", name := "two", desc := "(III)I" } : MethodName) ({ cls := "LifeboatHouseModel", name := "two", desc := "(III)I" } : MethodName)) ∈ gtbl := List.mem_filter.mpr ⟨List.mem_append_right _ (List.mem_append_right _ (List.mem_append_right _ (List.mem_append_right _ (List.mem_append_right _ (List.mem_of_getElem? (l := tables_1_5) (i := 17) rfl))))), rfl⟩
set_option maxRecDepth 8000 in
theorem zw_978 : (Cond.code ({ cls := "LifeboatHouseModel", name := "two", desc := "(III)I" } : MethodName) prog_12_method_43_code (13 : Nat) (Option.some FieldType.int)) ∈ gtbl := List.mem_filter.mpr ⟨List.mem_append_right _ (List.mem_append_right _ (List.mem_append_right _ (List.mem_append_right _ (List.mem_append_right _ (List.mem_of_getElem? (l := tables_1_5) (i := 18) rfl))))), rfl⟩
set_option maxRecDepth 8000 in
theorem zw_979 : (Cond.methodLink "LifeboatHouseLaw" (93 : Nat) ({ cls := "LifeboatHouseModel", name := "send", desc := "(IIIZ)I" } : MethodName)) ∈ gtbl := List.mem_filter.mpr ⟨List.mem_append_right _ (List.mem_append_right _ (List.mem_append_right _ (List.mem_append_right _ (List.mem_append_right _ (List.mem_of_getElem? (l := tables_1_5) (i := 19) rfl))))), rfl⟩
set_option maxRecDepth 8000 in
theorem zw_980 : (Cond.instanceMethod ({ cls := "LifeboatHouseModel", name := "send", desc := "(IIIZ)I" } : MethodName)) ∈ gtbl := List.mem_filter.mpr ⟨List.mem_append_right _ (List.mem_append_right _ (List.mem_append_right _ (List.mem_append_right _ (List.mem_append_right _ (List.mem_of_getElem? (l := tables_1_5) (i := 20) rfl))))), rfl⟩
set_option maxRecDepth 8000 in
theorem zw_981 : (Cond.selects "LifeboatHouseModel" ({ cls := "LifeboatHouseModel", name := "send", desc := "(IIIZ)I" } : MethodName) ({ cls := "LifeboatHouseModel", name := "send", desc := "(IIIZ)I" } : MethodName)) ∈ gtbl := List.mem_filter.mpr ⟨List.mem_append_right _ (List.mem_append_right _ (List.mem_append_right _ (List.mem_append_right _ (List.mem_append_right _ (List.mem_of_getElem? (l := tables_1_5) (i := 21) rfl))))), rfl⟩
set_option maxRecDepth 8000 in
theorem zw_982 : (Cond.code ({ cls := "LifeboatHouseModel", name := "send", desc := "(IIIZ)I" } : MethodName) prog_12_method_44_code (8 : Nat) (Option.some FieldType.int)) ∈ gtbl := List.mem_filter.mpr ⟨List.mem_append_right _ (List.mem_append_right _ (List.mem_append_right _ (List.mem_append_right _ (List.mem_append_right _ (List.mem_of_getElem? (l := tables_1_5) (i := 22) rfl))))), rfl⟩
set_option maxRecDepth 8000 in
theorem zw_983 : (Cond.methodLink "LifeboatHouseLaw" (97 : Nat) ({ cls := "LifeboatHouseModel", name := "log", desc := "(II)I" } : MethodName)) ∈ gtbl := List.mem_filter.mpr ⟨List.mem_append_right _ (List.mem_append_right _ (List.mem_append_right _ (List.mem_append_right _ (List.mem_append_right _ (List.mem_of_getElem? (l := tables_1_5) (i := 23) rfl))))), rfl⟩
set_option maxRecDepth 8000 in
theorem zw_984 : (Cond.instanceMethod ({ cls := "LifeboatHouseModel", name := "log", desc := "(II)I" } : MethodName)) ∈ gtbl := List.mem_filter.mpr ⟨List.mem_append_right _ (List.mem_append_right _ (List.mem_append_right _ (List.mem_append_right _ (List.mem_append_right _ (List.mem_of_getElem? (l := tables_1_5) (i := 24) rfl))))), rfl⟩
set_option maxRecDepth 8000 in
theorem zw_985 : (Cond.selects "LifeboatHouseModel" ({ cls := "LifeboatHouseModel", name := "log", desc := "(II)I" } : MethodName) ({ cls := "LifeboatHouseModel", name := "log", desc := "(II)I" } : MethodName)) ∈ gtbl := List.mem_filter.mpr ⟨List.mem_append_right _ (List.mem_append_right _ (List.mem_append_right _ (List.mem_append_right _ (List.mem_append_right _ (List.mem_of_getElem? (l := tables_1_5) (i := 25) rfl))))), rfl⟩
set_option maxRecDepth 8000 in
theorem zw_986 : (Cond.code ({ cls := "LifeboatHouseModel", name := "log", desc := "(II)I" } : MethodName) prog_12_method_45_code (3 : Nat) (Option.some FieldType.int)) ∈ gtbl := List.mem_filter.mpr ⟨List.mem_append_right _ (List.mem_append_right _ (List.mem_append_right _ (List.mem_append_right _ (List.mem_append_right _ (List.mem_of_getElem? (l := tables_1_5) (i := 26) rfl))))), rfl⟩
set_option maxRecDepth 8000 in
theorem zw_987 : (Cond.methodLink "LifeboatHouseLaw" (101 : Nat) ({ cls := "LifeboatHouseModel", name := "covered", desc := "(I)I" } : MethodName)) ∈ gtbl := List.mem_filter.mpr ⟨List.mem_append_right _ (List.mem_append_right _ (List.mem_append_right _ (List.mem_append_right _ (List.mem_append_right _ (List.mem_of_getElem? (l := tables_1_5) (i := 27) rfl))))), rfl⟩
set_option maxRecDepth 8000 in
theorem zw_988 : (Cond.instanceMethod ({ cls := "LifeboatHouseModel", name := "covered", desc := "(I)I" } : MethodName)) ∈ gtbl := List.mem_filter.mpr ⟨List.mem_append_right _ (List.mem_append_right _ (List.mem_append_right _ (List.mem_append_right _ (List.mem_append_right _ (List.mem_of_getElem? (l := tables_1_5) (i := 28) rfl))))), rfl⟩
set_option maxRecDepth 8000 in
theorem zw_989 : (Cond.selects "LifeboatHouseModel" ({ cls := "LifeboatHouseModel", name := "covered", desc := "(I)I" } : MethodName) ({ cls := "LifeboatHouseModel", name := "covered", desc := "(I)I" } : MethodName)) ∈ gtbl := List.mem_filter.mpr ⟨List.mem_append_right _ (List.mem_append_right _ (List.mem_append_right _ (List.mem_append_right _ (List.mem_append_right _ (List.mem_of_getElem? (l := tables_1_5) (i := 29) rfl))))), rfl⟩
set_option maxRecDepth 8000 in
theorem zw_990 : (Cond.code ({ cls := "LifeboatHouseModel", name := "covered", desc := "(I)I" } : MethodName) prog_12_method_47_code (2 : Nat) (Option.some FieldType.int)) ∈ gtbl := List.mem_filter.mpr ⟨List.mem_append_right _ (List.mem_append_right _ (List.mem_append_right _ (List.mem_append_right _ (List.mem_append_right _ (List.mem_of_getElem? (l := tables_1_5) (i := 30) rfl))))), rfl⟩
set_option maxRecDepth 8000 in
theorem zw_991 : (Cond.methodLink "LifeboatHouseModel" (204 : Nat) ({ cls := "LifeboatHouseModel", name := "standing", desc := "(I)I" } : MethodName)) ∈ gtbl := List.mem_filter.mpr ⟨List.mem_append_right _ (List.mem_append_right _ (List.mem_append_right _ (List.mem_append_right _ (List.mem_append_right _ (List.mem_of_getElem? (l := tables_1_5) (i := 31) rfl))))), rfl⟩
set_option maxRecDepth 8000 in
theorem zw_992 : (Cond.privateMethod ({ cls := "LifeboatHouseModel", name := "standing", desc := "(I)I" } : MethodName)) ∈ lw_tbl := List.mem_append_right _ (List.mem_append_right _ (List.mem_append_right _ (List.mem_append_right _ (List.mem_append_right _ (List.mem_of_getElem? (l := tables_1_5) (i := 32) rfl)))))
set_option maxRecDepth 8000 in
theorem zw_993 : (Cond.instanceMethod ({ cls := "LifeboatHouseModel", name := "standing", desc := "(I)I" } : MethodName)) ∈ gtbl := List.mem_filter.mpr ⟨List.mem_append_right _ (List.mem_append_right _ (List.mem_append_right _ (List.mem_append_right _ (List.mem_append_right _ (List.mem_of_getElem? (l := tables_1_5) (i := 33) rfl))))), rfl⟩
set_option maxRecDepth 8000 in
theorem zw_994 : (Cond.code ({ cls := "LifeboatHouseModel", name := "standing", desc := "(I)I" } : MethodName) prog_12_method_46_code (4 : Nat) (Option.some FieldType.int)) ∈ gtbl := List.mem_filter.mpr ⟨List.mem_append_right _ (List.mem_append_right _ (List.mem_append_right _ (List.mem_append_right _ (List.mem_append_right _ (List.mem_of_getElem? (l := tables_1_5) (i := 34) rfl))))), rfl⟩
set_option maxRecDepth 8000 in
theorem zw_995 : (Cond.methodLink "LifeboatHouseLaw" (105 : Nat) ({ cls := "LifeboatHouseModel", name := "flanks", desc := "(I)I" } : MethodName)) ∈ gtbl := List.mem_filter.mpr ⟨List.mem_append_right _ (List.mem_append_right _ (List.mem_append_right _ (List.mem_append_right _ (List.mem_append_right _ (List.mem_of_getElem? (l := tables_1_5) (i := 35) rfl))))), rfl⟩
set_option maxRecDepth 8000 in
theorem zw_996 : (Cond.instanceMethod ({ cls := "LifeboatHouseModel", name := "flanks", desc := "(I)I" } : MethodName)) ∈ gtbl := List.mem_filter.mpr ⟨List.mem_append_right _ (List.mem_append_right _ (List.mem_append_right _ (List.mem_append_right _ (List.mem_append_right _ (List.mem_of_getElem? (l := tables_1_5) (i := 36) rfl))))), rfl⟩
set_option maxRecDepth 8000 in
theorem zw_997 : (Cond.selects "LifeboatHouseModel" ({ cls := "LifeboatHouseModel", name := "flanks", desc := "(I)I" } : MethodName) ({ cls := "LifeboatHouseModel", name := "flanks", desc := "(I)I" } : MethodName)) ∈ gtbl := List.mem_filter.mpr ⟨List.mem_append_right _ (List.mem_append_right _ (List.mem_append_right _ (List.mem_append_right _ (List.mem_append_right _ (List.mem_of_getElem? (l := tables_1_5) (i := 37) rfl))))), rfl⟩
set_option maxRecDepth 8000 in
theorem zw_998 : (Cond.code ({ cls := "LifeboatHouseModel", name := "flanks", desc := "(I)I" } : MethodName) prog_12_method_49_code (2 : Nat) (Option.some FieldType.int)) ∈ gtbl := List.mem_filter.mpr ⟨List.mem_append_right _ (List.mem_append_right _ (List.mem_append_right _ (List.mem_append_right _ (List.mem_append_right _ (List.mem_of_getElem? (l := tables_1_5) (i := 38) rfl))))), rfl⟩
set_option maxRecDepth 8000 in
theorem zw_999 : (Cond.methodLink "LifeboatHouseModel" (213 : Nat) ({ cls := "LifeboatHouseModel", name := "helps", desc := "()V" } : MethodName)) ∈ gtbl := List.mem_filter.mpr ⟨List.mem_append_right _ (List.mem_append_right _ (List.mem_append_right _ (List.mem_append_right _ (List.mem_append_right _ (List.mem_of_getElem? (l := tables_1_5) (i := 39) rfl))))), rfl⟩
set_option maxRecDepth 8000 in
theorem zw_1000 : (Cond.privateMethod ({ cls := "LifeboatHouseModel", name := "helps", desc := "()V" } : MethodName)) ∈ lw_tbl := List.mem_append_right _ (List.mem_append_right _ (List.mem_append_right _ (List.mem_append_right _ (List.mem_append_right _ (List.mem_of_getElem? (l := tables_1_5) (i := 40) rfl)))))
set_option maxRecDepth 8000 in
theorem zw_1001 : (Cond.instanceMethod ({ cls := "LifeboatHouseModel", name := "helps", desc := "()V" } : MethodName)) ∈ gtbl := List.mem_filter.mpr ⟨List.mem_append_right _ (List.mem_append_right _ (List.mem_append_right _ (List.mem_append_right _ (List.mem_append_right _ (List.mem_of_getElem? (l := tables_1_5) (i := 41) rfl))))), rfl⟩
set_option maxRecDepth 8000 in
theorem zw_1002 : (Cond.code ({ cls := "LifeboatHouseModel", name := "helps", desc := "()V" } : MethodName) prog_12_method_48_code (11 : Nat) (Option.none : Option FieldType)) ∈ gtbl := List.mem_filter.mpr ⟨List.mem_append_right _ (List.mem_append_right _ (List.mem_append_right _ (List.mem_append_right _ (List.mem_append_right _ (List.mem_of_getElem? (l := tables_1_5) (i := 42) rfl))))), rfl⟩
set_option maxRecDepth 8000 in
theorem zw_1003 : (Cond.methodLink "LifeboatHouseLaw" (109 : Nat) ({ cls := "LifeboatHouseModel", name := "flank", desc := "(I)I" } : MethodName)) ∈ gtbl := List.mem_filter.mpr ⟨List.mem_append_right _ (List.mem_append_right _ (List.mem_append_right _ (List.mem_append_right _ (List.mem_append_right _ (List.mem_of_getElem? (l := tables_1_5) (i := 43) rfl))))), rfl⟩
set_option maxRecDepth 8000 in
theorem zw_1004 : (Cond.instanceMethod ({ cls := "LifeboatHouseModel", name := "flank", desc := "(I)I" } : MethodName)) ∈ gtbl := List.mem_filter.mpr ⟨List.mem_append_right _ (List.mem_append_right _ (List.mem_append_right _ (List.mem_append_right _ (List.mem_append_right _ (List.mem_of_getElem? (l := tables_1_5) (i := 44) rfl))))), rfl⟩
set_option maxRecDepth 8000 in
theorem zw_1005 : (Cond.selects "LifeboatHouseModel" ({ cls := "LifeboatHouseModel", name := "flank", desc := "(I)I" } : MethodName) ({ cls := "LifeboatHouseModel", name := "flank", desc := "(I)I" } : MethodName)) ∈ gtbl := List.mem_filter.mpr ⟨List.mem_append_right _ (List.mem_append_right _ (List.mem_append_right _ (List.mem_append_right _ (List.mem_append_right _ (List.mem_of_getElem? (l := tables_1_5) (i := 45) rfl))))), rfl⟩
set_option maxRecDepth 8000 in
theorem zw_1006 : (Cond.code ({ cls := "LifeboatHouseModel", name := "flank", desc := "(I)I" } : MethodName) prog_12_method_50_code (2 : Nat) (Option.some FieldType.int)) ∈ gtbl := List.mem_filter.mpr ⟨List.mem_append_right _ (List.mem_append_right _ (List.mem_append_right _ (List.mem_append_right _ (List.mem_append_right _ (List.mem_of_getElem? (l := tables_1_5) (i := 46) rfl))))), rfl⟩
set_option maxRecDepth 8000 in
theorem zw_1007 : (Cond.methodLink "LifeboatHouseLaw" (113 : Nat) ({ cls := "LifeboatHouseModel", name := "box", desc := "(II)I" } : MethodName)) ∈ gtbl := List.mem_filter.mpr ⟨List.mem_append_right _ (List.mem_append_right _ (List.mem_append_right _ (List.mem_append_right _ (List.mem_append_right _ (List.mem_of_getElem? (l := tables_1_5) (i := 47) rfl))))), rfl⟩
set_option maxRecDepth 8000 in
theorem zw_1008 : (Cond.instanceMethod ({ cls := "LifeboatHouseModel", name := "box", desc := "(II)I" } : MethodName)) ∈ gtbl := List.mem_filter.mpr ⟨List.mem_append_right _ (List.mem_append_right _ (List.mem_append_right _ (List.mem_append_right _ (List.mem_append_right _ (List.mem_of_getElem? (l := tables_1_5) (i := 48) rfl))))), rfl⟩
set_option maxRecDepth 8000 in
theorem zw_1009 : (Cond.selects "LifeboatHouseModel" ({ cls := "LifeboatHouseModel", name := "box", desc := "(II)I" } : MethodName) ({ cls := "LifeboatHouseModel", name := "box", desc := "(II)I" } : MethodName)) ∈ gtbl := List.mem_filter.mpr ⟨List.mem_append_right _ (List.mem_append_right _ (List.mem_append_right _ (List.mem_append_right _ (List.mem_append_right _ (List.mem_of_getElem? (l := tables_1_5) (i := 49) rfl))))), rfl⟩
set_option maxRecDepth 8000 in
theorem zw_1010 : (Cond.code ({ cls := "LifeboatHouseModel", name := "box", desc := "(II)I" } : MethodName) prog_12_method_52_code (4 : Nat) (Option.some FieldType.int)) ∈ gtbl := List.mem_filter.mpr ⟨List.mem_append_right _ (List.mem_append_right _ (List.mem_append_right _ (List.mem_append_right _ (List.mem_append_right _ (List.mem_of_getElem? (l := tables_1_5) (i := 50) rfl))))), rfl⟩
set_option maxRecDepth 8000 in
theorem zw_1011 : (Cond.methodLink "LifeboatHouseModel" (216 : Nat) ({ cls := "LifeboatHouseModel", name := "isBox", desc := "(I)Z" } : MethodName)) ∈ gtbl := List.mem_filter.mpr ⟨List.mem_append_right _ (List.mem_append_right _ (List.mem_append_right _ (List.mem_append_right _ (List.mem_append_right _ (List.mem_of_getElem? (l := tables_1_5) (i := 51) rfl))))), rfl⟩
set_option maxRecDepth 8000 in
theorem zw_1012 : (Cond.static ({ cls := "LifeboatHouseModel", name := "isBox", desc := "(I)Z" } : MethodName)) ∈ gtbl := List.mem_filter.mpr ⟨List.mem_append_right _ (List.mem_append_right _ (List.mem_append_right _ (List.mem_append_right _ (List.mem_append_right _ (List.mem_of_getElem? (l := tables_1_5) (i := 52) rfl))))), rfl⟩
set_option maxRecDepth 8000 in
theorem zw_1013 : (Cond.code ({ cls := "LifeboatHouseModel", name := "isBox", desc := "(I)Z" } : MethodName) prog_12_method_51_code (1 : Nat) (Option.some FieldType.boolean)) ∈ gtbl := List.mem_filter.mpr ⟨List.mem_append_right _ (List.mem_append_right _ (List.mem_append_right _ (List.mem_append_right _ (List.mem_append_right _ (List.mem_of_getElem? (l := tables_1_5) (i := 53) rfl))))), rfl⟩
set_option maxRecDepth 8000 in
theorem zw_1014 : (Cond.methodLink "LifeboatHouseLaw" (117 : Nat) ({ cls := "LifeboatHouseModel", name := "look", desc := "(II)I" } : MethodName)) ∈ gtbl := List.mem_filter.mpr ⟨List.mem_append_right _ (List.mem_append_right _ (List.mem_append_right _ (List.mem_append_right _ (List.mem_append_right _ (List.mem_of_getElem? (l := tables_1_5) (i := 54) rfl))))), rfl⟩
set_option maxRecDepth 8000 in
theorem zw_1015 : (Cond.instanceMethod ({ cls := "LifeboatHouseModel", name := "look", desc := "(II)I" } : MethodName)) ∈ gtbl := List.mem_filter.mpr ⟨List.mem_append_right _ (List.mem_append_right _ (List.mem_append_right _ (List.mem_append_right _ (List.mem_append_right _ (List.mem_of_getElem? (l := tables_1_5) (i := 55) rfl))))), rfl⟩
set_option maxRecDepth 8000 in
theorem zw_1016 : (Cond.selects "LifeboatHouseModel" ({ cls := "LifeboatHouseModel", name := "look", desc := "(II)I" } : MethodName) ({ cls := "LifeboatHouseModel", name := "look", desc := "(II)I" } : MethodName)) ∈ gtbl := List.mem_filter.mpr ⟨List.mem_append_right _ (List.mem_append_right _ (List.mem_append_right _ (List.mem_append_right _ (List.mem_append_right _ (List.mem_of_getElem? (l := tables_1_5) (i := 56) rfl))))), rfl⟩
set_option maxRecDepth 8000 in
theorem zw_1017 : (Cond.code ({ cls := "LifeboatHouseModel", name := "look", desc := "(II)I" } : MethodName) prog_12_method_53_code (3 : Nat) (Option.some FieldType.int)) ∈ gtbl := List.mem_filter.mpr ⟨List.mem_append_right _ (List.mem_append_right _ (List.mem_append_right _ (List.mem_append_right _ (List.mem_append_right _ (List.mem_of_getElem? (l := tables_1_5) (i := 57) rfl))))), rfl⟩
set_option maxRecDepth 8000 in
theorem zw_1018 : (Cond.methodLink "LifeboatHouseLaw" (121 : Nat) ({ cls := "LifeboatHouseModel", name := "looks", desc := "(II)I" } : MethodName)) ∈ gtbl := List.mem_filter.mpr ⟨List.mem_append_right _ (List.mem_append_right _ (List.mem_append_right _ (List.mem_append_right _ (List.mem_append_right _ (List.mem_of_getElem? (l := tables_1_5) (i := 58) rfl))))), rfl⟩
set_option maxRecDepth 8000 in
theorem zw_1019 : (Cond.instanceMethod ({ cls := "LifeboatHouseModel", name := "looks", desc := "(II)I" } : MethodName)) ∈ gtbl := List.mem_filter.mpr ⟨List.mem_append_right _ (List.mem_append_right _ (List.mem_append_right _ (List.mem_append_right _ (List.mem_append_right _ (List.mem_of_getElem? (l := tables_1_5) (i := 59) rfl))))), rfl⟩
set_option maxRecDepth 8000 in
theorem zw_1020 : (Cond.selects "LifeboatHouseModel" ({ cls := "LifeboatHouseModel", name := "looks", desc := "(II)I" } : MethodName) ({ cls := "LifeboatHouseModel", name := "looks", desc := "(II)I" } : MethodName)) ∈ gtbl := List.mem_filter.mpr ⟨List.mem_append_right _ (List.mem_append_right _ (List.mem_append_right _ (List.mem_append_right _ (List.mem_append_right _ (List.mem_of_getElem? (l := tables_1_5) (i := 60) rfl))))), rfl⟩
set_option maxRecDepth 8000 in
theorem zw_1021 : (Cond.code ({ cls := "LifeboatHouseModel", name := "looks", desc := "(II)I" } : MethodName) prog_12_method_55_code (3 : Nat) (Option.some FieldType.int)) ∈ gtbl := List.mem_filter.mpr ⟨List.mem_append_right _ (List.mem_append_right _ (List.mem_append_right _ (List.mem_append_right _ (List.mem_append_right _ (List.mem_of_getElem? (l := tables_1_5) (i := 61) rfl))))), rfl⟩
set_option maxRecDepth 8000 in
theorem zw_1022 : (Cond.methodLink "LifeboatHouseModel" (219 : Nat) ({ cls := "LifeboatHouseModel", name := "tries", desc := "(II)I" } : MethodName)) ∈ gtbl := List.mem_filter.mpr ⟨List.mem_append_right _ (List.mem_append_right _ (List.mem_append_right _ (List.mem_append_right _ (List.mem_append_right _ (List.mem_of_getElem? (l := tables_1_5) (i := 62) rfl))))), rfl⟩
set_option maxRecDepth 8000 in
theorem zw_1023 : (Cond.privateMethod ({ cls := "LifeboatHouseModel", name := "tries", desc := "(II)I" } : MethodName)) ∈ lw_tbl := List.mem_append_right _ (List.mem_append_right _ (List.mem_append_right _ (List.mem_append_right _ (List.mem_append_right _ (List.mem_of_getElem? (l := tables_1_5) (i := 63) rfl)))))
set_option maxRecDepth 8000 in
theorem zw_1024 : (Cond.instanceMethod ({ cls := "LifeboatHouseModel", name := "tries", desc := "(II)I" } : MethodName)) ∈ gtbl := List.mem_filter.mpr ⟨List.mem_append_right _ (List.mem_append_right _ (List.mem_append_right _ (List.mem_append_right _ (List.mem_append_right _ (List.mem_of_getElem? (l := tables_1_5) (i := 64) rfl))))), rfl⟩
set_option maxRecDepth 8000 in
theorem zw_1025 : (Cond.code ({ cls := "LifeboatHouseModel", name := "tries", desc := "(II)I" } : MethodName) prog_12_method_54_code (7 : Nat) (Option.some FieldType.int)) ∈ gtbl := List.mem_filter.mpr ⟨List.mem_append_right _ (List.mem_append_right _ (List.mem_append_right _ (List.mem_append_right _ (List.mem_append_right _ (List.mem_of_getElem? (l := tables_1_5) (i := 65) rfl))))), rfl⟩
set_option maxRecDepth 8000 in
theorem zw_1026 : (Cond.methodLink "LifeboatHouseLaw" (125 : Nat) ({ cls := "LifeboatHouseModel", name := "lookAt", desc := "(III)I" } : MethodName)) ∈ gtbl := List.mem_filter.mpr ⟨List.mem_append_right _ (List.mem_append_right _ (List.mem_append_right _ (List.mem_append_right _ (List.mem_append_right _ (List.mem_of_getElem? (l := tables_1_5) (i := 66) rfl))))), rfl⟩
set_option maxRecDepth 8000 in
theorem zw_1027 : (Cond.instanceMethod ({ cls := "LifeboatHouseModel", name := "lookAt", desc := "(III)I" } : MethodName)) ∈ gtbl := List.mem_filter.mpr ⟨List.mem_append_right _ (List.mem_append_right _ (List.mem_append_right _ (List.mem_append_right _ (List.mem_append_right _ (List.mem_of_getElem? (l := tables_1_5) (i := 67) rfl))))), rfl⟩
set_option maxRecDepth 8000 in
theorem zw_1028 : (Cond.selects "LifeboatHouseModel" ({ cls := "LifeboatHouseModel", name := "lookAt", desc := "(III)I" } : MethodName) ({ cls := "LifeboatHouseModel", name := "lookAt", desc := "(III)I" } : MethodName)) ∈ gtbl := List.mem_filter.mpr ⟨List.mem_append_right _ (List.mem_append_right _ (List.mem_append_right _ (List.mem_append_right _ (List.mem_append_right _ (List.mem_of_getElem? (l := tables_1_5) (i := 68) rfl))))), rfl⟩
set_option maxRecDepth 8000 in
theorem zw_1029 : (Cond.code ({ cls := "LifeboatHouseModel", name := "lookAt", desc := "(III)I" } : MethodName) prog_12_method_56_code (4 : Nat) (Option.some FieldType.int)) ∈ gtbl := List.mem_filter.mpr ⟨List.mem_append_right _ (List.mem_append_right _ (List.mem_append_right _ (List.mem_append_right _ (List.mem_append_right _ (List.mem_of_getElem? (l := tables_1_5) (i := 69) rfl))))), rfl⟩
set_option maxRecDepth 8000 in
theorem zw_1030 : (Cond.methodLink "LifeboatHouseLaw" (129 : Nat) ({ cls := "LifeboatHouseModel", name := "rest", desc := "(II)I" } : MethodName)) ∈ gtbl := List.mem_filter.mpr ⟨List.mem_append_right _ (List.mem_append_right _ (List.mem_append_right _ (List.mem_append_right _ (List.mem_append_right _ (List.mem_of_getElem? (l := tables_1_5) (i := 70) rfl))))), rfl⟩
set_option maxRecDepth 8000 in
theorem zw_1031 : (Cond.instanceMethod ({ cls := "LifeboatHouseModel", name := "rest", desc := "(II)I" } : MethodName)) ∈ gtbl := List.mem_filter.mpr ⟨List.mem_append_right _ (List.mem_append_right _ (List.mem_append_right _ (List.mem_append_right _ (List.mem_append_right _ (List.mem_of_getElem? (l := tables_1_5) (i := 71) rfl))))), rfl⟩
set_option maxRecDepth 8000 in
theorem zw_1032 : (Cond.selects "LifeboatHouseModel" ({ cls := "LifeboatHouseModel", name := "rest", desc := "(II)I" } : MethodName) ({ cls := "LifeboatHouseModel", name := "rest", desc := "(II)I" } : MethodName)) ∈ gtbl := List.mem_filter.mpr ⟨List.mem_append_right _ (List.mem_append_right _ (List.mem_append_right _ (List.mem_append_right _ (List.mem_append_right _ (List.mem_of_getElem? (l := tables_1_5) (i := 72) rfl))))), rfl⟩
set_option maxRecDepth 8000 in
theorem zw_1033 : (Cond.code ({ cls := "LifeboatHouseModel", name := "rest", desc := "(II)I" } : MethodName) prog_12_method_57_code (4 : Nat) (Option.some FieldType.int)) ∈ gtbl := List.mem_filter.mpr ⟨List.mem_append_right _ (List.mem_append_right _ (List.mem_append_right _ (List.mem_append_right _ (List.mem_append_right _ (List.mem_of_getElem? (l := tables_1_5) (i := 73) rfl))))), rfl⟩
set_option maxRecDepth 8000 in
theorem zw_1034 : (Cond.methodLink "LifeboatHouseLaw" (133 : Nat) ({ cls := "LifeboatHouseModel", name := "turn", desc := "(II)I" } : MethodName)) ∈ gtbl := List.mem_filter.mpr ⟨List.mem_append_right _ (List.mem_append_right _ (List.mem_append_right _ (List.mem_append_right _ (List.mem_append_right _ (List.mem_of_getElem? (l := tables_1_5) (i := 74) rfl))))), rfl⟩
set_option maxRecDepth 8000 in
theorem zw_1035 : (Cond.instanceMethod ({ cls := "LifeboatHouseModel", name := "turn", desc := "(II)I" } : MethodName)) ∈ gtbl := List.mem_filter.mpr ⟨List.mem_append_right _ (List.mem_append_right _ (List.mem_append_right _ (List.mem_append_right _ (List.mem_append_right _ (List.mem_of_getElem? (l := tables_1_5) (i := 75) rfl))))), rfl⟩
set_option maxRecDepth 8000 in
theorem zw_1036 : (Cond.selects "LifeboatHouseModel" ({ cls := "LifeboatHouseModel", name := "turn", desc := "(II)I" } : MethodName) ({ cls := "LifeboatHouseModel", name := "turn", desc := "(II)I" } : MethodName)) ∈ gtbl := List.mem_filter.mpr ⟨List.mem_append_right _ (List.mem_append_right _ (List.mem_append_right _ (List.mem_append_right _ (List.mem_append_right _ (List.mem_of_getElem? (l := tables_1_5) (i := 76) rfl))))), rfl⟩
set_option maxRecDepth 8000 in
theorem zw_1037 : (Cond.code ({ cls := "LifeboatHouseModel", name := "turn", desc := "(II)I" } : MethodName) prog_12_method_58_code (6 : Nat) (Option.some FieldType.int)) ∈ gtbl := List.mem_filter.mpr ⟨List.mem_append_right _ (List.mem_append_right _ (List.mem_append_right _ (List.mem_append_right _ (List.mem_append_right _ (List.mem_of_getElem? (l := tables_1_5) (i := 77) rfl))))), rfl⟩
set_option maxRecDepth 8000 in
theorem zw_1038 : (Cond.methodLink "LifeboatHouseLaw" (137 : Nat) ({ cls := "LifeboatHouseModel", name := "personOf", desc := "(II)I" } : MethodName)) ∈ gtbl := List.mem_filter.mpr ⟨List.mem_append_right _ (List.mem_append_right _ (List.mem_append_right _ (List.mem_append_right _ (List.mem_append_right _ (List.mem_of_getElem? (l := tables_1_5) (i := 78) rfl))))), rfl⟩
set_option maxRecDepth 8000 in
theorem zw_1039 : (Cond.instanceMethod ({ cls := "LifeboatHouseModel", name := "personOf", desc := "(II)I" } : MethodName)) ∈ gtbl := List.mem_filter.mpr ⟨List.mem_append_right _ (List.mem_append_right _ (List.mem_append_right _ (List.mem_append_right _ (List.mem_append_right _ (List.mem_of_getElem? (l := tables_1_5) (i := 79) rfl))))), rfl⟩
set_option maxRecDepth 8000 in
theorem zw_1040 : (Cond.selects "LifeboatHouseModel" ({ cls := "LifeboatHouseModel", name := "personOf", desc := "(II)I" } : MethodName) ({ cls := "LifeboatHouseModel", name := "personOf", desc := "(II)I" } : MethodName)) ∈ gtbl := List.mem_filter.mpr ⟨List.mem_append_right _ (List.mem_append_right _ (List.mem_append_right _ (List.mem_append_right _ (List.mem_append_right _ (List.mem_of_getElem? (l := tables_1_5) (i := 80) rfl))))), rfl⟩
set_option maxRecDepth 8000 in
theorem zw_1041 : (Cond.code ({ cls := "LifeboatHouseModel", name := "personOf", desc := "(II)I" } : MethodName) prog_12_method_59_code (3 : Nat) (Option.some FieldType.int)) ∈ gtbl := List.mem_filter.mpr ⟨List.mem_append_right _ (List.mem_append_right _ (List.mem_append_right _ (List.mem_append_right _ (List.mem_append_right _ (List.mem_of_getElem? (l := tables_1_5) (i := 81) rfl))))), rfl⟩
set_option maxRecDepth 8000 in
theorem zw_1042 : (Cond.methodLink "LifeboatHouseLaw" (141 : Nat) ({ cls := "LifeboatHouseModel", name := "count", desc := "(I)I" } : MethodName)) ∈ gtbl := List.mem_filter.mpr ⟨List.mem_append_right _ (List.mem_append_right _ (List.mem_append_right _ (List.mem_append_right _ (List.mem_append_right _ (List.mem_of_getElem? (l := tables_1_5) (i := 82) rfl))))), rfl⟩
set_option maxRecDepth 8000 in
theorem zw_1043 : (Cond.instanceMethod ({ cls := "LifeboatHouseModel", name := "count", desc := "(I)I" } : MethodName)) ∈ gtbl := List.mem_filter.mpr ⟨List.mem_append_right _ (List.mem_append_right _ (List.mem_append_right _ (List.mem_append_right _ (List.mem_append_right _ (List.mem_of_getElem? (l := tables_1_5) (i := 83) rfl))))), rfl⟩
set_option maxRecDepth 8000 in
theorem zw_1044 : (Cond.selects "LifeboatHouseModel" ({ cls := "LifeboatHouseModel", name := "count", desc := "(I)I" } : MethodName) ({ cls := "LifeboatHouseModel", name := "count", desc := "(I)I" } : MethodName)) ∈ gtbl := List.mem_filter.mpr ⟨List.mem_append_right _ (List.mem_append_right _ (List.mem_append_right _ (List.mem_append_right _ (List.mem_append_right _ (List.mem_of_getElem? (l := tables_1_5) (i := 84) rfl))))), rfl⟩
set_option maxRecDepth 8000 in
theorem zw_1045 : (Cond.code ({ cls := "LifeboatHouseModel", name := "count", desc := "(I)I" } : MethodName) prog_12_method_60_code (4 : Nat) (Option.some FieldType.int)) ∈ gtbl := List.mem_filter.mpr ⟨List.mem_append_right _ (List.mem_append_right _ (List.mem_append_right _ (List.mem_append_right _ (List.mem_append_right _ (List.mem_of_getElem? (l := tables_1_5) (i := 85) rfl))))), rfl⟩
set_option maxRecDepth 8000 in
theorem zw_1046 : (Cond.castable "LifeboatHouse" "java/lang/Object") ∈ ntbl := List.mem_filter.mpr ⟨List.mem_append_right _ (List.mem_append_right _ (List.mem_append_right _ (List.mem_append_right _ (List.mem_append_right _ (List.mem_of_getElem? (l := tables_1_5) (i := 86) rfl))))), rfl⟩
set_option maxRecDepth 8000 in
theorem zw_1047 : (Cond.castable "java/util/ArrayList" "java/lang/Object") ∈ ntbl := List.mem_filter.mpr ⟨List.mem_append_right _ (List.mem_append_right _ (List.mem_append_right _ (List.mem_append_right _ (List.mem_append_right _ (List.mem_of_getElem? (l := tables_1_5) (i := 87) rfl))))), rfl⟩
set_option maxRecDepth 8000 in
theorem zw_1048 : (Cond.castable "LifeboatHouse$Tides" "java/lang/Object") ∈ ntbl := List.mem_filter.mpr ⟨List.mem_append_right _ (List.mem_append_right _ (List.mem_append_right _ (List.mem_append_right _ (List.mem_append_right _ (List.mem_of_getElem? (l := tables_1_5) (i := 88) rfl))))), rfl⟩
set_option maxRecDepth 8000 in
theorem zw_1049 : (Cond.castable "LifeboatHouse$CrewRows" "java/lang/Object") ∈ ntbl := List.mem_filter.mpr ⟨List.mem_append_right _ (List.mem_append_right _ (List.mem_append_right _ (List.mem_append_right _ (List.mem_append_right _ (List.mem_of_getElem? (l := tables_1_5) (i := 89) rfl))))), rfl⟩
set_option maxRecDepth 8000 in
theorem zw_1050 : (Cond.castable "LifeboatHouse$Pair" "java/lang/Object") ∈ ntbl := List.mem_filter.mpr ⟨List.mem_append_right _ (List.mem_append_right _ (List.mem_append_right _ (List.mem_append_right _ (List.mem_append_right _ (List.mem_of_getElem? (l := tables_1_5) (i := 90) rfl))))), rfl⟩
set_option maxRecDepth 8000 in
theorem zw_1051 : (Cond.castable "LifeboatHouse$FlankPlan" "java/lang/Object") ∈ ntbl := List.mem_filter.mpr ⟨List.mem_append_right _ (List.mem_append_right _ (List.mem_append_right _ (List.mem_append_right _ (List.mem_append_right _ (List.mem_of_getElem? (l := tables_1_5) (i := 91) rfl))))), rfl⟩
set_option maxRecDepth 8000 in
theorem zw_1052 : (Cond.castable "LifeboatHouse$Search" "java/lang/Object") ∈ ntbl := List.mem_filter.mpr ⟨List.mem_append_right _ (List.mem_append_right _ (List.mem_append_right _ (List.mem_append_right _ (List.mem_append_right _ (List.mem_of_getElem? (l := tables_1_5) (i := 92) rfl))))), rfl⟩
set_option maxRecDepth 8000 in
theorem zw_1053 : (Cond.castable "LifeboatHouseModel" "java/lang/Object") ∈ ntbl := List.mem_filter.mpr ⟨List.mem_append_right _ (List.mem_append_right _ (List.mem_append_right _ (List.mem_append_right _ (List.mem_append_right _ (List.mem_of_getElem? (l := tables_1_5) (i := 93) rfl))))), rfl⟩
set_option maxRecDepth 8000 in
theorem zw_1054 : (Cond.castable "LifeboatHouse$Person" "java/lang/Object") ∈ ntbl := List.mem_filter.mpr ⟨List.mem_append_right _ (List.mem_append_right _ (List.mem_append_right _ (List.mem_append_right _ (List.mem_append_right _ (List.mem_of_getElem? (l := tables_1_5) (i := 94) rfl))))), rfl⟩
set_option maxRecDepth 8000 in
theorem zw_1055 : (Cond.castable "LifeboatHouse$Boat" "java/lang/Object") ∈ ntbl := List.mem_filter.mpr ⟨List.mem_append_right _ (List.mem_append_right _ (List.mem_append_right _ (List.mem_append_right _ (List.mem_append_right _ (List.mem_of_getElem? (l := tables_1_5) (i := 95) rfl))))), rfl⟩
set_option maxRecDepth 8000 in
theorem zw_1056 : (Cond.castable "LifeboatHouse$Call" "java/lang/Object") ∈ ntbl := List.mem_filter.mpr ⟨List.mem_append_right _ (List.mem_append_right _ (List.mem_append_right _ (List.mem_append_right _ (List.mem_append_right _ (List.mem_of_getElem? (l := tables_1_5) (i := 96) rfl))))), rfl⟩
set_option maxRecDepth 8000 in
theorem zw_1057 : (Cond.castable "LifeboatHouse$Launch" "java/lang/Object") ∈ ntbl := List.mem_filter.mpr ⟨List.mem_append_right _ (List.mem_append_right _ (List.mem_append_right _ (List.mem_append_right _ (List.mem_append_right _ (List.mem_of_getElem? (l := tables_1_5) (i := 97) rfl))))), rfl⟩
set_option maxRecDepth 8000 in
theorem zw_1058 : (Cond.sameMethod "[Ljava/lang/Object;" "java/lang/Object" "getClass" "()Ljava/lang/Class;") ∈ gtbl := List.mem_filter.mpr ⟨List.mem_append_right _ (List.mem_append_right _ (List.mem_append_right _ (List.mem_append_right _ (List.mem_append_right _ (List.mem_of_getElem? (l := tables_1_5) (i := 98) rfl))))), rfl⟩
set_option maxRecDepth 8000 in
theorem zw_1059 : (Cond.selects "[Ljava/lang/Object;" ({ cls := "java/lang/Object", name := "getClass", desc := "()Ljava/lang/Class;" } : MethodName) ({ cls := "java/lang/Object", name := "getClass", desc := "()Ljava/lang/Class;" } : MethodName)) ∈ gtbl := List.mem_filter.mpr ⟨List.mem_append_right _ (List.mem_append_right _ (List.mem_append_right _ (List.mem_append_right _ (List.mem_append_right _ (List.mem_of_getElem? (l := tables_1_5) (i := 99) rfl))))), rfl⟩
set_option maxRecDepth 8000 in
theorem zw_1060 : (Cond.declares ({ cls := "java/lang/Object", name := "getClass", desc := "()Ljava/lang/Class;" } : MethodName)) ∈ ntbl := List.mem_filter.mpr ⟨List.mem_append_right _ (List.mem_append_right _ (List.mem_append_right _ (List.mem_append_right _ (List.mem_append_right _ (List.mem_of_getElem? (l := tables_1_5) (i := 100) rfl))))), rfl⟩
set_option maxRecDepth 8000 in
theorem zw_1061 : (Cond.castable "[I" "java/lang/Object") ∈ ntbl := List.mem_filter.mpr ⟨List.mem_append_right _ (List.mem_append_right _ (List.mem_append_right _ (List.mem_append_right _ (List.mem_append_right _ (List.mem_of_getElem? (l := tables_1_5) (i := 101) rfl))))), rfl⟩
set_option maxRecDepth 8000 in
theorem zw_1062 : (Cond.castable "[Z" "java/lang/Object") ∈ ntbl := List.mem_filter.mpr ⟨List.mem_append_right _ (List.mem_append_right _ (List.mem_append_right _ (List.mem_append_right _ (List.mem_append_right _ (List.mem_of_getElem? (l := tables_1_5) (i := 102) rfl))))), rfl⟩
set_option maxRecDepth 8000 in
theorem zw_1063 : (Cond.castable "[Ljava/lang/Object;" "java/lang/Object") ∈ ntbl := List.mem_filter.mpr ⟨List.mem_append_right _ (List.mem_append_right _ (List.mem_append_right _ (List.mem_append_right _ (List.mem_append_right _ (List.mem_of_getElem? (l := tables_1_5) (i := 103) rfl))))), rfl⟩
theorem zi_B : ∀ w ∈ u_ws Cn_B Ft_B 4, w ∈ gtbl := List.forall_mem_cons.mpr ⟨zw_446, List.forall_mem_cons.mpr ⟨zw_448, List.forall_mem_cons.mpr ⟨zw_450, List.forall_mem_cons.mpr ⟨zw_452, fun _ h => absurd h List.not_mem_nil⟩⟩⟩⟩
theorem zi_C : ∀ w ∈ u_ws Cn_C Ft_C 3, w ∈ gtbl := List.forall_mem_cons.mpr ⟨zw_490, List.forall_mem_cons.mpr ⟨zw_492, List.forall_mem_cons.mpr ⟨zw_494, fun _ h => absurd h List.not_mem_nil⟩⟩⟩
theorem zi_R : ∀ w ∈ u_ws Cn_R Ft_R 2, w ∈ gtbl := List.forall_mem_cons.mpr ⟨zw_80, List.forall_mem_cons.mpr ⟨zw_82, fun _ h => absurd h List.not_mem_nil⟩⟩
theorem zi_F : ∀ w ∈ u_ws Cn_F Ft_F 7, w ∈ gtbl := List.forall_mem_cons.mpr ⟨zw_123, List.forall_mem_cons.mpr ⟨zw_125, List.forall_mem_cons.mpr ⟨zw_127, List.forall_mem_cons.mpr ⟨zw_129, List.forall_mem_cons.mpr ⟨zw_131, List.forall_mem_cons.mpr ⟨zw_133, List.forall_mem_cons.mpr ⟨zw_135, fun _ h => absurd h List.not_mem_nil⟩⟩⟩⟩⟩⟩⟩
theorem zi_U : ∀ w ∈ u_ws Cn_U Ft_U 5, w ∈ gtbl := List.forall_mem_cons.mpr ⟨zw_564, List.forall_mem_cons.mpr ⟨zw_566, List.forall_mem_cons.mpr ⟨zw_568, List.forall_mem_cons.mpr ⟨zw_570, List.forall_mem_cons.mpr ⟨zw_572, fun _ h => absurd h List.not_mem_nil⟩⟩⟩⟩⟩
theorem zi_P : ∀ w ∈ u_ws Cn_P Ft_P 4, w ∈ gtbl := List.forall_mem_cons.mpr ⟨zw_98, List.forall_mem_cons.mpr ⟨zw_100, List.forall_mem_cons.mpr ⟨zw_102, List.forall_mem_cons.mpr ⟨zw_104, fun _ h => absurd h List.not_mem_nil⟩⟩⟩⟩
theorem zi_Q : ∀ w ∈ u_ws Cn_Q Ft_Q 6, w ∈ gtbl := List.forall_mem_cons.mpr ⟨zw_247, List.forall_mem_cons.mpr ⟨zw_249, List.forall_mem_cons.mpr ⟨zw_251, List.forall_mem_cons.mpr ⟨zw_253, List.forall_mem_cons.mpr ⟨zw_255, List.forall_mem_cons.mpr ⟨zw_257, fun _ h => absurd h List.not_mem_nil⟩⟩⟩⟩⟩⟩
theorem zi_S : ∀ w ∈ u_ws Cn_S Ft_S 4, w ∈ gtbl := List.forall_mem_cons.mpr ⟨zw_152, List.forall_mem_cons.mpr ⟨zw_154, List.forall_mem_cons.mpr ⟨zw_156, List.forall_mem_cons.mpr ⟨zw_158, fun _ h => absurd h List.not_mem_nil⟩⟩⟩⟩
theorem zi_T : ∀ w ∈ u_ws Cn_T Ft_T 2, w ∈ gtbl := List.forall_mem_cons.mpr ⟨zw_67, List.forall_mem_cons.mpr ⟨zw_69, fun _ h => absurd h List.not_mem_nil⟩⟩
theorem zi_H : ∀ w ∈ u_ws Cn_H Ft_H 15, w ∈ gtbl := List.forall_mem_cons.mpr ⟨zw_176, List.forall_mem_cons.mpr ⟨zw_178, List.forall_mem_cons.mpr ⟨zw_180, List.forall_mem_cons.mpr ⟨zw_182, List.forall_mem_cons.mpr ⟨zw_184, List.forall_mem_cons.mpr ⟨zw_186, List.forall_mem_cons.mpr ⟨zw_188, List.forall_mem_cons.mpr ⟨zw_190, List.forall_mem_cons.mpr ⟨zw_192, List.forall_mem_cons.mpr ⟨zw_194, List.forall_mem_cons.mpr ⟨zw_196, List.forall_mem_cons.mpr ⟨zw_198, List.forall_mem_cons.mpr ⟨zw_200, List.forall_mem_cons.mpr ⟨zw_202, List.forall_mem_cons.mpr ⟨zw_204, fun _ h => absurd h List.not_mem_nil⟩⟩⟩⟩⟩⟩⟩⟩⟩⟩⟩⟩⟩⟩⟩
theorem zi_M : ∀ w ∈ u_ws Cn_M Ft_M 40, w ∈ gtbl := List.forall_mem_cons.mpr ⟨zw_734, List.forall_mem_cons.mpr ⟨zw_736, List.forall_mem_cons.mpr ⟨zw_738, List.forall_mem_cons.mpr ⟨zw_740, List.forall_mem_cons.mpr ⟨zw_742, List.forall_mem_cons.mpr ⟨zw_744, List.forall_mem_cons.mpr ⟨zw_746, List.forall_mem_cons.mpr ⟨zw_748, List.forall_mem_cons.mpr ⟨zw_750, List.forall_mem_cons.mpr ⟨zw_752, List.forall_mem_cons.mpr ⟨zw_754, List.forall_mem_cons.mpr ⟨zw_756, List.forall_mem_cons.mpr ⟨zw_758, List.forall_mem_cons.mpr ⟨zw_760, List.forall_mem_cons.mpr ⟨zw_762, List.forall_mem_cons.mpr ⟨zw_764, List.forall_mem_cons.mpr ⟨zw_766, List.forall_mem_cons.mpr ⟨zw_768, List.forall_mem_cons.mpr ⟨zw_770, List.forall_mem_cons.mpr ⟨zw_772, List.forall_mem_cons.mpr ⟨zw_774, List.forall_mem_cons.mpr ⟨zw_776, List.forall_mem_cons.mpr ⟨zw_778, List.forall_mem_cons.mpr ⟨zw_780, List.forall_mem_cons.mpr ⟨zw_782, List.forall_mem_cons.mpr ⟨zw_784, List.forall_mem_cons.mpr ⟨zw_786, List.forall_mem_cons.mpr ⟨zw_788, List.forall_mem_cons.mpr ⟨zw_790, List.forall_mem_cons.mpr ⟨zw_792, List.forall_mem_cons.mpr ⟨zw_794, List.forall_mem_cons.mpr ⟨zw_796, List.forall_mem_cons.mpr ⟨zw_798, List.forall_mem_cons.mpr ⟨zw_800, List.forall_mem_cons.mpr ⟨zw_802, List.forall_mem_cons.mpr ⟨zw_804, List.forall_mem_cons.mpr ⟨zw_806, List.forall_mem_cons.mpr ⟨zw_808, List.forall_mem_cons.mpr ⟨zw_810, List.forall_mem_cons.mpr ⟨zw_812, fun _ h => absurd h List.not_mem_nil⟩⟩⟩⟩⟩⟩⟩⟩⟩⟩⟩⟩⟩⟩⟩⟩⟩⟩⟩⟩⟩⟩⟩⟩⟩⟩⟩⟩⟩⟩⟩⟩⟩⟩⟩⟩⟩⟩⟩⟩
theorem zi_AL : ∀ w ∈ u_ws Cn_AL Ft_AL 3, w ∈ gtbl := List.forall_mem_cons.mpr ⟨zw_52, List.forall_mem_cons.mpr ⟨zw_48, List.forall_mem_cons.mpr ⟨zw_50, fun _ h => absurd h List.not_mem_nil⟩⟩⟩
theorem zs_0 : Cond.selects "LifeboatHouse" ⟨"LifeboatHouse", "refuse", "(I)I"⟩ ⟨"LifeboatHouse", "refuse", "(I)I"⟩ ∈ gtbl := List.mem_filter.mpr ⟨List.mem_append_left _ (List.mem_of_getElem? (i := 0) rfl), rfl⟩
theorem zs_1 : Cond.selects "java/util/ArrayList" ⟨"java/util/ArrayList", "add", "(Ljava/lang/Object;[Ljava/lang/Object;I)V"⟩ ⟨"java/util/ArrayList", "add", "(Ljava/lang/Object;[Ljava/lang/Object;I)V"⟩ ∈ gtbl := List.mem_filter.mpr ⟨List.mem_append_left _ (List.mem_of_getElem? (i := 1) rfl), rfl⟩
theorem zs_2 : Cond.selects "java/util/ArrayList" ⟨"java/util/ArrayList", "grow", "()[Ljava/lang/Object;"⟩ ⟨"java/util/ArrayList", "grow", "()[Ljava/lang/Object;"⟩ ∈ gtbl := List.mem_filter.mpr ⟨List.mem_append_left _ (List.mem_of_getElem? (i := 2) rfl), rfl⟩
theorem zs_3 : Cond.selects "java/util/ArrayList" ⟨"java/util/ArrayList", "grow", "(I)[Ljava/lang/Object;"⟩ ⟨"java/util/ArrayList", "grow", "(I)[Ljava/lang/Object;"⟩ ∈ gtbl := List.mem_filter.mpr ⟨List.mem_append_left _ (List.mem_of_getElem? (i := 3) rfl), rfl⟩
theorem zs_4 : Cond.selects "LifeboatHouse" ⟨"LifeboatHouse", "personAt", "(I)LLifeboatHouse$Person;"⟩ ⟨"LifeboatHouse", "personAt", "(I)LLifeboatHouse$Person;"⟩ ∈ gtbl := List.mem_filter.mpr ⟨List.mem_append_left _ (List.mem_of_getElem? (i := 4) rfl), rfl⟩
theorem zs_5 : Cond.selects "LifeboatHouse" ⟨"LifeboatHouse", "bandNow", "()I"⟩ ⟨"LifeboatHouse", "bandNow", "()I"⟩ ∈ gtbl := List.mem_filter.mpr ⟨List.mem_append_left _ (List.mem_of_getElem? (i := 5) rfl), rfl⟩
theorem zs_6 : Cond.selects "LifeboatHouse" ⟨"LifeboatHouse", "crewChance", "(II)I"⟩ ⟨"LifeboatHouse", "crewChance", "(II)I"⟩ ∈ gtbl := List.mem_filter.mpr ⟨List.mem_append_left _ (List.mem_of_getElem? (i := 6) rfl), rfl⟩
theorem zs_7 : Cond.selects "LifeboatHouse" ⟨"LifeboatHouse", "isOpen", "(II)Z"⟩ ⟨"LifeboatHouse", "isOpen", "(II)Z"⟩ ∈ gtbl := List.mem_filter.mpr ⟨List.mem_append_left _ (List.mem_of_getElem? (i := 7) rfl), rfl⟩
theorem zs_8 : Cond.selects "LifeboatHouse" ⟨"LifeboatHouse", "boatAt", "(I)LLifeboatHouse$Boat;"⟩ ⟨"LifeboatHouse", "boatAt", "(I)LLifeboatHouse$Boat;"⟩ ∈ gtbl := List.mem_filter.mpr ⟨List.mem_append_left _ (List.mem_of_getElem? (i := 8) rfl), rfl⟩
theorem zs_9 : Cond.selects "LifeboatHouse" ⟨"LifeboatHouse", "callAt", "(I)LLifeboatHouse$Call;"⟩ ⟨"LifeboatHouse", "callAt", "(I)LLifeboatHouse$Call;"⟩ ∈ gtbl := List.mem_filter.mpr ⟨List.mem_append_left _ (List.mem_of_getElem? (i := 9) rfl), rfl⟩
theorem zs_10 : Cond.selects "LifeboatHouse" ⟨"LifeboatHouse", "canGo", "(LLifeboatHouse$Boat;LLifeboatHouse$Call;)Z"⟩ ⟨"LifeboatHouse", "canGo", "(LLifeboatHouse$Boat;LLifeboatHouse$Call;)Z"⟩ ∈ gtbl := List.mem_filter.mpr ⟨List.mem_append_left _ (List.mem_of_getElem? (i := 10) rfl), rfl⟩
theorem zs_11 : Cond.selects "LifeboatHouse" ⟨"LifeboatHouse", "wayOf", "(LLifeboatHouse$Boat;LLifeboatHouse$Call;)I"⟩ ⟨"LifeboatHouse", "wayOf", "(LLifeboatHouse$Boat;LLifeboatHouse$Call;)I"⟩ ∈ gtbl := List.mem_filter.mpr ⟨List.mem_append_left _ (List.mem_of_getElem? (i := 11) rfl), rfl⟩
theorem zs_12 : Cond.selects "LifeboatHouse" ⟨"LifeboatHouse", "launchMinute", "(LLifeboatHouse$Boat;)I"⟩ ⟨"LifeboatHouse", "launchMinute", "(LLifeboatHouse$Boat;)I"⟩ ∈ gtbl := List.mem_filter.mpr ⟨List.mem_append_left _ (List.mem_of_getElem? (i := 12) rfl), rfl⟩
theorem zs_13 : Cond.selects "LifeboatHouse" ⟨"LifeboatHouse", "reachedMinute", "(LLifeboatHouse$Boat;LLifeboatHouse$Call;)I"⟩ ⟨"LifeboatHouse", "reachedMinute", "(LLifeboatHouse$Boat;LLifeboatHouse$Call;)I"⟩ ∈ gtbl := List.mem_filter.mpr ⟨List.mem_append_left _ (List.mem_of_getElem? (i := 13) rfl), rfl⟩
theorem zs_14 : Cond.selects "LifeboatHouse" ⟨"LifeboatHouse", "pairBoats", "(LLifeboatHouse$Call;LLifeboatHouse$Call;)V"⟩ ⟨"LifeboatHouse", "pairBoats", "(LLifeboatHouse$Call;LLifeboatHouse$Call;)V"⟩ ∈ gtbl := List.mem_filter.mpr ⟨List.mem_append_left _ (List.mem_of_getElem? (i := 14) rfl), rfl⟩
theorem zs_15 : Cond.selects "LifeboatHouse" ⟨"LifeboatHouse", "boatsReadyAt", "(I)I"⟩ ⟨"LifeboatHouse", "boatsReadyAt", "(I)I"⟩ ∈ gtbl := List.mem_filter.mpr ⟨List.mem_append_left _ (List.mem_of_getElem? (i := 15) rfl), rfl⟩
theorem zs_16 : Cond.selects "LifeboatHouse" ⟨"LifeboatHouse", "planFlanks", "()V"⟩ ⟨"LifeboatHouse", "planFlanks", "()V"⟩ ∈ gtbl := List.mem_filter.mpr ⟨List.mem_append_left _ (List.mem_of_getElem? (i := 16) rfl), rfl⟩
theorem zs_17 : Cond.selects "LifeboatHouse$FlankPlan" ⟨"LifeboatHouse$FlankPlan", "tryFrom", "(III)V"⟩ ⟨"LifeboatHouse$FlankPlan", "tryFrom", "(III)V"⟩ ∈ gtbl := List.mem_filter.mpr ⟨List.mem_append_left _ (List.mem_of_getElem? (i := 17) rfl), rfl⟩
theorem zs_18 : Cond.selects "LifeboatHouse$FlankPlan" ⟨"LifeboatHouse$FlankPlan", "keepIfBetter", "(II)V"⟩ ⟨"LifeboatHouse$FlankPlan", "keepIfBetter", "(II)V"⟩ ∈ gtbl := List.mem_filter.mpr ⟨List.mem_append_left _ (List.mem_of_getElem? (i := 18) rfl), rfl⟩
theorem zs_19 : Cond.selects "LifeboatHouse$Search" ⟨"LifeboatHouse$Search", "richest", "(I)I"⟩ ⟨"LifeboatHouse$Search", "richest", "(I)I"⟩ ∈ gtbl := List.mem_filter.mpr ⟨List.mem_append_left _ (List.mem_of_getElem? (i := 19) rfl), rfl⟩
theorem zs_20 : Cond.selects "LifeboatHouse" ⟨"LifeboatHouse", "placeInTurn", "(I)I"⟩ ⟨"LifeboatHouse", "placeInTurn", "(I)I"⟩ ∈ gtbl := List.mem_filter.mpr ⟨List.mem_append_left _ (List.mem_of_getElem? (i := 20) rfl), rfl⟩
theorem zs_21 : Cond.selects "LifeboatHouse" ⟨"LifeboatHouse", "boatsAway", "()I"⟩ ⟨"LifeboatHouse", "boatsAway", "()I"⟩ ∈ gtbl := List.mem_filter.mpr ⟨List.mem_append_left _ (List.mem_of_getElem? (i := 21) rfl), rfl⟩
theorem zs_22 : Cond.selects "LifeboatHouse" ⟨"LifeboatHouse", "stationsCovered", "()I"⟩ ⟨"LifeboatHouse", "stationsCovered", "()I"⟩ ∈ gtbl := List.mem_filter.mpr ⟨List.mem_append_left _ (List.mem_of_getElem? (i := 22) rfl), rfl⟩
theorem zs_23 : Cond.selects "LifeboatHouseModel" ⟨"LifeboatHouseModel", "no", "(I)I"⟩ ⟨"LifeboatHouseModel", "no", "(I)I"⟩ ∈ gtbl := List.mem_filter.mpr ⟨List.mem_append_left _ (List.mem_of_getElem? (i := 23) rfl), rfl⟩
theorem zs_24 : Cond.selects "LifeboatHouseModel" ⟨"LifeboatHouseModel", "isPerson", "(I)Z"⟩ ⟨"LifeboatHouseModel", "isPerson", "(I)Z"⟩ ∈ gtbl := List.mem_filter.mpr ⟨List.mem_append_left _ (List.mem_of_getElem? (i := 24) rfl), rfl⟩
theorem zs_25 : Cond.selects "LifeboatHouseModel" ⟨"LifeboatHouseModel", "band", "()I"⟩ ⟨"LifeboatHouseModel", "band", "()I"⟩ ∈ gtbl := List.mem_filter.mpr ⟨List.mem_append_left _ (List.mem_of_getElem? (i := 25) rfl), rfl⟩
theorem zs_26 : Cond.selects "LifeboatHouseModel" ⟨"LifeboatHouseModel", "hour", "()I"⟩ ⟨"LifeboatHouseModel", "hour", "()I"⟩ ∈ gtbl := List.mem_filter.mpr ⟨List.mem_append_left _ (List.mem_of_getElem? (i := 26) rfl), rfl⟩
theorem zs_27 : Cond.selects "LifeboatHouseModel" ⟨"LifeboatHouseModel", "day", "()I"⟩ ⟨"LifeboatHouseModel", "day", "()I"⟩ ∈ gtbl := List.mem_filter.mpr ⟨List.mem_append_left _ (List.mem_of_getElem? (i := 27) rfl), rfl⟩
theorem zs_28 : Cond.selects "LifeboatHouseModel" ⟨"LifeboatHouseModel", "part", "(II)I"⟩ ⟨"LifeboatHouseModel", "part", "(II)I"⟩ ∈ gtbl := List.mem_filter.mpr ⟨List.mem_append_left _ (List.mem_of_getElem? (i := 28) rfl), rfl⟩
theorem zs_29 : Cond.selects "LifeboatHouseModel" ⟨"LifeboatHouseModel", "chanceOf", "(II)I"⟩ ⟨"LifeboatHouseModel", "chanceOf", "(II)I"⟩ ∈ gtbl := List.mem_filter.mpr ⟨List.mem_append_left _ (List.mem_of_getElem? (i := 29) rfl), rfl⟩
theorem zs_30 : Cond.selects "LifeboatHouseModel" ⟨"LifeboatHouseModel", "stands", "(I)Z"⟩ ⟨"LifeboatHouseModel", "stands", "(I)Z"⟩ ∈ gtbl := List.mem_filter.mpr ⟨List.mem_append_left _ (List.mem_of_getElem? (i := 30) rfl), rfl⟩
theorem zs_31 : Cond.selects "LifeboatHouseModel" ⟨"LifeboatHouseModel", "isOpen", "(II)Z"⟩ ⟨"LifeboatHouseModel", "isOpen", "(II)Z"⟩ ∈ gtbl := List.mem_filter.mpr ⟨List.mem_append_left _ (List.mem_of_getElem? (i := 31) rfl), rfl⟩
theorem zs_32 : Cond.selects "LifeboatHouseModel" ⟨"LifeboatHouseModel", "highOf", "(I)I"⟩ ⟨"LifeboatHouseModel", "highOf", "(I)I"⟩ ∈ gtbl := List.mem_filter.mpr ⟨List.mem_append_left _ (List.mem_of_getElem? (i := 32) rfl), rfl⟩
theorem zs_33 : Cond.selects "LifeboatHouseModel" ⟨"LifeboatHouseModel", "isBoat", "(I)Z"⟩ ⟨"LifeboatHouseModel", "isBoat", "(I)Z"⟩ ∈ gtbl := List.mem_filter.mpr ⟨List.mem_append_left _ (List.mem_of_getElem? (i := 33) rfl), rfl⟩
theorem zs_34 : Cond.selects "LifeboatHouseModel" ⟨"LifeboatHouseModel", "isAway", "(I)Z"⟩ ⟨"LifeboatHouseModel", "isAway", "(I)Z"⟩ ∈ gtbl := List.mem_filter.mpr ⟨List.mem_append_left _ (List.mem_of_getElem? (i := 34) rfl), rfl⟩
theorem zs_35 : Cond.selects "LifeboatHouseModel" ⟨"LifeboatHouseModel", "isCall", "(I)Z"⟩ ⟨"LifeboatHouseModel", "isCall", "(I)Z"⟩ ∈ gtbl := List.mem_filter.mpr ⟨List.mem_append_left _ (List.mem_of_getElem? (i := 35) rfl), rfl⟩
theorem zs_36 : Cond.selects "LifeboatHouseModel" ⟨"LifeboatHouseModel", "can", "(II)Z"⟩ ⟨"LifeboatHouseModel", "can", "(II)Z"⟩ ∈ gtbl := List.mem_filter.mpr ⟨List.mem_append_left _ (List.mem_of_getElem? (i := 36) rfl), rfl⟩
theorem zs_37 : Cond.selects "LifeboatHouseModel" ⟨"LifeboatHouseModel", "speedFor", "(II)I"⟩ ⟨"LifeboatHouseModel", "speedFor", "(II)I"⟩ ∈ gtbl := List.mem_filter.mpr ⟨List.mem_append_left _ (List.mem_of_getElem? (i := 37) rfl), rfl⟩
theorem zs_38 : Cond.selects "LifeboatHouseModel" ⟨"LifeboatHouseModel", "way", "(II)I"⟩ ⟨"LifeboatHouseModel", "way", "(II)I"⟩ ∈ gtbl := List.mem_filter.mpr ⟨List.mem_append_left _ (List.mem_of_getElem? (i := 38) rfl), rfl⟩
theorem zs_39 : Cond.selects "LifeboatHouseModel" ⟨"LifeboatHouseModel", "reached", "(II)I"⟩ ⟨"LifeboatHouseModel", "reached", "(II)I"⟩ ∈ gtbl := List.mem_filter.mpr ⟨List.mem_append_left _ (List.mem_of_getElem? (i := 39) rfl), rfl⟩
theorem zs_40 : Cond.selects "LifeboatHouseModel" ⟨"LifeboatHouseModel", "launch", "(I)I"⟩ ⟨"LifeboatHouseModel", "launch", "(I)I"⟩ ∈ gtbl := List.mem_filter.mpr ⟨List.mem_append_left _ (List.mem_of_getElem? (i := 40) rfl), rfl⟩
theorem zs_41 : Cond.selects "LifeboatHouseModel" ⟨"LifeboatHouseModel", "standing", "(I)I"⟩ ⟨"LifeboatHouseModel", "standing", "(I)I"⟩ ∈ gtbl := List.mem_filter.mpr ⟨List.mem_append_left _ (List.mem_of_getElem? (i := 41) rfl), rfl⟩
theorem zs_42 : Cond.selects "LifeboatHouseModel" ⟨"LifeboatHouseModel", "helps", "()V"⟩ ⟨"LifeboatHouseModel", "helps", "()V"⟩ ∈ gtbl := List.mem_filter.mpr ⟨List.mem_append_left _ (List.mem_of_getElem? (i := 42) rfl), rfl⟩
theorem zs_43 : Cond.selects "LifeboatHouseModel" ⟨"LifeboatHouseModel", "tries", "(II)I"⟩ ⟨"LifeboatHouseModel", "tries", "(II)I"⟩ ∈ gtbl := List.mem_filter.mpr ⟨List.mem_append_left _ (List.mem_of_getElem? (i := 43) rfl), rfl⟩
theorem gtbl_good : GoodIn lw_tbl gtbl := fun w h => ⟨(List.mem_filter.mp h).1, good_of_word (List.mem_filter.mp h).2⟩
theorem gtbl_self : GoodIn gtbl gtbl := fun w h => ⟨h, good_of_word (List.mem_filter.mp h).2⟩
end
section
/-! light worlds: a memory of cells by handles (0 null, 1 the library's empty row, 2 the script, 3 the class object of Object[], from 4 on what was made) -/
abbrev LV : Type := Int32 ⊕ Nat
abbrev Mem : Type := Nat × (Nat → Nat × Nat) × (Nat → Nat → Int32) × (Nat → Nat → Nat)
/-- launch, heap at the start, class numbers and slots, array classes (int, boolean, Object), (empty row, class object), (script, its length, its values) -/
abbrev EV : Type := Launch × Heap × va_G × (ClassId × ClassId × ClassId) × (Nat × Nat) × (Nat × Nat × (Nat → Int32))
def ra (E : EV) : Nat → Option Nat
  | 0 => none
  | 1 => some E.2.2.2.2.1.1
  | 2 => some E.2.2.2.2.2.1
  | 3 => some E.2.2.2.2.1.2
  | h + 4 => some (E.2.1.size + h)
def tv (E : EV) : LV → Value
  | .inl x => .int x
  | .inr h => va_rf (ra E h)
theorem tv_cat (E : EV) (x : LV) : (tv E x).category = 1 := by
  cases x with
  | inl x => rfl
  | inr h => show (va_rf (ra E h)).category = 1; cases ra E h <;> rfl
/-- (0, n) a row of n ints, (1, n) of booleans, (2, n) of objects, (c + 3, 0) an object of class number c -/
def shp (μ : Mem) (h : Nat) : Nat × Nat := if h = 1 then (2, 0) else if 4 ≤ h ∧ h < μ.1 + 4 then μ.2.1 h else (999, 0)
def gi (μ : Mem) (h k : Nat) : Int32 := μ.2.2.1 h k
def gr (μ : Mem) (h k : Nat) : Nat := μ.2.2.2 h k
def si (μ : Mem) (h k : Nat) (x : Int32) : Mem := (μ.1, μ.2.1, fun a j => if a = h ∧ j = k then x else μ.2.2.1 a j, μ.2.2.2)
def sr (μ : Mem) (h k : Nat) (x : Nat) : Mem := (μ.1, μ.2.1, μ.2.2.1, fun a j => if a = h ∧ j = k then x else μ.2.2.2 a j)
def nw (μ : Mem) (s : Nat × Nat) : Mem := (μ.1 + 1, fun a => if a = μ.1 + 4 then s else μ.2.1 a, fun a j => if a = μ.1 + 4 then 0 else μ.2.2.1 a j, fun a j => if a = μ.1 + 4 then 0 else μ.2.2.2 a j)
def nfl (c : Nat) : Nat := match classes[c]? with
  | some r => r.2.2
  | none => 0
def isr (c k : Nat) : Bool := match classes[c]? with
  | some r => !((r.2.1 k).2.2.1 == "I")
  | none => false
def fval (E : EV) (μ : Mem) (c h k : Nat) : Value := if isr c k = true then va_rf (ra E (gr μ h k)) else .int (gi μ h k)
def cellS (E : EV) (μ : Mem) (h : Nat) (s : Nat × Nat) : va_E := match s.1 with
  | 0 => .inl (E.2.2.2.1.1, s.2, .inl (gi μ h))
  | 1 => .inl (E.2.2.2.1.2.1, s.2, .inl (gi μ h))
  | 2 => .inl (E.2.2.2.1.2.2, s.2, .inr (.inr (.inr (.inr (fun j => ra E (gr μ h j))))))
  | c + 3 => .inr (c, (List.range (nfl c)).map (fval E μ c h))
def cellOf (E : EV) (μ : Mem) (h : Nat) : va_E := cellS E μ h (shp μ h)
def wl (E : EV) (μ : Mem) : va_W := (List.range μ.1).map (fun a => (E.2.1.size + a, cellOf E μ (a + 4)))
theorem wl_get (E : EV) (μ : Mem) {a : Nat} (h : a < μ.1) : (wl E μ)[a]? = some (E.2.1.size + a, cellOf E μ (a + 4)) := by
  simp [wl, h]
theorem wl_len (E : EV) (μ : Mem) : (wl E μ).length = μ.1 := by simp [wl]
theorem wl_inv (E : EV) (μ : Mem) {a : Nat} {q : Nat × va_E} (h : (wl E μ)[a]? = some q) : a < μ.1 ∧ q = (E.2.1.size + a, cellOf E μ (a + 4)) := by
  have h1 : a < (wl E μ).length := (List.getElem?_eq_some_iff.mp h).1
  rw [wl_len] at h1
  rw [wl_get E μ h1] at h
  exact ⟨h1, (Option.some.inj h).symm⟩
abbrev AE (E : EV) : Nat → Prop := fun q => E.2.1.size ≤ q
theorem wl_D (E : EV) (μ : Mem) : va_D (AE E) (wl E μ) := by
  refine ⟨fun i j p q hp hq e => ?_, fun k q hq => ?_⟩
  · obtain ⟨-, rfl⟩ := wl_inv E μ hp
    obtain ⟨-, rfl⟩ := wl_inv E μ hq
    simp at e
    exact e
  · obtain ⟨-, rfl⟩ := wl_inv E μ hq
    show E.2.1.size ≤ E.2.1.size + k
    omega
theorem wl_set (E : EV) {μ μ' : Mem} {a : Nat} (hn : μ'.1 = μ.1) (ho : ∀ b, b < μ.1 → b ≠ a → cellOf E μ' (b + 4) = cellOf E μ (b + 4)) : (wl E μ).set a (E.2.1.size + a, cellOf E μ' (a + 4)) = wl E μ' := by
  apply List.ext_getElem?
  intro b
  by_cases hb : b < μ.1
  · by_cases hab : b = a
    · subst hab
      rw [wl_get E μ' (by rw [hn]; exact hb), List.getElem?_set_self (by rw [wl_len]; exact hb)]
    · rw [List.getElem?_set_ne (fun q => hab q.symm), wl_get E μ hb, wl_get E μ' (by rw [hn]; exact hb), ho b hb hab]
  · have e1 : ((wl E μ).set a (E.2.1.size + a, cellOf E μ' (a + 4)))[b]? = none := by
      rw [List.getElem?_eq_none_iff, List.length_set, wl_len]; omega
    have e2 : (wl E μ')[b]? = none := by
      rw [List.getElem?_eq_none_iff, wl_len, hn]; omega
    rw [e1, e2]
/-- what holds of the tables, and of the cells that were there -/
def KS (E : EV) (s : State) : Prop := va_K E.2.2.1 classes [(E.2.2.2.1.1, .int), (E.2.2.2.1.2.1, .boolean), (E.2.2.2.1.2.2, .object "java/lang/Object")] s ∧
  va_Z "java/util/ArrayList" "DEFAULTCAPACITY_EMPTY_ELEMENTDATA" "[Ljava/lang/Object;" (.ref E.2.2.2.2.1.1) (AE E) s E.2.1 ∧ va_T (.object "java/lang/Object") E.2.2.2.2.1.1 0 (fun _ => .null) (AE E) s E.2.1 ∧
  va_Mi "[Ljava/lang/Object;" E.2.2.2.2.1.2 s ∧ va_X E.2.2.2.2.2.1 E.2.2.2.2.2.2.1 E.2.2.2.2.2.2.2 s E.2.1 ∧ E.2.2.2.2.2.1 < E.2.1.size ∧ (∀ w ∈ ntbl, va_Nw w s) ∧ va_AO "java/lang/Object" s
theorem nw_moved {s U : State} (hW : s.WarmedH U.vm) (h : ∀ w ∈ ntbl, va_Nw w s) : ∀ w ∈ ntbl, va_Nw w U := by
  intro w hw
  have h1 := h w hw
  have h2 := (List.mem_filter.mp hw).2
  cases w <;> first | (simp [nword] at h2; done) | exact va_Nw.warmC hW h1 | exact va_Nw.warmM hW h1 | exact va_Nw.warmD hW h1
theorem nw_same {s U : State} (hv : s.vm = U.vm) (h : ∀ w ∈ ntbl, va_Nw w s) : ∀ w ∈ ntbl, va_Nw w U := by
  intro w hw
  have h1 := h w hw
  have h2 := (List.mem_filter.mp hw).2
  cases w <;> first | (simp [nword] at h2; done) | exact va_Nw.same rfl hv h1
theorem KS.warm {E : EV} {s U : State} (hW : s.WarmedH U.vm) (h : KS E s) : KS E U := by
  obtain ⟨h1, h2, h3, h4, h5, h6, h7, h8⟩ := h
  exact ⟨h1.moved hW.alike, h2.moved hW.alike, h3.moved hW.alike, h4.moved hW.alike, h5.moved hW.alike, h6, nw_moved hW h7, h8.moved hW.alike⟩
theorem KS.same {E : EV} {s U : State} (hv : s.vm = U.vm) (h : KS E s) : KS E U := by
  obtain ⟨h1, h2, h3, h4, h5, h6, h7, h8⟩ := h
  have al : s.vm.Alike U.vm := hv ▸ Vm.Alike.refl s.vm
  exact ⟨h1.moved al, h2.moved al, h3.moved al, h4.moved al, h5.moved al, h6, nw_same hv h7, h8.moved al⟩
def Fx (M : MI) (p : Program) (s : State) (m : MethodId) (args : Array Value) (meth : Method) (c : Code) : Prop :=
  p.tables.exec = Jvm.exec ∧ c.code = M.2.1 ∧ c.maxLocals = M.2.2.1 ∧ s.vm.findClass M.1.cls = some m.cls ∧ (∀ w ∈ gtbl, w.before args s = true) ∧ meth.sig.returnType = M.2.2.2 ∧ meth.locks = false ∧ meth.name = M.1.name
def LVok (E : EV) (ls : Array Slot) (nL : Nat) (lv : List (Option LV)) : Prop := ls.size = nL ∧ lv_wf ls ∧ ∀ (i : Nat) (x : LV), lv[i]? = some (some x) → ls[i]? = some (.val (tv E x))
/-- the heap holds the memory; what was there is as it was -/
def WH (E : EV) (μ : Mem) (H : Heap) : Prop := va_P E.2.2.1 classes (wl E μ) H ∧ (∀ q : Nat, q < E.2.1.size → H[q]? = E.2.1[q]?) ∧ H.size = E.2.1.size + μ.1
/-- the machine at pc, with locals lv and operands st, in the memory μ, comes to Q -/
def LJ (E : EV) (M : MI) (R : Room) (Q : List Frame → Array Value → State → State → Prop) (cells slots : Nat) (μ : Mem) (pc : Nat) (lv : List (Option LV)) (st : List LV) : Prop :=
  ∀ (p : Program) (e : Env) (s : State) (m : MethodId) (args : Array Value) (below : List Frame) (meth : Method) (c : Code) (ls : Array Slot) (H : Heap) (locs : List Loc),
    Fx M p s m args meth c → KS E s → WH E μ H → (∀ q ∈ locs, AE E q.base) → LVok E ls M.2.2.1 lv → W p E.1 e R s m args below meth c H locs cells slots (Q below args s) (F0 m pc ls (st.map (tv E)))
/-- if the function's value is r, the machine comes to what r says -/
def J (E : EV) (M : MI) (R : Room) (Q : LV × Mem → List Frame → Array Value → State → State → Prop) (cells slots : Nat) (μ : Mem) (pc : Nat) (lv : List (Option LV)) (st : List LV) (F : Option (LV × Mem)) : Prop :=
  ∀ r, F = some r → LJ E M R (Q r) cells slots μ pc lv st
def rto (E : EV) (M : MI) (v : LV) : Option Value := match M.2.2.2 with
  | none => none
  | some _ => some (tv E v)
def Qr (E : EV) (M : MI) (r : LV × Mem) : Array Value → State → Outcome → State → Prop := fun _ _ o t => o = .returned (rto E M r.1) ∧ WH E r.2 t.heap
def QR (E : EV) (M : MI) (R : Room) (r : LV × Mem) (below : List Frame) (args : Array Value) (s : State) : State → Prop := MQ below (Qr E M r) args s R.cells R.slots (AE E)
abbrev wsy (M : MI) : List Cond := .code M.1 M.2.1 M.2.2.1 M.2.2.2 :: gtbl
/-- the method's contract: from the memory μ, with these arguments: it answers as F says -/
def Ct (E : EV) (M : MI) (R : Room) (as : List LV) (μ : Mem) (F : Option (LV × Mem)) : Prop :=
  ∀ r, F = some r → Met E.1 M.1 (wsy M) R (va_Pc (as.map (tv E)) (fun U => WH E μ U.heap ∧ KS E U)) (Qr E M r) R.cells R.slots (AE E)
theorem lv_entry_ok (E : EV) (as : List LV) (n k : Nat) (hk : n = as.length + k) : LVok E ((lg_sl (as.map (tv E)) ++ List.replicate (n - (lg_sl (as.map (tv E))).length) Slot.unset).toArray) n (as.map some ++ List.replicate k none) := by
  have hsl : ∀ l : List LV, lg_sl (l.map (tv E)) = l.map (fun x => Slot.val (tv E x)) := by
    intro l
    induction l with
    | nil => rfl
    | cons a t ih =>
      have hc := tv_cat E a
      simp only [List.map_cons]
      first
        | (rw [lg_sl, ih]; simp [hc]; done)
        | (simp [lg_sl, hc] at ih ⊢; exact ih)
  have hlen : (lg_sl (as.map (tv E))).length = as.length := by rw [hsl]; simp
  have h := lv_entry (as.map (tv E)) (n := n) (by rw [hlen]; omega)
  refine ⟨h.1, h.2.1, fun i x hx => ?_⟩
  have hi : i < as.length := by
    rcases Nat.lt_or_ge i as.length with q | q
    · exact q
    · rw [List.getElem?_append_right (by simpa using q)] at hx
      have hm := List.mem_of_getElem? hx
      simp at hm
  rw [List.getElem?_append_left (by simpa using hi)] at hx
  have hx2 : as[i]? = some x := by simpa using hx
  rw [List.getElem?_toArray, hsl, List.getElem?_append_left (by simpa using hi)]
  simp [hx2]
end
section
section JR
variable {E : EV} {M : MI} {R : Room} {Q : LV × Mem → List Frame → Array Value → State → State → Prop} {cells slots pc : Nat} {μ : Mem} {lv : List (Option LV)} {st : List LV} {F : Option (LV × Mem)}
theorem J_none : J E M R Q cells slots μ pc lv st none := fun r h => by cases h
theorem J_iconst {n : Int} {v : Int32} (hd : decode M.2.1 pc = .ok (.iconst n, 1)) (hv : Int32.ofInt n = v) (k : J E M R Q cells slots μ (pc + 1) lv (.inl v :: st) F) : J E M R Q cells slots μ pc lv st F := by
  intro r hr p e s m args below meth c ls H locs fx ks wh lo hl
  exact lv_iconst fx.1 fx.2.1 hd hv (k r hr p e s m args below meth c ls H locs fx ks wh lo hl)
theorem J_bipush {n : Int} {v : Int32} (hd : decode M.2.1 pc = .ok (.bipush n, 2)) (hv : (Int8.ofInt n).toInt32 = v) (k : J E M R Q cells slots μ (pc + 2) lv (.inl v :: st) F) : J E M R Q cells slots μ pc lv st F := by
  intro r hr p e s m args below meth c ls H locs fx ks wh lo hl
  exact lv_bipush fx.1 fx.2.1 hd hv (k r hr p e s m args below meth c ls H locs fx ks wh lo hl)
theorem J_sipush {n : Int} {v : Int32} (hd : decode M.2.1 pc = .ok (.sipush n, 3)) (hv : (Int16.ofInt n).toInt32 = v) (k : J E M R Q cells slots μ (pc + 3) lv (.inl v :: st) F) : J E M R Q cells slots μ pc lv st F := by
  intro r hr p e s m args below meth c ls H locs fx ks wh lo hl
  exact lv_sipush fx.1 fx.2.1 hd hv (k r hr p e s m args below meth c ls H locs fx ks wh lo hl)
theorem J_iadd {a b : Int32} (hd : decode M.2.1 pc = .ok (.iadd, 1))  (k : J E M R Q cells slots μ (pc + 1) lv (.inl (a + b) :: st) F) : J E M R Q cells slots μ pc lv (.inl b :: .inl a :: st) F := by
  intro r hr p e s m args below meth c ls H locs fx ks wh lo hl
  exact lv_iadd fx.1 fx.2.1 hd  (k r hr p e s m args below meth c ls H locs fx ks wh lo hl)
theorem J_isub {a b : Int32} (hd : decode M.2.1 pc = .ok (.isub, 1))  (k : J E M R Q cells slots μ (pc + 1) lv (.inl (a - b) :: st) F) : J E M R Q cells slots μ pc lv (.inl b :: .inl a :: st) F := by
  intro r hr p e s m args below meth c ls H locs fx ks wh lo hl
  exact lv_isub fx.1 fx.2.1 hd  (k r hr p e s m args below meth c ls H locs fx ks wh lo hl)
theorem J_imul {a b : Int32} (hd : decode M.2.1 pc = .ok (.imul, 1))  (k : J E M R Q cells slots μ (pc + 1) lv (.inl (a * b) :: st) F) : J E M R Q cells slots μ pc lv (.inl b :: .inl a :: st) F := by
  intro r hr p e s m args below meth c ls H locs fx ks wh lo hl
  exact lv_imul fx.1 fx.2.1 hd  (k r hr p e s m args below meth c ls H locs fx ks wh lo hl)
theorem J_iand {a b : Int32} (hd : decode M.2.1 pc = .ok (.iand, 1))  (k : J E M R Q cells slots μ (pc + 1) lv (.inl (a &&& b) :: st) F) : J E M R Q cells slots μ pc lv (.inl b :: .inl a :: st) F := by
  intro r hr p e s m args below meth c ls H locs fx ks wh lo hl
  exact lv_iand fx.1 fx.2.1 hd  (k r hr p e s m args below meth c ls H locs fx ks wh lo hl)
theorem J_ixor {a b : Int32} (hd : decode M.2.1 pc = .ok (.ixor, 1))  (k : J E M R Q cells slots μ (pc + 1) lv (.inl (a ^^^ b) :: st) F) : J E M R Q cells slots μ pc lv (.inl b :: .inl a :: st) F := by
  intro r hr p e s m args below meth c ls H locs fx ks wh lo hl
  exact lv_ixor fx.1 fx.2.1 hd  (k r hr p e s m args below meth c ls H locs fx ks wh lo hl)
theorem J_ishr {a b : Int32} (hd : decode M.2.1 pc = .ok (.ishr, 1))  (k : J E M R Q cells slots μ (pc + 1) lv (.inl (a >>> (b &&& 31)) :: st) F) : J E M R Q cells slots μ pc lv (.inl b :: .inl a :: st) F := by
  intro r hr p e s m args below meth c ls H locs fx ks wh lo hl
  exact lv_ishr fx.1 fx.2.1 hd  (k r hr p e s m args below meth c ls H locs fx ks wh lo hl)
theorem J_ineg {a : Int32} (hd : decode M.2.1 pc = .ok (.ineg, 1))  (k : J E M R Q cells slots μ (pc + 1) lv (.inl (-a) :: st) F) : J E M R Q cells slots μ pc lv (.inl a :: st) F := by
  intro r hr p e s m args below meth c ls H locs fx ks wh lo hl
  exact lv_ineg fx.1 fx.2.1 hd  (k r hr p e s m args below meth c ls H locs fx ks wh lo hl)
def idv (a b : Int32) (K : Int32 → Option (LV × Mem)) : Option (LV × Mem) := if b = 0 then none else K (a / b)
def irm (a b : Int32) : Int32 := a - a / b * b
def irv (a b : Int32) (K : Int32 → Option (LV × Mem)) : Option (LV × Mem) := if b = 0 then none else K (irm a b)
theorem J_idivL {a b : Int32} (hd : decode M.2.1 pc = .ok (.idiv, 1)) (hb : ¬ b = 0) (k : J E M R Q cells slots μ (pc + 1) lv (.inl (a / b) :: st) F) : J E M R Q cells slots μ pc lv (.inl b :: .inl a :: st) F := by
  intro r hr p e s m args below meth c ls H locs fx ks wh lo hl
  exact lv_idiv fx.1 fx.2.1 hd hb (k r hr p e s m args below meth c ls H locs fx ks wh lo hl)
theorem J_iremL {a b : Int32} (hd : decode M.2.1 pc = .ok (.irem, 1)) (hb : ¬ b = 0) (k : J E M R Q cells slots μ (pc + 1) lv (.inl (irm a b) :: st) F) : J E M R Q cells slots μ pc lv (.inl b :: .inl a :: st) F := by
  intro r hr p e s m args below meth c ls H locs fx ks wh lo hl
  exact lv_irem fx.1 fx.2.1 hd hb (k r hr p e s m args below meth c ls H locs fx ks wh lo hl)
theorem J_idiv {a b : Int32} {K : Int32 → Option (LV × Mem)} (hd : decode M.2.1 pc = .ok (.idiv, 1)) (k : ∀ v, J E M R Q cells slots μ (pc + 1) lv (.inl v :: st) (K v)) : J E M R Q cells slots μ pc lv (.inl b :: .inl a :: st) (idv a b K) := by
  by_cases hb : b = 0
  · intro r hr; simp [idv, hb] at hr
  · rw [show idv a b K = K (a / b) from if_neg hb]; exact J_idivL hd hb (k _)
theorem J_irem {a b : Int32} {K : Int32 → Option (LV × Mem)} (hd : decode M.2.1 pc = .ok (.irem, 1)) (k : ∀ v, J E M R Q cells slots μ (pc + 1) lv (.inl v :: st) (K v)) : J E M R Q cells slots μ pc lv (.inl b :: .inl a :: st) (irv a b K) := by
  by_cases hb : b = 0
  · intro r hr; simp [irv, hb] at hr
  · rw [show irv a b K = K (irm a b) from if_neg hb]; exact J_iremL hd hb (k _)
def nm (x : Int32) (K : Int32 → Option (LV × Mem)) : Option (LV × Mem) := K x
theorem J_nm {x : Int32} {K : Int32 → Option (LV × Mem)} (k : ∀ v, J E M R Q cells slots μ pc lv (.inl v :: st) (K v)) : J E M R Q cells slots μ pc lv (.inl x :: st) (nm x K) := k x
theorem J_wid {k n : Nat} (h1 : cells ≤ k) (h2 : slots ≤ n) (kk : J E M R Q k n μ pc lv st F) : J E M R Q cells slots μ pc lv st F := by
  intro r hr p e s m args below meth c ls H locs fx ks wh lo hl
  exact W.widen h1 h2 (kk r hr p e s m args below meth c ls H locs fx ks wh lo hl)
theorem J_dup {x : LV} (hd : decode M.2.1 pc = .ok (.dup, 1))  (k : J E M R Q cells slots μ (pc + 1) lv (x :: x :: st) F) : J E M R Q cells slots μ pc lv (x :: st) F := by
  intro r hr p e s m args below meth c ls H locs fx ks wh lo hl
  exact lv_dup fx.1 fx.2.1 hd (tv_cat E x) (k r hr p e s m args below meth c ls H locs fx ks wh lo hl)
theorem J_pop {x : LV} (hd : decode M.2.1 pc = .ok (.pop, 1))  (k : J E M R Q cells slots μ (pc + 1) lv st F) : J E M R Q cells slots μ pc lv (x :: st) F := by
  intro r hr p e s m args below meth c ls H locs fx ks wh lo hl
  exact lv_pop fx.1 fx.2.1 hd (tv_cat E x) (k r hr p e s m args below meth c ls H locs fx ks wh lo hl)
theorem J_dup_x1 {x y : LV} (hd : decode M.2.1 pc = .ok (.dup_x1, 1))  (k : J E M R Q cells slots μ (pc + 1) lv (x :: y :: x :: st) F) : J E M R Q cells slots μ pc lv (x :: y :: st) F := by
  intro r hr p e s m args below meth c ls H locs fx ks wh lo hl
  exact lv_dup_x1 fx.1 fx.2.1 hd (tv_cat E x) (tv_cat E y) (k r hr p e s m args below meth c ls H locs fx ks wh lo hl)
theorem J_dup2 {x y : LV} (hd : decode M.2.1 pc = .ok (.dup2, 1))  (k : J E M R Q cells slots μ (pc + 1) lv (x :: y :: x :: y :: st) F) : J E M R Q cells slots μ pc lv (x :: y :: st) F := by
  intro r hr p e s m args below meth c ls H locs fx ks wh lo hl
  exact lv_dup2_11 fx.1 fx.2.1 hd (tv_cat E x) (tv_cat E y) (k r hr p e s m args below meth c ls H locs fx ks wh lo hl)
theorem J_null  (hd : decode M.2.1 pc = .ok (.aconst_null, 1))  (k : J E M R Q cells slots μ (pc + 1) lv (.inr 0 :: st) F) : J E M R Q cells slots μ pc lv st F := by
  intro r hr p e s m args below meth c ls H locs fx ks wh lo hl
  exact lv_null fx.1 fx.2.1 hd  (k r hr p e s m args below meth c ls H locs fx ks wh lo hl)
theorem J_iload_n {kf : Fin 4} {x : Int32} (hd : decode M.2.1 pc = .ok (.iload_n kf, 1)) (hv : lv[kf.val]? = some (some (.inl x))) (k : J E M R Q cells slots μ (pc + 1) lv (.inl x :: st) F) : J E M R Q cells slots μ pc lv st F := by
  intro r hr p e s m args below meth c ls H locs fx ks wh lo hl
  exact lv_iload_n fx.1 fx.2.1 hd rfl (hl.2.2 _ _ hv) (k r hr p e s m args below meth c ls H locs fx ks wh lo hl)
theorem J_iload {i : Nat} {x : Int32} (hd : decode M.2.1 pc = .ok (.iload i, 2)) (hv : lv[i]? = some (some (.inl x))) (k : J E M R Q cells slots μ (pc + 2) lv (.inl x :: st) F) : J E M R Q cells slots μ pc lv st F := by
  intro r hr p e s m args below meth c ls H locs fx ks wh lo hl
  exact lv_iload fx.1 fx.2.1 hd (hl.2.2 _ _ hv) (k r hr p e s m args below meth c ls H locs fx ks wh lo hl)
theorem J_aload_n {kf : Fin 4} {h : Nat} (hd : decode M.2.1 pc = .ok (.aload_n kf, 1)) (hv : lv[kf.val]? = some (some (.inr h))) (k : J E M R Q cells slots μ (pc + 1) lv (.inr h :: st) F) : J E M R Q cells slots μ pc lv st F := by
  intro r hr p e s m args below meth c ls H locs fx ks wh lo hl
  have k1 := k r hr p e s m args below meth c ls H locs fx ks wh lo hl
  have h1 := hl.2.2 _ _ hv
  simp only [List.map_cons, tv] at k1 h1
  cases hq : ra E h with
  | none => rw [hq] at k1 h1; exact lv_aload_nN fx.1 fx.2.1 hd rfl h1 k1
  | some a => rw [hq] at k1 h1; exact lv_aload_n fx.1 fx.2.1 hd rfl h1 k1
theorem J_aload {i : Nat} {h : Nat} (hd : decode M.2.1 pc = .ok (.aload i, 2)) (hv : lv[i]? = some (some (.inr h))) (k : J E M R Q cells slots μ (pc + 2) lv (.inr h :: st) F) : J E M R Q cells slots μ pc lv st F := by
  intro r hr p e s m args below meth c ls H locs fx ks wh lo hl
  have k1 := k r hr p e s m args below meth c ls H locs fx ks wh lo hl
  have h1 := hl.2.2 _ _ hv
  simp only [List.map_cons, tv] at k1 h1
  cases hq : ra E h with
  | none => rw [hq] at k1 h1; exact lv_aloadN fx.1 fx.2.1 hd h1 k1
  | some a => rw [hq] at k1 h1; exact lv_aload fx.1 fx.2.1 hd h1 k1
def la (E : EV) (lv : List (Option LV)) : List (Nat × Value) := (List.range lv.length).filterMap (fun i => match lv[i]? with
  | some (some x) => some (i, tv E x)
  | _ => none)
theorem la_mem {E : EV} {lv : List (Option LV)} {i : Nat} {x : LV} (h : lv[i]? = some (some x)) : (i, tv E x) ∈ la E lv := by
  have hi : i < lv.length := (List.getElem?_eq_some_iff.mp h).1
  exact List.mem_filterMap.mpr ⟨i, List.mem_range.mpr hi, by rw [h]⟩
theorem la_has {E : EV} {ls : Array Slot} {nL : Nat} {lv : List (Option LV)} (h : LVok E ls nL lv) : lv_has ls nL (la E lv) := by
  refine ⟨h.1, h.2.1, fun q hq => ?_⟩
  obtain ⟨i, -, hi⟩ := List.mem_filterMap.mp hq
  split at hi
  · cases hi
    exact h.2.2 i _ (by assumption)
  · cases hi
theorem la_set {E : EV} {ls : Array Slot} {nL i : Nat} {lv : List (Option LV)} {x : LV} (h : lv_has ls nL ((i, tv E x) :: (la E lv).filter (fun q => !(q.1 == i) && !(q.1 + 1 == i && q.2.category == 2)))) : LVok E ls nL (lv.set i (some x)) := by
  refine ⟨h.1, h.2.1, fun j y hy => ?_⟩
  by_cases hj : j = i
  · subst hj
    have hlt : j < lv.length := by
      have := (List.getElem?_eq_some_iff.mp hy).1
      simpa using this
    rw [List.getElem?_set_self hlt] at hy
    have e := Option.some.inj (Option.some.inj hy)
    rw [← e]
    exact h.2.2 (j, tv E x) List.mem_cons_self
  · rw [List.getElem?_set_ne (fun q => hj q.symm)] at hy
    exact h.2.2 (j, tv E y) (List.mem_cons_of_mem _ (List.mem_filter.mpr ⟨la_mem hy, by simp [hj, tv_cat]⟩))
theorem LVok.sub {E : EV} {ls : Array Slot} {nL : Nat} {lv lv' : List (Option LV)} (h : LVok E ls nL lv) (hs : ∀ (i : Nat) (x : LV), lv'[i]? = some (some x) → lv[i]? = some (some x)) : LVok E ls nL lv' := ⟨h.1, h.2.1, fun i x hx => h.2.2 i x (hs i x hx)⟩
theorem J_istore_n {kf : Fin 4} {x : Int32} {lv' : List (Option LV)} (hd : decode M.2.1 pc = .ok (.istore_n kf, 1)) (hn : kf.val < M.2.2.1) (hs : lv.set kf.val (some (.inl x)) = lv') (k : J E M R Q cells slots μ (pc + 1) lv' st F) : J E M R Q cells slots μ pc lv (.inl x :: st) F := by
  intro r hr p e s m args below meth c ls H locs fx ks wh lo hl
  subst hs
  exact lv_istore_n fx.1 fx.2.1 hd rfl (la_has hl) hn rfl (fun ls' h' => k r hr p e s m args below meth c ls' H locs fx ks wh lo (la_set (x := .inl x) h'))
theorem J_istore {i : Nat} {x : Int32} {lv' : List (Option LV)} (hd : decode M.2.1 pc = .ok (.istore i, 2)) (hn : i < M.2.2.1) (hs : lv.set i (some (.inl x)) = lv') (k : J E M R Q cells slots μ (pc + 2) lv' st F) : J E M R Q cells slots μ pc lv (.inl x :: st) F := by
  intro r hr p e s m args below meth c ls H locs fx ks wh lo hl
  subst hs
  exact lv_istore fx.1 fx.2.1 hd (la_has hl) hn rfl (fun ls' h' => k r hr p e s m args below meth c ls' H locs fx ks wh lo (la_set (x := .inl x) h'))
theorem J_astore_n {kf : Fin 4} {h : Nat} {lv' : List (Option LV)} (hd : decode M.2.1 pc = .ok (.astore_n kf, 1)) (hn : kf.val < M.2.2.1) (hs : lv.set kf.val (some (.inr h)) = lv') (k : J E M R Q cells slots μ (pc + 1) lv' st F) : J E M R Q cells slots μ pc lv (.inr h :: st) F := by
  intro r hr p e s m args below meth c ls H locs fx ks wh lo hl
  subst hs
  have kk : ∀ ls' : Array Slot, lv_has ls' M.2.2.1 ((kf.val, va_rf (ra E h)) :: (la E lv).filter (fun q => !(q.1 == kf.val) && !(q.1 + 1 == kf.val && q.2.category == 2))) → W p E.1 e R s m args below meth c H locs cells slots (Q r below args s) (F0 m (pc + 1) ls' (st.map (tv E))) := fun ls' h' => k r hr p e s m args below meth c ls' H locs fx ks wh lo (la_set (x := .inr h) h')
  show W p E.1 e R s m args below meth c H locs cells slots (Q r below args s) (F0 m pc ls (va_rf (ra E h) :: st.map (tv E)))
  cases hq : ra E h with
  | none => rw [hq] at kk; exact lv_astore_nN fx.1 fx.2.1 hd rfl (la_has hl) hn rfl kk
  | some a => rw [hq] at kk; exact lv_astore_n fx.1 fx.2.1 hd rfl (la_has hl) hn rfl kk
theorem J_astore {i : Nat} {h : Nat} {lv' : List (Option LV)} (hd : decode M.2.1 pc = .ok (.astore i, 2)) (hn : i < M.2.2.1) (hs : lv.set i (some (.inr h)) = lv') (k : J E M R Q cells slots μ (pc + 2) lv' st F) : J E M R Q cells slots μ pc lv (.inr h :: st) F := by
  intro r hr p e s m args below meth c ls H locs fx ks wh lo hl
  subst hs
  have kk : ∀ ls' : Array Slot, lv_has ls' M.2.2.1 ((i, va_rf (ra E h)) :: (la E lv).filter (fun q => !(q.1 == i) && !(q.1 + 1 == i && q.2.category == 2))) → W p E.1 e R s m args below meth c H locs cells slots (Q r below args s) (F0 m (pc + 2) ls' (st.map (tv E))) := fun ls' h' => k r hr p e s m args below meth c ls' H locs fx ks wh lo (la_set (x := .inr h) h')
  show W p E.1 e R s m args below meth c H locs cells slots (Q r below args s) (F0 m pc ls (va_rf (ra E h) :: st.map (tv E)))
  cases hq : ra E h with
  | none => rw [hq] at kk; exact lv_astoreN fx.1 fx.2.1 hd (la_has hl) hn rfl kk
  | some a => rw [hq] at kk; exact lv_astore fx.1 fx.2.1 hd (la_has hl) hn rfl kk
theorem J_iinc {i : Nat} {n : Int} {x v : Int32} {lv' : List (Option LV)} (hd : decode M.2.1 pc = .ok (.iinc i n, 3)) (hn : i < M.2.2.1) (hx : lv[i]? = some (some (.inl x))) (hv : x + Int32.ofInt n = v) (hs : lv.set i (some (.inl v)) = lv') (k : J E M R Q cells slots μ (pc + 3) lv' st F) : J E M R Q cells slots μ pc lv st F := by
  intro r hr p e s m args below meth c ls H locs fx ks wh lo hl
  subst hs
  obtain ⟨q, hq⟩ := List.getElem?_of_mem (la_mem (E := E) hx)
  exact lv_iinc fx.1 fx.2.1 hd (la_has hl) hq hv hn rfl (fun ls' h' => k r hr p e s m args below meth c ls' H locs fx ks wh lo (la_set (x := .inl v) h'))
theorem J_sub {lv' : List (Option LV)} (hs : ∀ (i : Nat) (x : LV), lv'[i]? = some (some x) → lv[i]? = some (some x)) (k : J E M R Q cells slots μ pc lv' st F) : J E M R Q cells slots μ pc lv st F := by
  intro r hr p e s m args below meth c ls H locs fx ks wh lo hl
  exact k r hr p e s m args below meth c ls H locs fx ks wh lo (hl.sub hs)
def keepL : List Bool → List (Option LV) → List (Option LV)
  | true :: bs, x :: xs => x :: keepL bs xs
  | false :: bs, _ :: xs => none :: keepL bs xs
  | _, _ => []
theorem keepL_sub : ∀ (bs : List Bool) (xs : List (Option LV)) (i : Nat) (x : LV), (keepL bs xs)[i]? = some (some x) → xs[i]? = some (some x)
  | true :: bs, y :: xs, 0, x, h => by simpa [keepL] using h
  | true :: bs, y :: xs, i + 1, x, h => by simpa using keepL_sub bs xs i x (by simpa [keepL] using h)
  | false :: bs, y :: xs, 0, x, h => by simp [keepL] at h
  | false :: bs, y :: xs, i + 1, x, h => by simpa using keepL_sub bs xs i x (by simpa [keepL] using h)
  | [], xs, i, x, h => by simp [keepL] at h
  | true :: bs, [], i, x, h => by simp [keepL] at h
  | false :: bs, [], i, x, h => by simp [keepL] at h
theorem J_keep (bs : List Bool) {lv' : List (Option LV)} (hs : keepL bs lv = lv') (k : J E M R Q cells slots μ pc lv' st F) : J E M R Q cells slots μ pc lv st F := by
  subst hs
  exact J_sub (keepL_sub bs lv) k
theorem J_if_eq {x : Int32} {off : Int} {tgt : Nat} {F1 F2 : Option (LV × Mem)} (hd : decode M.2.1 pc = .ok (.ifCond .eq off, 3)) (ht : (pc : Int) + off = (tgt : Int)) (k1 : J E M R Q cells slots μ tgt lv st F1) (k2 : J E M R Q cells slots μ (pc + 3) lv st F2) : J E M R Q cells slots μ pc lv (.inl x :: st) (if x = 0 then F1 else F2) := by
  intro r hr p e s m args below meth c ls H locs fx ks wh lo hl
  exact lv_if_eq fx.1 fx.2.1 hd ht (fun hc => k1 r (by rw [if_pos hc] at hr; exact hr) p e s m args below meth c ls H locs fx ks wh lo hl) (fun hc => k2 r (by rw [if_neg hc] at hr; exact hr) p e s m args below meth c ls H locs fx ks wh lo hl)
theorem J_icmp_eq {x y : Int32} {off : Int} {tgt : Nat} {F1 F2 : Option (LV × Mem)} (hd : decode M.2.1 pc = .ok (.if_icmp .eq off, 3)) (ht : (pc : Int) + off = (tgt : Int)) (k1 : J E M R Q cells slots μ tgt lv st F1) (k2 : J E M R Q cells slots μ (pc + 3) lv st F2) : J E M R Q cells slots μ pc lv (.inl y :: .inl x :: st) (if x = y then F1 else F2) := by
  intro r hr p e s m args below meth c ls H locs fx ks wh lo hl
  exact lv_icmp_eq fx.1 fx.2.1 hd ht (fun hc => k1 r (by rw [if_pos hc] at hr; exact hr) p e s m args below meth c ls H locs fx ks wh lo hl) (fun hc => k2 r (by rw [if_neg hc] at hr; exact hr) p e s m args below meth c ls H locs fx ks wh lo hl)
theorem J_if_ne {x : Int32} {off : Int} {tgt : Nat} {F1 F2 : Option (LV × Mem)} (hd : decode M.2.1 pc = .ok (.ifCond .ne off, 3)) (ht : (pc : Int) + off = (tgt : Int)) (k1 : J E M R Q cells slots μ tgt lv st F1) (k2 : J E M R Q cells slots μ (pc + 3) lv st F2) : J E M R Q cells slots μ pc lv (.inl x :: st) (if x = 0 then F2 else F1) := by
  intro r hr p e s m args below meth c ls H locs fx ks wh lo hl
  exact lv_if_ne fx.1 fx.2.1 hd ht (fun hc => k1 r (by rw [if_neg hc] at hr; exact hr) p e s m args below meth c ls H locs fx ks wh lo hl) (fun hc => k2 r (by rw [if_pos hc] at hr; exact hr) p e s m args below meth c ls H locs fx ks wh lo hl)
theorem J_icmp_ne {x y : Int32} {off : Int} {tgt : Nat} {F1 F2 : Option (LV × Mem)} (hd : decode M.2.1 pc = .ok (.if_icmp .ne off, 3)) (ht : (pc : Int) + off = (tgt : Int)) (k1 : J E M R Q cells slots μ tgt lv st F1) (k2 : J E M R Q cells slots μ (pc + 3) lv st F2) : J E M R Q cells slots μ pc lv (.inl y :: .inl x :: st) (if x = y then F2 else F1) := by
  intro r hr p e s m args below meth c ls H locs fx ks wh lo hl
  exact lv_icmp_ne fx.1 fx.2.1 hd ht (fun hc => k1 r (by rw [if_neg hc] at hr; exact hr) p e s m args below meth c ls H locs fx ks wh lo hl) (fun hc => k2 r (by rw [if_pos hc] at hr; exact hr) p e s m args below meth c ls H locs fx ks wh lo hl)
theorem J_if_lt {x : Int32} {off : Int} {tgt : Nat} {F1 F2 : Option (LV × Mem)} (hd : decode M.2.1 pc = .ok (.ifCond .lt off, 3)) (ht : (pc : Int) + off = (tgt : Int)) (k1 : J E M R Q cells slots μ tgt lv st F1) (k2 : J E M R Q cells slots μ (pc + 3) lv st F2) : J E M R Q cells slots μ pc lv (.inl x :: st) (if x < 0 then F1 else F2) := by
  intro r hr p e s m args below meth c ls H locs fx ks wh lo hl
  exact lv_if_lt fx.1 fx.2.1 hd ht (fun hc => k1 r (by rw [if_pos hc] at hr; exact hr) p e s m args below meth c ls H locs fx ks wh lo hl) (fun hc => k2 r (by rw [if_neg hc] at hr; exact hr) p e s m args below meth c ls H locs fx ks wh lo hl)
theorem J_icmp_lt {x y : Int32} {off : Int} {tgt : Nat} {F1 F2 : Option (LV × Mem)} (hd : decode M.2.1 pc = .ok (.if_icmp .lt off, 3)) (ht : (pc : Int) + off = (tgt : Int)) (k1 : J E M R Q cells slots μ tgt lv st F1) (k2 : J E M R Q cells slots μ (pc + 3) lv st F2) : J E M R Q cells slots μ pc lv (.inl y :: .inl x :: st) (if x < y then F1 else F2) := by
  intro r hr p e s m args below meth c ls H locs fx ks wh lo hl
  exact lv_icmp_lt fx.1 fx.2.1 hd ht (fun hc => k1 r (by rw [if_pos hc] at hr; exact hr) p e s m args below meth c ls H locs fx ks wh lo hl) (fun hc => k2 r (by rw [if_neg hc] at hr; exact hr) p e s m args below meth c ls H locs fx ks wh lo hl)
theorem J_if_ge {x : Int32} {off : Int} {tgt : Nat} {F1 F2 : Option (LV × Mem)} (hd : decode M.2.1 pc = .ok (.ifCond .ge off, 3)) (ht : (pc : Int) + off = (tgt : Int)) (k1 : J E M R Q cells slots μ tgt lv st F1) (k2 : J E M R Q cells slots μ (pc + 3) lv st F2) : J E M R Q cells slots μ pc lv (.inl x :: st) (if 0 ≤ x then F1 else F2) := by
  intro r hr p e s m args below meth c ls H locs fx ks wh lo hl
  exact lv_if_ge fx.1 fx.2.1 hd ht (fun hc => k1 r (by rw [if_pos hc] at hr; exact hr) p e s m args below meth c ls H locs fx ks wh lo hl) (fun hc => k2 r (by rw [if_neg hc] at hr; exact hr) p e s m args below meth c ls H locs fx ks wh lo hl)
theorem J_icmp_ge {x y : Int32} {off : Int} {tgt : Nat} {F1 F2 : Option (LV × Mem)} (hd : decode M.2.1 pc = .ok (.if_icmp .ge off, 3)) (ht : (pc : Int) + off = (tgt : Int)) (k1 : J E M R Q cells slots μ tgt lv st F1) (k2 : J E M R Q cells slots μ (pc + 3) lv st F2) : J E M R Q cells slots μ pc lv (.inl y :: .inl x :: st) (if y ≤ x then F1 else F2) := by
  intro r hr p e s m args below meth c ls H locs fx ks wh lo hl
  exact lv_icmp_ge fx.1 fx.2.1 hd ht (fun hc => k1 r (by rw [if_pos hc] at hr; exact hr) p e s m args below meth c ls H locs fx ks wh lo hl) (fun hc => k2 r (by rw [if_neg hc] at hr; exact hr) p e s m args below meth c ls H locs fx ks wh lo hl)
theorem J_if_gt {x : Int32} {off : Int} {tgt : Nat} {F1 F2 : Option (LV × Mem)} (hd : decode M.2.1 pc = .ok (.ifCond .gt off, 3)) (ht : (pc : Int) + off = (tgt : Int)) (k1 : J E M R Q cells slots μ tgt lv st F1) (k2 : J E M R Q cells slots μ (pc + 3) lv st F2) : J E M R Q cells slots μ pc lv (.inl x :: st) (if 0 < x then F1 else F2) := by
  intro r hr p e s m args below meth c ls H locs fx ks wh lo hl
  exact lv_if_gt fx.1 fx.2.1 hd ht (fun hc => k1 r (by rw [if_pos hc] at hr; exact hr) p e s m args below meth c ls H locs fx ks wh lo hl) (fun hc => k2 r (by rw [if_neg hc] at hr; exact hr) p e s m args below meth c ls H locs fx ks wh lo hl)
theorem J_icmp_gt {x y : Int32} {off : Int} {tgt : Nat} {F1 F2 : Option (LV × Mem)} (hd : decode M.2.1 pc = .ok (.if_icmp .gt off, 3)) (ht : (pc : Int) + off = (tgt : Int)) (k1 : J E M R Q cells slots μ tgt lv st F1) (k2 : J E M R Q cells slots μ (pc + 3) lv st F2) : J E M R Q cells slots μ pc lv (.inl y :: .inl x :: st) (if y < x then F1 else F2) := by
  intro r hr p e s m args below meth c ls H locs fx ks wh lo hl
  exact lv_icmp_gt fx.1 fx.2.1 hd ht (fun hc => k1 r (by rw [if_pos hc] at hr; exact hr) p e s m args below meth c ls H locs fx ks wh lo hl) (fun hc => k2 r (by rw [if_neg hc] at hr; exact hr) p e s m args below meth c ls H locs fx ks wh lo hl)
theorem J_if_le {x : Int32} {off : Int} {tgt : Nat} {F1 F2 : Option (LV × Mem)} (hd : decode M.2.1 pc = .ok (.ifCond .le off, 3)) (ht : (pc : Int) + off = (tgt : Int)) (k1 : J E M R Q cells slots μ tgt lv st F1) (k2 : J E M R Q cells slots μ (pc + 3) lv st F2) : J E M R Q cells slots μ pc lv (.inl x :: st) (if x ≤ 0 then F1 else F2) := by
  intro r hr p e s m args below meth c ls H locs fx ks wh lo hl
  exact lv_if_le fx.1 fx.2.1 hd ht (fun hc => k1 r (by rw [if_pos hc] at hr; exact hr) p e s m args below meth c ls H locs fx ks wh lo hl) (fun hc => k2 r (by rw [if_neg hc] at hr; exact hr) p e s m args below meth c ls H locs fx ks wh lo hl)
theorem J_icmp_le {x y : Int32} {off : Int} {tgt : Nat} {F1 F2 : Option (LV × Mem)} (hd : decode M.2.1 pc = .ok (.if_icmp .le off, 3)) (ht : (pc : Int) + off = (tgt : Int)) (k1 : J E M R Q cells slots μ tgt lv st F1) (k2 : J E M R Q cells slots μ (pc + 3) lv st F2) : J E M R Q cells slots μ pc lv (.inl y :: .inl x :: st) (if x ≤ y then F1 else F2) := by
  intro r hr p e s m args below meth c ls H locs fx ks wh lo hl
  exact lv_icmp_le fx.1 fx.2.1 hd ht (fun hc => k1 r (by rw [if_pos hc] at hr; exact hr) p e s m args below meth c ls H locs fx ks wh lo hl) (fun hc => k2 r (by rw [if_neg hc] at hr; exact hr) p e s m args below meth c ls H locs fx ks wh lo hl)
theorem J_goto {off : Int} {tgt : Nat} (hd : decode M.2.1 pc = .ok (.goto off, 3)) (ht : (pc : Int) + off = (tgt : Int)) (k : J E M R Q cells slots μ tgt lv st F) : J E M R Q cells slots μ pc lv st F := by
  intro r hr p e s m args below meth c ls H locs fx ks wh lo hl
  exact lv_goto fx.1 fx.2.1 hd ht (k r hr p e s m args below meth c ls H locs fx ks wh lo hl)
theorem ra_ne {E : EV} {h : Nat} (hh : ¬ h = 0) : ∃ a, ra E h = some a := by
  match h, hh with
  | 0, hh => exact absurd rfl hh
  | 1, _ => exact ⟨_, rfl⟩
  | 2, _ => exact ⟨_, rfl⟩
  | 3, _ => exact ⟨_, rfl⟩
  | h + 4, _ => exact ⟨_, rfl⟩
theorem J_ifnull {h : Nat} {off : Int} {tgt : Nat} {F1 F2 : Option (LV × Mem)} (hd : decode M.2.1 pc = .ok (.ifnull off, 3)) (ht : (pc : Int) + off = (tgt : Int)) (k1 : J E M R Q cells slots μ tgt lv st F1) (k2 : J E M R Q cells slots μ (pc + 3) lv st F2) : J E M R Q cells slots μ pc lv (.inr h :: st) (if h = 0 then F1 else F2) := by
  intro r hr p e s m args below meth c ls H locs fx ks wh lo hl
  show W p E.1 e R s m args below meth c H locs cells slots (Q r below args s) (F0 m pc ls (va_rf (ra E h) :: st.map (tv E)))
  by_cases hh : h = 0
  · subst hh
    rw [if_pos rfl] at hr
    exact lv_ifnullN fx.1 fx.2.1 hd ht (k1 r hr p e s m args below meth c ls H locs fx ks wh lo hl)
  · rw [if_neg hh] at hr
    obtain ⟨a, ha⟩ := ra_ne (E := E) hh
    rw [ha]
    exact lv_ifnull fx.1 fx.2.1 hd (k2 r hr p e s m args below meth c ls H locs fx ks wh lo hl)
theorem J_ifnonnull {h : Nat} {off : Int} {tgt : Nat} {F1 F2 : Option (LV × Mem)} (hd : decode M.2.1 pc = .ok (.ifnonnull off, 3)) (ht : (pc : Int) + off = (tgt : Int)) (k1 : J E M R Q cells slots μ tgt lv st F1) (k2 : J E M R Q cells slots μ (pc + 3) lv st F2) : J E M R Q cells slots μ pc lv (.inr h :: st) (if h = 0 then F2 else F1) := by
  intro r hr p e s m args below meth c ls H locs fx ks wh lo hl
  show W p E.1 e R s m args below meth c H locs cells slots (Q r below args s) (F0 m pc ls (va_rf (ra E h) :: st.map (tv E)))
  by_cases hh : h = 0
  · subst hh
    rw [if_pos rfl] at hr
    exact lv_ifnonnullN fx.1 fx.2.1 hd (k2 r hr p e s m args below meth c ls H locs fx ks wh lo hl)
  · rw [if_neg hh] at hr
    obtain ⟨a, ha⟩ := ra_ne (E := E) hh
    rw [ha]
    exact lv_ifnonnull fx.1 fx.2.1 hd ht (k1 r hr p e s m args below meth c ls H locs fx ks wh lo hl)
end JR
end
section
/-! the rows that read and write cells -/
theorem shp_si (μ : Mem) (h k : Nat) (x : Int32) (b : Nat) : shp (si μ h k x) b = shp μ b := rfl
theorem shp_sr (μ : Mem) (h k : Nat) (x : Nat) (b : Nat) : shp (sr μ h k x) b = shp μ b := rfl
theorem gi_si (μ : Mem) (h k : Nat) (x : Int32) (b j : Nat) : gi (si μ h k x) b j = if b = h ∧ j = k then x else gi μ b j := rfl
theorem gr_si (μ : Mem) (h k : Nat) (x : Int32) (b j : Nat) : gr (si μ h k x) b j = gr μ b j := rfl
theorem gi_sr (μ : Mem) (h k : Nat) (x : Nat) (b j : Nat) : gi (sr μ h k x) b j = gi μ b j := rfl
theorem gr_sr (μ : Mem) (h k : Nat) (x : Nat) (b j : Nat) : gr (sr μ h k x) b j = if b = h ∧ j = k then x else gr μ b j := rfl
theorem shp_nw (μ : Mem) (s : Nat × Nat) (b : Nat) : shp (nw μ s) b = if b = μ.1 + 4 then s else shp μ b := by
  unfold shp nw
  by_cases h1 : b = 1
  · subst h1
    rw [if_pos rfl, if_pos rfl, if_neg (by omega)]
  · rw [if_neg h1, if_neg h1]
    by_cases h2 : b = μ.1 + 4
    · subst h2
      rw [if_pos (by dsimp only; omega), if_pos rfl]
      exact if_pos rfl
    · rw [if_neg h2]
      by_cases h3 : 4 ≤ b ∧ b < μ.1 + 4
      · rw [if_pos h3, if_pos (by dsimp only; omega)]
        exact if_neg h2
      · rw [if_neg h3, if_neg (by dsimp only; omega)]
theorem gi_nw (μ : Mem) (s : Nat × Nat) (b j : Nat) : gi (nw μ s) b j = if b = μ.1 + 4 then 0 else gi μ b j := rfl
theorem gr_nw (μ : Mem) (s : Nat × Nat) (b j : Nat) : gr (nw μ s) b j = if b = μ.1 + 4 then 0 else gr μ b j := rfl
theorem cellOf_si (E : EV) (μ : Mem) {h k : Nat} (x : Int32) {b : Nat} (hb : b ≠ h) : cellOf E (si μ h k x) b = cellOf E μ b := by
  have e : gi (si μ h k x) b = gi μ b := funext fun j => by rw [gi_si, if_neg (fun q => hb q.1)]
  have e2 : ∀ c, fval E (si μ h k x) c b = fval E μ c b := fun c => funext fun j => by unfold fval; rw [e, gr_si]
  unfold cellOf
  rw [shp_si]
  unfold cellS
  split <;> first | rw [e] | rw [e2] | rfl
theorem cellOf_sr (E : EV) (μ : Mem) {h k : Nat} (x : Nat) {b : Nat} (hb : b ≠ h) : cellOf E (sr μ h k x) b = cellOf E μ b := by
  have e : gr (sr μ h k x) b = gr μ b := funext fun j => by rw [gr_sr, if_neg (fun q => hb q.1)]
  have e2 : ∀ c, fval E (sr μ h k x) c b = fval E μ c b := fun c => funext fun j => by unfold fval; rw [e, gi_sr]
  unfold cellOf
  rw [shp_sr]
  unfold cellS
  split
  · rfl
  · rfl
  · rw [e]
  · rw [e2]
theorem cellOf_nw (E : EV) (μ : Mem) (s : Nat × Nat) {b : Nat} (hb : b ≠ μ.1 + 4) : cellOf E (nw μ s) b = cellOf E μ b := by
  have e : gr (nw μ s) b = gr μ b := funext fun j => by rw [gr_nw, if_neg hb]
  have e1 : gi (nw μ s) b = gi μ b := funext fun j => by rw [gi_nw, if_neg hb]
  have e2 : ∀ c, fval E (nw μ s) c b = fval E μ c b := fun c => funext fun j => by unfold fval; rw [e, e1]
  unfold cellOf
  rw [shp_nw, if_neg hb]
  unfold cellS
  split
  · rw [e1]
  · rw [e1]
  · rw [e]
  · rw [e2]
theorem shp_at {μ : Mem} {h : Nat} {s : Nat × Nat} (hs : shp μ h = s) (h1 : s ≠ (2, 0)) (h2 : s ≠ (999, 0)) : ∃ a, h = a + 4 ∧ a < μ.1 := by
  unfold shp at hs
  split at hs
  · exact absurd hs.symm h1
  · split at hs
    · exact ⟨h - 4, by omega, by omega⟩
    · exact absurd hs.symm h2
theorem cell_at {E : EV} {μ : Mem} {h : Nat} {s : Nat × Nat} (hs : shp μ h = s) (h1 : s ≠ (2, 0)) (h2 : s ≠ (999, 0)) : ∃ a, h = a + 4 ∧ a < μ.1 ∧ (wl E μ)[a]? = some (E.2.1.size + a, cellS E μ h s) := by
  obtain ⟨a, rfl, ha⟩ := shp_at hs h1 h2
  exact ⟨a, rfl, ha, by rw [wl_get E μ ha]; unfold cellOf; rw [hs]⟩
theorem WH_put {E : EV} {μ μ' : Mem} {H H' : Heap} {a : Nat} (h : WH E μ H) (hz : H'.size = H.size) (ho : ∀ q, q ≠ E.2.1.size + a → H'[q]? = H[q]?) (hn : μ'.1 = μ.1) (hc : ∀ b, b < μ.1 → b ≠ a → cellOf E μ' (b + 4) = cellOf E μ (b + 4)) (ha : va_at E.2.2.1 classes (E.2.1.size + a, cellOf E μ' (a + 4)) H') : WH E μ' H' := by
  refine ⟨fun k q hq => ?_, fun q hq => ?_, by rw [hz, hn]; exact h.2.2⟩
  · obtain ⟨hk, rfl⟩ := wl_inv E μ' hq
    by_cases hka : k = a
    · subst hka; exact ha
    · rw [hn] at hk
      have h1 := h.1 k _ (wl_get E μ hk)
      rw [hc k hk hka]
      exact h1.kept (ho _ (by dsimp only; omega))
  · rw [ho q (by omega)]; exact h.2.1 q hq
theorem WH_new {E : EV} {μ : Mem} {s : Nat × Nat} {H H' : Heap} (h : WH E μ H) (hz : H'.size = H.size + 1) (ho : ∀ q, q < H.size → H'[q]? = H[q]?) (ha : va_at E.2.2.1 classes (E.2.1.size + μ.1, cellOf E (nw μ s) (μ.1 + 4)) H') : WH E (nw μ s) H' := by
  have hs := h.2.2
  refine ⟨fun k q hq => ?_, fun q hq => ?_, by rw [hz, hs]; show _ = _ + (μ.1 + 1); omega⟩
  · obtain ⟨hk, rfl⟩ := wl_inv E (nw μ s) hq
    have hk : k < μ.1 + 1 := hk
    by_cases hka : k = μ.1
    · subst hka; exact ha
    · have hk2 : k < μ.1 := by omega
      have h1 := h.1 k _ (wl_get E μ hk2)
      rw [cellOf_nw E μ s (by omega)]
      exact h1.kept (ho _ (by dsimp only; omega))
  · rw [ho q (by omega)]; exact h.2.1 q hq
abbrev inb (i : Int32) (n : Nat) : Prop := 0 ≤ i ∧ i.toNatClampNeg < n
theorem inb_vp {i : Int32} {n : Nat} (h : inb i n) : vp_in i n := fun q => by
  rcases q with q | q
  · exact absurd h.1 (Int32.not_le.mpr q)
  · exact absurd h.2 (Nat.not_lt.mpr q)
def gI (ci h k : Nat) (μ : Mem) (K : Int32 → Option (LV × Mem)) : Option (LV × Mem) := if shp μ h = (ci + 3, 0) then K (gi μ h k) else none
def gR (ci h k : Nat) (μ : Mem) (K : Nat → Option (LV × Mem)) : Option (LV × Mem) := if shp μ h = (ci + 3, 0) then K (gr μ h k) else none
def pI (ci h k : Nat) (x : Int32) (μ : Mem) (K : Mem → Option (LV × Mem)) : Option (LV × Mem) := if shp μ h = (ci + 3, 0) then K (si μ h k x) else none
def pR (ci h k : Nat) (x : Nat) (μ : Mem) (K : Mem → Option (LV × Mem)) : Option (LV × Mem) := if shp μ h = (ci + 3, 0) then K (sr μ h k x) else none
def aI (h : Nat) (i : Int32) (μ : Mem) (K : Int32 → Option (LV × Mem)) : Option (LV × Mem) := if (shp μ h).1 = 0 ∧ inb i (shp μ h).2 then K (gi μ h i.toNatClampNeg) else none
def aS (h : Nat) (i x : Int32) (μ : Mem) (K : Mem → Option (LV × Mem)) : Option (LV × Mem) := if (shp μ h).1 = 0 ∧ inb i (shp μ h).2 then K (si μ h i.toNatClampNeg x) else none
def zI (h : Nat) (i : Int32) (μ : Mem) (K : Int32 → Option (LV × Mem)) : Option (LV × Mem) := if (shp μ h).1 = 1 ∧ inb i (shp μ h).2 then K (gi μ h i.toNatClampNeg) else none
def zS (h : Nat) (i x : Int32) (μ : Mem) (K : Mem → Option (LV × Mem)) : Option (LV × Mem) := if (shp μ h).1 = 1 ∧ inb i (shp μ h).2 then K (si μ h i.toNatClampNeg (vp_nar .boolean x)) else none
def rI (h : Nat) (i : Int32) (μ : Mem) (K : Nat → Option (LV × Mem)) : Option (LV × Mem) := if ¬ h = 1 ∧ (shp μ h).1 = 2 ∧ inb i (shp μ h).2 then K (gr μ h i.toNatClampNeg) else none
def aL (h : Nat) (μ : Mem) (K : Int32 → Option (LV × Mem)) : Option (LV × Mem) := if (shp μ h).1 < 3 then K (Int32.ofNat (shp μ h).2) else none
theorem shp_1 (μ : Mem) : shp μ 1 = (2, 0) := rfl
theorem sh_ne {μ : Mem} {h k n : Nat} (hs : shp μ h = (k, n)) (hk : ¬ k = 2) (hk2 : ¬ k = 999) : ∃ a, h = a + 4 ∧ a < μ.1 := shp_at hs (fun q => hk (Prod.mk.inj q).1) (fun q => hk2 (Prod.mk.inj q).1)
section HR
variable {E : EV} {M : MI} {R : Room} {Q : LV × Mem → List Frame → Array Value → State → State → Prop} {cells slots pc : Nat} {μ : Mem} {lv : List (Option LV)} {st : List LV} {F : Option (LV × Mem)}
/-- what an instruction on a field needs of the tables -/
abbrev FOk (own : String) (ci index k : Nat) (C : String) (T : u_T) (N : Nat) (ref : String) : Prop :=
  ci < 900 ∧ classes[ci]? = some (C, T, N) ∧ (∀ w ∈ u_ws C T N, w ∈ gtbl) ∧ k < N ∧ Cond.fieldLink own index ref (T k).2.1 (T k).2.2.1 ∈ gtbl ∧ (ref = (T k).1 ∨ Cond.sameField ref (T k).1 (T k).2.1 (T k).2.2.1 ∈ gtbl)
theorem nfl_eq {ci N : Nat} {C : String} {T : u_T} (hc : classes[ci]? = some (C, T, N)) : nfl ci = N := by unfold nfl; rw [hc]
theorem fs_get {E : EV} {μ : Mem} {ci h k N : Nat} (hk : k < N) : ((List.range N).map (fval E μ ci h))[k]? = some (fval E μ ci h k) := by simp [hk]
theorem same_of {args : Array Value} {s : State} {ref O n d : String} (hts : ∀ w ∈ gtbl, w.before args s = true) (h : ref = O ∨ Cond.sameField ref O n d ∈ gtbl) : ∀ x, s.fieldFound? O n d = some x → s.fieldFound? ref n d = some x := by
  intro x hx
  rcases h with h | h
  · rw [h]; exact hx
  · exact u_same (hts _ h) x hx
theorem getf_row {ci index k : Nat} {C : String} {T : u_T} {N : Nat} {ref : String} {h : Nat} (hd : decode M.2.1 pc = .ok (.getfield index, 3)) (fo : FOk M.1.cls ci index k C T N ref) (hs : shp μ h = (ci + 3, 0))
    {p : Program} {e : Env} {s : State} {m : MethodId} {args : Array Value} {below : List Frame} {meth : Method} {c : Code} {ls : Array Slot} {H : Heap} {locs : List Loc} {QQ : State → Prop} {rest : List Value} (fx : Fx M p s m args meth c) (ks : KS E s) (wh : WH E μ H)
    (kk : W p E.1 e R s m args below meth c H locs cells slots QQ (F0 m (pc + 3) ls (fval E μ ci h k :: rest))) : W p E.1 e R s m args below meth c H locs cells slots QQ (F0 m pc ls (tv E (.inr h) :: rest)) := by
  obtain ⟨hci, hc, hin, hk, hlk, hsm⟩ := fo
  obtain ⟨a, rfl, ha, hw⟩ := cell_at (E := E) hs (by simp <;> omega) (by simp <;> omega)
  have hw2 : (wl E μ)[a]? = some (E.2.1.size + a, .inr (ci, (List.range (nfl ci)).map (fval E μ ci (a + 4)))) := hw
  rw [nfl_eq hc] at hw2
  exact va_get (D := E.2.2.1) (ci := ci) (v := fval E μ ci (a + 4) k) fx.1 fx.2.1 fx.2.2.2.2.1 hin fx.2.2.2.1 ks.1 wh.1 a hw2 hc k hk (fx.2.2.2.2.1 _ hlk) (same_of fx.2.2.2.2.1 hsm) (fs_get hk) hd kk
theorem J_gI {ci index k : Nat} {C : String} {T : u_T} {N : Nat} {ref : String} {h : Nat} {K : Int32 → Option (LV × Mem)} (hd : decode M.2.1 pc = .ok (.getfield index, 3)) (fo : FOk M.1.cls ci index k C T N ref) (hr0 : isr ci k = false)
    (kk : ∀ v, J E M R Q cells slots μ (pc + 3) lv (.inl v :: st) (K v)) : J E M R Q cells slots μ pc lv (.inr h :: st) (gI ci h k μ K) := by
  intro r hr p e s m args below meth c ls H locs fx ks wh lo hl
  unfold gI at hr
  split at hr
  · rename_i hs
    refine getf_row hd fo hs fx ks wh ?_
    rw [show fval E μ ci h k = .int (gi μ h k) by unfold fval; rw [hr0]; rfl]
    exact kk _ r hr p e s m args below meth c ls H locs fx ks wh lo hl
  · cases hr
theorem J_gR {ci index k : Nat} {C : String} {T : u_T} {N : Nat} {ref : String} {h : Nat} {K : Nat → Option (LV × Mem)} (hd : decode M.2.1 pc = .ok (.getfield index, 3)) (fo : FOk M.1.cls ci index k C T N ref) (hr0 : isr ci k = true)
    (kk : ∀ v, J E M R Q cells slots μ (pc + 3) lv (.inr v :: st) (K v)) : J E M R Q cells slots μ pc lv (.inr h :: st) (gR ci h k μ K) := by
  intro r hr p e s m args below meth c ls H locs fx ks wh lo hl
  unfold gR at hr
  split at hr
  · rename_i hs
    refine getf_row hd fo hs fx ks wh ?_
    rw [show fval E μ ci h k = va_rf (ra E (gr μ h k)) by unfold fval; rw [hr0]; rfl]
    exact kk _ r hr p e s m args below meth c ls H locs fx ks wh lo hl
  · cases hr
/-- what a store to a field needs beside -/
abbrev POk (M : MI) (k : Nat) (T : u_T) (N : Nat) (ty0 : Nat → FieldType) : Prop :=
  (∀ k, k < N → parseFieldDescriptor (T k).2.2.1 = some (ty0 k)) ∧ (∀ a, a < N → ∀ b, b < N → a ≠ b → (T a).2.1 ≠ (T b).2.1) ∧ ((T k).2.2.2 = false ∨ ((T k).2.2.2 = true ∧ M.1.name = "<init>" ∧ (T k).1 = M.1.cls))
theorem putf_row {ci index k : Nat} {C : String} {T : u_T} {N : Nat} {ref : String} {ty0 : Nat → FieldType} {h : Nat} {v : Value} {μ' : Mem} (hd : decode M.2.1 pc = .ok (.putfield index, 3)) (fo : FOk M.1.cls ci index k C T N ref) (po : POk M k T N ty0) (hn : narrow (ty0 k) v = v) (hf : fits (ty0 k) v = true) (hs : shp μ h = (ci + 3, 0))
    (hm : μ'.1 = μ.1) (hsh : shp μ' h = shp μ h) (hv : fval E μ' ci h k = v) (hvo : ∀ j, j ≠ k → fval E μ' ci h j = fval E μ ci h j) (hco : ∀ b, b ≠ h → cellOf E μ' b = cellOf E μ b)
    {p : Program} {e : Env} {s : State} {m : MethodId} {args : Array Value} {below : List Frame} {meth : Method} {c : Code} {ls : Array Slot} {H : Heap} {locs : List Loc} {QQ : State → Prop} {rest : List Value} (fx : Fx M p s m args meth c) (ks : KS E s) (wh : WH E μ H) (lo : ∀ q ∈ locs, AE E q.base)
    (kk : ∀ (H' : Heap) (locs' : List Loc), WH E μ' H' → (∀ q ∈ locs', AE E q.base) → W p E.1 e R s m args below meth c H' locs' cells slots QQ (F0 m (pc + 3) ls rest)) : W p E.1 e R s m args below meth c H locs cells slots QQ (F0 m pc ls (v :: tv E (.inr h) :: rest)) := by
  obtain ⟨hci, hc, hin, hk, hlk, hsm⟩ := fo
  obtain ⟨hty, hnm, hfin⟩ := po
  obtain ⟨a, rfl, ha, hw⟩ := cell_at (E := E) hs (by simp <;> omega) (by simp <;> omega)
  have hw2 : (wl E μ)[a]? = some (E.2.1.size + a, .inr (ci, (List.range (nfl ci)).map (fval E μ ci (a + 4)))) := hw
  rw [nfl_eq hc] at hw2
  have hts := fx.2.2.2.2.1
  have hap := va_apart (own := M.1.cls) hts hin ty0 hty hnm ks.1 hc
  obtain ⟨r0, h1, cell, q1, q2, q3, q4⟩ := wh.1 a _ hw2
  have hr : r0 = (C, T, N) := Option.some.inj (h1.symm.trans hc)
  subst hr
  obtain ⟨hS, hfc, kC, hkC, hkind⟩ := ks.1.1 ci _ hc
  obtain ⟨cf, kf, fi, f, hi, hsl⟩ := hS k hk
  have hst := (u_facts hfc hkC (u_lays hts hin hk) hi).1
  have hend : ∀ H' : Heap, H'[E.2.1.size + a]? = some (cell.setSlot (E.2.2.1.2 ci k) v) → H'.size = H.size → (∀ q, q ≠ E.2.1.size + a → H'[q]? = H[q]?) → WH E μ' H' := by
    intro H' e1 e2 e3
    refine WH_put wh e2 e3 hm (fun b _ hb => hco (b + 4) (by omega)) ?_
    have hce : cellOf E μ' (a + 4) = .inr (ci, (List.range N).map (fval E μ' ci (a + 4))) := by
      unfold cellOf
      rw [hsh, hs]
      show (Sum.inr (ci, (List.range (nfl ci)).map (fval E μ' ci (a + 4))) : va_E) = _
      rw [nfl_eq hc]
    rw [hce]
    refine ⟨_, hc, t_OB.to (V := updV (vp_V ((List.range N).map (fval E μ ci (a + 4)))) k v) ⟨_, e1, q2, q3, t_set q4 hap hk v⟩ (fun j hj => ?_)⟩
    by_cases hjk : j = k
    · subst hjk
      simp [updV, vp_V, hj, hv]
    · simp [updV, vp_V, hj, hjk, hvo j hjk]
  rcases hfin with hfin | ⟨hfin, hini, hdecl⟩
  · have hlay := hts _ (hin _ (u_in_lay hk))
    unfold u_lay at hlay
    rw [if_neg (by rw [hfin]; decide)] at hlay
    have h6 := u_store hfc hkC hkind hlay hi (hty k hk) hn hf
    refine W.putK fx.1 fx.2.1 (f := f) ⟨fx.2.2.2.1, fx.2.2.2.2.1 _ hlk, ⟨_, _, _, same_of hts hsm _ hi⟩, hst⟩ (by rw [q2]; exact h6) q1 q3 (by rw [hsl]; exact k2_hasslot (q4 k hk)) rfl rfl hd fun H' e1 e2 e3 => ?_
    rw [hsl] at e1 ⊢
    refine kk H' _ (hend H' e1 e2 e3) (fun q hq => ?_)
    rcases List.mem_append.mp hq with hq | hq
    · exact lo q hq
    · simp at hq; subst hq; show E.2.1.size ≤ E.2.1.size + a; omega
  · have hlay := hts _ (hin _ (u_in_lay hk))
    unfold u_lay at hlay
    rw [if_pos hfin] at hlay
    have hcf : m.cls = cf := by
      obtain ⟨_, _, c', _, _, _, -, -, hf', -, -, -, hown2, -⟩ := Cond.laysFinal_spec hlay
      have e1 : c' = cf := by have := hi.symm.trans hf'; simp at this; exact this.1.symm
      rw [hdecl] at hown2
      rw [← e1]; exact Option.some.inj (fx.2.2.2.1.symm.trans hown2)
    have h6 := u_fits hfc hkC hkind (Or.inr hlay) hi (hty k hk) hn hf
    refine W.putFinK fx.1 fx.2.1 fx.2.2.2.1 (fx.2.2.2.2.1 _ hlk) (same_of hts hsm _ hi) hst hcf (fx.2.2.2.2.2.2.2.trans hini) (by rw [q2]; exact h6) q1 q3 (by rw [hsl]; exact k2_hasslot (q4 k hk)) rfl rfl hd fun H' e1 e2 e3 => ?_
    rw [hsl] at e1 ⊢
    refine kk H' _ (hend H' e1 e2 e3) (fun q hq => ?_)
    rcases List.mem_append.mp hq with hq | hq
    · exact lo q hq
    · simp at hq; subst hq; show E.2.1.size ≤ E.2.1.size + a; omega
theorem J_pI {ci index k : Nat} {C : String} {T : u_T} {N : Nat} {ref : String} {ty0 : Nat → FieldType} {h : Nat} {x : Int32} {K : Mem → Option (LV × Mem)} (hd : decode M.2.1 pc = .ok (.putfield index, 3)) (fo : FOk M.1.cls ci index k C T N ref) (po : POk M k T N ty0) (hty : ty0 k = .int) (hr0 : isr ci k = false)
    (kk : ∀ μ', J E M R Q cells slots μ' (pc + 3) lv st (K μ')) : J E M R Q cells slots μ pc lv (.inl x :: .inr h :: st) (pI ci h k x μ K) := by
  intro r hr p e s m args below meth c ls H locs fx ks wh lo hl
  unfold pI at hr
  split at hr
  · rename_i hs
    refine putf_row (μ' := si μ h k x) (v := .int x) hd fo po (by rw [hty]; rfl) (by rw [hty]; rfl) hs rfl rfl ?_ ?_ (fun b hb => cellOf_si E μ x hb) fx ks wh lo (fun H' locs' wh' lo' => kk _ r hr p e s m args below meth c ls H' locs' fx ks wh' lo' hl)
    · simp [fval, hr0, gi_si]
    · intro j hj; simp [fval, gi_si, gr_si, hj]
  · cases hr
theorem J_pR {ci index k : Nat} {C : String} {T : u_T} {N : Nat} {ref : String} {ty0 : Nat → FieldType} {h : Nat} {x : Nat} {K : Mem → Option (LV × Mem)} (hd : decode M.2.1 pc = .ok (.putfield index, 3)) (fo : FOk M.1.cls ci index k C T N ref) (po : POk M k T N ty0) (hty : (∃ n, ty0 k = .object n) ∨ (∃ t, ty0 k = .array t)) (hr0 : isr ci k = true)
    (kk : ∀ μ', J E M R Q cells slots μ' (pc + 3) lv st (K μ')) : J E M R Q cells slots μ pc lv (.inr x :: .inr h :: st) (pR ci h k x μ K) := by
  intro r hr p e s m args below meth c ls H locs fx ks wh lo hl
  unfold pR at hr
  split at hr
  · rename_i hs
    refine putf_row (μ' := sr μ h k x) (v := va_rf (ra E x)) hd fo po ?_ ?_ hs rfl rfl ?_ ?_ (fun b hb => cellOf_sr E μ x hb) fx ks wh lo (fun H' locs' wh' lo' => kk _ r hr p e s m args below meth c ls H' locs' fx ks wh' lo' hl)
    · rcases hty with ⟨n, h⟩ | ⟨t, h⟩ <;> rw [h] <;> cases ra E x <;> rfl
    · rcases hty with ⟨n, h⟩ | ⟨t, h⟩ <;> rw [h] <;> cases ra E x <;> rfl
    · simp [fval, hr0, gr_sr]
    · intro j hj; simp [fval, gi_sr, gr_sr, hj]
  · cases hr
end HR
end
section
/-! rows of ints, of booleans, of objects; new cells; answers -/
section AR
variable {E : EV} {M : MI} {R : Room} {Q : LV × Mem → List Frame → Array Value → State → State → Prop} {cells slots pc : Nat} {μ : Mem} {lv : List (Option LV)} {st : List LV} {F : Option (LV × Mem)}
theorem lo_put {E : EV} {locs : List Loc} {a j : Nat} (lo : ∀ q ∈ locs, AE E q.base) : ∀ q ∈ locs ++ [(⟨E.2.1.size + a, j⟩ : Loc)], AE E q.base := by
  intro q hq
  rcases List.mem_append.mp hq with hq | hq
  · exact lo q hq
  · simp at hq; subst hq; show E.2.1.size ≤ E.2.1.size + a; omega
theorem J_aI {h : Nat} {i : Int32} {K : Int32 → Option (LV × Mem)} (hd : decode M.2.1 pc = .ok (.iaload, 1))
    (kk : ∀ v, J E M R Q cells slots μ (pc + 1) lv (.inl v :: st) (K v)) : J E M R Q cells slots μ pc lv (.inl i :: .inr h :: st) (aI h i μ K) := by
  intro r hr p e s m args below meth c ls H locs fx ks wh lo hl
  unfold aI at hr
  generalize hsx : shp μ h = sx at hr
  obtain ⟨kq, n⟩ := sx
  split at hr
  · rename_i hs
    obtain ⟨h0, hi⟩ := hs
    dsimp only at h0 hi
    subst h0
    obtain ⟨a, rfl, ha, hw⟩ := cell_at (E := E) hsx (by simp) (by simp)
    exact va_iald fx.1 fx.2.1 ks.1 wh.1 a 0 (cA := E.2.2.2.1.1) (n := n) (f := gi μ (a + 4)) hw rfl (inb_vp hi) hd (kk _ r hr p e s m args below meth c ls H locs fx ks wh lo hl)
  · cases hr
theorem J_zI {h : Nat} {i : Int32} {K : Int32 → Option (LV × Mem)} (hd : decode M.2.1 pc = .ok (.baload, 1))
    (kk : ∀ v, J E M R Q cells slots μ (pc + 1) lv (.inl v :: st) (K v)) : J E M R Q cells slots μ pc lv (.inl i :: .inr h :: st) (zI h i μ K) := by
  intro r hr p e s m args below meth c ls H locs fx ks wh lo hl
  unfold zI at hr
  generalize hsx : shp μ h = sx at hr
  obtain ⟨kq, n⟩ := sx
  split at hr
  · rename_i hs
    obtain ⟨h0, hi⟩ := hs
    dsimp only at h0 hi
    subst h0
    obtain ⟨a, rfl, ha, hw⟩ := cell_at (E := E) hsx (by simp) (by simp)
    exact va_zald fx.1 fx.2.1 ks.1 wh.1 a 1 (cA := E.2.2.2.1.2.1) (n := n) (f := gi μ (a + 4)) hw rfl (inb_vp hi) hd (kk _ r hr p e s m args below meth c ls H locs fx ks wh lo hl)
  · cases hr
theorem J_rI {h : Nat} {i : Int32} {K : Nat → Option (LV × Mem)} (hd : decode M.2.1 pc = .ok (.aaload, 1))
    (kk : ∀ v, J E M R Q cells slots μ (pc + 1) lv (.inr v :: st) (K v)) : J E M R Q cells slots μ pc lv (.inl i :: .inr h :: st) (rI h i μ K) := by
  intro r hr p e s m args below meth c ls H locs fx ks wh lo hl
  unfold rI at hr
  generalize hsx : shp μ h = sx at hr
  obtain ⟨kq, n⟩ := sx
  split at hr
  · rename_i hs
    obtain ⟨h1, h0, hi⟩ := hs
    dsimp only at h0 hi
    subst h0
    have hn : ¬ ((2, n) : Nat × Nat) = (2, 0) := fun q => by
      have : n = 0 := (Prod.mk.inj q).2
      subst this
      exact absurd hi.2 (Nat.not_lt_zero _)
    obtain ⟨a, rfl, ha, hw⟩ := cell_at (E := E) hsx hn (by simp)
    exact va_aldq fx.1 fx.2.1 ks.1 wh.1 a 2 (cA := E.2.2.2.1.2.2) (C := "java/lang/Object") (n := n) (f := fun j => ra E (gr μ (a + 4) j)) hw rfl (inb_vp hi) hd (kk _ r hr p e s m args below meth c ls H locs fx ks wh lo hl)
  · cases hr
theorem upd_si (μ : Mem) (h k : Nat) (x : Int32) : gi (si μ h k x) h = upd (gi μ h) k x := by
  funext j
  rw [gi_si]
  unfold upd
  by_cases hj : j = k
  · rw [if_pos ⟨rfl, hj⟩, if_pos hj]
  · rw [if_neg (fun q => hj q.2), if_neg hj]
theorem J_aS {h : Nat} {i x : Int32} {K : Mem → Option (LV × Mem)} (hd : decode M.2.1 pc = .ok (.iastore, 1))
    (kk : ∀ μ', J E M R Q cells slots μ' (pc + 1) lv st (K μ')) : J E M R Q cells slots μ pc lv (.inl x :: .inl i :: .inr h :: st) (aS h i x μ K) := by
  intro r hr p e s m args below meth c ls H locs fx ks wh lo hl
  unfold aS at hr
  generalize hsx : shp μ h = sx at hr
  obtain ⟨kq, n⟩ := sx
  split at hr
  · rename_i hs
    obtain ⟨h0, hi⟩ := hs
    dsimp only at h0 hi
    subst h0
    obtain ⟨a, rfl, ha, hw⟩ := cell_at (E := E) hsx (by simp) (by simp)
    have hc : H[E.2.1.size + a]? = some (vp_cell E.2.2.2.1.1 (n, .inl (gi μ (a + 4)))) := wh.1 a _ hw
    refine W.iast fx.1 fx.2.1 hc ((ks.1.2 0 _ rfl).1 n (fun j => .int (gi μ (a + 4) j))) (fun q => by cases q) (by show ¬ (i < 0 ∨ (arrV _ _ _).slots.size ≤ _); rw [arrV_size]; exact inb_vp hi) rfl rfl hd fun H1 e1 e2 e3 => ?_
    refine kk _ r hr p e s m args below meth c ls H1 _ fx ks (WH_put wh e2 e3 rfl (fun b _ hb => cellOf_si E μ x (by omega)) ?_) (lo_put lo) hl
    unfold cellOf
    rw [shp_si, hsx]
    show H1[E.2.1.size + a]? = some (vp_cell E.2.2.2.1.1 (n, .inl (gi (si μ (a + 4) i.toNatClampNeg x) (a + 4))))
    rw [e1, upd_si, vp_cell_i, vp_cell_i, arrV_store]
    congr 2
    funext q
    by_cases hq : q = i.toNatClampNeg
    · subst hq; simp [updV, upd]
    · simp [updV, upd, hq]
  · cases hr
theorem J_zS {h : Nat} {i x : Int32} {K : Mem → Option (LV × Mem)} (hd : decode M.2.1 pc = .ok (.bastore, 1))
    (kk : ∀ μ', J E M R Q cells slots μ' (pc + 1) lv st (K μ')) : J E M R Q cells slots μ pc lv (.inl x :: .inl i :: .inr h :: st) (zS h i x μ K) := by
  intro r hr p e s m args below meth c ls H locs fx ks wh lo hl
  unfold zS at hr
  generalize hsx : shp μ h = sx at hr
  obtain ⟨kq, n⟩ := sx
  split at hr
  · rename_i hs
    obtain ⟨h0, hi⟩ := hs
    dsimp only at h0 hi
    subst h0
    obtain ⟨a, rfl, ha, hw⟩ := cell_at (E := E) hsx (by simp) (by simp)
    have hc : H[E.2.1.size + a]? = some (vp_cell E.2.2.2.1.2.1 (n, .inl (gi μ (a + 4)))) := wh.1 a _ hw
    refine W.zast fx.1 fx.2.1 hc ((ks.1.2 1 _ rfl).1 n (fun j => .int (gi μ (a + 4) j))) (fun q => by cases q) (by show ¬ (i < 0 ∨ (arrV _ _ _).slots.size ≤ _); rw [arrV_size]; exact inb_vp hi) rfl rfl hd fun H1 e1 e2 e3 => ?_
    refine kk _ r hr p e s m args below meth c ls H1 _ fx ks (WH_put wh e2 e3 rfl (fun b _ hb => cellOf_si E μ _ (by omega)) ?_) (lo_put lo) hl
    unfold cellOf
    rw [shp_si, hsx]
    show H1[E.2.1.size + a]? = some (vp_cell E.2.2.2.1.2.1 (n, .inl (gi (si μ (a + 4) i.toNatClampNeg (vp_nar .boolean x)) (a + 4))))
    rw [e1, upd_si, vp_cell_i, vp_cell_i, arrV_store]
    congr 2
    funext q
    by_cases hq : q = i.toNatClampNeg
    · subst hq; simp [updV, upd]; rfl
    · simp [updV, upd, hq]
  · cases hr
theorem J_aL {h : Nat} {K : Int32 → Option (LV × Mem)} (hd : decode M.2.1 pc = .ok (.arraylength, 1))
    (kk : ∀ v, J E M R Q cells slots μ (pc + 1) lv (.inl v :: st) (K v)) : J E M R Q cells slots μ pc lv (.inr h :: st) (aL h μ K) := by
  intro r hr p e s m args below meth c ls H locs fx ks wh lo hl
  unfold aL at hr
  split at hr
  · rename_i hs
    have k1 := kk _ r hr p e s m args below meth c ls H locs fx ks wh lo hl
    by_cases h1 : h = 1
    · subst h1
      obtain ⟨cell, g1, g2, g3, g4, g5, g6, g7⟩ := ks.2.2.1
      refine W.alen (n := Int32.ofNat 0) fx.1 fx.2.1 (a := E.2.2.2.2.1.1) (cell := cell) (ty := .object "java/lang/Object") ?_ g2 g5 rfl rfl hd k1
      rw [wh.2.1 _ (Nat.lt_of_not_le g7)]
      exact g1
    · have hne : shp μ h ≠ (999, 0) := fun q => by rw [q] at hs; simp at hs
      have h4 : ∃ a, h = a + 4 ∧ a < μ.1 := by
        unfold shp at hne
        rw [if_neg h1] at hne
        split at hne
        · exact ⟨h - 4, by omega, by omega⟩
        · exact absurd rfl hne
      obtain ⟨a, rfl, ha⟩ := h4
      generalize hsx : shp μ (a + 4) = sx at hs k1
      obtain ⟨kq, n⟩ := sx
      have hw := wl_get E μ ha
      unfold cellOf at hw
      rw [hsx] at hw
      match kq, hs with
      | 0, _ => exact va_alen fx.1 fx.2.1 ks.1 wh.1 a 0 (cA := E.2.2.2.1.1) (x := (n, .inl (gi μ (a + 4)))) hw rfl rfl hd k1
      | 1, _ => exact va_alen fx.1 fx.2.1 ks.1 wh.1 a 1 (cA := E.2.2.2.1.2.1) (x := (n, .inl (gi μ (a + 4)))) hw rfl rfl hd k1
      | 2, _ => exact va_alen fx.1 fx.2.1 ks.1 wh.1 a 2 (cA := E.2.2.2.1.2.2) (x := (n, .inr (.inr (.inr (.inr (fun j => ra E (gr μ (a + 4) j))))))) hw rfl rfl hd k1
      | q + 3, hs => exact absurd hs (by dsimp only; omega)
  · cases hr
/-! answers -/
theorem rto_some {v : LV} {ty : FieldType} (h : M.2.2.2 = some ty) : rto E M v = some (tv E v) := by unfold rto; rw [h]
theorem rto_none {v : LV} (h : M.2.2.2 = none) : rto E M v = none := by unfold rto; rw [h]
theorem J_iret {v : Int32} (hd : decode M.2.1 pc = .ok (.ireturn, 1)) (hret : M.2.2.2 = some .int) (hc : cells ≤ R.cells) (hs : slots ≤ R.slots) : J E M R (QR E M R) cells slots μ pc lv [.inl v] (some (.inl v, μ)) := by
  intro r hr p e s m args below meth c ls H locs fx ks wh lo hl
  cases hr
  refine W.widen hc hs ?_
  exact W.iret fx.1 fx.2.1 (fx.2.2.2.2.2.1.trans hret) (fun t ht hW => ⟨by rw [rto_some hret]; rfl, by rw [ht]; exact wh⟩) lo hd fx.2.2.2.2.2.2.1
theorem J_zret {v : Int32} (hd : decode M.2.1 pc = .ok (.ireturn, 1)) (hret : M.2.2.2 = some .boolean) (hn : narrow .boolean (.int v) = .int v) (hc : cells ≤ R.cells) (hs : slots ≤ R.slots) : J E M R (QR E M R) cells slots μ pc lv [.inl v] (some (.inl v, μ)) := by
  intro r hr p e s m args below meth c ls H locs fx ks wh lo hl
  cases hr
  refine W.widen hc hs ?_
  exact W.zret fx.1 fx.2.1 (fx.2.2.2.2.2.1.trans hret) hn (fun t ht hW => ⟨by rw [rto_some hret]; rfl, by rw [ht]; exact wh⟩) lo hd fx.2.2.2.2.2.2.1
theorem J_vret (hd : decode M.2.1 pc = .ok (.return_, 1)) (hret : M.2.2.2 = none) (hc : cells ≤ R.cells) (hs : slots ≤ R.slots) : J E M R (QR E M R) cells slots μ pc lv [] (some (.inl 0, μ)) := by
  intro r hr p e s m args below meth c ls H locs fx ks wh lo hl
  cases hr
  refine W.widen hc hs ?_
  exact W.vret fx.1 fx.2.1 (fx.2.2.2.2.2.1.trans hret) (fun t ht hW => ⟨by rw [rto_none hret], by rw [ht]; exact wh⟩) lo hd fx.2.2.2.2.2.2.1
theorem J_aret {h : Nat} {ty : FieldType} (hd : decode M.2.1 pc = .ok (.areturn, 1)) (hret : M.2.2.2 = some ty) (hty : (∃ n, ty = .object n) ∨ ∃ t, ty = .array t) (hc : cells ≤ R.cells) (hs : slots ≤ R.slots) : J E M R (QR E M R) cells slots μ pc lv [.inr h] (some (.inr h, μ)) := by
  intro r hr p e s m args below meth c ls H locs fx ks wh lo hl
  cases hr
  refine W.widen hc hs ?_
  exact W.aret (v := va_rf (ra E h)) fx.1 fx.2.1 (fx.2.2.2.2.2.1.trans hret) hty (by cases ra E h with | none => exact Or.inl rfl | some a => exact Or.inr ⟨a, rfl⟩) (fun t ht hW => ⟨by rw [rto_some hret]; rfl, by rw [ht]; exact wh⟩) lo hd fx.2.2.2.2.2.2.1
def zr (v : Int32) (μ : Mem) : Option (LV × Mem) := if v = 0 ∨ v = 1 then some (.inl v, μ) else none
theorem J_zretV {v : Int32} (hd : decode M.2.1 pc = .ok (.ireturn, 1)) (hret : M.2.2.2 = some .boolean) (hc : cells ≤ R.cells) (hs : slots ≤ R.slots) : J E M R (QR E M R) cells slots μ pc lv [.inl v] (zr v μ) := by
  intro r hr
  unfold zr at hr
  split at hr
  · rename_i hv
    exact J_zret hd hret (by rcases hv with h | h <;> subst h <;> rfl) hc hs r hr
  · cases hr
end AR
end
section
/-! new cells, constants, casts; calls -/
def nO (μ : Mem) (s : Nat × Nat) (K : Nat → Mem → Option (LV × Mem)) : Option (LV × Mem) := K (μ.1 + 4) (nw μ s)
def nR (n : Int32) (μ : Mem) (K : Nat → Mem → Option (LV × Mem)) : Option (LV × Mem) := if 0 ≤ n ∧ n.toNatClampNeg ≤ 64 then K (μ.1 + 4) (nw μ (2, n.toNatClampNeg)) else none
def bI (x : Option (LV × Mem)) (G : Int32 → Mem → Option (LV × Mem)) : Option (LV × Mem) := match x with
  | some (.inl v, μ) => G v μ
  | _ => none
def bR (x : Option (LV × Mem)) (G : Nat → Mem → Option (LV × Mem)) : Option (LV × Mem) := match x with
  | some (.inr v, μ) => G v μ
  | _ => none
def bV (x : Option (LV × Mem)) (G : Mem → Option (LV × Mem)) : Option (LV × Mem) := match x with
  | some (_, μ) => G μ
  | none => none
def cV (ci h : Nat) (μ : Mem) (X : Option (LV × Mem)) : Option (LV × Mem) := if shp μ h = (ci + 3, 0) then X else none
def cN (h : Nat) (X : Option (LV × Mem)) : Option (LV × Mem) := if h = 0 then none else X
def cC (ci h : Nat) (μ : Mem) (X : Option (LV × Mem)) : Option (LV × Mem) := if h = 0 ∨ shp μ h = (ci + 3, 0) then X else none
section CR
variable {E : EV} {M : MI} {R : Room} {Q : LV × Mem → List Frame → Array Value → State → State → Prop} {cells slots pc : Nat} {μ : Mem} {lv : List (Option LV)} {st : List LV} {F : Option (LV × Mem)}
theorem J_ldc {index : Nat} {v : Int32} (hd : decode M.2.1 pc = .ok (.ldc index, 2)) (hw : Cond.constant M.1.cls index v ∈ gtbl) (k : J E M R Q cells slots μ (pc + 2) lv (.inl v :: st) F) : J E M R Q cells slots μ pc lv st F := by
  intro r hr p e s m args below meth c ls H locs fx ks wh lo hl
  exact lv_ldc fx.1 fx.2.1 fx.2.2.2.1 (fx.2.2.2.2.1 _ hw) hd (k r hr p e s m args below meth c ls H locs fx ks wh lo hl)
abbrev NOk (M : MI) (ci index : Nat) (C : String) (T : u_T) (N : Nat) (ty0 : Nat → FieldType) : Prop :=
  classes[ci]? = some (C, T, N) ∧ (∀ w ∈ u_ws C T N, w ∈ gtbl) ∧ (∀ k, k < N → parseFieldDescriptor (T k).2.2.1 = some (ty0 k)) ∧ (∀ k, k < N → defaultValue (ty0 k) = if isr ci k = true then .null else .int 0) ∧
  Cond.classLink M.1.cls index C ∈ gtbl ∧ Cond.instantiable C N ∈ gtbl ∧ Cond.initialized C ∈ gtbl
theorem J_new {ci index N : Nat} {C : String} {T : u_T} {ty0 : Nat → FieldType} {K : Nat → Mem → Option (LV × Mem)} (hd : decode M.2.1 pc = .ok (.new index, 3)) (no : NOk M ci index C T N ty0) (hcl : cells + 1 ≤ R.cells) (hsl : slots + N ≤ R.slots)
    (kk : ∀ h μ', J E M R Q (cells + 1) (slots + N) μ' (pc + 3) lv (.inr h :: st) (K h μ')) : J E M R Q cells slots μ pc lv st (nO μ (ci + 3, 0) K) := by
  intro r hr p e s m args below meth c ls H locs fx ks wh lo hl
  obtain ⟨hc, hin, hty, hdef, hlk, hins, hini⟩ := no
  have hts := fx.2.2.2.2.1
  have hKn := ks.1.1 ci _ hc
  refine W.newcK fx.1 fx.2.1 fx.2.2.2.1 (hts _ hlk) (hts _ hins) (hts _ hini) rfl hd hcl hsl hKn.2.1 wh.2.2 fun H1 kC hkC e1 z1 o1 => ?_
  refine kk _ _ r hr p e s m args below meth c ls H1 locs fx ks (WH_new wh (by rw [z1, wh.2.2]) (fun q hq => o1 q (by rw [← wh.2.2]; exact hq)) ?_) lo hl
  have hce : cellOf E (nw μ (ci + 3, 0)) (μ.1 + 4) = .inr (ci, (List.range N).map (fval E (nw μ (ci + 3, 0)) ci (μ.1 + 4))) := by
    unfold cellOf
    rw [shp_nw, if_pos rfl]
    show (Sum.inr (ci, (List.range (nfl ci)).map (fval E (nw μ (ci + 3, 0)) ci (μ.1 + 4))) : va_E) = _
    rw [nfl_eq hc]
  rw [hce]
  refine ⟨_, hc, (u_born ty0 hts hin hKn hkC e1 hty).to (fun j hj => ?_)⟩
  rw [hdef j hj]
  show _ = ((List.range N).map (fval E (nw μ (ci + 3, 0)) ci (μ.1 + 4))).getD j .null
  rw [List.getD_eq_getElem?_getD, fs_get hj]
  simp only [Option.getD_some, fval, gi_nw, gr_nw, if_true]
  rfl
theorem J_newa {n : Int32} {N : Nat} {K : Nat → Mem → Option (LV × Mem)} (hd : decode M.2.1 pc = .ok (.newarray .int, 2)) (hw : Cond.arrayClass .int ∈ gtbl) (h0 : ¬ n < 0) (hN : n.toNatClampNeg = N) (hb : N * 4 ≤ 536870912) (hcl : cells + 1 ≤ R.cells) (hsl : slots + N ≤ R.slots)
    (kk : ∀ h μ', J E M R Q (cells + 1) (slots + N) μ' (pc + 2) lv (.inr h :: st) (K h μ')) : J E M R Q cells slots μ pc lv (.inl n :: st) (nO μ (0, N) K) := by
  intro r hr p e s m args below meth c ls H locs fx ks wh lo hl
  refine va_newaK (atype := .int) fx.1 fx.2.1 (fx.2.2.2.2.1 _ hw) rfl hd rfl h0 hN hb hcl hsl wh.2.2 fun H1 cA e1 z1 o1 hAr hNm => ?_
  have hcA : cA = E.2.2.2.1.1 := by
    have h1 : s.vm.findClass ("[" ++ (FieldType.int).toString) = some E.2.2.2.1.1 := (ks.1.2 0 _ rfl).2
    exact Option.some.inj (hNm.symm.trans h1)
  subst hcA
  refine kk _ _ r hr p e s m args below meth c ls H1 locs fx ks (WH_new wh (by rw [z1, wh.2.2]) (fun q hq => o1 q (by rw [← wh.2.2]; exact hq)) ?_) lo hl
  unfold cellOf
  rw [shp_nw, if_pos rfl]
  show H1[E.2.1.size + μ.1]? = some (vp_cell E.2.2.2.1.1 (N, .inl (gi (nw μ (0, N)) (μ.1 + 4))))
  rw [e1, vp_cell_i]
  congr 2
  funext j
  rw [gi_nw, if_pos rfl]
  rfl
theorem J_newz {n : Int32} {N : Nat} {K : Nat → Mem → Option (LV × Mem)} (hd : decode M.2.1 pc = .ok (.newarray .boolean, 2)) (hw : Cond.arrayClass .boolean ∈ gtbl) (h0 : ¬ n < 0) (hN : n.toNatClampNeg = N) (hb : N * 1 ≤ 536870912) (hcl : cells + 1 ≤ R.cells) (hsl : slots + N ≤ R.slots)
    (kk : ∀ h μ', J E M R Q (cells + 1) (slots + N) μ' (pc + 2) lv (.inr h :: st) (K h μ')) : J E M R Q cells slots μ pc lv (.inl n :: st) (nO μ (1, N) K) := by
  intro r hr p e s m args below meth c ls H locs fx ks wh lo hl
  refine va_newaK (atype := .boolean) fx.1 fx.2.1 (fx.2.2.2.2.1 _ hw) rfl hd rfl h0 hN hb hcl hsl wh.2.2 fun H1 cA e1 z1 o1 hAr hNm => ?_
  have hcA : cA = E.2.2.2.1.2.1 := by
    have h1 : s.vm.findClass ("[" ++ (FieldType.boolean).toString) = some E.2.2.2.1.2.1 := (ks.1.2 1 _ rfl).2
    exact Option.some.inj (hNm.symm.trans h1)
  subst hcA
  refine kk _ _ r hr p e s m args below meth c ls H1 locs fx ks (WH_new wh (by rw [z1, wh.2.2]) (fun q hq => o1 q (by rw [← wh.2.2]; exact hq)) ?_) lo hl
  unfold cellOf
  rw [shp_nw, if_pos rfl]
  show H1[E.2.1.size + μ.1]? = some (vp_cell E.2.2.2.1.2.1 (N, .inl (gi (nw μ (1, N)) (μ.1 + 4))))
  rw [e1, vp_cell_i]
  congr 2
  funext j
  rw [gi_nw, if_pos rfl]
  rfl
/-! calls -/
theorem blind_of (E : EV) (μ : Mem) (av : List Value) : FrameBlind (va_Pc av (fun U => WH E μ U.heap ∧ KS E U)) := fun a U g mk q => by
  obtain ⟨q0, q1, q2⟩ := q
  exact ⟨q0, q1, KS.same (s := U) (U := U.calling g mk a) rfl q2⟩
theorem st_room (E : EV) (m : MethodId) (pc : Nat) (ls : Array Slot) (x : List Value) {st : List LV} (h : st.length ≤ 8) : 2 * (F0 m pc ls x).monitorRoom + ((st.map (tv E)).map fun v => v.category).sum ≤ 8 := by
  have hs : ∀ l : List LV, ((l.map (tv E)).map fun v => v.category).sum = l.length := by
    intro l
    induction l with
    | nil => rfl
    | cons a t ih => simp only [List.map_cons, List.sum_cons, List.length_cons, tv_cat, ih]; omega
  exact lv_room (by rw [hs]; exact h)
/-- what a method needs of the tables to be called, with n arguments beside its receiver -/
abbrev MOk (M' : MI) (n : Nat) : Prop := Cond.code M'.1 M'.2.1 M'.2.2.1 M'.2.2.2 ∈ gtbl ∧ Cond.initialized M'.1.cls ∈ gtbl ∧ (M'.1.cls ≠ "java/lang/invoke/MethodHandle" ∧ M'.1.cls ≠ "java/lang/invoke/VarHandle" ∧ (parseMethodDescriptor M'.1.desc).map (fun d => d.parameters.length) = some n)
abbrev ROk (M' : MI) (R R' : Room) : Prop := R'.frames + 1 ≤ R.frames ∧ 8 + (M'.2.2.1 + 11) + R'.locals ≤ R.locals
theorem good_wsy {M' : MI} {n : Nat} (mo : MOk M' n) : GoodIn gtbl (wsy M') := by
  intro w hw
  rcases List.mem_cons.mp hw with rfl | hw
  · exact gtbl_self _ mo.1
  · exact gtbl_self _ hw
theorem callB_row {M' : MI} {R' : Room} {n index : Nat} {s : State} {args : Array Value} (hts : ∀ w ∈ gtbl, w.before args s = true) (mo : MOk M' n) (ro : ROk M' R R') (hl : Cond.methodLink M.1.cls index M'.1 ∈ gtbl) :
    CallB R s args M.1.cls index M'.1 M'.2.1 M'.2.2.1 M'.2.2.2 (wsy M') R' R'.cells R'.slots n :=
  callB_of n hts (good_wsy mo) rfl rfl rfl (hts _ mo.2.1) (hts _ hl) mo.2.2 ro
/-- behind a call -/
theorem call_fin {M' : MI} {R' : Room} {r' : LV × Mem} {QQ : State → Prop} {av : Array Value} {p : Program} {e : Env} {s : State} {m : MethodId} {args : Array Value} {below : List Frame} {meth : Method} {c : Code} {ls : Array Slot} {H : Heap} {locs : List Loc} {st0 : List Value}
    (hr : CallRun p E.1 e R s m args below meth c H locs cells slots R'.cells R'.slots (F0 m pc ls st0) (st.map (tv E)) (Qr E M' r' av) (AE E)) (lo : ∀ q ∈ locs, AE E q.base)
    (kk : ∀ (H1 : Heap) (locs1 : List Loc), WH E r'.2 H1 → (∀ q ∈ locs1, AE E q.base) → W p E.1 e R s m args below meth c H1 locs1 (cells + R'.cells) (slots + R'.slots) QQ (F0 m (pc + 3) ls ((rto E M' r'.1).toList ++ st.map (tv E)))) : W p E.1 e R s m args below meth c H locs cells slots QQ (F0 m pc ls st0) := by
  intro T hT X
  obtain ⟨v, st₀, t, T', L, h0, X', hL, e1, ⟨hv, hw⟩, stp⟩ := hr T hT X
  cases hv
  obtain ⟨t2, a1, b1⟩ := kk T'.heap (locs ++ L) (by rw [e1]; exact hw) (fun q hq => by
    rcases List.mem_append.mp hq with hq | hq
    · exact lo q hq
    · exact hL q hq) T' rfl X'
  exact ⟨t2, stp t2 a1, b1⟩
theorem runV_row {M' : MI} {R' : Room} {as : List LV} {h ci index n N : Nat} {T : u_T} {F' : Option (LV × Mem)} {r' : LV × Mem} (hd : decode M.2.1 pc = .ok (.invokevirtual index, 3)) (mo : MOk M' n) (ro : ROk M' R R') (hl : Cond.methodLink M.1.cls index M'.1 ∈ gtbl) (hi : Cond.instanceMethod M'.1 ∈ gtbl) (hse : Cond.selects M'.1.cls M'.1 M'.1 ∈ gtbl)
    (hci : ci < 900) (hcl : classes[ci]? = some (M'.1.cls, T, N)) (hn : as.length = n) (h8 : st.length ≤ 8) (hrm : cells + R'.cells ≤ R.cells ∧ slots + R'.slots ≤ R.slots) (hC : Ct E M' R' (.inr h :: as) μ F') (hF : F' = some r') (hs : shp μ h = (ci + 3, 0))
    {p : Program} {e : Env} {s : State} {m : MethodId} {args : Array Value} {below : List Frame} {meth : Method} {c : Code} {ls : Array Slot} {H : Heap} {locs : List Loc} (fx : Fx M p s m args meth c) (ks : KS E s) (wh : WH E μ H) (hl2 : LVok E ls M.2.2.1 lv) :
    ∃ av, CallRun p E.1 e R s m args below meth c H locs cells slots R'.cells R'.slots (F0 m pc ls ((as.reverse ++ .inr h :: st).map (tv E))) (st.map (tv E)) (Qr E M' r' av) (AE E) := by
  obtain ⟨a, rfl, ha, hw⟩ := cell_at (E := E) hs (by simp <;> omega) (by simp <;> omega)
  have hts := fx.2.2.2.2.1
  have hcw : CallW R s args M.1.cls M'.1.cls index M'.1 M'.2.1 M'.2.2.1 M'.2.2.2 (wsy M') R' R'.cells R'.slots n := ⟨callB_row hts mo ro hl, hts _ hi, hts _ hse⟩
  refine ⟨_, W.runV (As := as.map (tv E)) (b := E.2.1.size + a) ⟨fx.1, fx.2.1, fx.2.2.1, fx.2.2.2.1, hts⟩ (hC r' hF) hcw ⟨blind_of E μ _, ?_, fun U hU hW => ⟨rfl, by rw [hU]; exact wh, ks.warm hW⟩⟩ rfl (by rw [List.length_map]; exact hn) hl2.1 ?_ (st_room E m pc ls _ h8) hd hrm⟩
  · exact va_recv (q := (M'.1.cls, T, N)) ks.1 wh.1 hcl (q0 := a) (ci := ci) hw
  · show (as.reverse ++ .inr (a + 4) :: st).map (tv E) = _
    rw [List.map_append, List.map_reverse]
    rfl
theorem J_callVi {M' : MI} {R' : Room} {as : List LV} {h ci index n N : Nat} {T : u_T} {F' : Option (LV × Mem)} {ty : FieldType} {G : Int32 → Mem → Option (LV × Mem)} {stk : List LV} (hd : decode M.2.1 pc = .ok (.invokevirtual index, 3)) (mo : MOk M' n) (ro : ROk M' R R') (hl : Cond.methodLink M.1.cls index M'.1 ∈ gtbl) (hi : Cond.instanceMethod M'.1 ∈ gtbl) (hse : Cond.selects M'.1.cls M'.1 M'.1 ∈ gtbl)
    (hci : ci < 900) (hcl : classes[ci]? = some (M'.1.cls, T, N)) (hn : as.length = n) (h8 : st.length ≤ 8) (hrm : cells + R'.cells ≤ R.cells ∧ slots + R'.slots ≤ R.slots) (hret : M'.2.2.2 = some ty) (hstk : as.reverse ++ .inr h :: st = stk) (hC : Ct E M' R' (.inr h :: as) μ F')
    (kk : ∀ v μ', J E M R Q (cells + R'.cells) (slots + R'.slots) μ' (pc + 3) lv (.inl v :: st) (G v μ')) : J E M R Q cells slots μ pc lv stk (cV ci h μ (bI F' G)) := by
  intro r hr p e s m args below meth c ls H locs fx ks wh lo hl2
  subst hstk
  unfold cV at hr
  split at hr
  · rename_i hs
    match F', hC, hr with
    | some (.inl v, μ'), hC, hr =>
      obtain ⟨av, hrun⟩ := runV_row (below := below) (meth := meth) (c := c) (e := e) (locs := locs) hd mo ro hl hi hse hci hcl hn h8 hrm hC rfl hs fx ks wh hl2
      refine call_fin hrun lo (fun H1 locs1 wh1 lo1 => ?_)
      rw [rto_some hret]
      exact kk v μ' r hr p e s m args below meth c ls H1 locs1 fx ks wh1 lo1 hl2
    | some (.inr v, μ'), hC, hr => cases hr
    | none, hC, hr => cases hr
  · cases hr
theorem J_callVr {M' : MI} {R' : Room} {as : List LV} {h ci index n N : Nat} {T : u_T} {F' : Option (LV × Mem)} {ty : FieldType} {G : Nat → Mem → Option (LV × Mem)} {stk : List LV} (hd : decode M.2.1 pc = .ok (.invokevirtual index, 3)) (mo : MOk M' n) (ro : ROk M' R R') (hl : Cond.methodLink M.1.cls index M'.1 ∈ gtbl) (hi : Cond.instanceMethod M'.1 ∈ gtbl) (hse : Cond.selects M'.1.cls M'.1 M'.1 ∈ gtbl)
    (hci : ci < 900) (hcl : classes[ci]? = some (M'.1.cls, T, N)) (hn : as.length = n) (h8 : st.length ≤ 8) (hrm : cells + R'.cells ≤ R.cells ∧ slots + R'.slots ≤ R.slots) (hret : M'.2.2.2 = some ty) (hstk : as.reverse ++ .inr h :: st = stk) (hC : Ct E M' R' (.inr h :: as) μ F')
    (kk : ∀ v μ', J E M R Q (cells + R'.cells) (slots + R'.slots) μ' (pc + 3) lv (.inr v :: st) (G v μ')) : J E M R Q cells slots μ pc lv stk (cV ci h μ (bR F' G)) := by
  intro r hr p e s m args below meth c ls H locs fx ks wh lo hl2
  subst hstk
  unfold cV at hr
  split at hr
  · rename_i hs
    match F', hC, hr with
    | some (.inr v, μ'), hC, hr =>
      obtain ⟨av, hrun⟩ := runV_row (below := below) (meth := meth) (c := c) (e := e) (locs := locs) hd mo ro hl hi hse hci hcl hn h8 hrm hC rfl hs fx ks wh hl2
      refine call_fin hrun lo (fun H1 locs1 wh1 lo1 => ?_)
      rw [rto_some hret]
      exact kk v μ' r hr p e s m args below meth c ls H1 locs1 fx ks wh1 lo1 hl2
    | some (.inl v, μ'), hC, hr => cases hr
    | none, hC, hr => cases hr
  · cases hr
theorem J_callVv {M' : MI} {R' : Room} {as : List LV} {h ci index n N : Nat} {T : u_T} {F' : Option (LV × Mem)} {G : Mem → Option (LV × Mem)} {stk : List LV} (hd : decode M.2.1 pc = .ok (.invokevirtual index, 3)) (mo : MOk M' n) (ro : ROk M' R R') (hl : Cond.methodLink M.1.cls index M'.1 ∈ gtbl) (hi : Cond.instanceMethod M'.1 ∈ gtbl) (hse : Cond.selects M'.1.cls M'.1 M'.1 ∈ gtbl)
    (hci : ci < 900) (hcl : classes[ci]? = some (M'.1.cls, T, N)) (hn : as.length = n) (h8 : st.length ≤ 8) (hrm : cells + R'.cells ≤ R.cells ∧ slots + R'.slots ≤ R.slots) (hret : M'.2.2.2 = none) (hstk : as.reverse ++ .inr h :: st = stk) (hC : Ct E M' R' (.inr h :: as) μ F')
    (kk : ∀ μ', J E M R Q (cells + R'.cells) (slots + R'.slots) μ' (pc + 3) lv st (G μ')) : J E M R Q cells slots μ pc lv stk (cV ci h μ (bV F' G)) := by
  intro r hr p e s m args below meth c ls H locs fx ks wh lo hl2
  subst hstk
  unfold cV at hr
  split at hr
  · rename_i hs
    match F', hC, hr with
    | some (v, μ'), hC, hr =>
      obtain ⟨av, hrun⟩ := runV_row (below := below) (meth := meth) (c := c) (e := e) (locs := locs) hd mo ro hl hi hse hci hcl hn h8 hrm hC rfl hs fx ks wh hl2
      refine call_fin hrun lo (fun H1 locs1 wh1 lo1 => ?_)
      rw [rto_none hret]
      exact kk μ' r hr p e s m args below meth c ls H1 locs1 fx ks wh1 lo1 hl2
    | none, hC, hr => cases hr
  · cases hr
end CR
end
section
/-! static methods, constructors, casts; a contract out of a walk -/
section C2
variable {E : EV} {M : MI} {R : Room} {Q : LV × Mem → List Frame → Array Value → State → State → Prop} {cells slots pc : Nat} {μ : Mem} {lv : List (Option LV)} {st : List LV} {F : Option (LV × Mem)}
theorem runS_row {M' : MI} {R' : Room} {as : List LV} {index n : Nat} {F' : Option (LV × Mem)} {r' : LV × Mem} (hd : decode M.2.1 pc = .ok (.invokestatic index, 3)) (mo : MOk M' n) (ro : ROk M' R R') (hl : Cond.methodLink M.1.cls index M'.1 ∈ gtbl) (hi : Cond.static M'.1 ∈ gtbl)
    (hn : as.length = n) (h8 : st.length ≤ 8) (hrm : cells + R'.cells ≤ R.cells ∧ slots + R'.slots ≤ R.slots) (hC : Ct E M' R' as μ F') (hF : F' = some r')
    {p : Program} {e : Env} {s : State} {m : MethodId} {args : Array Value} {below : List Frame} {meth : Method} {c : Code} {ls : Array Slot} {H : Heap} {locs : List Loc} (fx : Fx M p s m args meth c) (ks : KS E s) (wh : WH E μ H) (hl2 : LVok E ls M.2.2.1 lv) :
    ∃ av, CallRun p E.1 e R s m args below meth c H locs cells slots R'.cells R'.slots (F0 m pc ls ((as.reverse ++ st).map (tv E))) (st.map (tv E)) (Qr E M' r' av) (AE E) := by
  have hts := fx.2.2.2.2.1
  refine ⟨_, W.runS (As := as.map (tv E)) ⟨fx.1, fx.2.1, fx.2.2.1, fx.2.2.2.1, hts⟩ (hC r' hF) ⟨callB_row hts mo ro hl, hts _ hi⟩ ⟨blind_of E μ _, fun U hU hW => ⟨rfl, by rw [hU]; exact wh, ks.warm hW⟩⟩ rfl (by rw [List.length_map]; exact hn) hl2.1 ?_ (st_room E m pc ls _ h8) hd hrm⟩
  show (as.reverse ++ st).map (tv E) = _
  rw [List.map_append, List.map_reverse]
theorem J_callSi {M' : MI} {R' : Room} {as : List LV} {index n : Nat} {F' : Option (LV × Mem)} {ty : FieldType} {G : Int32 → Mem → Option (LV × Mem)} {stk : List LV} (hd : decode M.2.1 pc = .ok (.invokestatic index, 3)) (mo : MOk M' n) (ro : ROk M' R R') (hl : Cond.methodLink M.1.cls index M'.1 ∈ gtbl) (hi : Cond.static M'.1 ∈ gtbl)
    (hn : as.length = n) (h8 : st.length ≤ 8) (hrm : cells + R'.cells ≤ R.cells ∧ slots + R'.slots ≤ R.slots) (hret : M'.2.2.2 = some ty) (hstk : as.reverse ++ st = stk) (hC : Ct E M' R' as μ F')
    (kk : ∀ v μ', J E M R Q (cells + R'.cells) (slots + R'.slots) μ' (pc + 3) lv (.inl v :: st) (G v μ')) : J E M R Q cells slots μ pc lv stk (bI F' G) := by
  intro r hr p e s m args below meth c ls H locs fx ks wh lo hl2
  subst hstk
  match F', hC, hr with
  | some (.inl v, μ'), hC, hr =>
    obtain ⟨av, hrun⟩ := runS_row (below := below) (meth := meth) (c := c) (e := e) (locs := locs) hd mo ro hl hi hn h8 hrm hC rfl fx ks wh hl2
    refine call_fin hrun lo (fun H1 locs1 wh1 lo1 => ?_)
    rw [rto_some hret]
    exact kk v μ' r hr p e s m args below meth c ls H1 locs1 fx ks wh1 lo1 hl2
  | some (.inr v, μ'), hC, hr => cases hr
  | none, hC, hr => cases hr
theorem J_callSr {M' : MI} {R' : Room} {as : List LV} {index n : Nat} {F' : Option (LV × Mem)} {ty : FieldType} {G : Nat → Mem → Option (LV × Mem)} {stk : List LV} (hd : decode M.2.1 pc = .ok (.invokestatic index, 3)) (mo : MOk M' n) (ro : ROk M' R R') (hl : Cond.methodLink M.1.cls index M'.1 ∈ gtbl) (hi : Cond.static M'.1 ∈ gtbl)
    (hn : as.length = n) (h8 : st.length ≤ 8) (hrm : cells + R'.cells ≤ R.cells ∧ slots + R'.slots ≤ R.slots) (hret : M'.2.2.2 = some ty) (hstk : as.reverse ++ st = stk) (hC : Ct E M' R' as μ F')
    (kk : ∀ v μ', J E M R Q (cells + R'.cells) (slots + R'.slots) μ' (pc + 3) lv (.inr v :: st) (G v μ')) : J E M R Q cells slots μ pc lv stk (bR F' G) := by
  intro r hr p e s m args below meth c ls H locs fx ks wh lo hl2
  subst hstk
  match F', hC, hr with
  | some (.inr v, μ'), hC, hr =>
    obtain ⟨av, hrun⟩ := runS_row (below := below) (meth := meth) (c := c) (e := e) (locs := locs) hd mo ro hl hi hn h8 hrm hC rfl fx ks wh hl2
    refine call_fin hrun lo (fun H1 locs1 wh1 lo1 => ?_)
    rw [rto_some hret]
    exact kk v μ' r hr p e s m args below meth c ls H1 locs1 fx ks wh1 lo1 hl2
  | some (.inl v, μ'), hC, hr => cases hr
  | none, hC, hr => cases hr
theorem J_callSv {M' : MI} {R' : Room} {as : List LV} {index n : Nat} {F' : Option (LV × Mem)} {G : Mem → Option (LV × Mem)} {stk : List LV} (hd : decode M.2.1 pc = .ok (.invokestatic index, 3)) (mo : MOk M' n) (ro : ROk M' R R') (hl : Cond.methodLink M.1.cls index M'.1 ∈ gtbl) (hi : Cond.static M'.1 ∈ gtbl)
    (hn : as.length = n) (h8 : st.length ≤ 8) (hrm : cells + R'.cells ≤ R.cells ∧ slots + R'.slots ≤ R.slots) (hret : M'.2.2.2 = none) (hstk : as.reverse ++ st = stk) (hC : Ct E M' R' as μ F')
    (kk : ∀ μ', J E M R Q (cells + R'.cells) (slots + R'.slots) μ' (pc + 3) lv st (G μ')) : J E M R Q cells slots μ pc lv stk (bV F' G) := by
  intro r hr p e s m args below meth c ls H locs fx ks wh lo hl2
  subst hstk
  match F', hC, hr with
  | some (v, μ'), hC, hr =>
    obtain ⟨av, hrun⟩ := runS_row (below := below) (meth := meth) (c := c) (e := e) (locs := locs) hd mo ro hl hi hn h8 hrm hC rfl fx ks wh hl2
    refine call_fin hrun lo (fun H1 locs1 wh1 lo1 => ?_)
    rw [rto_none hret]
    exact kk μ' r hr p e s m args below meth c ls H1 locs1 fx ks wh1 lo1 hl2
  | none, hC, hr => cases hr
theorem J_callI {M' : MI} {R' : Room} {as : List LV} {h index n : Nat} {F' : Option (LV × Mem)} {G : Mem → Option (LV × Mem)} {stk : List LV} (hd : decode M.2.1 pc = .ok (.invokespecial index, 3)) (mo : MOk M' n) (ro : ROk M' R R') (hl : Cond.methodLink M.1.cls index M'.1 ∈ gtbl) (hi : Cond.instanceMethod M'.1 ∈ gtbl) (hnm : M'.1.name = "<init>")
    (hn : as.length = n) (h8 : st.length ≤ 8) (hrm : cells + R'.cells ≤ R.cells ∧ slots + R'.slots ≤ R.slots) (hret : M'.2.2.2 = none) (hstk : as.reverse ++ .inr h :: st = stk) (hC : Ct E M' R' (.inr h :: as) μ F')
    (kk : ∀ μ', J E M R Q (cells + R'.cells) (slots + R'.slots) μ' (pc + 3) lv st (G μ')) : J E M R Q cells slots μ pc lv stk (cN h (bV F' G)) := by
  intro r hr p e s m args below meth c ls H locs fx ks wh lo hl2
  subst hstk
  unfold cN at hr
  split at hr
  · cases hr
  · rename_i hh
    obtain ⟨a, ha⟩ := ra_ne (E := E) hh
    match F', hC, hr with
    | some (v, μ'), hC, hr =>
      have hts := fx.2.2.2.2.1
      have ht : tv E (.inr h) = .ref a := by show va_rf (ra E h) = _; rw [ha]; rfl
      have hM := hC _ rfl
      rw [show (Sum.inr h :: as).map (tv E) = .ref a :: as.map (tv E) by rw [List.map_cons, ht]] at hM
      have hb := callB_row (M := M) (R := R) hts mo ro hl
      rw [hret] at hb
      have hrun : CallRun p E.1 e R s m args below meth c H locs cells slots R'.cells R'.slots (F0 m pc ls ((as.reverse ++ .inr h :: st).map (tv E))) (st.map (tv E)) (Qr E M' (v, μ') (Value.ref a :: as.map (tv E)).toArray) (AE E) := by
        refine W.runI (As := as.map (tv E)) (b := a) ⟨fx.1, fx.2.1, fx.2.2.1, fx.2.2.2.1, hts⟩ hM ⟨hb, hnm, hts _ hi⟩ ⟨blind_of E μ _, fun U hU hW => ⟨rfl, by rw [hU]; exact wh, ks.warm hW⟩⟩ rfl (by rw [List.length_map]; exact hn) hl2.1 ?_ (st_room E m pc ls _ h8) hd hrm
        show (as.reverse ++ .inr h :: st).map (tv E) = _
        rw [List.map_append, List.map_reverse, List.map_cons, ht]
      refine call_fin hrun lo (fun H1 locs1 wh1 lo1 => ?_)
      rw [rto_none hret]
      exact kk μ' r hr p e s m args below meth c ls H1 locs1 fx ks wh1 lo1 hl2
    | none, hC, hr => cases hr
theorem J_callIN {M' : MI} {R' : Room} {as : List LV} {h index n : Nat} {host : String} {F' : Option (LV × Mem)} {G : Mem → Option (LV × Mem)} {stk : List LV} (hd : decode M.2.1 pc = .ok (.invokespecial index, 3)) (mo : MOk M' n) (ro : ROk M' R R') (hl : Cond.methodLinkNest M.1.cls index M'.1 host ∈ ntbl) (hi : Cond.instanceMethod M'.1 ∈ gtbl) (hnm : M'.1.name = "<init>")
    (hn : as.length = n) (h8 : st.length ≤ 8) (hrm : cells + R'.cells ≤ R.cells ∧ slots + R'.slots ≤ R.slots) (hret : M'.2.2.2 = none) (hstk : as.reverse ++ .inr h :: st = stk) (hC : Ct E M' R' (.inr h :: as) μ F')
    (kk : ∀ μ', J E M R Q (cells + R'.cells) (slots + R'.slots) μ' (pc + 3) lv st (G μ')) : J E M R Q cells slots μ pc lv stk (cN h (bV F' G)) := by
  intro r hr p e s m args below meth c ls H locs fx ks wh lo hl2
  subst hstk
  unfold cN at hr
  split at hr
  · cases hr
  · rename_i hh
    obtain ⟨a, ha⟩ := ra_ne (E := E) hh
    match F', hC, hr with
    | some (v, μ'), hC, hr =>
      have hts := fx.2.2.2.2.1
      have ht : tv E (.inr h) = .ref a := by show va_rf (ra E h) = _; rw [ha]; rfl
      have hM := hC _ rfl
      rw [show (Sum.inr h :: as).map (tv E) = .ref a :: as.map (tv E) by rw [List.map_cons, ht]] at hM
      have hb : va_CN R s args M.1.cls index M'.1 host M'.2.1 M'.2.2.1 M'.2.2.2 (wsy M') R' R'.cells R'.slots n := va_cnB n hts (good_wsy mo) rfl rfl rfl (ks.2.2.2.2.2.2.1 _ hl) (hts _ mo.2.1) mo.2.2 ro
      rw [hret] at hb
      have hrun : va_Run p E.1 e R s m args below meth c H locs cells slots R'.cells R'.slots (F0 m pc ls ((as.reverse ++ .inr h :: st).map (tv E))) (st.map (tv E)) (Qr E M' (v, μ') (Value.ref a :: as.map (tv E)).toArray) (AE E) := by
        refine va_runIN (As := as.map (tv E)) (b := a) ⟨fx.1, fx.2.1, fx.2.2.1, fx.2.2.2.1, hts⟩ hM ⟨hb, hnm, hts _ hi⟩ ⟨blind_of E μ _, fun U hU hW => ⟨rfl, by rw [hU]; exact wh, ks.warm hW⟩⟩ rfl (by rw [List.length_map]; exact hn) hl2.1 ?_ (st_room E m pc ls _ h8) hd hrm
        show (as.reverse ++ .inr h :: st).map (tv E) = _
        rw [List.map_append, List.map_reverse, List.map_cons, ht]
      have hrun2 : CallRun p E.1 e R s m args below meth c H locs cells slots R'.cells R'.slots (F0 m pc ls ((as.reverse ++ .inr h :: st).map (tv E))) (st.map (tv E)) (Qr E M' (v, μ') (Value.ref a :: as.map (tv E)).toArray) (AE E) := by
        intro T hT X
        obtain ⟨v1, st₀, t, T', L, h0, X', hL, e1, e2, hq, stp⟩ := hrun T hT X
        exact ⟨v1, st₀, t, T', L, h0, X', hL, e1, hq, stp⟩
      refine call_fin hrun2 lo (fun H1 locs1 wh1 lo1 => ?_)
      rw [rto_none hret]
      exact kk μ' r hr p e s m args below meth c ls H1 locs1 fx ks wh1 lo1 hl2
    | none, hC, hr => cases hr
/-- Object's constructor -/
theorem J_obj {h index : Nat} (hd : decode M.2.1 pc = .ok (.invokespecial index, 3)) (hl : Cond.methodLink M.1.cls index objectInit ∈ gtbl) (hi : Cond.instanceMethod objectInit ∈ gtbl) (hc : Cond.code objectInit ⟨#[0xb1]⟩ 1 none ∈ gtbl) (h8 : st.length ≤ 8) (hf : 1 ≤ R.frames) (hlo : 20 ≤ R.locals)
    (kk : J E M R Q cells slots μ (pc + 3) lv st F) : J E M R Q cells slots μ pc lv (.inr h :: st) (cN h F) := by
  intro r hr p e s m args below meth c ls H locs fx ks wh lo hl2
  unfold cN at hr
  split at hr
  · cases hr
  · rename_i hh
    obtain ⟨a, ha⟩ := ra_ne (E := E) hh
    have hts := fx.2.2.2.2.1
    have ht : tv E (.inr h) = .ref a := by show va_rf (ra E h) = _; rw [ha]; rfl
    have h9 := st_room E m pc ls (.ref a :: st.map (tv E)) h8
    rw [List.map_cons, ht]
    exact W.objInit fx.1 fx.2.1 fx.2.2.2.1 (hts _ hl) (hts _ hi) (hts _ hc) rfl (by rw [fx.2.2.1]; exact hl2.1) rfl hd hf (by omega) (kk r hr p e s m args below meth c ls H locs fx ks wh lo hl2)
theorem J_cast {ci h index N : Nat} {C : String} {T : u_T} (hd : decode M.2.1 pc = .ok (.checkcast index, 3)) (hci : ci < 900) (hc : classes[ci]? = some (C, T, N)) (hl : Cond.classLink M.1.cls index C ∈ gtbl)
    (kk : J E M R Q cells slots μ (pc + 3) lv (.inr h :: st) F) : J E M R Q cells slots μ pc lv (.inr h :: st) (cC ci h μ F) := by
  intro r hr p e s m args below meth c ls H locs fx ks wh lo hl2
  unfold cC at hr
  split at hr
  · rename_i hs
    have k1 := kk r hr p e s m args below meth c ls H locs fx ks wh lo hl2
    by_cases h0 : h = 0
    · subst h0
      exact lv_castN fx.1 fx.2.1 hd k1
    · have hs2 : shp μ h = (ci + 3, 0) := hs.resolve_left h0
      obtain ⟨a, rfl, ha, hw⟩ := cell_at (E := E) hs2 (by simp <;> omega) (by simp <;> omega)
      exact va_castS fx.1 fx.2.1 fx.2.2.2.1 (fx.2.2.2.2.1 _ hl) (ks.1.1 ci _ hc).2 (va_recv (q := (C, T, N)) ks.1 wh.1 hc (q0 := a) (ci := ci) hw) hd k1
  · cases hr
/-- a contract out of the walk of the body -/
theorem Ct.of {as : List LV} {k : Nat} (hy : plainFor M.1 = true) (hk : M.2.2.1 = as.length + k) (h : J E M R (QR E M R) 0 0 μ 0 (as.map some ++ List.replicate k none) [] F) : Ct E M R as μ F := by
  intro r hF
  refine va_MetF (cc := M.2.1) (maxL := M.2.2.1) (ret := M.2.2.2) hy rfl ?_
  intro p e s m args below meth c s₁ B hml hv
  obtain ⟨rfl, hwh, hks⟩ := hv
  have hts : ∀ w ∈ gtbl, w.before (as.map (tv E)).toArray s = true := fun w hw => atoms_spec (ws := wsy M) B.pre w (List.mem_cons_of_mem _ hw)
  have fx : Fx M p s m (as.map (tv E)).toArray meth c := ⟨B.exec, B.bytes, hml, findClass_of_methodNamed B.named, hts, B.returns, B.notSynchronized, (name_of_methodNamed B.named B.method).1⟩
  rw [lg_entry_eq]
  exact h r hF p e s m _ below meth c _ s.heap [] fx hks hwh (fun q hq => by cases hq) (lv_entry_ok E as M.2.2.1 k hk)
end C2
end
section
/-! switches; what the library's list needs; the script -/
def aq (h1 h2 : Nat) (F1 F2 : Option (LV × Mem)) : Option (LV × Mem) := if h1 = h2 then F1 else if (4 ≤ h1 ∨ 4 ≤ h2) ∧ ¬ h1 = 3 ∧ ¬ h2 = 3 then F2 else none
abbrev okv (μ : Mem) (v : Nat) : Prop := (shp μ v).2 = 0 ∧ ((shp μ v).1 = 3 ∨ (shp μ v).1 = 4 ∨ (shp μ v).1 = 7 ∨ (shp μ v).1 = 9)
def rS (h : Nat) (i : Int32) (v : Nat) (μ : Mem) (K : Mem → Option (LV × Mem)) : Option (LV × Mem) := if ¬ h = 1 ∧ (shp μ h).1 = 2 ∧ inb i (shp μ h).2 ∧ okv μ v then K (sr μ h i.toNatClampNeg v) else none
def mcI (μ : Mem) (hs sp hd dp n : Nat) : Mem := (μ.1, μ.2.1, fun a j => if a = hd then va_cpy (gi μ hs) (gi μ hd) sp dp n j else μ.2.2.1 a j, μ.2.2.2)
def mcR (μ : Mem) (hs sp hd dp n : Nat) : Mem := (μ.1, μ.2.1, μ.2.2.1, fun a j => if a = hd then va_cpy (gr μ hs) (gr μ hd) sp dp n j else μ.2.2.2 a j)
def cpI (hs : Nat) (sp : Int32) (hd : Nat) (dp n : Int32) (μ : Mem) (K : Mem → Option (LV × Mem)) : Option (LV × Mem) :=
  if (shp μ hs).1 = 0 ∧ (shp μ hd).1 = 0 ∧ ¬ sp < 0 ∧ ¬ dp < 0 ∧ ¬ n < 0 ∧ sp.toNatClampNeg + n.toNatClampNeg ≤ (shp μ hs).2 ∧ dp.toNatClampNeg + n.toNatClampNeg ≤ (shp μ hd).2 then K (mcI μ hs sp.toNatClampNeg hd dp.toNatClampNeg n.toNatClampNeg) else none
def cpR (hs : Nat) (sp : Int32) (hd : Nat) (dp n : Int32) (μ : Mem) (K : Mem → Option (LV × Mem)) : Option (LV × Mem) :=
  if ¬ hs = 1 ∧ ¬ hd = 1 ∧ (shp μ hs).1 = 2 ∧ (shp μ hd).1 = 2 ∧ ¬ sp < 0 ∧ ¬ dp < 0 ∧ ¬ n < 0 ∧ sp.toNatClampNeg + n.toNatClampNeg ≤ (shp μ hs).2 ∧ dp.toNatClampNeg + n.toNatClampNeg ≤ (shp μ hd).2 ∧ (∀ i, i < n.toNatClampNeg → gr μ hs (sp.toNatClampNeg + i) = 0 ∨ okv μ (gr μ hs (sp.toNatClampNeg + i))) then K (mcR μ hs sp.toNatClampNeg hd dp.toNatClampNeg n.toNatClampNeg) else none
def gC (h : Nat) (μ : Mem) (X : Option (LV × Mem)) : Option (LV × Mem) := if ¬ h = 1 ∧ (shp μ h).1 = 2 then X else none
def sI (xs : Nat → Int32) (L : Nat) (i : Int32) (K : Int32 → Option (LV × Mem)) : Option (LV × Mem) := if inb i L then K (xs i.toNatClampNeg) else none
theorem sw_out {x : Int32} {lo hi : Int} (vs : List Int32) (hv : ∀ v ∈ vs, ¬ x = v) (hc : (List.range (hi - lo + 1).toNat).all (fun k => vs.any (fun v => v.toInt == lo + (k : Int))) = true) : x.toInt < lo ∨ hi < x.toInt := by
  rcases Int.lt_or_le x.toInt lo with h | h
  · exact Or.inl h
  · rcases Int.lt_or_le hi x.toInt with h2 | h2
    · exact Or.inr h2
    · have h3 := List.all_eq_true.mp hc (x.toInt - lo).toNat (List.mem_range.mpr (by omega))
      obtain ⟨v, hm, he⟩ := List.any_eq_true.mp h3
      have he2 : v.toInt = lo + ((x.toInt - lo).toNat : Int) := by simpa using he
      exact absurd (Int32.toInt_inj.mp (by rw [he2]; omega)) (hv v hm)
section SP
variable {E : EV} {M : MI} {R : Room} {Q : LV × Mem → List Frame → Array Value → State → State → Prop} {cells slots pc : Nat} {μ : Mem} {lv : List (Option LV)} {st : List LV} {F : Option (LV × Mem)}
theorem J_swc {x v : Int32} {F1 F2 : Option (LV × Mem)} {stk : List LV} (k1 : x = v → J E M R Q cells slots μ pc lv stk F1) (k2 : ¬ x = v → J E M R Q cells slots μ pc lv stk F2) : J E M R Q cells slots μ pc lv stk (if x = v then F1 else F2) := by
  by_cases h : x = v
  · rw [if_pos h]; exact k1 h
  · rw [if_neg h]; exact k2 h
theorem J_swIn {x v : Int32} {dflt lo hi : Int} {offs : Array Int} {len : Nat} {off : Int} {tgt : Nat} (hd : decode M.2.1 pc = .ok (.tableswitch dflt lo hi offs, len)) (hx : x = v) (h1 : ¬ v.toInt < lo) (h2 : ¬ hi < v.toInt) (ho : offs[(v.toInt - lo).toNat]? = some off) (ht : (pc : Int) + off = (tgt : Int))
    (k : J E M R Q cells slots μ tgt lv st F) : J E M R Q cells slots μ pc lv (.inl x :: st) F := by
  intro r hr p e s m args below meth c ls H locs fx ks wh lo hl
  subst hx
  exact lv_tableIn fx.1 fx.2.1 hd h1 h2 ho ht (k r hr p e s m args below meth c ls H locs fx ks wh lo hl)
theorem J_swOut {x : Int32} {dflt lo hi : Int} {offs : Array Int} {len : Nat} {tgt : Nat} (hd : decode M.2.1 pc = .ok (.tableswitch dflt lo hi offs, len)) (h : x.toInt < lo ∨ hi < x.toInt) (ht : (pc : Int) + dflt = (tgt : Int))
    (k : J E M R Q cells slots μ tgt lv st F) : J E M R Q cells slots μ pc lv (.inl x :: st) F := by
  intro r hr p e s m args below meth c ls H locs fx ks wh lo hl
  exact lv_tableOut fx.1 fx.2.1 hd h ht (k r hr p e s m args below meth c ls H locs fx ks wh lo hl)
theorem J_gets {index : Nat} (hd : decode M.2.1 pc = .ok (.getstatic index, 3)) (hw : Cond.fieldLink M.1.cls index "java/util/ArrayList" "DEFAULTCAPACITY_EMPTY_ELEMENTDATA" "[Ljava/lang/Object;" ∈ gtbl) (k : J E M R Q cells slots μ (pc + 3) lv (.inr 1 :: st) F) : J E M R Q cells slots μ pc lv st F := by
  intro r hr p e s m args below meth c ls H locs fx ks wh lo hl
  obtain ⟨cf, kf, fi, f, a, cell, h1, h2, h3, h4, h5, h6, h7, h8⟩ := ks.2.1
  exact W.gets fx.1 fx.2.1 fx.2.2.2.1 (fx.2.2.2.2.1 _ hw) h1 h2 h3 h4 (by rw [wh.2.1 a (Nat.lt_of_not_le h8)]; exact h5) (fun e => by rw [e] at h6; cases h6) h7 rfl hd (k r hr p e s m args below meth c ls H locs fx ks wh lo hl)
theorem ra_inj {E : EV} (he : E.2.2.2.2.1.1 < E.2.1.size) (hb : E.2.2.2.2.2.1 < E.2.1.size) {h1 h2 : Nat} (hc : (4 ≤ h1 ∨ 4 ≤ h2) ∧ ¬ h1 = 3 ∧ ¬ h2 = 3) (e : ra E h1 = ra E h2) : h1 = h2 := by
  obtain ⟨ho, n1, n2⟩ := hc
  have key : ∀ a b : Nat, 4 ≤ a → ¬ b = 3 → ra E a = ra E b → a = b := by
    intro a b ha nb e
    obtain ⟨a, rfl⟩ : ∃ c, a = c + 4 := ⟨a - 4, by omega⟩
    match b, nb, e with
    | 0, _, e => simp [ra] at e
    | 1, _, e => simp [ra] at e; omega
    | 2, _, e => simp [ra] at e; omega
    | 3, nb, _ => exact absurd rfl nb
    | b + 4, _, e => simp [ra] at e; omega
  rcases ho with ho | ho
  · exact key h1 h2 ho n2 e
  · exact (key h2 h1 ho n1 e.symm).symm
theorem e0_lt {E : EV} {s : State} (ks : KS E s) : E.2.2.2.2.1.1 < E.2.1.size := by
  obtain ⟨cell, g1, -⟩ := ks.2.2.1
  exact (Array.getElem?_eq_some_iff.mp g1).1
theorem J_acmp_eq {h1 h2 : Nat} {off : Int} {tgt : Nat} {F1 F2 : Option (LV × Mem)} (hd : decode M.2.1 pc = .ok (.if_acmp .eq off, 3)) (ht : (pc : Int) + off = (tgt : Int)) (k1 : J E M R Q cells slots μ tgt lv st F1) (k2 : J E M R Q cells slots μ (pc + 3) lv st F2) : J E M R Q cells slots μ pc lv (.inr h2 :: .inr h1 :: st) (aq h1 h2 F1 F2) := by
  intro r hr p e s m args below meth c ls H locs fx ks wh lo hl
  unfold aq at hr
  refine lv_acmp_eq (rx := ra E h1) (ry := ra E h2) fx.1 fx.2.1 hd ht (fun hc => ?_) (fun hc => ?_)
  · by_cases hh : h1 = h2
    · rw [if_pos hh] at hr
      exact k1 r hr p e s m args below meth c ls H locs fx ks wh lo hl
    · rw [if_neg hh] at hr
      split at hr
      · rename_i hq
        exact absurd (ra_inj (e0_lt ks) ks.2.2.2.2.2.1 hq hc) hh
      · cases hr
  · by_cases hh : h1 = h2
    · exact absurd (by rw [hh]) hc
    · rw [if_neg hh] at hr
      split at hr
      · exact k2 r hr p e s m args below meth c ls H locs fx ks wh lo hl
      · cases hr
theorem J_acmp_ne {h1 h2 : Nat} {off : Int} {tgt : Nat} {F1 F2 : Option (LV × Mem)} (hd : decode M.2.1 pc = .ok (.if_acmp .ne off, 3)) (ht : (pc : Int) + off = (tgt : Int)) (k1 : J E M R Q cells slots μ tgt lv st F1) (k2 : J E M R Q cells slots μ (pc + 3) lv st F2) : J E M R Q cells slots μ pc lv (.inr h2 :: .inr h1 :: st) (aq h1 h2 F2 F1) := by
  intro r hr p e s m args below meth c ls H locs fx ks wh lo hl
  unfold aq at hr
  refine lv_acmp_ne (rx := ra E h1) (ry := ra E h2) fx.1 fx.2.1 hd ht (fun hc => ?_) (fun hc => ?_)
  · by_cases hh : h1 = h2
    · exact absurd (by rw [hh]) hc
    · rw [if_neg hh] at hr
      split at hr
      · exact k1 r hr p e s m args below meth c ls H locs fx ks wh lo hl
      · cases hr
  · by_cases hh : h1 = h2
    · rw [if_pos hh] at hr
      exact k2 r hr p e s m args below meth c ls H locs fx ks wh lo hl
    · rw [if_neg hh] at hr
      split at hr
      · rename_i hq
        exact absurd (ra_inj (e0_lt ks) ks.2.2.2.2.2.1 hq hc) hh
      · cases hr
theorem J_ldcM {index : Nat} (hd : decode M.2.1 pc = .ok (.ldc index, 2)) (hw : Cond.classLink M.1.cls index "[Ljava/lang/Object;" ∈ gtbl) (k : J E M R Q cells slots μ (pc + 2) lv (.inr 3 :: st) F) : J E M R Q cells slots μ pc lv st F := by
  intro r hr p e s m args below meth c ls H locs fx ks wh lo hl
  exact va_ldcM fx.1 fx.2.1 fx.2.2.2.1 (fx.2.2.2.2.1 _ hw) ks.2.2.2.1 hd (k r hr p e s m args below meth c ls H locs fx ks wh lo hl)
theorem row_at {E : EV} {μ : Mem} {h n : Nat} (h1 : ¬ h = 1) (hs : shp μ h = (2, n)) : ∃ a, h = a + 4 ∧ a < μ.1 ∧ (wl E μ)[a]? = some (E.2.1.size + a, .inl (E.2.2.2.1.2.2, n, .inr (.inr (.inr (.inr (fun j => ra E (gr μ h j))))))) := by
  have h4 : ∃ a, h = a + 4 ∧ a < μ.1 := by
    unfold shp at hs
    rw [if_neg h1] at hs
    split at hs
    · exact ⟨h - 4, by omega, by omega⟩
    · cases hs
  obtain ⟨a, rfl, ha⟩ := h4
  refine ⟨a, rfl, ha, ?_⟩
  rw [wl_get E μ ha]
  unfold cellOf
  rw [hs]
  rfl
def ccNm (c : Nat) : String := match c with
  | 0 => "LifeboatHouse$Boat"
  | 1 => "LifeboatHouse$Call"
  | 4 => "LifeboatHouse$Launch"
  | _ => "LifeboatHouse$Person"
theorem okv_any {E : EV} {μ : Mem} {v : Nat} {s : State} {H : Heap} (ks : KS E s) (wh : WH E μ H) (hv : okv μ v) : ∃ a, ra E v = some a ∧ va_Any "java/lang/Object" s H a := by
  obtain ⟨h2, h1⟩ := hv
  generalize hsx : shp μ v = sx at h1 h2
  obtain ⟨kq, n⟩ := sx
  dsimp only at h1 h2
  subst h2
  obtain ⟨a, rfl, ha, hw⟩ := cell_at (E := E) hsx (by intro q; have := (Prod.mk.inj q).1; omega) (by intro q; have := (Prod.mk.inj q).1; omega)
  refine ⟨_, rfl, ?_⟩
  have key : ∀ (ci : Nat) (C : String) (T : u_T) (N : Nat), kq = ci + 3 → classes[ci]? = some (C, T, N) → Cond.castable C "java/lang/Object" ∈ ntbl → va_Any "java/lang/Object" s H (E.2.1.size + a) := by
    intro ci C T N hk hc hm
    subst hk
    exact va_rAny (r := (C, T, N)) (ci := ci) ks.1 wh.1 hw hc (fun comp c0 f1 f2 => vb_asgC (ks.2.2.2.2.2.2.1 _ hm) comp c0 f1 f2)
  rcases h1 with h1 | h1 | h1 | h1
  · exact key 0 Cn_B Ft_B 4 h1 rfl (List.mem_filter.mpr ⟨by decide +kernel, rfl⟩)
  · exact key 1 Cn_C Ft_C 3 h1 rfl (List.mem_filter.mpr ⟨by decide +kernel, rfl⟩)
  · exact key 4 Cn_U Ft_U 5 h1 rfl (List.mem_filter.mpr ⟨by decide +kernel, rfl⟩)
  · exact key 6 Cn_Q Ft_Q 6 h1 rfl (List.mem_filter.mpr ⟨by decide +kernel, rfl⟩)
theorem J_rS {h : Nat} {i : Int32} {v : Nat} {K : Mem → Option (LV × Mem)} (hd : decode M.2.1 pc = .ok (.aastore, 1))
    (kk : ∀ μ', J E M R Q cells slots μ' (pc + 1) lv st (K μ')) : J E M R Q cells slots μ pc lv (.inr v :: .inl i :: .inr h :: st) (rS h i v μ K) := by
  intro r hr p e s m args below meth c ls H locs fx ks wh lo hl
  unfold rS at hr
  split at hr
  · rename_i hs
    obtain ⟨h1, h2, hi, hv⟩ := hs
    generalize hsx : shp μ h = sx at h2 hi
    obtain ⟨kq, n⟩ := sx
    dsimp only at h2 hi
    subst h2
    obtain ⟨a, rfl, ha, hw⟩ := row_at (E := E) h1 hsx
    obtain ⟨av, hav, hany⟩ := okv_any ks wh hv
    obtain ⟨cellV, g1, g3, ⟨kC, hkC⟩, hasg⟩ := hany
    obtain ⟨kA, comp, k1, k2, k3, -⟩ := (ks.1.2 2 _ rfl).2
    obtain ⟨kE, hkE, -⟩ := Vm.findClass_spec k3
    have hc : H[E.2.1.size + a]? = some (vp_cell E.2.2.2.1.2.2 (n, .inr (.inr (.inr (.inr (fun j => ra E (gr μ (a + 4) j))))))) := wh.1 a _ hw
    have htv : tv E (.inr v) = .ref av := by show va_rf (ra E v) = _; rw [hav]; rfl
    rw [List.map_cons, htv]
    refine W.aast (v := av) fx.1 fx.2.1 hc (fun q h => by cases h) (fun h => by cases h) k1 k2 rfl hkE ⟨Int32.not_lt.mpr hi.1, by show _ < (arrV _ _ _).slots.size; rw [arrV_size]; exact hi.2⟩ g1 (fun q h => by rw [h] at g3; cases g3) hkC (hasg _ k3) rfl rfl hd fun H1 e1 e2 e3 => ?_
    refine kk _ r hr p e s m args below meth c ls H1 _ fx ks (WH_put wh e2 e3 rfl (fun b _ hb => cellOf_sr E μ v (by omega)) ?_) (lo_put lo) hl
    unfold cellOf
    rw [shp_sr, hsx]
    show H1[E.2.1.size + a]? = some (vp_cell E.2.2.2.1.2.2 (n, .inr (.inr (.inr (.inr (fun j => ra E (gr (sr μ (a + 4) i.toNatClampNeg v) (a + 4) j)))))))
    rw [e1, vp_cell_q, vp_cell_q, arrV_store]
    congr 2
    funext q
    by_cases hq : q = i.toNatClampNeg
    · subst hq
      simp [updV, gr_sr, hav, va_rf]
    · simp [updV, gr_sr, hq]
  · cases hr
theorem J_nR {n : Int32} {index : Nat} {K : Nat → Mem → Option (LV × Mem)} (hd : decode M.2.1 pc = .ok (.anewarray index, 3)) (hlk : Cond.classLink M.1.cls index "java/lang/Object" ∈ gtbl) (hcl : cells + 1 ≤ R.cells) (hsl : slots + 64 ≤ R.slots)
    (kk : ∀ h μ', J E M R Q (cells + 1) (slots + 64) μ' (pc + 3) lv (.inr h :: st) (K h μ')) : J E M R Q cells slots μ pc lv (.inl n :: st) (nR n μ K) := by
  intro r hr p e s m args below meth c ls H locs fx ks wh lo hl
  unfold nR at hr
  split at hr
  · rename_i hs
    refine W.anew fx.1 fx.2.1 fx.2.2.2.1 (fx.2.2.2.2.1 _ hlk) (va_AO.use ks.2.2.2.2.2.2.2) rfl hd rfl (Int32.not_lt.mpr hs.1) (by omega) hcl (by omega) fun cA kA comp f1 f2 f3 f4 => ?_
    generalize hH1 : H.push ({ cls := cA, slots := Array.replicate n.toNatClampNeg .null, vm := .none } : Cell) = H1
    have z1 : H1.size = H.size + 1 := by rw [← hH1, Array.size_push]
    have e1 : H1[H.size]? = some (arrV cA n.toNatClampNeg (fun _ => .null)) := by rw [← hH1, Array.getElem?_push_size, ← arrV_new]
    have o1 : ∀ q : Nat, q < H.size → H1[q]? = H[q]? := fun q hq => by rw [← hH1, Array.getElem?_push, if_neg (Nat.ne_of_lt hq)]
    obtain ⟨-, -, -, -, -, k4⟩ := (ks.1.2 2 _ rfl).2
    have hcA : cA = E.2.2.2.1.2.2 := Option.some.inj (f1.symm.trans k4)
    subst hcA
    refine W.widen (k := cells + 1) (n := slots + 64) (Nat.le_refl _) (by omega) ?_
    have kr := kk _ _ r hr p e s m args below meth c ls H1 locs fx ks (WH_new wh z1 o1 ?_) lo hl
    · rw [wh.2.2]; exact kr
    · unfold cellOf
      rw [shp_nw, if_pos rfl]
      show H1[E.2.1.size + μ.1]? = some (vp_cell E.2.2.2.1.2.2 (n.toNatClampNeg, .inr (.inr (.inr (.inr (fun j => ra E (gr (nw μ (2, n.toNatClampNeg)) (μ.1 + 4) j)))))))
      rw [← wh.2.2, e1, vp_cell_q]
      congr 2
      funext j
      rw [gr_nw, if_pos rfl]
      rfl
  · cases hr
theorem J_gC {h index : Nat} (hd : decode M.2.1 pc = .ok (.invokevirtual index, 3)) (hlk : Cond.methodLink M.1.cls index ⟨"java/lang/Object", "getClass", "()Ljava/lang/Class;"⟩ ∈ gtbl) (hdc : Cond.declares ⟨"java/lang/Object", "getClass", "()Ljava/lang/Class;"⟩ ∈ ntbl)
    (hse : Cond.selects "[Ljava/lang/Object;" ⟨"java/lang/Object", "getClass", "()Ljava/lang/Class;"⟩ ⟨"java/lang/Object", "getClass", "()Ljava/lang/Class;"⟩ ∈ gtbl) (hin : Cond.instanceMethod ⟨"java/lang/Object", "getClass", "()Ljava/lang/Class;"⟩ ∈ gtbl) (hna : Cond.native ⟨"java/lang/Object", "getClass", "()Ljava/lang/Class;"⟩ ∈ gtbl)
    (hf : 1 ≤ R.frames) (h8 : st.length ≤ 8) (hlo : 24 ≤ R.locals) (kk : J E M R Q cells slots μ (pc + 3) lv (.inr 3 :: st) F) : J E M R Q cells slots μ pc lv (.inr h :: st) (gC h μ F) := by
  intro r hr p e s m args below meth c ls H locs fx ks wh lo hl
  unfold gC at hr
  split at hr
  · rename_i hs
    obtain ⟨h1, h2⟩ := hs
    generalize hsx : shp μ h = sx at h2
    obtain ⟨kq, n⟩ := sx
    dsimp only at h2
    subst h2
    obtain ⟨a, rfl, ha, hw⟩ := row_at (E := E) h1 hsx
    have hts := fx.2.2.2.2.1
    obtain ⟨-, -, -, -, -, k4⟩ := (ks.1.2 2 _ rfl).2
    have h9 := st_room E m pc ls [] h8
    have h9' : ((st.map (tv E)).map fun v => v.category).sum ≤ 8 := by
      have : 2 * (F0 m pc ls []).monitorRoom = 0 := rfl
      omega
    exact va_getC fx.1 fx.2.1 (by rw [fx.2.2.1]; exact hl.1.symm) fx.2.2.2.1 (hts _ hlk) (va_Nw.use rfl (ks.2.2.2.2.2.2.1 _ hdc)) (hts _ hse) (hts _ hin) (hts _ hna) ks.2.2.2.1 ⟨_, wh.1 a _ hw, rfl, k4⟩ hf (by omega) hd (kk r hr p e s m args below meth c ls H locs fx ks wh lo hl)
  · cases hr
end SP
end
section
/-! System.arraycopy; the script -/
theorem shp_mcI (μ : Mem) (a b c d e h : Nat) : shp (mcI μ a b c d e) h = shp μ h := rfl
theorem shp_mcR (μ : Mem) (a b c d e h : Nat) : shp (mcR μ a b c d e) h = shp μ h := rfl
theorem gr_mcI (μ : Mem) (a b c d e h j : Nat) : gr (mcI μ a b c d e) h j = gr μ h j := rfl
theorem gi_mcR (μ : Mem) (a b c d e h j : Nat) : gi (mcR μ a b c d e) h j = gi μ h j := rfl
theorem gi_mcI (μ : Mem) (a b c d e h j : Nat) : gi (mcI μ a b c d e) h j = if h = c then va_cpy (gi μ a) (gi μ c) b d e j else gi μ h j := rfl
theorem gr_mcR (μ : Mem) (a b c d e h j : Nat) : gr (mcR μ a b c d e) h j = if h = c then va_cpy (gr μ a) (gr μ c) b d e j else gr μ h j := rfl
theorem cellOf_mcI (E : EV) (μ : Mem) (a b c d e : Nat) {h : Nat} (hb : h ≠ c) : cellOf E (mcI μ a b c d e) h = cellOf E μ h := by
  have e1 : gi (mcI μ a b c d e) h = gi μ h := funext fun j => by rw [gi_mcI, if_neg hb]
  have e2 : ∀ q, fval E (mcI μ a b c d e) q h = fval E μ q h := fun q => funext fun j => by unfold fval; rw [e1, gr_mcI]
  unfold cellOf
  rw [shp_mcI]
  unfold cellS
  split
  · rw [e1]
  · rw [e1]
  · rfl
  · rw [e2]
theorem cellOf_mcR (E : EV) (μ : Mem) (a b c d e : Nat) {h : Nat} (hb : h ≠ c) : cellOf E (mcR μ a b c d e) h = cellOf E μ h := by
  have e1 : gr (mcR μ a b c d e) h = gr μ h := funext fun j => by rw [gr_mcR, if_neg hb]
  have e2 : ∀ q, fval E (mcR μ a b c d e) q h = fval E μ q h := fun q => funext fun j => by unfold fval; rw [e1, gi_mcR]
  unfold cellOf
  rw [shp_mcR]
  unfold cellS
  split
  · rfl
  · rfl
  · rw [e1]
  · rw [e2]
theorem cp_nn : ∀ z : Int32, ¬ z < 0 → z.toInt = (z.toNatClampNeg : Int) := by
  intro z hz
  have hz0 : (0 : Int) ≤ z.toInt := by
    have := Int32.not_lt.mp hz
    simpa using Int32.le_iff_toInt_le.mp this
  show z.toInt = ((z.toInt.toNat : Nat) : Int)
  omega
theorem cpy_map {α β : Type} (φ : α → β) (f g : Nat → α) (sp dp n j : Nat) : va_cpy (fun i => φ (f i)) (fun i => φ (g i)) sp dp n j = φ (va_cpy f g sp dp n j) := by
  unfold va_cpy
  split <;> rfl
section CP
variable {E : EV} {M : MI} {R : Room} {Q : LV × Mem → List Frame → Array Value → State → State → Prop} {cells slots pc : Nat} {μ : Mem} {lv : List (Option LV)} {st : List LV} {F : Option (LV × Mem)}
theorem J_cpI {hs hd' index : Nat} {sp dp n : Int32} {K : Mem → Option (LV × Mem)} (hd : decode M.2.1 pc = .ok (.invokestatic index, 3)) (hlk : Cond.methodLink M.1.cls index arraycopyName ∈ gtbl) (hna : Cond.native arraycopyName ∈ gtbl) (hst : Cond.static arraycopyName ∈ gtbl) (hin : Cond.initialized "java/lang/System" ∈ gtbl) (h8 : st.length ≤ 8) (hf : 1 ≤ R.frames) (hlo : 40 ≤ R.locals)
    (kk : ∀ μ', J E M R Q cells slots μ' (pc + 3) lv st (K μ')) : J E M R Q cells slots μ pc lv (.inl n :: .inl dp :: .inr hd' :: .inl sp :: .inr hs :: st) (cpI hs sp hd' dp n μ K) := by
  intro r hr p e s m args below meth c ls H locs fx ks wh lo hl
  unfold cpI at hr
  split at hr
  · rename_i hq
    obtain ⟨q0, q1, h1, h2, h3, h4, h5⟩ := hq
    generalize hsx : shp μ hs = sx at q0 h4
    generalize hdx : shp μ hd' = dx at q1 h5
    obtain ⟨k0, n0⟩ := sx
    obtain ⟨k1, n1⟩ := dx
    dsimp only at q0 q1 h4 h5
    subst q0; subst q1
    obtain ⟨a0, rfl, ha0, hw0⟩ := cell_at (E := E) hsx (by simp) (by simp)
    obtain ⟨a, rfl, ha, hw⟩ := cell_at (E := E) hdx (by simp) (by simp)
    have hts := fx.2.2.2.2.1
    have hc0 : H[E.2.1.size + a0]? = some (vp_cell E.2.2.2.1.1 (n0, .inl (gi μ (a0 + 4)))) := wh.1 a0 _ hw0
    have hc1 : H[E.2.1.size + a]? = some (vp_cell E.2.2.2.1.1 (n1, .inl (gi μ (a + 4)))) := wh.1 a _ hw
    obtain ⟨-, kk0, hk0, cm0, hkk0⟩ := (ks.1.2 0 _ rfl).1 n0 (fun j => .int (gi μ (a0 + 4) j))
    obtain ⟨-, kk1, hk1, cm1, hkk1⟩ := (ks.1.2 0 _ rfl).1 n1 (fun j => .int (gi μ (a + 4) j))
    have h9 := st_room E m pc ls [] h8
    have h9' : ((st.map (tv E)).map fun v => v.category).sum ≤ 8 := by
      have : 2 * (F0 m pc ls []).monitorRoom = 0 := rfl
      omega
    have hnf : nativeFrameWords "java/lang/System" "arraycopy" 5 + 11 ≤ 32 := by decide +kernel
    intro T hT X
    obtain ⟨vm', X', step⟩ := X.arraycopy fx.1 fx.2.2.2.1 (hts _ hlk) (hts _ hna) (hts _ hst) (hts _ hin) (src := E.2.1.size + a0) (dst := E.2.1.size + a) (cs := vp_cell E.2.2.2.1.1 (n0, .inl (gi μ (a0 + 4)))) (cd := vp_cell E.2.2.2.1.1 (n1, .inl (gi μ (a + 4)))) (srcPos := sp) (destPos := dp) (n := n) (by rw [hT]; exact hc0) (by rw [hT]; exact hc1)
      (fun _ h => by cases h) (fun _ h => by cases h) (fun h => by cases h) (fun h => by cases h) hk0 hk1 hkk0 hkk1 rfl h1 h2 h3
      (by rw [cp_nn sp h1, cp_nn n h3]; show ¬ _ > ((arrV _ n0 (fun j => .int (gi μ (a0 + 4) j))).slots.size : Int); rw [arrV_size]; omega)
      (by rw [cp_nn dp h2, cp_nn n h3]; show ¬ _ > ((arrV _ n1 (fun j => .int (gi μ (a + 4) j))).slots.size : Int); rw [arrV_size]; omega)
      (fun vm₁ _ i hi => by
        have e : (vp_cell E.2.2.2.1.1 (n0, .inl (gi μ (a0 + 4)))).slots.getD (sp.toNatClampNeg + i) .null = .int (gi μ (a0 + 4) (sp.toNatClampNeg + i)) := by
          show (arrV _ n0 (fun j => .int (gi μ (a0 + 4) j))).slots.getD _ _ = _
          rw [Array.getD_eq_getD_getElem?, arrV_read _ _ (by omega)]
          rfl
        refine ⟨?_, ?_⟩
        · rw [e]; rfl
        · rw [e]; exact trivial)
      (g := F0 m pc ls (.int n :: .int dp :: .ref (E.2.1.size + a) :: .int sp :: .ref (E.2.1.size + a0) :: st.map (tv E))) rfl (by rw [fx.2.2.1]; exact hl.1) (rest := st.map (tv E)) rfl (by rw [fx.2.1]; exact hd) hf (by show 2 * 0 + _ + _ ≤ _; omega)
    have e1 : copied (vp_cell E.2.2.2.1.1 (n0, .inl (gi μ (a0 + 4)))) (vp_cell E.2.2.2.1.1 (n1, .inl (gi μ (a + 4)))) sp dp n = vp_cell E.2.2.2.1.1 (n1, .inl (va_cpy (gi μ (a0 + 4)) (gi μ (a + 4)) sp.toNatClampNeg dp.toNatClampNeg n.toNatClampNeg)) := va_copied (fun z => .int z) _ _ (gi μ (a0 + 4)) (gi μ (a + 4)) h4
    rw [e1] at X' step
    have hlt : E.2.1.size + a < H.size := (Array.getElem?_eq_some_iff.mp hc1).1
    have hheap : ((T.setVm vm').setCell (E.2.1.size + a) (vp_cell E.2.2.2.1.1 (n1, .inl (va_cpy (gi μ (a0 + 4)) (gi μ (a + 4)) sp.toNatClampNeg dp.toNatClampNeg n.toNatClampNeg)))).heap = H.setIfInBounds (E.2.1.size + a) (vp_cell E.2.2.2.1.1 (n1, .inl (va_cpy (gi μ (a0 + 4)) (gi μ (a + 4)) sp.toNatClampNeg dp.toNatClampNeg n.toNatClampNeg))) := by rw [← hT]; rfl
    obtain ⟨t, a1, b1⟩ := kk _ r hr p e s m args below meth c ls _ _ fx ks (WH_put (a := a) wh (by simp) (fun q hq => by simp [Array.getElem?_setIfInBounds, Ne.symm hq]) rfl (fun b _ hb => cellOf_mcI E μ _ _ _ _ _ (by omega)) (by
        unfold cellOf
        rw [shp_mcI, hdx]
        show (H.setIfInBounds (E.2.1.size + a) _)[E.2.1.size + a]? = some (vp_cell E.2.2.2.1.1 (n1, .inl (gi (mcI μ (a0 + 4) sp.toNatClampNeg (a + 4) dp.toNatClampNeg n.toNatClampNeg) (a + 4))))
        rw [show gi (mcI μ (a0 + 4) sp.toNatClampNeg (a + 4) dp.toNatClampNeg n.toNatClampNeg) (a + 4) = va_cpy (gi μ (a0 + 4)) (gi μ (a + 4)) sp.toNatClampNeg dp.toNatClampNeg n.toNatClampNeg from funext fun j => by rw [gi_mcI, if_pos rfl]]
        simp [Array.getElem?_setIfInBounds, hlt])) (fun q hq => by
        rcases List.mem_append.mp hq with h | h
        · exact lo q h
        · obtain ⟨z, -, hz⟩ := List.mem_map.mp h
          rw [← hz]
          show E.2.1.size ≤ E.2.1.size + a
          omega) hl _ hheap X'
    exact ⟨t, step t a1, b1⟩
  · cases hr
theorem J_cpR {hs hd' index : Nat} {sp dp n : Int32} {K : Mem → Option (LV × Mem)} (hd : decode M.2.1 pc = .ok (.invokestatic index, 3)) (hlk : Cond.methodLink M.1.cls index arraycopyName ∈ gtbl) (hna : Cond.native arraycopyName ∈ gtbl) (hst : Cond.static arraycopyName ∈ gtbl) (hin : Cond.initialized "java/lang/System" ∈ gtbl) (h8 : st.length ≤ 8) (hf : 1 ≤ R.frames) (hlo : 40 ≤ R.locals)
    (kk : ∀ μ', J E M R Q cells slots μ' (pc + 3) lv st (K μ')) : J E M R Q cells slots μ pc lv (.inl n :: .inl dp :: .inr hd' :: .inl sp :: .inr hs :: st) (cpR hs sp hd' dp n μ K) := by
  intro r hr p e s m args below meth c ls H locs fx ks wh lo hl
  unfold cpR at hr
  split at hr
  · rename_i hq
    obtain ⟨g1, g2, q0, q1, h1, h2, h3, h4, h5, hel⟩ := hq
    generalize hsx : shp μ hs = sx at q0 h4
    generalize hdx : shp μ hd' = dx at q1 h5
    obtain ⟨k0, n0⟩ := sx
    obtain ⟨k1, n1⟩ := dx
    dsimp only at q0 q1 h4 h5
    subst q0; subst q1
    obtain ⟨a0, rfl, ha0, hw0⟩ := row_at (E := E) g1 hsx
    obtain ⟨a, rfl, ha, hw⟩ := row_at (E := E) g2 hdx
    have hts := fx.2.2.2.2.1
    have hc0 : H[E.2.1.size + a0]? = some (vp_cell E.2.2.2.1.2.2 (n0, .inr (.inr (.inr (.inr (fun j => ra E (gr μ (a0 + 4) j))))))) := wh.1 a0 _ hw0
    have hc1 : H[E.2.1.size + a]? = some (vp_cell E.2.2.2.1.2.2 (n1, .inr (.inr (.inr (.inr (fun j => ra E (gr μ (a + 4) j))))))) := wh.1 a _ hw
    obtain ⟨-, kk0, hk0, cm0, hkk0⟩ := (ks.1.2 2 _ rfl).1 n0 (fun j => va_rf (ra E (gr μ (a0 + 4) j)))
    obtain ⟨-, kk1, hk1, cm1, hkk1⟩ := (ks.1.2 2 _ rfl).1 n1 (fun j => va_rf (ra E (gr μ (a + 4) j)))
    have h9 := st_room E m pc ls [] h8
    have h9' : ((st.map (tv E)).map fun v => v.category).sum ≤ 8 := by
      have : 2 * (F0 m pc ls []).monitorRoom = 0 := rfl
      omega
    have hnf : nativeFrameWords "java/lang/System" "arraycopy" 5 + 11 ≤ 32 := by decide +kernel
    intro T hT X
    obtain ⟨vm', X', step⟩ := X.arraycopy fx.1 fx.2.2.2.1 (hts _ hlk) (hts _ hna) (hts _ hst) (hts _ hin) (src := E.2.1.size + a0) (dst := E.2.1.size + a) (cs := vp_cell E.2.2.2.1.2.2 (n0, .inr (.inr (.inr (.inr (fun j => ra E (gr μ (a0 + 4) j))))))) (cd := vp_cell E.2.2.2.1.2.2 (n1, .inr (.inr (.inr (.inr (fun j => ra E (gr μ (a + 4) j))))))) (srcPos := sp) (destPos := dp) (n := n) (by rw [hT]; exact hc0) (by rw [hT]; exact hc1)
      (fun _ h => by cases h) (fun _ h => by cases h) (fun h => by cases h) (fun h => by cases h) hk0 hk1 hkk0 hkk1 rfl h1 h2 h3
      (by rw [cp_nn sp h1, cp_nn n h3]; show ¬ _ > ((arrV _ n0 (fun j => va_rf (ra E (gr μ (a0 + 4) j)))).slots.size : Int); rw [arrV_size]; omega)
      (by rw [cp_nn dp h2, cp_nn n h3]; show ¬ _ > ((arrV _ n1 (fun j => va_rf (ra E (gr μ (a + 4) j)))).slots.size : Int); rw [arrV_size]; omega)
      (fun vm₁ hal i hi => by
        have e : (vp_cell E.2.2.2.1.2.2 (n0, .inr (.inr (.inr (.inr (fun j => ra E (gr μ (a0 + 4) j))))))).slots.getD (sp.toNatClampNeg + i) .null = va_rf (ra E (gr μ (a0 + 4) (sp.toNatClampNeg + i))) := by
          show (arrV _ n0 (fun j => va_rf (ra E (gr μ (a0 + 4) j)))).slots.getD _ _ = _
          rw [Array.getD_eq_getD_getElem?, arrV_read _ _ (by omega)]
          rfl
        rw [e]
        rcases hel i hi with hz | hz
        · rw [hz]
          exact ⟨rfl, trivial⟩
        · obtain ⟨y, hy, hany⟩ := okv_any ks wh hz
          rw [hy]
          obtain ⟨cellV, f1, f2, ⟨kC, hkC⟩, hasg⟩ := hany
          obtain ⟨kA, comp, r1, r2, r3, -⟩ := (ks.1.2 2 _ rfl).2
          cases hk1.symm.trans r1
          cases hkk1.symm.trans r2
          obtain ⟨kE, hkE, -⟩ := Vm.findClass_spec r3
          obtain ⟨kC', hkC', -⟩ := hal.2.2 _ _ hkC
          obtain ⟨kE', hkE', -⟩ := hal.2.2 _ _ hkE
          refine ⟨rfl, cellV, (show T.heap[y]? = some cellV by rw [hT]; exact f1), (fun q h => by rw [h] at f2; cases f2), ⟨kC', hkC'⟩, ?_, ?_⟩
          · exact ⟨kE', hkE'⟩
          · show vm₁.assignable _ _ = true
            rw [hal.assignable]
            exact hasg _ r3)
      (g := F0 m pc ls (.int n :: .int dp :: .ref (E.2.1.size + a) :: .int sp :: .ref (E.2.1.size + a0) :: st.map (tv E))) rfl (by rw [fx.2.2.1]; exact hl.1) (rest := st.map (tv E)) rfl (by rw [fx.2.1]; exact hd) hf (by show 2 * 0 + _ + _ ≤ _; omega)
    have e1 : copied (vp_cell E.2.2.2.1.2.2 (n0, .inr (.inr (.inr (.inr (fun j => ra E (gr μ (a0 + 4) j))))))) (vp_cell E.2.2.2.1.2.2 (n1, .inr (.inr (.inr (.inr (fun j => ra E (gr μ (a + 4) j))))))) sp dp n = vp_cell E.2.2.2.1.2.2 (n1, .inr (.inr (.inr (.inr (va_cpy (fun j => ra E (gr μ (a0 + 4) j)) (fun j => ra E (gr μ (a + 4) j)) sp.toNatClampNeg dp.toNatClampNeg n.toNatClampNeg))))) := by
      rw [vp_cell_q, vp_cell_q, vp_cell_q]
      exact va_copied (fun z => va_rf z) _ _ (fun j => ra E (gr μ (a0 + 4) j)) (fun j => ra E (gr μ (a + 4) j)) h4
    rw [e1] at X' step
    generalize hnew : vp_cell E.2.2.2.1.2.2 (n1, .inr (.inr (.inr (.inr (va_cpy (fun j => ra E (gr μ (a0 + 4) j)) (fun j => ra E (gr μ (a + 4) j)) sp.toNatClampNeg dp.toNatClampNeg n.toNatClampNeg))))) = newc at X' step
    have hlt : E.2.1.size + a < H.size := (Array.getElem?_eq_some_iff.mp hc1).1
    have hheap : ((T.setVm vm').setCell (E.2.1.size + a) newc).heap = H.setIfInBounds (E.2.1.size + a) newc := by rw [← hT]; rfl
    obtain ⟨t, a1, b1⟩ := kk _ r hr p e s m args below meth c ls _ _ fx ks (WH_put (a := a) wh (by simp) (fun q hq => by simp [Array.getElem?_setIfInBounds, Ne.symm hq]) rfl (fun b _ hb => cellOf_mcR E μ _ _ _ _ _ (by omega)) (by
        unfold cellOf
        rw [shp_mcR, hdx]
        show (H.setIfInBounds (E.2.1.size + a) _)[E.2.1.size + a]? = some (vp_cell E.2.2.2.1.2.2 (n1, .inr (.inr (.inr (.inr (fun j => ra E (gr (mcR μ (a0 + 4) sp.toNatClampNeg (a + 4) dp.toNatClampNeg n.toNatClampNeg) (a + 4) j)))))))
        rw [show (fun j => ra E (gr (mcR μ (a0 + 4) sp.toNatClampNeg (a + 4) dp.toNatClampNeg n.toNatClampNeg) (a + 4) j)) = va_cpy (fun j => ra E (gr μ (a0 + 4) j)) (fun j => ra E (gr μ (a + 4) j)) sp.toNatClampNeg dp.toNatClampNeg n.toNatClampNeg from funext fun j => by rw [gr_mcR, if_pos rfl, cpy_map (ra E)], hnew]
        simp [Array.getElem?_setIfInBounds, hlt])) (fun q hq => by
        rcases List.mem_append.mp hq with h | h
        · exact lo q h
        · obtain ⟨z, -, hz⟩ := List.mem_map.mp h
          rw [← hz]
          show E.2.1.size ≤ E.2.1.size + a
          omega) hl _ hheap X'
    exact ⟨t, step t a1, b1⟩
  · cases hr
/-! the script: handle 2 -/
theorem J_sI {i : Int32} {K : Int32 → Option (LV × Mem)} (hd : decode M.2.1 pc = .ok (.iaload, 1))
    (kk : ∀ v, J E M R Q cells slots μ (pc + 1) lv (.inl v :: st) (K v)) : J E M R Q cells slots μ pc lv (.inl i :: .inr 2 :: st) (sI E.2.2.2.2.2.2.2 E.2.2.2.2.2.2.1 i K) := by
  intro r hr p e s m args below meth c ls H locs fx ks wh lo hl
  unfold sI at hr
  split at hr
  · rename_i hi
    obtain ⟨scr, h1, h2, h3, h4, h5⟩ := ks.2.2.2.2.1
    exact W.iald (v := .int (E.2.2.2.2.2.2.2 i.toNatClampNeg)) fx.1 fx.2.1 (by rw [wh.2.1 _ ks.2.2.2.2.2.1]; exact h1) h2 h3 (by rw [h4]; exact inb_vp hi) (h5 _ hi.2) rfl rfl hd (kk _ r hr p e s m args below meth c ls H locs fx ks wh lo hl)
  · cases hr
theorem J_sL (hd : decode M.2.1 pc = .ok (.arraylength, 1)) (kk : J E M R Q cells slots μ (pc + 1) lv (.inl (Int32.ofNat E.2.2.2.2.2.2.1) :: st) F) : J E M R Q cells slots μ pc lv (.inr 2 :: st) F := by
  intro r hr p e s m args below meth c ls H locs fx ks wh lo hl
  obtain ⟨scr, h1, h2, h3, h4, h5⟩ := ks.2.2.2.2.1
  exact W.alen (n := Int32.ofNat E.2.2.2.2.2.2.1) fx.1 fx.2.1 (by rw [wh.2.1 _ ks.2.2.2.2.2.1]; exact h1) h2 (by rw [h4] <;> rfl) rfl rfl hd (kk r hr p e s m args below meth c ls H locs fx ks wh lo hl)
end CP
end
