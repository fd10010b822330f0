section
-- ===== PART A: goes FIRST, ahead of the names: the tables' words, and 'selects' of the private methods out of them =====
/-- a private method of a class that the tables say can be made, by its rows of tables_1 -/
def lw_okq (q : MethodName × Nat) : Prop := (q.1.cls ≠ "java/lang/invoke/MethodHandle" ∧ q.1.cls ≠ "java/lang/invoke/VarHandle") ∧ Cond.instantiable q.1.cls q.2 ∈ tables_1 ∧ Cond.privateMethod q.1 ∈ tables_1 ∧ Cond.instanceMethod q.1 ∈ tables_1
theorem lw_p0 : lw_okq (⟨"VoussoirYard", "isWholeArchFilled", "()Z"⟩, 16) := ⟨⟨by decide +kernel, by decide +kernel⟩, List.mem_of_getElem? (i := 41) (by decide +kernel), List.mem_of_getElem? (i := 236) (by decide +kernel), List.mem_of_getElem? (i := 237) (by decide +kernel)⟩
theorem lw_p1 : lw_okq (⟨"VoussoirYard", "filledPlaces", "()I"⟩, 16) := ⟨⟨by decide +kernel, by decide +kernel⟩, List.mem_of_getElem? (i := 41) (by decide +kernel), List.mem_of_getElem? (i := 240) (by decide +kernel), List.mem_of_getElem? (i := 241) (by decide +kernel)⟩
theorem lw_p2 : lw_okq (⟨"VoussoirYard", "areaOfUsedBlocks", "()I"⟩, 16) := ⟨⟨by decide +kernel, by decide +kernel⟩, List.mem_of_getElem? (i := 41) (by decide +kernel), List.mem_of_getElem? (i := 262) (by decide +kernel), List.mem_of_getElem? (i := 263) (by decide +kernel)⟩
theorem lw_p3 : lw_okq (⟨"VoussoirYard", "stoneAt", "(I)LVoussoirYard$Stone;"⟩, 16) := ⟨⟨by decide +kernel, by decide +kernel⟩, List.mem_of_getElem? (i := 41) (by decide +kernel), List.mem_of_getElem? (i := 266) (by decide +kernel), List.mem_of_getElem? (i := 267) (by decide +kernel)⟩
theorem lw_p4 : lw_okq (⟨"VoussoirYard", "areaOfStones", "()I"⟩, 16) := ⟨⟨by decide +kernel, by decide +kernel⟩, List.mem_of_getElem? (i := 41) (by decide +kernel), List.mem_of_getElem? (i := 270) (by decide +kernel), List.mem_of_getElem? (i := 271) (by decide +kernel)⟩
theorem lw_p5 : lw_okq (⟨"VoussoirYard", "areSetStonesFitting", "()Z"⟩, 16) := ⟨⟨by decide +kernel, by decide +kernel⟩, List.mem_of_getElem? (i := 41) (by decide +kernel), List.mem_of_getElem? (i := 312) (by decide +kernel), List.mem_of_getElem? (i := 313) (by decide +kernel)⟩
theorem lw_p6 : lw_okq (⟨"VoussoirYard", "stoneOf", "(I)I"⟩, 16) := ⟨⟨by decide +kernel, by decide +kernel⟩, List.mem_of_getElem? (i := 41) (by decide +kernel), List.mem_of_getElem? (i := 316) (by decide +kernel), List.mem_of_getElem? (i := 317) (by decide +kernel)⟩
theorem lw_p7 : lw_okq (⟨"VoussoirYard", "isSafeWithMortar", "()Z"⟩, 16) := ⟨⟨by decide +kernel, by decide +kernel⟩, List.mem_of_getElem? (i := 41) (by decide +kernel), List.mem_of_getElem? (i := 325) (by decide +kernel), List.mem_of_getElem? (i := 326) (by decide +kernel)⟩
theorem lw_p8 : lw_okq (⟨"VoussoirYard$ThrustSearch", "sumWeights", "(LVoussoirYard$Drawing;[I)V"⟩, 11) := ⟨⟨by decide +kernel, by decide +kernel⟩, List.mem_of_getElem? (i := 125) (by decide +kernel), List.mem_of_getElem? (i := 334) (by decide +kernel), List.mem_of_getElem? (i := 335) (by decide +kernel)⟩
theorem lw_p9 : lw_okq (⟨"VoussoirYard$ThrustSearch", "addLines", "(LVoussoirYard$Drawing;I)V"⟩, 11) := ⟨⟨by decide +kernel, by decide +kernel⟩, List.mem_of_getElem? (i := 125) (by decide +kernel), List.mem_of_getElem? (i := 349) (by decide +kernel), List.mem_of_getElem? (i := 350) (by decide +kernel)⟩
theorem lw_p10 : lw_okq (⟨"VoussoirYard$ThrustSearch", "momentAgainst", "(II)J"⟩, 11) := ⟨⟨by decide +kernel, by decide +kernel⟩, List.mem_of_getElem? (i := 125) (by decide +kernel), List.mem_of_getElem? (i := 353) (by decide +kernel), List.mem_of_getElem? (i := 354) (by decide +kernel)⟩
theorem lw_p11 : lw_okq (⟨"VoussoirYard$ThrustSearch", "addCondition", "(JJJ)V"⟩, 11) := ⟨⟨by decide +kernel, by decide +kernel⟩, List.mem_of_getElem? (i := 125) (by decide +kernel), List.mem_of_getElem? (i := 357) (by decide +kernel), List.mem_of_getElem? (i := 358) (by decide +kernel)⟩
theorem lw_p12 : lw_okq (⟨"VoussoirYard$ThrustSearch", "addGrip", "(LVoussoirYard$Joint;II)V"⟩, 11) := ⟨⟨by decide +kernel, by decide +kernel⟩, List.mem_of_getElem? (i := 125) (by decide +kernel), List.mem_of_getElem? (i := 361) (by decide +kernel), List.mem_of_getElem? (i := 362) (by decide +kernel)⟩
theorem lw_p13 : lw_okq (⟨"VoussoirYard$ThrustSearch", "takeOutV", "()V"⟩, 11) := ⟨⟨by decide +kernel, by decide +kernel⟩, List.mem_of_getElem? (i := 125) (by decide +kernel), List.mem_of_getElem? (i := 365) (by decide +kernel), List.mem_of_getElem? (i := 366) (by decide +kernel)⟩
theorem lw_p14 : lw_okq (⟨"VoussoirYard$ThrustSearch", "boundH", "(JJ)V"⟩, 11) := ⟨⟨by decide +kernel, by decide +kernel⟩, List.mem_of_getElem? (i := 125) (by decide +kernel), List.mem_of_getElem? (i := 369) (by decide +kernel), List.mem_of_getElem? (i := 370) (by decide +kernel)⟩
theorem lw_p15 : lw_okq (⟨"VoussoirYard$ThrustSearch", "pairWithBoundsFromAbove", "(I)V"⟩, 11) := ⟨⟨by decide +kernel, by decide +kernel⟩, List.mem_of_getElem? (i := 125) (by decide +kernel), List.mem_of_getElem? (i := 373) (by decide +kernel), List.mem_of_getElem? (i := 374) (by decide +kernel)⟩
def lw_privs_1 : List (MethodName × Nat) := [(⟨"VoussoirYard", "isWholeArchFilled", "()Z"⟩, 16), (⟨"VoussoirYard", "filledPlaces", "()I"⟩, 16), (⟨"VoussoirYard", "areaOfUsedBlocks", "()I"⟩, 16), (⟨"VoussoirYard", "stoneAt", "(I)LVoussoirYard$Stone;"⟩, 16), (⟨"VoussoirYard", "areaOfStones", "()I"⟩, 16), (⟨"VoussoirYard", "areSetStonesFitting", "()Z"⟩, 16), (⟨"VoussoirYard", "stoneOf", "(I)I"⟩, 16), (⟨"VoussoirYard", "isSafeWithMortar", "()Z"⟩, 16), (⟨"VoussoirYard$ThrustSearch", "sumWeights", "(LVoussoirYard$Drawing;[I)V"⟩, 11), (⟨"VoussoirYard$ThrustSearch", "addLines", "(LVoussoirYard$Drawing;I)V"⟩, 11), (⟨"VoussoirYard$ThrustSearch", "momentAgainst", "(II)J"⟩, 11), (⟨"VoussoirYard$ThrustSearch", "addCondition", "(JJJ)V"⟩, 11), (⟨"VoussoirYard$ThrustSearch", "addGrip", "(LVoussoirYard$Joint;II)V"⟩, 11), (⟨"VoussoirYard$ThrustSearch", "takeOutV", "()V"⟩, 11), (⟨"VoussoirYard$ThrustSearch", "boundH", "(JJ)V"⟩, 11), (⟨"VoussoirYard$ThrustSearch", "pairWithBoundsFromAbove", "(I)V"⟩, 11)]
theorem lw_r1 : ∀ q ∈ lw_privs_1, lw_okq q := List.forall_mem_cons.mpr ⟨lw_p0, List.forall_mem_cons.mpr ⟨lw_p1, List.forall_mem_cons.mpr ⟨lw_p2, List.forall_mem_cons.mpr ⟨lw_p3, List.forall_mem_cons.mpr ⟨lw_p4, List.forall_mem_cons.mpr ⟨lw_p5, List.forall_mem_cons.mpr ⟨lw_p6, List.forall_mem_cons.mpr ⟨lw_p7, List.forall_mem_cons.mpr ⟨lw_p8, List.forall_mem_cons.mpr ⟨lw_p9, List.forall_mem_cons.mpr ⟨lw_p10, List.forall_mem_cons.mpr ⟨lw_p11, List.forall_mem_cons.mpr ⟨lw_p12, List.forall_mem_cons.mpr ⟨lw_p13, List.forall_mem_cons.mpr ⟨lw_p14, List.forall_mem_cons.mpr ⟨lw_p15, fun _ h => absurd h List.not_mem_nil⟩⟩⟩⟩⟩⟩⟩⟩⟩⟩⟩⟩⟩⟩⟩⟩
theorem lw_p16 : lw_okq (⟨"java/lang/Throwable", "fillInStackTrace", "(I)Ljava/lang/Throwable;"⟩, 6) := ⟨⟨by decide +kernel, by decide +kernel⟩, List.mem_of_getElem? (i := 432) (by decide +kernel), List.mem_of_getElem? (i := 430) (by decide +kernel), List.mem_of_getElem? (i := 431) (by decide +kernel)⟩
theorem lw_p17 : lw_okq (⟨"VoussoirYard$Drawing", "wouldTurnLeft", "(LVoussoirYard$Joint;LVoussoirYard$Joint;)Z"⟩, 6) := ⟨⟨by decide +kernel, by decide +kernel⟩, List.mem_of_getElem? (i := 49) (by decide +kernel), List.mem_of_getElem? (i := 478) (by decide +kernel), List.mem_of_getElem? (i := 479) (by decide +kernel)⟩
theorem lw_p18 : lw_okq (⟨"VoussoirYard", "isFilled", "(I)Z"⟩, 16) := ⟨⟨by decide +kernel, by decide +kernel⟩, List.mem_of_getElem? (i := 41) (by decide +kernel), List.mem_of_getElem? (i := 572) (by decide +kernel), List.mem_of_getElem? (i := 573) (by decide +kernel)⟩
theorem lw_p19 : lw_okq (⟨"VoussoirYard", "wouldBear", "(III)Z"⟩, 16) := ⟨⟨by decide +kernel, by decide +kernel⟩, List.mem_of_getElem? (i := 41) (by decide +kernel), List.mem_of_getElem? (i := 658) (by decide +kernel), List.mem_of_getElem? (i := 659) (by decide +kernel)⟩
theorem lw_p20 : lw_okq (⟨"VoussoirYard", "kindAt", "(I)LVoussoirYard$BlockKind;"⟩, 16) := ⟨⟨by decide +kernel, by decide +kernel⟩, List.mem_of_getElem? (i := 41) (by decide +kernel), List.mem_of_getElem? (i := 707) (by decide +kernel), List.mem_of_getElem? (i := 708) (by decide +kernel)⟩
theorem lw_p21 : lw_okq (⟨"VoussoirYard", "masonAt", "(I)LVoussoirYard$Mason;"⟩, 16) := ⟨⟨by decide +kernel, by decide +kernel⟩, List.mem_of_getElem? (i := 41) (by decide +kernel), List.mem_of_getElem? (i := 777) (by decide +kernel), List.mem_of_getElem? (i := 778) (by decide +kernel)⟩
theorem lw_p22 : lw_okq (⟨"VoussoirYard", "canBeFilled", "(I)Z"⟩, 16) := ⟨⟨by decide +kernel, by decide +kernel⟩, List.mem_of_getElem? (i := 41) (by decide +kernel), List.mem_of_getElem? (i := 1163) (by decide +kernel), List.mem_of_getElem? (i := 1164) (by decide +kernel)⟩
theorem lw_p23 : lw_okq (⟨"VoussoirYard", "centreWouldBear", "(I)Z"⟩, 16) := ⟨⟨by decide +kernel, by decide +kernel⟩, List.mem_of_getElem? (i := 41) (by decide +kernel), List.mem_of_getElem? (i := 1167) (by decide +kernel), List.mem_of_getElem? (i := 1168) (by decide +kernel)⟩
theorem lw_p24 : lw_okq (⟨"VoussoirYard", "fall", "()V"⟩, 16) := ⟨⟨by decide +kernel, by decide +kernel⟩, List.mem_of_getElem? (i := 41) (by decide +kernel), List.mem_of_getElem? (i := 1198) (by decide +kernel), List.mem_of_getElem? (i := 1199) (by decide +kernel)⟩
theorem lw_p25 : lw_okq (⟨"VoussoirYardModel", "no", "(ZI)Z"⟩, 17) := ⟨⟨by decide +kernel, by decide +kernel⟩, List.mem_of_getElem? (i := 1242) (by decide +kernel), List.mem_of_getElem? (i := 1387) (by decide +kernel), List.mem_of_getElem? (i := 1388) (by decide +kernel)⟩
theorem lw_p26 : lw_okq (⟨"VoussoirYardModel", "standing", "()I"⟩, 17) := ⟨⟨by decide +kernel, by decide +kernel⟩, List.mem_of_getElem? (i := 1242) (by decide +kernel), List.mem_of_getElem? (i := 1391) (by decide +kernel), List.mem_of_getElem? (i := 1392) (by decide +kernel)⟩
theorem lw_p27 : lw_okq (⟨"java/util/ArrayList", "add", "(Ljava/lang/Object;[Ljava/lang/Object;I)V"⟩, 3) := ⟨⟨by decide +kernel, by decide +kernel⟩, List.mem_of_getElem? (i := 1248) (by decide +kernel), List.mem_of_getElem? (i := 1404) (by decide +kernel), List.mem_of_getElem? (i := 1405) (by decide +kernel)⟩
theorem lw_p28 : lw_okq (⟨"java/util/ArrayList", "grow", "()[Ljava/lang/Object;"⟩, 3) := ⟨⟨by decide +kernel, by decide +kernel⟩, List.mem_of_getElem? (i := 1248) (by decide +kernel), List.mem_of_getElem? (i := 1408) (by decide +kernel), List.mem_of_getElem? (i := 1409) (by decide +kernel)⟩
theorem lw_p29 : lw_okq (⟨"java/util/ArrayList", "grow", "(I)[Ljava/lang/Object;"⟩, 3) := ⟨⟨by decide +kernel, by decide +kernel⟩, List.mem_of_getElem? (i := 1248) (by decide +kernel), List.mem_of_getElem? (i := 1412) (by decide +kernel), List.mem_of_getElem? (i := 1413) (by decide +kernel)⟩
theorem lw_p30 : lw_okq (⟨"VoussoirYardModel", "many", "()I"⟩, 17) := ⟨⟨by decide +kernel, by decide +kernel⟩, List.mem_of_getElem? (i := 1242) (by decide +kernel), List.mem_of_getElem? (i := 1477) (by decide +kernel), List.mem_of_getElem? (i := 1478) (by decide +kernel)⟩
theorem lw_p31 : lw_okq (⟨"VoussoirYardModel", "noPlace", "(I)Z"⟩, 17) := ⟨⟨by decide +kernel, by decide +kernel⟩, List.mem_of_getElem? (i := 1242) (by decide +kernel), List.mem_of_getElem? (i := 1486) (by decide +kernel), List.mem_of_getElem? (i := 1487) (by decide +kernel)⟩
def lw_privs_2 : List (MethodName × Nat) := [(⟨"java/lang/Throwable", "fillInStackTrace", "(I)Ljava/lang/Throwable;"⟩, 6), (⟨"VoussoirYard$Drawing", "wouldTurnLeft", "(LVoussoirYard$Joint;LVoussoirYard$Joint;)Z"⟩, 6), (⟨"VoussoirYard", "isFilled", "(I)Z"⟩, 16), (⟨"VoussoirYard", "wouldBear", "(III)Z"⟩, 16), (⟨"VoussoirYard", "kindAt", "(I)LVoussoirYard$BlockKind;"⟩, 16), (⟨"VoussoirYard", "masonAt", "(I)LVoussoirYard$Mason;"⟩, 16), (⟨"VoussoirYard", "canBeFilled", "(I)Z"⟩, 16), (⟨"VoussoirYard", "centreWouldBear", "(I)Z"⟩, 16), (⟨"VoussoirYard", "fall", "()V"⟩, 16), (⟨"VoussoirYardModel", "no", "(ZI)Z"⟩, 17), (⟨"VoussoirYardModel", "standing", "()I"⟩, 17), (⟨"java/util/ArrayList", "add", "(Ljava/lang/Object;[Ljava/lang/Object;I)V"⟩, 3), (⟨"java/util/ArrayList", "grow", "()[Ljava/lang/Object;"⟩, 3), (⟨"java/util/ArrayList", "grow", "(I)[Ljava/lang/Object;"⟩, 3), (⟨"VoussoirYardModel", "many", "()I"⟩, 17), (⟨"VoussoirYardModel", "noPlace", "(I)Z"⟩, 17)]
theorem lw_r2 : ∀ q ∈ lw_privs_2, lw_okq q := List.forall_mem_cons.mpr ⟨lw_p16, List.forall_mem_cons.mpr ⟨lw_p17, List.forall_mem_cons.mpr ⟨lw_p18, List.forall_mem_cons.mpr ⟨lw_p19, List.forall_mem_cons.mpr ⟨lw_p20, List.forall_mem_cons.mpr ⟨lw_p21, List.forall_mem_cons.mpr ⟨lw_p22, List.forall_mem_cons.mpr ⟨lw_p23, List.forall_mem_cons.mpr ⟨lw_p24, List.forall_mem_cons.mpr ⟨lw_p25, List.forall_mem_cons.mpr ⟨lw_p26, List.forall_mem_cons.mpr ⟨lw_p27, List.forall_mem_cons.mpr ⟨lw_p28, List.forall_mem_cons.mpr ⟨lw_p29, List.forall_mem_cons.mpr ⟨lw_p30, List.forall_mem_cons.mpr ⟨lw_p31, fun _ h => absurd h List.not_mem_nil⟩⟩⟩⟩⟩⟩⟩⟩⟩⟩⟩⟩⟩⟩⟩⟩
theorem lw_p32 : lw_okq (⟨"VoussoirYardModel", "isPlace", "(I)Z"⟩, 17) := ⟨⟨by decide +kernel, by decide +kernel⟩, List.mem_of_getElem? (i := 1242) (by decide +kernel), List.mem_of_getElem? (i := 1490) (by decide +kernel), List.mem_of_getElem? (i := 1491) (by decide +kernel)⟩
theorem lw_p33 : lw_okq (⟨"VoussoirYardModel", "areaOf", "(I)I"⟩, 17) := ⟨⟨by decide +kernel, by decide +kernel⟩, List.mem_of_getElem? (i := 1242) (by decide +kernel), List.mem_of_getElem? (i := 1494) (by decide +kernel), List.mem_of_getElem? (i := 1495) (by decide +kernel)⟩
theorem lw_p34 : lw_okq (⟨"VoussoirYardModel", "shapeOf", "(I)[I"⟩, 17) := ⟨⟨by decide +kernel, by decide +kernel⟩, List.mem_of_getElem? (i := 1242) (by decide +kernel), List.mem_of_getElem? (i := 1498) (by decide +kernel), List.mem_of_getElem? (i := 1499) (by decide +kernel)⟩
theorem lw_p35 : lw_okq (⟨"VoussoirYardModel", "weightOf", "(I)I"⟩, 17) := ⟨⟨by decide +kernel, by decide +kernel⟩, List.mem_of_getElem? (i := 1242) (by decide +kernel), List.mem_of_getElem? (i := 1506) (by decide +kernel), List.mem_of_getElem? (i := 1507) (by decide +kernel)⟩
theorem lw_p36 : lw_okq (⟨"VoussoirYardModel", "isGrip", "(I)Z"⟩, 17) := ⟨⟨by decide +kernel, by decide +kernel⟩, List.mem_of_getElem? (i := 1242) (by decide +kernel), List.mem_of_getElem? (i := 1514) (by decide +kernel), List.mem_of_getElem? (i := 1515) (by decide +kernel)⟩
theorem lw_p37 : lw_okq (⟨"VoussoirYardModel", "least", "(I)[J"⟩, 17) := ⟨⟨by decide +kernel, by decide +kernel⟩, List.mem_of_getElem? (i := 1242) (by decide +kernel), List.mem_of_getElem? (i := 1519) (by decide +kernel), List.mem_of_getElem? (i := 1520) (by decide +kernel)⟩
theorem lw_p38 : lw_okq (⟨"VoussoirYardModel", "conditions", "(I)Ljava/util/List;"⟩, 17) := ⟨⟨by decide +kernel, by decide +kernel⟩, List.mem_of_getElem? (i := 1242) (by decide +kernel), List.mem_of_getElem? (i := 1523) (by decide +kernel), List.mem_of_getElem? (i := 1524) (by decide +kernel)⟩
theorem lw_p39 : lw_okq (⟨"VoussoirYardModel", "momentOf", "(I)J"⟩, 17) := ⟨⟨by decide +kernel, by decide +kernel⟩, List.mem_of_getElem? (i := 1242) (by decide +kernel), List.mem_of_getElem? (i := 1528) (by decide +kernel), List.mem_of_getElem? (i := 1529) (by decide +kernel)⟩
theorem lw_p40 : lw_okq (⟨"VoussoirYardModel", "holds", "(III)Z"⟩, 17) := ⟨⟨by decide +kernel, by decide +kernel⟩, List.mem_of_getElem? (i := 1242) (by decide +kernel), List.mem_of_getElem? (i := 1618) (by decide +kernel), List.mem_of_getElem? (i := 1619) (by decide +kernel)⟩
theorem lw_p41 : lw_okq (⟨"VoussoirYardModel", "gripOf", "()I"⟩, 17) := ⟨⟨by decide +kernel, by decide +kernel⟩, List.mem_of_getElem? (i := 1242) (by decide +kernel), List.mem_of_getElem? (i := 1626) (by decide +kernel), List.mem_of_getElem? (i := 1627) (by decide +kernel)⟩
theorem lw_p42 : lw_okq (⟨"VoussoirYardModel", "canCut", "(ILVoussoirYardModel$Blocks;)Z"⟩, 17) := ⟨⟨by decide +kernel, by decide +kernel⟩, List.mem_of_getElem? (i := 1242) (by decide +kernel), List.mem_of_getElem? (i := 1675) (by decide +kernel), List.mem_of_getElem? (i := 1676) (by decide +kernel)⟩
theorem lw_p43 : lw_okq (⟨"VoussoirYardModel", "noStone", "(I)Z"⟩, 17) := ⟨⟨by decide +kernel, by decide +kernel⟩, List.mem_of_getElem? (i := 1242) (by decide +kernel), List.mem_of_getElem? (i := 1750) (by decide +kernel), List.mem_of_getElem? (i := 1751) (by decide +kernel)⟩
theorem lw_p44 : lw_okq (⟨"VoussoirYardModel", "isStone", "(I)Z"⟩, 17) := ⟨⟨by decide +kernel, by decide +kernel⟩, List.mem_of_getElem? (i := 1242) (by decide +kernel), List.mem_of_getElem? (i := 1754) (by decide +kernel), List.mem_of_getElem? (i := 1755) (by decide +kernel)⟩
theorem lw_p45 : lw_okq (⟨"VoussoirYardModel", "stateIn", "(I)C"⟩, 17) := ⟨⟨by decide +kernel, by decide +kernel⟩, List.mem_of_getElem? (i := 1242) (by decide +kernel), List.mem_of_getElem? (i := 1762) (by decide +kernel), List.mem_of_getElem? (i := 1763) (by decide +kernel)⟩
theorem lw_p46 : lw_okq (⟨"VoussoirYardModel", "isFitting", "(II)Z"⟩, 17) := ⟨⟨by decide +kernel, by decide +kernel⟩, List.mem_of_getElem? (i := 1242) (by decide +kernel), List.mem_of_getElem? (i := 1780) (by decide +kernel), List.mem_of_getElem? (i := 1781) (by decide +kernel)⟩
theorem lw_p47 : lw_okq (⟨"VoussoirYardModel", "refuse", "(I)I"⟩, 17) := ⟨⟨by decide +kernel, by decide +kernel⟩, List.mem_of_getElem? (i := 1242) (by decide +kernel), List.mem_of_getElem? (i := 1814) (by decide +kernel), List.mem_of_getElem? (i := 1815) (by decide +kernel)⟩
def lw_privs_3 : List (MethodName × Nat) := [(⟨"VoussoirYardModel", "isPlace", "(I)Z"⟩, 17), (⟨"VoussoirYardModel", "areaOf", "(I)I"⟩, 17), (⟨"VoussoirYardModel", "shapeOf", "(I)[I"⟩, 17), (⟨"VoussoirYardModel", "weightOf", "(I)I"⟩, 17), (⟨"VoussoirYardModel", "isGrip", "(I)Z"⟩, 17), (⟨"VoussoirYardModel", "least", "(I)[J"⟩, 17), (⟨"VoussoirYardModel", "conditions", "(I)Ljava/util/List;"⟩, 17), (⟨"VoussoirYardModel", "momentOf", "(I)J"⟩, 17), (⟨"VoussoirYardModel", "holds", "(III)Z"⟩, 17), (⟨"VoussoirYardModel", "gripOf", "()I"⟩, 17), (⟨"VoussoirYardModel", "canCut", "(ILVoussoirYardModel$Blocks;)Z"⟩, 17), (⟨"VoussoirYardModel", "noStone", "(I)Z"⟩, 17), (⟨"VoussoirYardModel", "isStone", "(I)Z"⟩, 17), (⟨"VoussoirYardModel", "stateIn", "(I)C"⟩, 17), (⟨"VoussoirYardModel", "isFitting", "(II)Z"⟩, 17), (⟨"VoussoirYardModel", "refuse", "(I)I"⟩, 17)]
theorem lw_r3 : ∀ q ∈ lw_privs_3, lw_okq q := List.forall_mem_cons.mpr ⟨lw_p32, List.forall_mem_cons.mpr ⟨lw_p33, List.forall_mem_cons.mpr ⟨lw_p34, List.forall_mem_cons.mpr ⟨lw_p35, List.forall_mem_cons.mpr ⟨lw_p36, List.forall_mem_cons.mpr ⟨lw_p37, List.forall_mem_cons.mpr ⟨lw_p38, List.forall_mem_cons.mpr ⟨lw_p39, List.forall_mem_cons.mpr ⟨lw_p40, List.forall_mem_cons.mpr ⟨lw_p41, List.forall_mem_cons.mpr ⟨lw_p42, List.forall_mem_cons.mpr ⟨lw_p43, List.forall_mem_cons.mpr ⟨lw_p44, List.forall_mem_cons.mpr ⟨lw_p45, List.forall_mem_cons.mpr ⟨lw_p46, List.forall_mem_cons.mpr ⟨lw_p47, fun _ h => absurd h List.not_mem_nil⟩⟩⟩⟩⟩⟩⟩⟩⟩⟩⟩⟩⟩⟩⟩⟩
def lw_privs : List (MethodName × Nat) := lw_privs_1 ++ (lw_privs_2 ++ (lw_privs_3))
def lw_tbl : List Cond := k2_sels lw_privs ++ tables_1
theorem lw_privs_ok : ∀ q ∈ lw_privs, lw_okq q := by
  show ∀ q ∈ lw_privs_1 ++ (lw_privs_2 ++ (lw_privs_3)), lw_okq q
  exact List.forall_mem_append.mpr ⟨lw_r1, List.forall_mem_append.mpr ⟨lw_r2, lw_r3⟩⟩
/-- the streams that the claim lets the run draw from -/
abbrev lw_cs : List Choice := [Jvm.Choice.named "NaN.bits"]
theorem lw_bits : nanBits ∈ lw_cs := by first | decide | exact List.mem_cons_self | simp [lw_cs, nanBits]
end
section
/-! ===== BEGIN words of one list among another's, by their places ===== -/
theorem goodIn_r {big : List Cond} (ws : List Cond) (ps : List Nat) (hp : ws = ps.filterMap (fun i => big[i]?)) (h : ws.all goodWord = true) : GoodIn big ws := by
  intro w hw
  have h1 := List.all_eq_true.mp h w hw
  rw [hp] at hw
  obtain ⟨i, -, hi⟩ := List.mem_filterMap.mp hw
  have hm : w ∈ big := by first | exact List.mem_of_getElem? hi | exact List.getElem?_mem hi
  exact ⟨hm, good_of_word h1⟩
theorem goodIn_app {big a b : List Cond} (ha : GoodIn big a) (hb : GoodIn big b) : GoodIn big (a ++ b) := fun w h => (List.mem_append.mp h).elim (ha w) (hb w)
theorem goodIn_ca {big a b : List Cond} {c : Cond} (ha : GoodIn big (c :: a)) (hb : GoodIn big b) : GoodIn big (c :: (a ++ b)) := fun w h => (List.mem_cons.mp h).elim (fun e => ha w (List.mem_cons.mpr (Or.inl e))) (fun h => (List.mem_append.mp h).elim (fun h => ha w (List.mem_cons.mpr (Or.inr h))) (hb w))
theorem goodIn_sub {big ws : List Cond} (hm : ∀ w ∈ ws, w ∈ big) (h : ws.all goodWord = true) : GoodIn big ws := fun w hw => ⟨hm w hw, good_of_word (List.all_eq_true.mp h w hw)⟩
/-! ===== END ===== -/

/-! ===== BEGIN exceptions that leave a method, and their catching by the caller (launches without stack traces) ===== -/
section VXA
/-! The laws vx_back, vx_callV, vx_callS, vx_callSW, vx_throw0, vx_throwS follow proofs of the library, with one case more: JvmDerived/Free/Laws.lean (Back.of_free), Shelf42/LK1.lean (callV, callS), Shelf/KitTraced.lean (throwNew0V, throwNewS). -/
/-- where a method has thrown q: the class by its name, the cell, what was written, the world -/
def vx_T (XC : String → State → State → Prop) (st : State) (q : Addr) (t : State) (mc ms : Nat) (free : Addr → Prop) : Prop :=
  ∃ (E : String) (ce : Cell) (L : List Loc), XC E st t ∧ t.heap[q]? = some ce ∧ ce.vm = .none ∧ st.vm.findClass E = some ce.cls ∧ st.WarmedH t.vm ∧ st.sameButNew ({ t with vm := st.vm } : State) L mc ms ∧ ∀ z ∈ L, free z.base
def vx_Q (Qc : Array Value → State → Outcome → State → Prop) (XC : String → State → State → Prop) (mc ms : Nat) (free : Addr → Prop) : Array Value → State → Outcome → State → Prop := fun a st o t =>
  (Qc a st o t ∧ ∃ L, FrameEnd st o t L mc ms ∧ ∀ q ∈ L, free q.base) ∨ ∃ q, o = .threw q ∧ vx_T XC st q t mc ms free
/-- a callee that returns or throws -/
def vx_Met (l : Launch) (y : MethodName) (ws : List Cond) (rm : Room) (Pc : Array Value → State → Prop) (Qc : Array Value → State → Outcome → State → Prop) (XC : String → State → State → Prop) (mc ms : Nat) (free : Addr → Prop) : Prop :=
  MetFree l y (headSpec ws rm) Pc (fun _ _ _ _ _ => True) (vx_Q Qc XC mc ms free)
def vx_Post (XC : String → State → State → Prop) (mc ms : Nat) (free : Addr → Prop) : Pt → Array Value → Addr → Pt → Prop := fun A a q B =>
  ∃ (g : JFrame) (mk : MethodId) (t : State) (L : List Loc) (E : String) (ce : Cell), B.U.heap = t.heap ∧ B.U.vm = t.vm ∧ XC E (A.U.calling g mk a) t ∧ t.heap[q]? = some ce ∧ ce.vm = .none ∧ A.U.vm.findClass E = some ce.cls ∧ B.locs = A.locs ++ L ∧ (∀ z ∈ L, free z.base) ∧ B.cells = A.cells + mc ∧ B.slots = A.slots + ms
def vx_Back (l : Launch) (R : Room) (p : Program) (e : Env) (below : List Frame) (s : State) (sargs : Array Value) (y : MethodName) (len W9 : Nat)
    (Pre : Pt → Array Value → Prop) (Post : Pt → Array Value → Option Value → Pt → Prop) (PostX : Pt → Array Value → Addr → Pt → Prop) : Prop :=
  ∀ (m : MethodId) (meth : Method) (c : Code) (A : Pt) (g : JFrame) (ig : Instr) (mk : MethodId) (a : Array Value),
    Stand p l e R s m sargs below meth c A.U A.locs A.cells A.slots → g.method = m → g.locals.size = c.maxLocals → decode c.code g.pc = .ok (ig, len) →
    2 * g.monitorRoom + (g.stack.map fun v => v.category).sum ≤ W9 → A.U.methodNamed? y = some mk → Pre A a →
    (∃ (v : Option Value) (B : Pt), Stand p l e R s m sargs below meth c B.U B.locs B.cells B.slots ∧ Post A a v B ∧
      Steps p.tables e below (doInvoke e (A.U.setTop g) [] mk a).1 (B.U.setTop { g with pc := g.pc + len, stack := v.toList ++ g.stack })) ∨
    (∃ (q : Addr) (B : Pt), Stand p l e R s m sargs below meth c B.U B.locs B.cells B.slots ∧ PostX A a q B ∧
      Steps p.tables e below (doInvoke e (A.U.setTop g) [] mk a).1 ((B.U.setTop g).pushFrame (.throwing q)))
section Payer
variable {l : Launch} {R : Room} {p : Program} {e : Env} {below : List Frame} {s : State} {sargs : Array Value} {y : MethodName} {len W9 : Nat}
theorem vx_back {ws : List Cond} {rm : Room} {Pc : Array Value → State → Prop} {Qc : Array Value → State → Outcome → State → Prop} {XC : String → State → State → Prop} {mc ms : Nat} {free : Addr → Prop} {bytes : ByteArray} {maxL : Nat} {ret : Option FieldType}
    (hM : vx_Met l y ws rm Pc Qc XC mc ms free) (hblind : FrameBlind Pc) (hrc : rm.cells = mc) (hrs : rm.slots = ms)
    (hframes : rm.frames + 1 ≤ R.frames) (hlocals : W9 + (maxL + 11) + rm.locals ≤ R.locals)
    (hws : ∀ w ∈ ws, ∀ a' U, s.WarmedH U.vm → w.before a' U = true) (hcode : Cond.code y bytes maxL ret ∈ ws) (hinit : ∀ a' U, s.WarmedH U.vm → (Cond.initialized y.cls).before a' U = true) :
    vx_Back l R p e below s sargs y len W9 (PreOf R mc ms Pc) (PostOf Qc mc ms free) (vx_Post XC mc ms free) := by
  intro m meth c A g ig mk a X hg hsize hdg hW hn hp
  have h1 : (headSpec ws rm).pre.before a A.U = true := atoms_intro fun w hw => hws w hw _ _ X.warmed
  have h2 : (Cond.code y bytes maxL ret).before a A.U = true := hws _ hcode _ _ X.warmed
  have h3 : (Cond.initialized y.cls).before a A.U = true := hinit _ _ X.warmed
  have h4 : A.cells + (headSpec ws rm).room.cells ≤ R.cells := by rw [show (headSpec ws rm).room.cells = mc from hrc]; exact hp.1
  have h5 : A.slots + (headSpec ws rm).room.slots ≤ R.slots := by rw [show (headSpec ws rm).room.slots = ms from hrs]; exact hp.2.1
  have hPc : Pc a (A.U.calling g mk a) := hblind _ _ _ _ hp.2.2
  obtain ⟨U, Ls, c0, s0⟩ := A
  dsimp only [Pt.U, Pt.locs, Pt.cells, Pt.slots] at h1 h2 h3 h4 h5 X hn hPc ⊢
  obtain ⟨methY, cY, hmY, hcY, -, hlY, -, -, -, -⟩ := Cond.code_spec hn h2
  obtain ⟨kY, hkY, -⟩ := className_of_methodNamed hn
  have hinitY : kY.init = .initialized := Cond.initialized_spec (findClass_of_methodNamed hn) hkY h3
  have h : At U g.method c below := by rw [hg]; exact X.here
  have hlocals9 : W9 + (maxL + 11) + (headSpec ws rm).room.locals ≤ R.locals := hlocals
  have happ : (headSpec ws rm).appliesLoose y e.platform (U.calling g mk a) = true :=
    Spec.appliesLoose_calling (g := g) h hdg hn hkY hinitY
      (X.room_calling (g := g) (R' := (headSpec ws rm).room) hsize hmY hcY hframes (by rw [hlY]; omega) h4 h5) h1
  obtain ⟨mid, hmid⟩ := h.above
  have hfr : (U.setTop g).frames = (.java g :: mid) ++ below := by rw [State.frames_setTop' g h.top, hmid]; rfl
  obtain ⟨o, s₂, hsteps, -, hend, hq⟩ := Steps.callFree hM p X.admits X.cas X.clock (acts := []) hfr happ hPc trivial
  have hq' : vx_Q Qc XC mc ms free a (U.calling g mk a) o s₂ := hq
  rw [State.frames_setTop' g h.top] at hend
  obtain ⟨g₀, hg0⟩ := Option.isSome_iff_exists.mp h.top
  obtain ⟨r, hr⟩ := State.topJava?_eq_some.mp hg0
  have hr' : (({ U with heap := s₂.heap, slotsUsed := s₂.slotsUsed } : State).setVm s₂.vm).frames = .java g₀ :: r := hr
  rcases hq' with ⟨hqc, L, hfe, hL⟩ | ⟨q, rfl, E, ce, L, hx, hce, hcv, hcl, hW₂, hsm, hL⟩
  · obtain ⟨⟨v, rfl⟩, hW₂, e2, q2, q3, q4, q5, q6⟩ := id hfe
    have e3 : s₂ = ({ (U.calling g mk a).setFrames s₂.frames with heap := s₂.heap, slotsUsed := s₂.slotsUsed } : State).setVm s₂.vm := by
      have : s₂ = ({ s₂ with vm := (U.calling g mk a).vm } : State).setVm s₂.vm := rfl
      rw [e2] at this
      exact this
    obtain ⟨c₂, i₂, len₂, hc₂, hd₂, hf₂⟩ := hend
    have hW' : U.WarmedH s₂.vm := hW₂
    have hcc : c₂ = c := by
      have h1 : s₂.code? g.method = U.code? g.method := by
        rw [State.code?_eq, State.code?_eq, hW'.alike.method?]
      exact Option.some.inj (hc₂.symm.trans (h1.trans h.code))
    subst hcc
    have hlen : len₂ = len := by rw [hdg] at hd₂; cases hd₂; rfl
    subst hlen
    have hs₂ : s₂ = (({ U with heap := s₂.heap, slotsUsed := s₂.slotsUsed } : State).setVm s₂.vm).setTop { g with pc := g.pc + len₂, stack := v.toList ++ g.stack } := by
      refine e3.trans ?_
      rw [hf₂, State.calling_eq h.top, State.setFrames_setFrames, State.setTop_of_frames _ hr', hr]
      rfl
    have hsame : U.sameButNew ({ U with heap := s₂.heap, slotsUsed := s₂.slotsUsed } : State) L mc ms := by
      refine ⟨?_, q2, q3, q4, q5, q6⟩
      obtain ⟨t, ht, -⟩ := State.frames_cons hr
      show ({ U with heap := s₂.heap, slotsUsed := s₂.slotsUsed } : State) = { U.setFrames U.frames with heap := s₂.heap, slotsUsed := s₂.slotsUsed }
      rw [State.setFrames_self ht]
    subst hg
    refine Or.inl ⟨v, ⟨(({ U with heap := s₂.heap, slotsUsed := s₂.slotsUsed } : State).setVm s₂.vm), Ls ++ L, c0 + mc, s0 + ms⟩,
      ⟨X.admits, X.cas, X.clock, X.frames, X.room, X.hears, X.method, X.code, (X.here.setHeapUsed s₂.heap s₂.slotsUsed).setVm hW'.alike, X.tail, State.WarmedH.trans X.warmed hW', X.limits, X.bytes, X.same.trans (hsame.setVm s.vm)⟩,
      ⟨g, mk, s₂, L, rfl, rfl, hqc, rfl, hL, rfl, rfl⟩, ?_⟩
    show Steps p.tables e below _ ((({ U with heap := s₂.heap, slotsUsed := s₂.slotsUsed } : State).setVm s₂.vm).setTop { g with pc := g.pc + len₂, stack := v.toList ++ g.stack })
    rw [← hs₂]
    exact hsteps
  · obtain ⟨e2, q2, q3, q4, q5, q6⟩ := id hsm
    have e3 : s₂ = ({ (U.calling g mk a).setFrames s₂.frames with heap := s₂.heap, slotsUsed := s₂.slotsUsed } : State).setVm s₂.vm := by
      have : s₂ = ({ s₂ with vm := (U.calling g mk a).vm } : State).setVm s₂.vm := rfl
      rw [e2] at this
      exact this
    have hf₂ : s₂.frames = .throwing q :: .java g :: U.frames.tail := hend
    have hW' : U.WarmedH s₂.vm := hW₂
    have hs₂ : s₂ = ((({ U with heap := s₂.heap, slotsUsed := s₂.slotsUsed } : State).setVm s₂.vm).setTop g).pushFrame (.throwing q) := by
      refine e3.trans ?_
      rw [hf₂, State.calling_eq h.top, State.setFrames_setFrames, State.pushFrame, State.frames_setTop _ hr', State.setTop_of_frames _ hr', State.setFrames_setFrames, hr]
      rfl
    have hsame : U.sameButNew ({ U with heap := s₂.heap, slotsUsed := s₂.slotsUsed } : State) L mc ms := by
      refine ⟨?_, q2, q3, q4, q5, q6⟩
      obtain ⟨t, ht, -⟩ := State.frames_cons hr
      show ({ U with heap := s₂.heap, slotsUsed := s₂.slotsUsed } : State) = { U.setFrames U.frames with heap := s₂.heap, slotsUsed := s₂.slotsUsed }
      rw [State.setFrames_self ht]
    subst hg
    refine Or.inr ⟨q, ⟨(({ U with heap := s₂.heap, slotsUsed := s₂.slotsUsed } : State).setVm s₂.vm), Ls ++ L, c0 + mc, s0 + ms⟩,
      ⟨X.admits, X.cas, X.clock, X.frames, X.room, X.hears, X.method, X.code, (X.here.setHeapUsed s₂.heap s₂.slotsUsed).setVm hW'.alike, X.tail, State.WarmedH.trans X.warmed hW', X.limits, X.bytes, X.same.trans (hsame.setVm s.vm)⟩,
      ⟨g, mk, s₂, L, E, ce, rfl, rfl, hx, hce, hcv, hcl, rfl, hL, rfl, rfl⟩, ?_⟩
    show Steps p.tables e below _ (((({ U with heap := s₂.heap, slotsUsed := s₂.slotsUsed } : State).setVm s₂.vm).setTop g).pushFrame (.throwing q))
    rw [← hs₂]
    exact hsteps
end Payer
section Calls
variable {p : Program} {l : Launch} {e : Env} {R : Room} {s : State} {m : MethodId} {args : Array Value} {below : List Frame} {meth : Method} {c : Code} {T : State} {locs : List Loc} {cells slots : Nat}
theorem vx_callV (X : Stand p l e R s m args below meth c T locs cells slots) (hexec : p.tables.exec = Jvm.exec) {own C : String} {index : Nat} {y : MethodName} {bytes : ByteArray} {maxL : Nat} {ret : Option FieldType}
    (hown : s.vm.findClass own = some m.cls) (hlink : (Cond.methodLink own index y).before args s = true) (hinst : (Cond.instanceMethod y).before args s = true) (hsel : (Cond.selects C y y).before args s = true)
    (hcode : (Cond.code y bytes maxL ret).before args s = true) (hy : y.cls ≠ "java/lang/invoke/MethodHandle" ∧ y.cls ≠ "java/lang/invoke/VarHandle")
    {W9 : Nat} {Pre : Pt → Array Value → Prop} {Post : Pt → Array Value → Option Value → Pt → Prop} {PostX : Pt → Array Value → Addr → Pt → Prop} (hK : vx_Back l R p e below s args y 3 W9 Pre Post PostX)
    {b : Addr} {cellB : Cell} (hcell : T.heap[b]? = some cellB) (hobj : cellB.vm.isStatics = false) (hcls : s.vm.findClass C = some cellB.cls)
    {g : JFrame} (hg : g.method = m) (hsize : g.locals.size = c.maxLocals) {argsL rest : List Value} (hlen : ∀ sig, parseMethodDescriptor y.desc = some sig → argsL.length = sig.parameters.length)
    (hstack : g.stack = argsL.reverse ++ .ref b :: rest) (hW : 2 * g.monitorRoom + (rest.map fun v => v.category).sum ≤ W9) (hdg : decode c.code g.pc = .ok (.invokevirtual index, 3))
    (hpre : ∀ vm₁, s.WarmedH vm₁ → Pre ⟨T.setVm vm₁, locs, cells, slots⟩ (Value.ref b :: argsL).toArray) :
    (∃ (v : Option Value) (vm₁ : Vm) (B : Pt), s.WarmedH vm₁ ∧ Stand p l e R s m args below meth c B.U B.locs B.cells B.slots ∧ Post ⟨T.setVm vm₁, locs, cells, slots⟩ (Value.ref b :: argsL).toArray v B ∧
      ∀ target, Steps p.tables e below (B.U.setTop { g with pc := g.pc + 3, stack := v.toList ++ rest }) target → Steps p.tables e below (T.setTop g) target) ∨
    (∃ (q : Addr) (vm₁ : Vm) (B : Pt), s.WarmedH vm₁ ∧ Stand p l e R s m args below meth c B.U B.locs B.cells B.slots ∧ PostX ⟨T.setVm vm₁, locs, cells, slots⟩ (Value.ref b :: argsL).toArray q B ∧
      Steps p.tables e below (T.setTop g) ((B.U.setTop { g with stack := rest }).pushFrame (.throwing q))) := by
  obtain ⟨mk, methM, hnamed, hmethM, hstM, habM⟩ := Cond.instanceMethod_spec hinst
  obtain ⟨methM', cM, hmethM', -, -, -, -, -, -, hsigM⟩ := Cond.code_spec hnamed hcode
  cases hmethM.symm.trans hmethM'
  obtain ⟨c2, r2, m2, q1, q2, q3, q4, kP, hkP, hkPi⟩ := Cond.selects_spec hsel
  cases hcls.symm.trans q1
  cases (State.methodFound?_of_named hnamed hy).symm.trans q2
  cases hnamed.symm.trans q3
  have hselP : selectMethod e.platform s.vm cellB.cls mk = .method mk := by rw [Launch.admits_selectMethod X.admits]; exact q4
  obtain ⟨vm₁, X₁, hstep₁⟩ := X.invokevirtual hexec hown hlink hnamed hmethM hstM hkP hkPi hy (a := b) (cell := cellB) hcell
    (fun z h => by rw [h] at hobj; cases hobj) hselP hmethM habM hkP hkPi (g := g) hg (argsL := argsL) (rest := rest) (hlen _ hsigM) hstack hdg
  rcases hK m meth c ⟨T.setVm vm₁, locs, cells, slots⟩ { g with stack := rest } (.invokevirtual index) mk (Value.ref b :: argsL).toArray X₁ hg hsize hdg hW (X₁.named hnamed) (hpre vm₁ X₁.warmed) with ⟨v, B, X', hpost, hsteps⟩ | ⟨q, B, X', hpost, hsteps⟩
  · exact Or.inl ⟨v, vm₁, B, X₁.warmed, X', hpost, fun target h => hstep₁ _ fun acts => by rw [doInvoke_state]; exact hsteps.trans h⟩
  · exact Or.inr ⟨q, vm₁, B, X₁.warmed, X', hpost, hstep₁ _ fun acts => by rw [doInvoke_state]; exact hsteps⟩
theorem vx_callS (X : Stand p l e R s m args below meth c T locs cells slots) (hexec : p.tables.exec = Jvm.exec) {own : String} {index : Nat} {y : MethodName} {bytes : ByteArray} {maxL : Nat} {ret : Option FieldType}
    (hown : s.vm.findClass own = some m.cls) (hlink : (Cond.methodLink own index y).before args s = true) (hstat : (Cond.static y).before args s = true) (hinit : (Cond.initialized y.cls).before args s = true)
    (hcode : (Cond.code y bytes maxL ret).before args s = true) (hy : y.cls ≠ "java/lang/invoke/MethodHandle" ∧ y.cls ≠ "java/lang/invoke/VarHandle")
    {W9 : Nat} {Pre : Pt → Array Value → Prop} {Post : Pt → Array Value → Option Value → Pt → Prop} {PostX : Pt → Array Value → Addr → Pt → Prop} (hK : vx_Back l R p e below s args y 3 W9 Pre Post PostX)
    {g : JFrame} (hg : g.method = m) (hsize : g.locals.size = c.maxLocals) {argsL rest : List Value} (hlen : ∀ sig, parseMethodDescriptor y.desc = some sig → argsL.length = sig.parameters.length)
    (hstack : g.stack = argsL.reverse ++ rest) (hW : 2 * g.monitorRoom + (rest.map fun v => v.category).sum ≤ W9) (hdg : decode c.code g.pc = .ok (.invokestatic index, 3))
    (hpre : ∀ vm₁, s.WarmedH vm₁ → Pre ⟨T.setVm vm₁, locs, cells, slots⟩ argsL.toArray) :
    (∃ (v : Option Value) (vm₁ : Vm) (B : Pt), s.WarmedH vm₁ ∧ Stand p l e R s m args below meth c B.U B.locs B.cells B.slots ∧ Post ⟨T.setVm vm₁, locs, cells, slots⟩ argsL.toArray v B ∧
      ∀ target, Steps p.tables e below (B.U.setTop { g with pc := g.pc + 3, stack := v.toList ++ rest }) target → Steps p.tables e below (T.setTop g) target) ∨
    (∃ (q : Addr) (vm₁ : Vm) (B : Pt), s.WarmedH vm₁ ∧ Stand p l e R s m args below meth c B.U B.locs B.cells B.slots ∧ PostX ⟨T.setVm vm₁, locs, cells, slots⟩ argsL.toArray q B ∧
      Steps p.tables e below (T.setTop g) ((B.U.setTop { g with stack := rest }).pushFrame (.throwing q))) := by
  obtain ⟨mk, hnamed⟩ := Cond.code_named hcode
  obtain ⟨methM, cM, hmethM, -, -, -, -, -, -, hsigM⟩ := Cond.code_spec hnamed hcode
  have hstatic : methM.isStatic = true := Cond.static_spec hnamed hmethM hstat
  obtain ⟨kP, hkP, -⟩ := className_of_methodNamed hnamed
  have hinitP : kP.init = .initialized := Cond.initialized_spec (findClass_of_methodNamed hnamed) hkP hinit
  obtain ⟨vm₁, X₁, hstep₁⟩ := X.invokestatic hexec hown hlink hnamed hmethM hstatic hkP hinitP hy (g := g) hg (argsL := argsL) (rest := rest) (hlen _ hsigM) hstack hdg
  rcases hK m meth c ⟨T.setVm vm₁, locs, cells, slots⟩ { g with stack := rest } (.invokestatic index) mk argsL.toArray X₁ hg hsize hdg hW (X₁.named hnamed) (hpre vm₁ X₁.warmed) with ⟨v, B, X', hpost, hsteps⟩ | ⟨q, B, X', hpost, hsteps⟩
  · exact Or.inl ⟨v, vm₁, B, X₁.warmed, X', hpost, fun target h => hstep₁ _ fun acts => by rw [doInvoke_state]; exact hsteps.trans h⟩
  · exact Or.inr ⟨q, vm₁, B, X₁.warmed, X', hpost, hstep₁ _ fun acts => by rw [doInvoke_state]; exact hsteps⟩
end Calls
theorem vx_cls {s : State} {T : State} {vm₁ : Vm} {E : String} {k : ClassId} (hW : s.WarmedH vm₁) (h : (T.setVm vm₁).vm.findClass E = some k) : s.vm.findClass E = some k := by
  have h1 : vm₁.findClass E = some k := h
  rw [hW.alike.findClass] at h1
  exact h1
/-- the method's frame g, with q thrown over it -/
def vx_W (p : Program) (l : Launch) (e : Env) (R : Room) (s : State) (m : MethodId) (args : Array Value) (below : List Frame) (meth : Method) (c : Code) (H : Heap) (locs : List Loc) (cells slots : Nat) (Q : State → Prop) (g : JFrame) (q : Addr) : Prop :=
  ∀ T : State, T.heap = H → Stand p l e R s m args below meth c T locs cells slots → ∃ t, Steps p.tables e below ((T.setTop g).pushFrame (.throwing q)) t ∧ Q t
def vx_Run (p : Program) (l : Launch) (e : Env) (R : Room) (s : State) (m : MethodId) (args : Array Value) (below : List Frame) (meth : Method) (c : Code) (H : Heap) (locs : List Loc) (cells slots mc ms : Nat) (g : JFrame) (rest : List Value) (Qa : State → Outcome → State → Prop) (XC : String → State → State → Prop) (free : Addr → Prop) : Prop :=
  ∀ T : State, T.heap = H → Stand p l e R s m args below meth c T locs cells slots →
    (∃ (v : Option Value) (st₀ t T' : State) (L : List Loc), st₀.heap = H ∧ Stand p l e R s m args below meth c T' (locs ++ L) (cells + mc) (slots + ms) ∧ (∀ q ∈ L, free q.base) ∧ T'.heap = t.heap ∧ T'.vm = t.vm ∧ Qa st₀ (.returned v) t ∧
      Goes p e below T g T' { g with pc := g.pc + 3, stack := v.toList ++ rest }) ∨
    (∃ (q : Addr) (st₀ t T' : State) (L : List Loc) (E : String) (ce : Cell), st₀.heap = H ∧ Stand p l e R s m args below meth c T' (locs ++ L) (cells + mc) (slots + ms) ∧ (∀ z ∈ L, free z.base) ∧ T'.heap = t.heap ∧ T'.vm = t.vm ∧ XC E st₀ t ∧ t.heap[q]? = some ce ∧ ce.vm = .none ∧ s.vm.findClass E = some ce.cls ∧
      Steps p.tables e below (T.setTop g) ((T'.setTop { g with stack := rest }).pushFrame (.throwing q)))
def vx_X {S : Type} (px : S → Prop) (B : String → S → State → Prop) (A : Nat → Prop) : String → State → State → Prop := fun E st t => ∃ u : S, px u ∧ B E u t ∧ va_F A st t
section Runs
variable {p : Program} {l : Launch} {e : Env} {R : Room} {s : State} {m : MethodId} {args : Array Value} {below : List Frame} {meth : Method} {c : Code} {H : Heap} {locs : List Loc} {cells slots : Nat}
variable {y : MethodName} {bytes cc : ByteArray} {maxL nL mc ms n index : Nat} {ret : Option FieldType} {ws : List Cond} {rm : Room} {Pc : Array Value → State → Prop} {Qc : Array Value → State → Outcome → State → Prop} {XC : String → State → State → Prop} {free : Addr → Prop} {Ts : List Cond} {own C : String} {b : Addr} {As rest : List Value} {g : JFrame}
theorem vx_callBack (cb : CallB R s args own index y bytes maxL ret ws rm mc ms n) (hM : vx_Met l y ws rm Pc Qc XC mc ms free) (hbl : FrameBlind Pc) : vx_Back l R p e below s args y 3 8 (PreOf R mc ms Pc) (PostOf Qc mc ms free) (vx_Post XC mc ms free) := by
  obtain ⟨hrc, hrs, hfr, hlo, hws, hcw, -, hini, -⟩ := cb
  exact vx_back (bytes := bytes) (maxL := maxL) (ret := ret) hM hbl hrc hrs hfr hlo hws hcw (fun a' U hW => word_at hW (Or.inl (by first | rfl | simp [Cond.onTables, Cond.keeps, Cond.steady])) hini)
theorem vx_runV (S : CallFix p m c cc nL s args Ts own) (hM : vx_Met l y ws rm Pc Qc XC mc ms free) (cw : CallW R s args own C index y bytes maxL ret ws rm mc ms n) (hp : PreV s H C b Pc As)
    (hg : g.method = m) (hn : As.length = n) (hsize : g.locals.size = nL) (hstack : g.stack = As.reverse ++ .ref b :: rest) (hW : 2 * g.monitorRoom + (rest.map fun v => v.category).sum ≤ 8) (hdg : decode cc g.pc = .ok (.invokevirtual index, 3)) (hf : cells + mc ≤ R.cells ∧ slots + ms ≤ R.slots) :
    vx_Run p l e R s m args below meth c H locs cells slots mc ms g rest (Qc (Value.ref b :: As).toArray) XC free := by
  have hK : vx_Back l R p e below s args y 3 8 (PreOf R mc ms Pc) (PostOf Qc mc ms free) (vx_Post XC mc ms free) := vx_callBack cw.1 hM hp.1
  obtain ⟨⟨-, -, -, -, -, -, hcode, -, hy, hlen, hl⟩, hin, hse⟩ := cw
  obtain ⟨hx, hb, hml, ho, -⟩ := S
  obtain ⟨-, ⟨cellB, hcB, hoB, hclB⟩, hPc⟩ := hp
  intro T hT X
  rcases vx_callV X hx (C := C) (bytes := bytes) (maxL := maxL) (ret := ret) ho hl hin hse hcode hy hK (by rw [hT]; exact hcB) hoB hclB hg (hsize.trans hml.symm) (argsL := As) (rest := rest) (fun sig h => hn.trans (hlen sig h)) hstack hW (by rw [hb]; exact hdg)
    (fun vm₁ hW₁ => ⟨hf.1, hf.2, hPc (T.setVm vm₁) hT hW₁⟩) with ⟨v, vm₁, ⟨U', l2, c2, s2⟩, hW₁, X', ⟨g', mk, t, L, e1, e2, hq, h1, hL, h2, h3⟩, st⟩ | ⟨q, vm₁, ⟨U', l2, c2, s2⟩, hW₁, X', ⟨g', mk, t, L, E, ce, e1, e2, hq, hce, hcv, hcl, h1, hL, h2, h3⟩, st⟩
  · dsimp only [Pt.U, Pt.locs, Pt.cells, Pt.slots] at X' e1 e2 h1 h2 h3 st
    subst h1; subst h2; subst h3
    exact Or.inl ⟨v, (T.setVm vm₁).calling g' mk (Value.ref b :: As).toArray, t, U', L, hT, X', hL, e1, e2, hq, st⟩
  · dsimp only [Pt.U, Pt.locs, Pt.cells, Pt.slots] at X' e1 e2 h1 h2 h3 st hcl
    subst h1; subst h2; subst h3
    exact Or.inr ⟨q, (T.setVm vm₁).calling g' mk (Value.ref b :: As).toArray, t, U', L, E, ce, hT, X', hL, e1, e2, hq, hce, hcv, vx_cls hW₁ hcl, st⟩
theorem vx_runS (S : CallFix p m c cc nL s args Ts own) (hM : vx_Met l y ws rm Pc Qc XC mc ms free) (cw : CallB R s args own index y bytes maxL ret ws rm mc ms n ∧ (Cond.static y).before args s = true) (hp : PreS s H Pc As)
    (hg : g.method = m) (hn : As.length = n) (hsize : g.locals.size = nL) (hstack : g.stack = As.reverse ++ rest) (hW : 2 * g.monitorRoom + (rest.map fun v => v.category).sum ≤ 8) (hdg : decode cc g.pc = .ok (.invokestatic index, 3)) (hf : cells + mc ≤ R.cells ∧ slots + ms ≤ R.slots) :
    vx_Run p l e R s m args below meth c H locs cells slots mc ms g rest (Qc As.toArray) XC free := by
  have hK : vx_Back l R p e below s args y 3 8 (PreOf R mc ms Pc) (PostOf Qc mc ms free) (vx_Post XC mc ms free) := vx_callBack cw.1 hM hp.1
  obtain ⟨⟨-, -, -, -, -, -, hcode, hini, hy, hlen, hl⟩, hstt⟩ := cw
  obtain ⟨hx, hb, hml, ho, -⟩ := S
  intro T hT X
  rcases vx_callS X hx (bytes := bytes) (maxL := maxL) (ret := ret) ho hl hstt hini hcode hy hK hg (hsize.trans hml.symm) (argsL := As) (rest := rest) (fun sig h => hn.trans (hlen sig h)) hstack hW (by rw [hb]; exact hdg)
    (fun vm₁ hW₁ => ⟨hf.1, hf.2, hp.2 (T.setVm vm₁) hT hW₁⟩) with ⟨v, vm₁, ⟨U', l2, c2, s2⟩, hW₁, X', ⟨g', mk, t, L, e1, e2, hq, h1, hL, h2, h3⟩, st⟩ | ⟨q, vm₁, ⟨U', l2, c2, s2⟩, hW₁, X', ⟨g', mk, t, L, E, ce, e1, e2, hq, hce, hcv, hcl, h1, hL, h2, h3⟩, st⟩
  · dsimp only [Pt.U, Pt.locs, Pt.cells, Pt.slots] at X' e1 e2 h1 h2 h3 st
    subst h1; subst h2; subst h3
    exact Or.inl ⟨v, (T.setVm vm₁).calling g' mk As.toArray, t, U', L, hT, X', hL, e1, e2, hq, st⟩
  · dsimp only [Pt.U, Pt.locs, Pt.cells, Pt.slots] at X' e1 e2 h1 h2 h3 st hcl
    subst h1; subst h2; subst h3
    exact Or.inr ⟨q, (T.setVm vm₁).calling g' mk As.toArray, t, U', L, E, ce, hT, X', hL, e1, e2, hq, hce, hcv, vx_cls hW₁ hcl, st⟩
end Runs
section Rows
variable {p : Program} {l : Launch} {e : Env} {R : Room} {s : State} {m : MethodId} {args : Array Value} {below : List Frame} {meth : Method} {c : Code} {H : Heap} {locs : List Loc} {cells slots : Nat} {Q : State → Prop}
variable {mc ms : Nat} {free : Addr → Prop} {A0 A1 : Nat → Prop} {H0 : Heap} {a : Array Value} {pc : Nat} {ls : Array Slot} {st0 rest : List Value}
theorem vx_keep {st₀ t T' : State} {L : List Loc} (h0 : st₀.heap = H) (e1 : T'.heap = t.heap) (hS : va_S A0 H0 H locs) (hA : ∀ q, q < H.size → A1 q → A0 q) (hf : ∀ q, free q → A0 q) (hL : ∀ q ∈ L, free q.base) (hF : va_F A1 st₀ t) :
    H.size ≤ T'.heap.size ∧ (∀ q : Nat, q < H.size → ¬ A1 q → T'.heap[q]? = H[q]?) ∧ va_S A0 H0 T'.heap (locs ++ L) := by
  obtain ⟨hz, hk⟩ := hF
  rw [h0] at hz hk
  exact ⟨by rw [e1]; exact hz, fun q h1 h2 => by rw [e1]; exact hk q h1 h2,
    ⟨Nat.le_trans hS.1 (by rw [e1]; exact hz), fun q h1 h2 => by rw [e1, hk q (Nat.lt_of_lt_of_le h1 hS.1) (fun z => h2 (hA q (Nat.lt_of_lt_of_le h1 hS.1) z))]; exact hS.2.1 q h1 h2, fun q hq => by
      rcases List.mem_append.mp hq with h | h
      · exact hS.2.2 q h
      · exact hf _ (hL q h)⟩⟩
theorem vx_calli {S SX : Type} {post : Int32 → S → Prop} {px : SX → Prop} {B : S → State → Prop} {BX : String → SX → State → Prop} {AX : Nat → Prop} (hr : vx_Run p l e R s m args below meth c H locs cells slots mc ms (F0 m pc ls st0) rest (va_Qi post B A1 a) (vx_X px BX AX) free) (hS : va_S A0 H0 H locs) (hA : ∀ q, q < H.size → A1 q → A0 q) (hf : ∀ q, free q → A0 q) (hAX : ∀ q, q < H.size → AX q → A0 q)
    (kx : ∀ (E : String) (ce : Cell) (q9 : Addr) (u : SX) (t : State) (H1 : Heap) (locs1 : List Loc), t.heap = H1 → s.vm.Alike t.vm → px u → BX E u t → H.size ≤ H1.size → (∀ q : Nat, q < H.size → ¬ AX q → H1[q]? = H[q]?) → va_S A0 H0 H1 locs1 → H1[q9]? = some ce → ce.vm = .none → s.vm.findClass E = some ce.cls → vx_W p l e R s m args below meth c H1 locs1 (cells + mc) (slots + ms) Q (F0 m pc ls rest) q9)
    (kk : ∀ (r : Int32) (u : S) (t : State) (H1 : Heap) (locs1 : List Loc), t.heap = H1 → s.vm.Alike t.vm → post r u → B u t → H.size ≤ H1.size → (∀ q : Nat, q < H.size → ¬ A1 q → H1[q]? = H[q]?) → va_S A0 H0 H1 locs1 → W p l e R s m args below meth c H1 locs1 (cells + mc) (slots + ms) Q (F0 m (pc + 3) ls (.int r :: rest))) : W p l e R s m args below meth c H locs cells slots Q (F0 m pc ls st0) := by
  intro T hT X
  rcases hr T hT X with ⟨v, st₀, t, T', L, h0, X', hL, e1, e2, ⟨⟨r, u, hv, hp, hb⟩, hF⟩, st⟩ | ⟨q, st₀, t, T', L, E, ce, h0, X', hL, e1, e2, ⟨u, hp, hb, hF⟩, hce, hcv, hcl, st⟩
  · cases hv
    obtain ⟨k1, k2, k3⟩ := vx_keep h0 e1 hS hA hf hL hF
    obtain ⟨t2, a1, b1⟩ := kk r u t T'.heap (locs ++ L) e1.symm (by rw [← e2]; exact X'.warmed.alike) hp hb k1 k2 k3 T' rfl X'
    exact ⟨t2, st t2 a1, b1⟩
  · obtain ⟨k1, k2, k3⟩ := vx_keep h0 e1 hS hAX hf hL hF
    obtain ⟨t2, a1, b1⟩ := kx E ce q u t T'.heap (locs ++ L) e1.symm (by rw [← e2]; exact X'.warmed.alike) hp hb k1 k2 k3 (by rw [e1]; exact hce) hcv hcl T' rfl X'
    exact ⟨t2, st.trans a1, b1⟩
theorem vx_calll {S SX : Type} {post : Int64 → S → Prop} {px : SX → Prop} {B : S → State → Prop} {BX : String → SX → State → Prop} {AX : Nat → Prop} (hr : vx_Run p l e R s m args below meth c H locs cells slots mc ms (F0 m pc ls st0) rest (va_Ql post B A1 a) (vx_X px BX AX) free) (hS : va_S A0 H0 H locs) (hA : ∀ q, q < H.size → A1 q → A0 q) (hf : ∀ q, free q → A0 q) (hAX : ∀ q, q < H.size → AX q → A0 q)
    (kx : ∀ (E : String) (ce : Cell) (q9 : Addr) (u : SX) (t : State) (H1 : Heap) (locs1 : List Loc), t.heap = H1 → s.vm.Alike t.vm → px u → BX E u t → H.size ≤ H1.size → (∀ q : Nat, q < H.size → ¬ AX q → H1[q]? = H[q]?) → va_S A0 H0 H1 locs1 → H1[q9]? = some ce → ce.vm = .none → s.vm.findClass E = some ce.cls → vx_W p l e R s m args below meth c H1 locs1 (cells + mc) (slots + ms) Q (F0 m pc ls rest) q9)
    (kk : ∀ (r : Int64) (u : S) (t : State) (H1 : Heap) (locs1 : List Loc), t.heap = H1 → s.vm.Alike t.vm → post r u → B u t → H.size ≤ H1.size → (∀ q : Nat, q < H.size → ¬ A1 q → H1[q]? = H[q]?) → va_S A0 H0 H1 locs1 → W p l e R s m args below meth c H1 locs1 (cells + mc) (slots + ms) Q (F0 m (pc + 3) ls (.long r :: rest))) : W p l e R s m args below meth c H locs cells slots Q (F0 m pc ls st0) := by
  intro T hT X
  rcases hr T hT X with ⟨v, st₀, t, T', L, h0, X', hL, e1, e2, ⟨⟨r, u, hv, hp, hb⟩, hF⟩, st⟩ | ⟨q, st₀, t, T', L, E, ce, h0, X', hL, e1, e2, ⟨u, hp, hb, hF⟩, hce, hcv, hcl, st⟩
  · cases hv
    obtain ⟨k1, k2, k3⟩ := vx_keep h0 e1 hS hA hf hL hF
    obtain ⟨t2, a1, b1⟩ := kk r u t T'.heap (locs ++ L) e1.symm (by rw [← e2]; exact X'.warmed.alike) hp hb k1 k2 k3 T' rfl X'
    exact ⟨t2, st t2 a1, b1⟩
  · obtain ⟨k1, k2, k3⟩ := vx_keep h0 e1 hS hAX hf hL hF
    obtain ⟨t2, a1, b1⟩ := kx E ce q u t T'.heap (locs ++ L) e1.symm (by rw [← e2]; exact X'.warmed.alike) hp hb k1 k2 k3 (by rw [e1]; exact hce) hcv hcl T' rfl X'
    exact ⟨t2, st.trans a1, b1⟩
theorem vx_callf {S SX : Type} {post : UInt32 → S → Prop} {px : SX → Prop} {B : S → State → Prop} {BX : String → SX → State → Prop} {AX : Nat → Prop} (hr : vx_Run p l e R s m args below meth c H locs cells slots mc ms (F0 m pc ls st0) rest (va_Qf post B A1 a) (vx_X px BX AX) free) (hS : va_S A0 H0 H locs) (hA : ∀ q, q < H.size → A1 q → A0 q) (hf : ∀ q, free q → A0 q) (hAX : ∀ q, q < H.size → AX q → A0 q)
    (kx : ∀ (E : String) (ce : Cell) (q9 : Addr) (u : SX) (t : State) (H1 : Heap) (locs1 : List Loc), t.heap = H1 → s.vm.Alike t.vm → px u → BX E u t → H.size ≤ H1.size → (∀ q : Nat, q < H.size → ¬ AX q → H1[q]? = H[q]?) → va_S A0 H0 H1 locs1 → H1[q9]? = some ce → ce.vm = .none → s.vm.findClass E = some ce.cls → vx_W p l e R s m args below meth c H1 locs1 (cells + mc) (slots + ms) Q (F0 m pc ls rest) q9)
    (kk : ∀ (r : UInt32) (u : S) (t : State) (H1 : Heap) (locs1 : List Loc), t.heap = H1 → s.vm.Alike t.vm → post r u → B u t → H.size ≤ H1.size → (∀ q : Nat, q < H.size → ¬ A1 q → H1[q]? = H[q]?) → va_S A0 H0 H1 locs1 → W p l e R s m args below meth c H1 locs1 (cells + mc) (slots + ms) Q (F0 m (pc + 3) ls (.float r :: rest))) : W p l e R s m args below meth c H locs cells slots Q (F0 m pc ls st0) := by
  intro T hT X
  rcases hr T hT X with ⟨v, st₀, t, T', L, h0, X', hL, e1, e2, ⟨⟨r, u, hv, hp, hb⟩, hF⟩, st⟩ | ⟨q, st₀, t, T', L, E, ce, h0, X', hL, e1, e2, ⟨u, hp, hb, hF⟩, hce, hcv, hcl, st⟩
  · cases hv
    obtain ⟨k1, k2, k3⟩ := vx_keep h0 e1 hS hA hf hL hF
    obtain ⟨t2, a1, b1⟩ := kk r u t T'.heap (locs ++ L) e1.symm (by rw [← e2]; exact X'.warmed.alike) hp hb k1 k2 k3 T' rfl X'
    exact ⟨t2, st t2 a1, b1⟩
  · obtain ⟨k1, k2, k3⟩ := vx_keep h0 e1 hS hAX hf hL hF
    obtain ⟨t2, a1, b1⟩ := kx E ce q u t T'.heap (locs ++ L) e1.symm (by rw [← e2]; exact X'.warmed.alike) hp hb k1 k2 k3 (by rw [e1]; exact hce) hcv hcl T' rfl X'
    exact ⟨t2, st.trans a1, b1⟩
theorem vx_calld {S SX : Type} {post : UInt64 → S → Prop} {px : SX → Prop} {B : S → State → Prop} {BX : String → SX → State → Prop} {AX : Nat → Prop} (hr : vx_Run p l e R s m args below meth c H locs cells slots mc ms (F0 m pc ls st0) rest (va_Qd post B A1 a) (vx_X px BX AX) free) (hS : va_S A0 H0 H locs) (hA : ∀ q, q < H.size → A1 q → A0 q) (hf : ∀ q, free q → A0 q) (hAX : ∀ q, q < H.size → AX q → A0 q)
    (kx : ∀ (E : String) (ce : Cell) (q9 : Addr) (u : SX) (t : State) (H1 : Heap) (locs1 : List Loc), t.heap = H1 → s.vm.Alike t.vm → px u → BX E u t → H.size ≤ H1.size → (∀ q : Nat, q < H.size → ¬ AX q → H1[q]? = H[q]?) → va_S A0 H0 H1 locs1 → H1[q9]? = some ce → ce.vm = .none → s.vm.findClass E = some ce.cls → vx_W p l e R s m args below meth c H1 locs1 (cells + mc) (slots + ms) Q (F0 m pc ls rest) q9)
    (kk : ∀ (r : UInt64) (u : S) (t : State) (H1 : Heap) (locs1 : List Loc), t.heap = H1 → s.vm.Alike t.vm → post r u → B u t → H.size ≤ H1.size → (∀ q : Nat, q < H.size → ¬ A1 q → H1[q]? = H[q]?) → va_S A0 H0 H1 locs1 → W p l e R s m args below meth c H1 locs1 (cells + mc) (slots + ms) Q (F0 m (pc + 3) ls (.double r :: rest))) : W p l e R s m args below meth c H locs cells slots Q (F0 m pc ls st0) := by
  intro T hT X
  rcases hr T hT X with ⟨v, st₀, t, T', L, h0, X', hL, e1, e2, ⟨⟨r, u, hv, hp, hb⟩, hF⟩, st⟩ | ⟨q, st₀, t, T', L, E, ce, h0, X', hL, e1, e2, ⟨u, hp, hb, hF⟩, hce, hcv, hcl, st⟩
  · cases hv
    obtain ⟨k1, k2, k3⟩ := vx_keep h0 e1 hS hA hf hL hF
    obtain ⟨t2, a1, b1⟩ := kk r u t T'.heap (locs ++ L) e1.symm (by rw [← e2]; exact X'.warmed.alike) hp hb k1 k2 k3 T' rfl X'
    exact ⟨t2, st t2 a1, b1⟩
  · obtain ⟨k1, k2, k3⟩ := vx_keep h0 e1 hS hAX hf hL hF
    obtain ⟨t2, a1, b1⟩ := kx E ce q u t T'.heap (locs ++ L) e1.symm (by rw [← e2]; exact X'.warmed.alike) hp hb k1 k2 k3 (by rw [e1]; exact hce) hcv hcl T' rfl X'
    exact ⟨t2, st.trans a1, b1⟩
theorem vx_callv {S SX : Type} {post : S → Prop} {px : SX → Prop} {B : S → State → Prop} {BX : String → SX → State → Prop} {AX : Nat → Prop} (hr : vx_Run p l e R s m args below meth c H locs cells slots mc ms (F0 m pc ls st0) rest (va_Qv post B A1 a) (vx_X px BX AX) free) (hS : va_S A0 H0 H locs) (hA : ∀ q, q < H.size → A1 q → A0 q) (hf : ∀ q, free q → A0 q) (hAX : ∀ q, q < H.size → AX q → A0 q)
    (kx : ∀ (E : String) (ce : Cell) (q9 : Addr) (u : SX) (t : State) (H1 : Heap) (locs1 : List Loc), t.heap = H1 → s.vm.Alike t.vm → px u → BX E u t → H.size ≤ H1.size → (∀ q : Nat, q < H.size → ¬ AX q → H1[q]? = H[q]?) → va_S A0 H0 H1 locs1 → H1[q9]? = some ce → ce.vm = .none → s.vm.findClass E = some ce.cls → vx_W p l e R s m args below meth c H1 locs1 (cells + mc) (slots + ms) Q (F0 m pc ls rest) q9)
    (kk : ∀ (u : S) (t : State) (H1 : Heap) (locs1 : List Loc), t.heap = H1 → s.vm.Alike t.vm → post u → B u t → H.size ≤ H1.size → (∀ q : Nat, q < H.size → ¬ A1 q → H1[q]? = H[q]?) → va_S A0 H0 H1 locs1 → W p l e R s m args below meth c H1 locs1 (cells + mc) (slots + ms) Q (F0 m (pc + 3) ls (rest))) : W p l e R s m args below meth c H locs cells slots Q (F0 m pc ls st0) := by
  intro T hT X
  rcases hr T hT X with ⟨v, st₀, t, T', L, h0, X', hL, e1, e2, ⟨⟨u, hv, hp, hb⟩, hF⟩, st⟩ | ⟨q, st₀, t, T', L, E, ce, h0, X', hL, e1, e2, ⟨u, hp, hb, hF⟩, hce, hcv, hcl, st⟩
  · cases hv
    obtain ⟨k1, k2, k3⟩ := vx_keep h0 e1 hS hA hf hL hF
    obtain ⟨t2, a1, b1⟩ := kk u t T'.heap (locs ++ L) e1.symm (by rw [← e2]; exact X'.warmed.alike) hp hb k1 k2 k3 T' rfl X'
    exact ⟨t2, st t2 a1, b1⟩
  · obtain ⟨k1, k2, k3⟩ := vx_keep h0 e1 hS hAX hf hL hF
    obtain ⟨t2, a1, b1⟩ := kx E ce q u t T'.heap (locs ++ L) e1.symm (by rw [← e2]; exact X'.warmed.alike) hp hb k1 k2 k3 (by rw [e1]; exact hce) hcv hcl T' rfl X'
    exact ⟨t2, st.trans a1, b1⟩
/-- caught by the row x of this method's table; the rows ahead don't take it -/
theorem vx_catch {own name : String} {E : String} {ce : Cell} {q : Addr} (hown : s.vm.findClass own = some m.cls) (pre : List ExceptionTableEntry) (x : ExceptionTableEntry) (suf : List ExceptionTableEntry) (hsplit : c.exceptionTable.toList = pre ++ x :: suf)
    (hpass : ∀ z ∈ pre, covers z pc = false ∨ (z.catchType ≠ 0 ∧ ∃ nm : String, (Cond.classLink own z.catchType nm).before args s = true ∧ va_Nc E nm s)) (hx : covers x pc = true) (h0 : x.catchType ≠ 0)
    (hlink : (Cond.classLink own x.catchType name).before args s = true) (hcast : (Cond.castable E name).before args s = true) (hcell : H[q]? = some ce) (hv : ce.vm = .none) (hcl : s.vm.findClass E = some ce.cls)
    (kk : W p l e R s m args below meth c H locs cells slots Q (F0 m x.handlerPc ls [.ref q])) : vx_W p l e R s m args below meth c H locs cells slots Q (F0 m pc ls rest) q := by
  intro T hT X
  have hpl : e.platform.magicAccessors = ({} : Platform).magicAccessors := by rw [X.admits.platform]
  obtain ⟨c3, c4, hc3, hc4, hasg⟩ := Cond.castable_spec hcast
  cases Option.some.inj (hc3.symm.trans hcl)
  obtain ⟨c5, hc5, hcl5⟩ := Cond.classLink_spec hown hlink e.platform hpl
  cases Option.some.inj (hc4.symm.trans hc5)
  obtain ⟨vm', X', st⟩ := X.thenCaughtThrough q (g := F0 m pc ls rest) rfl (Steps.refl _) (by rw [hT]; exact hcell) (by rw [hv]; rfl) (by obtain ⟨k9, h9, -⟩ := Vm.findClass_spec hcl; exact ⟨k9, h9⟩) pre x suf hsplit
    (fun z hz => by
      rcases hpass z hz with h | ⟨hz0, nm, hl1, hn1⟩
      · exact Or.inl h
      · obtain ⟨c6, hc6, hcl6⟩ := Cond.classLink_spec hown hl1 e.platform hpl
        obtain ⟨a8, b8, h1, h2, h3⟩ := hn1
        cases Option.some.inj (h1.symm.trans hcl)
        cases Option.some.inj (h2.symm.trans hc6)
        exact Or.inr ⟨hz0, _, hcl6, h3⟩) hx (Or.inr ⟨h0, c4, hcl5, hasg⟩)
  obtain ⟨t, a1, b1⟩ := kk (T.setVm vm') hT X'
  exact ⟨t, st.trans a1, b1⟩
end Rows
section Ends
variable {p : Program} {l : Launch} {e : Env} {R : Room} {s : State} {m : MethodId} {args : Array Value} {below : List Frame} {meth : Method} {c : Code} {H : Heap} {locs : List Loc} {cells slots : Nat} {Q : State → Prop}
variable {mc ms : Nat} {free : Addr → Prop} {A0 A1 : Nat → Prop} {H0 : Heap} {a : Array Value} {ls : Array Slot} {st0 rest : List Value}
variable {Qc : Array Value → State → Outcome → State → Prop} {XC : String → State → State → Prop}
/-- what a body that may throw owes at its end -/
def vx_MQ (below : List Frame) (Qc : Array Value → State → Outcome → State → Prop) (XC : String → State → State → Prop) (a : Array Value) (s : State) (mc ms : Nat) (free : Addr → Prop) : State → Prop := fun t =>
  ∃ o, t.status = .running ∧ Ended t below o ∧ vx_Q Qc XC mc ms free a s o t
theorem vx_ret {g : JFrame} {mc ms : Nat} (k : W p l e R s m args below meth c H locs cells slots (MQ below Qc args s mc ms free) g) : W p l e R s m args below meth c H locs cells slots (vx_MQ below Qc XC args s mc ms free) g := by
  intro T hT X
  obtain ⟨t, a1, o, b1, b2, b3, b4⟩ := k T hT X
  exact ⟨t, a1, o, b1, b2, Or.inl ⟨b3, b4⟩⟩
/-- not caught here: it goes on to the caller -/
theorem vx_widen {g : JFrame} {q : Addr} {k n : Nat} (h1 : cells ≤ k) (h2 : slots ≤ n) (kk : vx_W p l e R s m args below meth c H locs k n Q g q) : vx_W p l e R s m args below meth c H locs cells slots Q g q := fun T hT X => kk T hT (stand_widen X h1 h2)
theorem vx_out {pc : Nat} {E : String} {ce : Cell} {q : Addr} {mc ms : Nat} (hout : ∀ x ∈ c.exceptionTable.toList, covers x pc = false) (hlocks : meth.locks = false) (hcell : H[q]? = some ce) (hv : ce.vm = .none) (hcl : s.vm.findClass E = some ce.cls)
    (hx : ∀ t : State, t.heap = H → s.vm.Alike t.vm → XC E s t) (hf : ∀ z ∈ locs, free z.base) (hc : cells ≤ mc) (hs : slots ≤ ms) :
    vx_W p l e R s m args below meth c H locs cells slots (vx_MQ below Qc XC args s mc ms free) (F0 m pc ls rest) q := by
  intro T hT X
  obtain ⟨st1, hrun, hend, hW, hsm⟩ := X.leaveThrown q (g := F0 m pc ls rest) rfl rfl rfl hout hlocks
  have hcell9 : (T.setFrames (.throwing q :: below)).heap[q]? = some ce := by
    show T.heap[q]? = some ce
    rw [hT]; exact hcell
  exact ⟨_, st1, .threw q, hrun, hend, Or.inr ⟨q, rfl, E, ce, locs, hx _ hT hW.alike, hcell9, hv, hcl, hW, hsm.mono hc hs, hf⟩⟩
theorem vx_frame {U : State} {k n : Nat} (h : s.sameButNew ({ U with vm := s.vm } : State) locs k n) : s.heap.size ≤ U.heap.size ∧ ∀ q : Nat, q < s.heap.size → (∀ z ∈ locs, z.base ≠ q) → U.heap[q]? = s.heap[q]? := by
  obtain ⟨-, h2, -, -, -, h6⟩ := h
  refine ⟨h2, fun q hq hz => ?_⟩
  obtain ⟨c9, e1, e2, e3, e4⟩ := h6 q _ (Array.getElem?_eq_getElem hq)
  have hs : c9.slots = (s.heap[q]).slots := Array.ext_getElem? fun i => e4 i fun hm => hz _ hm rfl
  have h9 : c9 = s.heap[q] := by
    rw [hs] at e2
    exact e2
  have e5 : U.heap[q]? = some c9 := e1
  rw [e5, h9, Array.getElem?_eq_getElem hq]
/-- the words of a throw but the four that speak of the heap -/
def vx_no (w : Cond) : Bool := decide (w ≠ .isRef (.static Bundle.tN "UNASSIGNED_STACK" Bundle.steD)) && decide (w ≠ .isRef (.static Bundle.tN "SUPPRESSED_SENTINEL" Bundle.listD)) && decide (w ≠ .laysStatic Bundle.tN "UNASSIGNED_STACK" Bundle.steD) && decide (w ≠ .laysStatic Bundle.tN "SUPPRESSED_SENTINEL" Bundle.listD)
def vx_at0 (own : String) (ic : Nat) (X : String) (names : List String) : List Cond := (Bundle.ownAtoms0 own ic X names).filter vx_no
def vx_atS (own : String) (ic : Nat) (X : String) (names : List String) : List Cond := (Bundle.ownAtoms own ic X names).filter vx_no
/-- a word that the tables alone decide, or a good one -/
def vx_ot (w : Cond) : Bool := w.onTables || goodWord w
theorem vx_ot_at {args a' : Array Value} {s U : State} {w : Cond} (hW : s.WarmedH U.vm) (hvm : s.vm = U.vm) (hg : vx_ot w = true) (h : w.before args s = true) : w.before a' U = true := by
  simp only [vx_ot, Bool.or_eq_true] at hg
  rcases hg with hg | hg
  · exact va_tabs hg hvm h
  · exact word_at hW (good_of_word hg) h
/-- a list's words: the good ones out of the method's own list, the others by premises of their own -/
theorem vx_hat {args : Array Value} {s : State} {L B : List Cond} (h1 : ∀ w ∈ L.filter goodWord, w.before args s = true) (h2 : ∀ w ∈ L.filter (fun w => !goodWord w), w ∈ B) (h3 : ∀ w ∈ B, w.before args s = true) : ∀ w ∈ L, w.before args s = true := by
  intro w hw
  by_cases g : goodWord w = true
  · exact h1 w (List.mem_filter.mpr ⟨hw, g⟩)
  · refine h3 w (h2 w (List.mem_filter.mpr ⟨hw, ?_⟩))
    show (!goodWord w) = true
    cases hgw : goodWord w
    · rfl
    · exact absurd hgw g
theorem vx_c {args : Array Value} {s : State} {w : Cond} {B : List Cond} (h : w.before args s = true) (t : ∀ w ∈ B, w.before args s = true) : ∀ w' ∈ w :: B, w'.before args s = true := fun w' h' => (List.mem_cons.mp h').elim (fun e => by rw [e]; exact h) (t w')
theorem vx_n {args : Array Value} {s : State} : ∀ w ∈ ([] : List Cond), w.before args s = true := fun _ h => nomatch h
theorem vx_own {args : Array Value} {s : State} {L : List Cond} (h1 : ∀ w ∈ L.filter vx_no, w.before args s = true)
    (hU : (Cond.isRef (.static Bundle.tN "UNASSIGNED_STACK" Bundle.steD)).before args s = true) (hN : (Cond.isRef (.static Bundle.tN "SUPPRESSED_SENTINEL" Bundle.listD)).before args s = true)
    (lU : (Cond.laysStatic Bundle.tN "UNASSIGNED_STACK" Bundle.steD).before args s = true) (lN : (Cond.laysStatic Bundle.tN "SUPPRESSED_SENTINEL" Bundle.listD).before args s = true) : ∀ w ∈ L, w.before args s = true := by
  intro w hw
  by_cases e1 : w = .isRef (.static Bundle.tN "UNASSIGNED_STACK" Bundle.steD)
  · rw [e1]; exact hU
  · by_cases e2 : w = .isRef (.static Bundle.tN "SUPPRESSED_SENTINEL" Bundle.listD)
    · rw [e2]; exact hN
    · by_cases e3 : w = .laysStatic Bundle.tN "UNASSIGNED_STACK" Bundle.steD
      · rw [e3]; exact lU
      · by_cases e4 : w = .laysStatic Bundle.tN "SUPPRESSED_SENTINEL" Bundle.listD
        · rw [e4]; exact lN
        · exact h1 w (List.mem_filter.mpr ⟨hw, by unfold vx_no; rw [decide_eq_true e1, decide_eq_true e2, decide_eq_true e3, decide_eq_true e4]; rfl⟩)
/-- where a static field lies, its class's statics cell in H -/
def vx_L (C n d : String) (A : Nat → Prop) (U : State) (H : Heap) : Prop := ∃ (c : ClassId) (k : Class) (i : Nat) (f : Field) (a : Nat) (cell : Cell), U.vm.findClass C = some c ∧ U.fieldFound? C n d = some (c, k, i, f) ∧ f.isStatic = true ∧ k.statics = some a ∧ H[a]? = some cell ∧ cell.vm.isStatics = true ∧ cell.cls = c ∧ f.slot < cell.slots.size ∧ k.staticTypes[f.slot]? = some f.type ∧ ¬ A a
theorem vx_L.moved {C n d : String} {A : Nat → Prop} {u U : State} {H : Heap} (hvm : u.vm.Alike U.vm) (h : vx_L C n d A u H) : vx_L C n d A U H := by
  obtain ⟨c, k, i, f, a, cell, h1, h2, h3, h4, h5, h6, h7, h8, h9, h10⟩ := h
  obtain ⟨k', hi', he⟩ := State.fieldFound?_setVm hvm h2
  exact ⟨c, k', i, f, a, cell, by rw [hvm.findClass]; exact h1, hi', h3, by rw [he]; exact h4, h5, h6, h7, h8, by rw [he]; exact h9, h10⟩
theorem vx_L.kept {C n d : String} {A : Nat → Prop} {U : State} {H H1 : Heap} (h : vx_L C n d A U H) (hq : ∀ a : Nat, a < H.size → ¬ A a → H1[a]? = H[a]?) : vx_L C n d A U H1 := by
  obtain ⟨c, k, i, f, a, cell, h1, h2, h3, h4, h5, h6, h7, h8, h9, h10⟩ := h
  exact ⟨c, k, i, f, a, cell, h1, h2, h3, h4, by rw [hq a (Array.getElem?_eq_some_iff.mp h5).1 h10]; exact h5, h6, h7, h8, h9, h10⟩
theorem vx_L.narrow {C n d : String} {A B : Nat → Prop} {U : State} {H : Heap} (h : vx_L C n d A U H) (hAB : ∀ q, B q → A q) : vx_L C n d B U H := by
  obtain ⟨c, k, i, f, a, cell, h1, h2, h3, h4, h5, h6, h7, h8, h9, h10⟩ := h
  exact ⟨c, k, i, f, a, cell, h1, h2, h3, h4, h5, h6, h7, h8, h9, fun z => h10 (hAB _ z)⟩
theorem vx_L.word {C n d : String} {A : Nat → Prop} {s : State} {args : Array Value} (h : vx_L C n d A s s.heap) : (Cond.laysStatic C n d).before args s = true := by
  obtain ⟨c, k, i, f, a, cell, h1, h2, h3, h4, h5, h6, h7, h8, h9, -⟩ := h
  show (Cond.laysStatic C n d).holds args s none s [] = true
  exact Cond.laysStatic_of h1 h2 h3 h4 h5 h6 h7 h8 h9
/-- .. and what it holds: null or some reference -/
def vx_Zq (C n d : String) (A : Nat → Prop) (U : State) (H : Heap) : Prop := va_Zq C n d A U H ∧ vx_L C n d A U H
theorem vx_Zq.moved {C n d : String} {A : Nat → Prop} {u U : State} {H : Heap} (hvm : u.vm.Alike U.vm) (h : vx_Zq C n d A u H) : vx_Zq C n d A U H := ⟨va_Zq.moved hvm h.1, vx_L.moved hvm h.2⟩
theorem vx_Zq.kept {C n d : String} {A : Nat → Prop} {U : State} {H H1 : Heap} (h : vx_Zq C n d A U H) (hq : ∀ a : Nat, a < H.size → ¬ A a → H1[a]? = H[a]?) : vx_Zq C n d A U H1 := ⟨va_Zq.kept h.1 hq, vx_L.kept h.2 hq⟩
theorem vx_Zq.narrow {C n d : String} {A B : Nat → Prop} {U : State} {H : Heap} (h : vx_Zq C n d A U H) (hAB : ∀ q, B q → A q) : vx_Zq C n d B U H := ⟨va_Zq.narrow h.1 hAB, vx_L.narrow h.2 hAB⟩
theorem vx_Zqof {args : Array Value} {s : State} {C n d : String} {A : Nat → Prop} (hl : (Cond.laysStatic C n d).before args s = true) (hini : (Cond.initialized C).before args s = true) (h : (Cond.isRef (.static C n d)).before args s = true) (hA : ∀ a : Nat, a < s.heap.size → ¬ A a) : vx_Zq C n d A s s.heap := by
  refine ⟨va_Zqof hl hini h hA, ?_⟩
  obtain ⟨c, k, i, f, a, cell, h1, h2, h3, h4, h5, h6, h7, h8, h9⟩ := Cond.laysStatic_spec hl
  exact ⟨c, k, i, f, a, cell, h1, h2, h3, h4, h5, h6, h7, h8, h9, hA a (Array.getElem?_eq_some_iff.mp h5).1⟩
theorem vx_isRef {C n d : String} {v : Value} {A : Nat → Prop} {s : State} {args : Array Value} (h : va_Z C n d v A s s.heap) (hv : v.isRef = true) : (Cond.isRef (.static C n d)).before args s = true := by
  obtain ⟨cf, kf, fi, f, a, cell, h1, h2, h3, h4, h5, h6, h7, -⟩ := h
  have he : (Term.static C n d).eval args s none [] s = some v := by
    simp [Term.eval, State.fieldNamed?, h1, h2, h4, h5, h6, h7]
  simp only [Cond.before, Cond.holds, Cond.value, he]
  cases v <;> simp_all [Value.isRef]
theorem vx_isRefq {C n d : String} {A : Nat → Prop} {s : State} {args : Array Value} (h : va_Zq C n d A s s.heap) : (Cond.isRef (.static C n d)).before args s = true := by
  rcases h with h | ⟨t, h⟩
  · exact vx_isRef h rfl
  · exact vx_isRef h rfl
/-- the same frame, seen from here: as if the method were called anew in this heap -/
theorem vx_rebase {T : State} (X : Stand p l e R s m args below meth c T locs cells slots) {R' : Room} (hf : R'.frames ≤ R.frames) (hl : R'.locals ≤ R.locals) (hc : cells + R'.cells ≤ R.cells) (hs : slots + R'.slots ≤ R.slots) :
    Stand p l e R' ((T.setVm s.vm).setFrames (.invoking m args :: below)) m args below meth c T [] 0 0 := by
  have htop : (T.setVm s.vm).topJava?.isSome := X.here.top
  have hF : ((T.setVm s.vm).setFrames (.invoking m args :: below)).frames = .invoking m args :: below := State.frames_setFrames _ (State.cur_lt_of_top htop)
  obtain ⟨g₀, hg0⟩ := Option.isSome_iff_exists.mp htop
  obtain ⟨r, hr⟩ := State.topJava?_eq_some.mp hg0
  have hl9 : e.platform.stackLimits (T.setVm s.vm).me = e.platform.stackLimits s.me := X.limits
  have hb9 : (T.setVm s.vm).me.stackBytes = s.me.stackBytes := X.bytes
  refine ⟨X.admits, X.cas, X.clock, hF, ?_, X.hears, X.method, X.code, X.here, X.tail, X.warmed, ?_, ?_, ?_⟩
  · have h := X.room
    have hU : ((T.setVm s.vm).setFrames (.invoking m args :: below)).localsInUse = s.localsInUse := by
      rw [State.localsInUse_invoking hF (meth := meth) (c := c) X.method X.code, State.localsInUse_invoking X.frames X.method X.code]
    simp only [State.hasRoom, Bool.and_eq_true, decide_eq_true_eq] at h ⊢
    obtain ⟨⟨⟨⟨h1, h2, h3, h4, h5, h6⟩, h7⟩, h8⟩, h9⟩ := h
    rw [X.frames, List.length_cons] at h2 h3
    have q1 := X.heapSize
    have q2 := X.used
    simp only [hF, hU, List.length_cons, State.stackLimits_setFrames, State.stackBytes_setFrames, hl9, hb9]
    refine ⟨⟨⟨⟨by omega, by omega, by omega, by omega, by omega, h6⟩, ?_⟩, ?_⟩, X.book⟩
    · show T.heap.size + R'.cells ≤ e.platform.maxCells
      omega
    · show T.slotsUsed + R'.slots ≤ e.platform.maxSlots
      omega
  · rw [State.stackLimits_setFrames]; rfl
  · rw [State.stackBytes_setFrames]; rfl
  · refine ⟨?_, Nat.le_refl _, Nat.le_refl _, ?_, ?_, fun a c9 h9 => ⟨c9, h9, rfl, rfl, fun _ _ => rfl⟩⟩
    · obtain ⟨t, ht, -⟩ := State.frames_cons hr
      show T.setVm s.vm = { ((T.setVm s.vm).setFrames (.invoking m args :: below)).setFrames (T.setVm s.vm).frames with heap := T.heap, slotsUsed := T.slotsUsed }
      rw [State.setFrames_setFrames, State.setFrames_self ht]
      rfl
    · show T.slotsUsed = T.slotsUsed + ((T.heap.toList.drop T.heap.size).map (·.slots.size)).sum
      rw [List.drop_eq_nil_of_le (Nat.le_of_eq Array.length_toList)]
      rfl
    · show ((T.heap.toList.drop T.heap.size).map (·.slots.size)).sum ≤ 0
      rw [List.drop_eq_nil_of_le (Nat.le_of_eq Array.length_toList)]
      exact Nat.le_refl _
/-- 'throw new E()': new; dup; invokespecial; athrow -/
theorem vx_throw0 {cc : ByteArray} {pc : Nat} (hexec : p.tables.exec = Jvm.exec) (hb : c.code = cc) (hl : l.stackTraces = false) {own cls : String} {names : List String} {ik ic mc ms : Nat} {A : Nat → Prop}
    (hown : s.vm.findClass own = some m.cls) (hcls : Bundle.fit cls = true) (hnames : ∀ n ∈ names, Bundle.fit n = true)
    (hk : (Cond.classLink own ik cls).before args s = true) (hini : (Cond.initialized cls).before args s = true) (hat : ∀ w ∈ vx_at0 own ic cls names, w.before args s = true)
    (hgood : ∀ w ∈ Cond.classLink own ik cls :: Cond.initialized cls :: vx_at0 own ic cls names, vx_ot w = true)
    (hU : vx_Zq Bundle.tN "UNASSIGNED_STACK" Bundle.steD A s s.heap) (hN : vx_Zq Bundle.tN "SUPPRESSED_SENTINEL" Bundle.listD A s s.heap) (hS : va_S A s.heap H locs) (hsize : ls.size = c.maxLocals)
    (d0 : decode cc pc = .ok (.new ik, 3)) (d3 : decode cc (pc + 3) = .ok (.dup, 1)) (d4 : decode cc (pc + 4) = .ok (.invokespecial ic, 3)) (d7 : decode cc (pc + 7) = .ok (.athrow, 1))
    (hout : ∀ x ∈ c.exceptionTable.toList, covers x (pc + 7) = false)
    (hRframes : names.length + 3 < R.frames) (hRlocals : (rest.map fun v => v.category).sum + (13 * (names.length + 1) + 42) ≤ R.locals) (hRcells : cells + 1 ≤ R.cells) (hRslots : slots + 6 ≤ R.slots) (hlocks : meth.locks = false)
    (hx : ∀ t : State, s.vm.Alike t.vm → H.size ≤ t.heap.size → (∀ q : Nat, q < H.size → t.heap[q]? = H[q]?) → XC cls s t)
    (hf : ∀ z ∈ locs, free z.base) (hc : cells + 1 ≤ mc) (hs : slots + 6 ≤ ms) :
    W p l e R s m args below meth c H locs cells slots (vx_MQ below Qc XC args s mc ms free) (F0 m pc ls rest) := by
  intro T hT X
  have htr : e.platform.stackTraces = false := (show e.platform.stackTraces = l.stackTraces by rw [X.admits.platform]).trans hl
  have Y := vx_rebase X (R' := { frames := R.frames, locals := R.locals, cells := 1, slots := 6 }) (Nat.le_refl _) (Nat.le_refl _) hRcells hRslots
  obtain ⟨s', hA⟩ : ∃ z, z = (T.setVm s.vm).setFrames (.invoking m args :: below) := ⟨_, rfl⟩
  rw [← hA] at Y
  have hvm : s'.vm = s.vm := by rw [hA]; rfl
  have hhp : s'.heap = H := by rw [hA]; exact hT
  have hW0 : s.WarmedH s'.vm := by rw [hvm]; exact State.WarmedH.refl s
  have hat' : ∀ w ∈ vx_at0 own ic cls names, w.before args s' = true := fun w hw => vx_ot_at hW0 hvm.symm (hgood w (List.mem_cons_of_mem _ (List.mem_cons_of_mem _ hw))) (hat w hw)
  have hk' : (Cond.classLink own ik cls).before args s' = true := vx_ot_at hW0 hvm.symm (hgood _ List.mem_cons_self) hk
  have hini' : (Cond.initialized cls).before args s' = true := vx_ot_at hW0 hvm.symm (hgood _ (List.mem_cons_of_mem _ List.mem_cons_self)) hini
  have hU' : vx_Zq Bundle.tN "UNASSIGNED_STACK" Bundle.steD A s' s'.heap := by rw [hhp]; exact vx_Zq.moved hW0.alike (hU.kept hS.2.1)
  have hN' : vx_Zq Bundle.tN "SUPPRESSED_SENTINEL" Bundle.listD A s' s'.heap := by rw [hhp]; exact vx_Zq.moved hW0.alike (hN.kept hS.2.1)
  have h : ∀ w ∈ Bundle.ownAtoms0 own ic cls names, w.before args s' = true := vx_own hat' (vx_isRefq hU'.1) (vx_isRefq hN'.1) hU'.2.word hN'.2.word
  have hown' : s'.vm.findClass own = some m.cls := by rw [hvm]; exact hown
  have hins : (Cond.instantiable cls 6).before args s' = true := h _ (by simp [Bundle.ownAtoms0])
  obtain ⟨vm₁, cX, kX, hfX, hkX, -, -, X₁, st1⟩ := Y.newCold hexec (own := own) (C := cls) (index := ik) (n := 6) hown' hk' hins hini'
    (g := F0 m pc ls rest) rfl (by rw [hb]; exact d0) (Nat.le_refl _) (Nat.le_refl _)
  generalize hT1 : (T.setVm vm₁).pushCell { cls := cX, slots := kX.instanceTypes.map defaultValue, vm := .none } = T1 at X₁ st1
  have hcat : (Value.ref T.heap.size).category = 1 := rfl
  have hcellA : T1.heap[T.heap.size]? = some (freshCell cX kX) := by rw [← hT1]; exact State.heap_pushCell_size _ _
  have d3' : decode c.code (pc + 3) = .ok (.dup, 1) := by rw [hb]; exact d3
  obtain ⟨U, hsteps, hrun, hend, hW, hsame, ce, hce, hO⟩ := X₁.ctorThrow0 hexec htr (own := own) (cls := cls) (names := names) (ic := ic) hown' hcls hnames h (fun x hx => nomatch hx) hfX hkX hcellA (by rw [hhp, hT]; exact Nat.le_refl _)
    (g := { method := m, pc := pc + 4, locals := ls, stack := .ref T.heap.size :: .ref T.heap.size :: rest, locked := none }) rfl hsize rfl rfl (rest := rest) rfl
    (by rw [hb]; exact d4) (by rw [hb]; exact d7) hout hRframes (by simp only [List.map_cons, List.sum_cons, hcat]; omega) hlocks
  obtain ⟨f1, f2⟩ := vx_frame hsame
  rw [hhp] at f1 f2
  have hWs : s.WarmedH U.vm := State.WarmedH.trans hW0 hW
  have hcl : s.vm.findClass cls = some ce.cls := by
    have h9 := hO.cls
    rw [hvm] at h9
    exact h9
  have hall : s.sameButNew ({ U with vm := s.vm } : State) locs mc ms := by
    subst hA
    obtain ⟨e1, e2⟩ := hsame
    rw [State.setFrames_setFrames] at e1
    have h2 : (T.setVm s.vm).sameButNew ({ U with vm := s.vm } : State) [] (0 + 1) (0 + 6) := ⟨e1, e2⟩
    have h3 := X.same.trans h2
    rw [List.append_nil] at h3
    exact h3.mono hc hs
  refine ⟨U, ?_, .threw T.heap.size, hrun, hend, Or.inr ⟨T.heap.size, rfl, cls, ce, locs, hx U hWs.alike f1 (fun q hq => f2 q hq (fun z hz => nomatch hz)), hce, hO.vm, hcl, hWs, hall, hf⟩⟩
  refine st1 _ ?_
  show Steps p.tables e below (T1.setTop { method := m, pc := pc + 3, locals := ls, stack := .ref T.heap.size :: rest, locked := none }) _
  jvm_step X₁.here [X₁.here.top, hexec, d3', Value.category]
  exact hsteps
/-- 'throw new E("text")': new; dup; ldc; invokespecial; athrow -/
theorem vx_throwS {cc : ByteArray} {pc : Nat} (hexec : p.tables.exec = Jvm.exec) (hb : c.code = cc) (hl : l.stackTraces = false) {own cls text : String} {names : List String} {ik is ic mc ms sa : Nat} {A : Nat → Prop}
    (hown : s.vm.findClass own = some m.cls) (hcls : Bundle.fit cls = true) (hnames : ∀ n ∈ names, Bundle.fit n = true)
    (hk : (Cond.classLink own ik cls).before args s = true) (hini : (Cond.initialized cls).before args s = true) (hstr : vk_R own is text sa s) (hat : ∀ w ∈ vx_atS own ic cls names, w.before args s = true)
    (hgood : ∀ w ∈ Cond.classLink own ik cls :: Cond.initialized cls :: vx_atS own ic cls names, vx_ot w = true)
    (hU : vx_Zq Bundle.tN "UNASSIGNED_STACK" Bundle.steD A s s.heap) (hN : vx_Zq Bundle.tN "SUPPRESSED_SENTINEL" Bundle.listD A s s.heap) (hS : va_S A s.heap H locs) (hsize : ls.size = c.maxLocals)
    (d0 : decode cc pc = .ok (.new ik, 3)) (d3 : decode cc (pc + 3) = .ok (.dup, 1)) (d4 : decode cc (pc + 4) = .ok (.ldc is, 2)) (d6 : decode cc (pc + 6) = .ok (.invokespecial ic, 3)) (d9 : decode cc (pc + 9) = .ok (.athrow, 1))
    (hout : ∀ x ∈ c.exceptionTable.toList, covers x (pc + 9) = false)
    (hRframes : names.length + 3 < R.frames) (hRlocals : (rest.map fun v => v.category).sum + (13 * (names.length + 1) + 43) ≤ R.locals) (hRcells : cells + 1 ≤ R.cells) (hRslots : slots + 6 ≤ R.slots) (hlocks : meth.locks = false)
    (hx : ∀ t : State, s.vm.Alike t.vm → H.size ≤ t.heap.size → (∀ q : Nat, q < H.size → t.heap[q]? = H[q]?) → XC cls s t)
    (hf : ∀ z ∈ locs, free z.base) (hc : cells + 1 ≤ mc) (hs : slots + 6 ≤ ms) :
    W p l e R s m args below meth c H locs cells slots (vx_MQ below Qc XC args s mc ms free) (F0 m pc ls rest) := by
  intro T hT X
  have htr : e.platform.stackTraces = false := (show e.platform.stackTraces = l.stackTraces by rw [X.admits.platform]).trans hl
  have Y := vx_rebase X (R' := { frames := R.frames, locals := R.locals, cells := 1, slots := 6 }) (Nat.le_refl _) (Nat.le_refl _) hRcells hRslots
  obtain ⟨s', hA⟩ : ∃ z, z = (T.setVm s.vm).setFrames (.invoking m args :: below) := ⟨_, rfl⟩
  rw [← hA] at Y
  have hvm : s'.vm = s.vm := by rw [hA]; rfl
  have hhp : s'.heap = H := by rw [hA]; exact hT
  have hW0 : s.WarmedH s'.vm := by rw [hvm]; exact State.WarmedH.refl s
  have hat' : ∀ w ∈ vx_atS own ic cls names, w.before args s' = true := fun w hw => vx_ot_at hW0 hvm.symm (hgood w (List.mem_cons_of_mem _ (List.mem_cons_of_mem _ hw))) (hat w hw)
  have hk' : (Cond.classLink own ik cls).before args s' = true := vx_ot_at hW0 hvm.symm (hgood _ List.mem_cons_self) hk
  have hini' : (Cond.initialized cls).before args s' = true := vx_ot_at hW0 hvm.symm (hgood _ (List.mem_cons_of_mem _ List.mem_cons_self)) hini
  have hU' : vx_Zq Bundle.tN "UNASSIGNED_STACK" Bundle.steD A s' s'.heap := by rw [hhp]; exact vx_Zq.moved hW0.alike (hU.kept hS.2.1)
  have hN' : vx_Zq Bundle.tN "SUPPRESSED_SENTINEL" Bundle.listD A s' s'.heap := by rw [hhp]; exact vx_Zq.moved hW0.alike (hN.kept hS.2.1)
  have h : ∀ w ∈ Bundle.ownAtoms own ic cls names, w.before args s' = true := vx_own hat' (vx_isRefq hU'.1) (vx_isRefq hN'.1) hU'.2.word hN'.2.word
  have hown' : s'.vm.findClass own = some m.cls := by rw [hvm]; exact hown
  have hins : (Cond.instantiable cls 6).before args s' = true := h _ (by simp [Bundle.ownAtoms])
  obtain ⟨vm₁, cX, kX, hfX, hkX, -, -, X₁, st1⟩ := Y.newCold hexec (own := own) (C := cls) (index := ik) (n := 6) hown' hk' hins hini'
    (g := F0 m pc ls rest) rfl (by rw [hb]; exact d0) (Nat.le_refl _) (Nat.le_refl _)
  generalize hT1 : (T.setVm vm₁).pushCell { cls := cX, slots := kX.instanceTypes.map defaultValue, vm := .none } = T1 at X₁ st1
  have hcat : (Value.ref T.heap.size).category = 1 := rfl
  have hcellA : T1.heap[T.heap.size]? = some (freshCell cX kX) := by rw [← hT1]; exact State.heap_pushCell_size _ _
  have d3' : decode c.code (pc + 3) = .ok (.dup, 1) := by rw [hb]; exact d3
  have d4' : decode c.code (pc + 4) = .ok (.ldc is, 2) := by rw [hb]; exact d4
  have hstr' : vk_R own is text sa s' := vk_R.warm hW0 hstr
  obtain ⟨U, hsteps, hrun, hend, hW, hsame, ce, hce, hO⟩ := X₁.ctorThrowS hexec htr (own := own) (cls := cls) (names := names) (ic := ic) hown' hcls hnames h (fun x hx => nomatch hx) hfX hkX hcellA (by rw [hhp, hT]; exact Nat.le_refl _) (msg := .ref sa) rfl
    (g := { method := m, pc := pc + 6, locals := ls, stack := .ref sa :: .ref T.heap.size :: .ref T.heap.size :: rest, locked := none }) rfl hsize rfl rfl (rest := rest) rfl
    (by rw [hb]; exact d6) (by rw [hb]; exact d9) hout hRframes (by simp only [List.map_cons, List.sum_cons, hcat]; omega) hlocks
  obtain ⟨f1, f2⟩ := vx_frame hsame
  rw [hhp] at f1 f2
  have hWs : s.WarmedH U.vm := State.WarmedH.trans hW0 hW
  have hcl : s.vm.findClass cls = some ce.cls := by
    have h9 := hO.cls
    rw [hvm] at h9
    exact h9
  have hall : s.sameButNew ({ U with vm := s.vm } : State) locs mc ms := by
    subst hA
    obtain ⟨e1, e2⟩ := hsame
    rw [State.setFrames_setFrames] at e1
    have h2 : (T.setVm s.vm).sameButNew ({ U with vm := s.vm } : State) [] (0 + 1) (0 + 6) := ⟨e1, e2⟩
    have h3 := X.same.trans h2
    rw [List.append_nil] at h3
    exact h3.mono hc hs
  refine ⟨U, ?_, .threw T.heap.size, hrun, hend, Or.inr ⟨T.heap.size, rfl, cls, ce, locs, hx U hWs.alike f1 (fun q hq => f2 q hq (fun z hz => nomatch hz)), hce, hO.vm, hcl, hWs, hall, hf⟩⟩
  refine st1 _ ?_
  show Steps p.tables e below (T1.setTop { method := m, pc := pc + 3, locals := ls, stack := .ref T.heap.size :: rest, locked := none }) _
  jvm_step X₁.here [X₁.here.top, hexec, d3', Value.category]
  exact X₁.ldcString hexec (own := own) (text := text) (index := is) (a := sa) hown' hstr'.1 hstr'.2
    (g := { method := m, pc := pc + 4, locals := ls, stack := .ref T.heap.size :: .ref T.heap.size :: rest, locked := none }) rfl d4' _ hsteps
/-- 'throw new E("text")', the text by a wide index -/
theorem vx_throwSW {cc : ByteArray} {pc : Nat} (hexec : p.tables.exec = Jvm.exec) (hb : c.code = cc) (hl : l.stackTraces = false) {own cls text : String} {names : List String} {ik is ic mc ms sa : Nat} {A : Nat → Prop}
    (hown : s.vm.findClass own = some m.cls) (hcls : Bundle.fit cls = true) (hnames : ∀ n ∈ names, Bundle.fit n = true)
    (hk : (Cond.classLink own ik cls).before args s = true) (hini : (Cond.initialized cls).before args s = true) (hstr : vk_R own is text sa s) (hat : ∀ w ∈ vx_atS own ic cls names, w.before args s = true)
    (hgood : ∀ w ∈ Cond.classLink own ik cls :: Cond.initialized cls :: vx_atS own ic cls names, vx_ot w = true)
    (hU : vx_Zq Bundle.tN "UNASSIGNED_STACK" Bundle.steD A s s.heap) (hN : vx_Zq Bundle.tN "SUPPRESSED_SENTINEL" Bundle.listD A s s.heap) (hS : va_S A s.heap H locs) (hsize : ls.size = c.maxLocals)
    (d0 : decode cc pc = .ok (.new ik, 3)) (d3 : decode cc (pc + 3) = .ok (.dup, 1)) (d4 : decode cc (pc + 4) = .ok (.ldc_w is, 3)) (d7 : decode cc (pc + 7) = .ok (.invokespecial ic, 3)) (d10 : decode cc (pc + 10) = .ok (.athrow, 1))
    (hout : ∀ x ∈ c.exceptionTable.toList, covers x (pc + 10) = false)
    (hRframes : names.length + 3 < R.frames) (hRlocals : (rest.map fun v => v.category).sum + (13 * (names.length + 1) + 43) ≤ R.locals) (hRcells : cells + 1 ≤ R.cells) (hRslots : slots + 6 ≤ R.slots) (hlocks : meth.locks = false)
    (hx : ∀ t : State, s.vm.Alike t.vm → H.size ≤ t.heap.size → (∀ q : Nat, q < H.size → t.heap[q]? = H[q]?) → XC cls s t)
    (hf : ∀ z ∈ locs, free z.base) (hc : cells + 1 ≤ mc) (hs : slots + 6 ≤ ms) :
    W p l e R s m args below meth c H locs cells slots (vx_MQ below Qc XC args s mc ms free) (F0 m pc ls rest) := by
  intro T hT X
  have htr : e.platform.stackTraces = false := (show e.platform.stackTraces = l.stackTraces by rw [X.admits.platform]).trans hl
  have Y := vx_rebase X (R' := { frames := R.frames, locals := R.locals, cells := 1, slots := 6 }) (Nat.le_refl _) (Nat.le_refl _) hRcells hRslots
  obtain ⟨s', hA⟩ : ∃ z, z = (T.setVm s.vm).setFrames (.invoking m args :: below) := ⟨_, rfl⟩
  rw [← hA] at Y
  have hvm : s'.vm = s.vm := by rw [hA]; rfl
  have hhp : s'.heap = H := by rw [hA]; exact hT
  have hW0 : s.WarmedH s'.vm := by rw [hvm]; exact State.WarmedH.refl s
  have hat' : ∀ w ∈ vx_atS own ic cls names, w.before args s' = true := fun w hw => vx_ot_at hW0 hvm.symm (hgood w (List.mem_cons_of_mem _ (List.mem_cons_of_mem _ hw))) (hat w hw)
  have hk' : (Cond.classLink own ik cls).before args s' = true := vx_ot_at hW0 hvm.symm (hgood _ List.mem_cons_self) hk
  have hini' : (Cond.initialized cls).before args s' = true := vx_ot_at hW0 hvm.symm (hgood _ (List.mem_cons_of_mem _ List.mem_cons_self)) hini
  have hU' : vx_Zq Bundle.tN "UNASSIGNED_STACK" Bundle.steD A s' s'.heap := by rw [hhp]; exact vx_Zq.moved hW0.alike (hU.kept hS.2.1)
  have hN' : vx_Zq Bundle.tN "SUPPRESSED_SENTINEL" Bundle.listD A s' s'.heap := by rw [hhp]; exact vx_Zq.moved hW0.alike (hN.kept hS.2.1)
  have h : ∀ w ∈ Bundle.ownAtoms own ic cls names, w.before args s' = true := vx_own hat' (vx_isRefq hU'.1) (vx_isRefq hN'.1) hU'.2.word hN'.2.word
  have hown' : s'.vm.findClass own = some m.cls := by rw [hvm]; exact hown
  have hins : (Cond.instantiable cls 6).before args s' = true := h _ (by simp [Bundle.ownAtoms])
  obtain ⟨vm₁, cX, kX, hfX, hkX, -, -, X₁, st1⟩ := Y.newCold hexec (own := own) (C := cls) (index := ik) (n := 6) hown' hk' hins hini'
    (g := F0 m pc ls rest) rfl (by rw [hb]; exact d0) (Nat.le_refl _) (Nat.le_refl _)
  generalize hT1 : (T.setVm vm₁).pushCell { cls := cX, slots := kX.instanceTypes.map defaultValue, vm := .none } = T1 at X₁ st1
  have hcat : (Value.ref T.heap.size).category = 1 := rfl
  have hcellA : T1.heap[T.heap.size]? = some (freshCell cX kX) := by rw [← hT1]; exact State.heap_pushCell_size _ _
  have d3' : decode c.code (pc + 3) = .ok (.dup, 1) := by rw [hb]; exact d3
  have d4' : decode c.code (pc + 4) = .ok (.ldc_w is, 3) := by rw [hb]; exact d4
  have hstr' : vk_R own is text sa s' := vk_R.warm hW0 hstr
  obtain ⟨U, hsteps, hrun, hend, hW, hsame, ce, hce, hO⟩ := X₁.ctorThrowS hexec htr (own := own) (cls := cls) (names := names) (ic := ic) hown' hcls hnames h (fun x hx => nomatch hx) hfX hkX hcellA (by rw [hhp, hT]; exact Nat.le_refl _) (msg := .ref sa) rfl
    (g := { method := m, pc := pc + 7, locals := ls, stack := .ref sa :: .ref T.heap.size :: .ref T.heap.size :: rest, locked := none }) rfl hsize rfl rfl (rest := rest) rfl
    (by rw [hb]; exact d7) (by rw [hb]; exact d10) hout hRframes (by simp only [List.map_cons, List.sum_cons, hcat]; omega) hlocks
  obtain ⟨f1, f2⟩ := vx_frame hsame
  rw [hhp] at f1 f2
  have hWs : s.WarmedH U.vm := State.WarmedH.trans hW0 hW
  have hcl : s.vm.findClass cls = some ce.cls := by
    have h9 := hO.cls
    rw [hvm] at h9
    exact h9
  have hall : s.sameButNew ({ U with vm := s.vm } : State) locs mc ms := by
    subst hA
    obtain ⟨e1, e2⟩ := hsame
    rw [State.setFrames_setFrames] at e1
    have h2 : (T.setVm s.vm).sameButNew ({ U with vm := s.vm } : State) [] (0 + 1) (0 + 6) := ⟨e1, e2⟩
    have h3 := X.same.trans h2
    rw [List.append_nil] at h3
    exact h3.mono hc hs
  refine ⟨U, ?_, .threw T.heap.size, hrun, hend, Or.inr ⟨T.heap.size, rfl, cls, ce, locs, hx U hWs.alike f1 (fun q hq => f2 q hq (fun z hz => nomatch hz)), hce, hO.vm, hcl, hWs, hall, hf⟩⟩
  refine st1 _ ?_
  show Steps p.tables e below (T1.setTop { method := m, pc := pc + 3, locals := ls, stack := .ref T.heap.size :: rest, locked := none }) _
  jvm_step X₁.here [X₁.here.top, hexec, d3', Value.category]
  exact X₁.ldcStringW hexec (own := own) (text := text) (index := is) (a := sa) hown' hstr'.1 hstr'.2
    (g := { method := m, pc := pc + 4, locals := ls, stack := .ref T.heap.size :: .ref T.heap.size :: rest, locked := none }) rfl d4' _ hsteps
end Ends
section Bodies
variable {l : Launch}
theorem vx_ofW {y : MethodName} {ws ws' : List Cond} {rm : Room} {Pc : Array Value → State → Prop} {Qc : Array Value → State → Outcome → State → Prop} {XC : String → State → State → Prop} {mc ms : Nat} {free : Addr → Prop} {cc : ByteArray} {maxL : Nat} {ret : Option FieldType}
    (hy : plainName y.cls = true) (hw : ws = Cond.code y cc maxL ret :: ws')
    (body : ∀ p e s m args below meth c s₁, BodyLoose p l y (headSpec ws rm) cc maxL ret e s m args below meth c s₁ → c.maxLocals = maxL → (∀ x ∈ c.exceptionTable.toList, False) → Pc args s →
      W p l e (headSpec ws rm).room s m args below meth c s.heap [] 0 0 (vx_MQ below Qc XC args s mc ms free) (entryFrame m args maxL)) : vx_Met l y ws rm Pc Qc XC mc ms free := by
  refine MetFree.of_bodyS (code := cc) (maxLocals := maxL) (ret := ret) hy ?_ ?_
  · intro args s m h hn
    obtain ⟨meth, c, h1, h2, h3, h4, h5, h6, -, -⟩ := Cond.code_spec hn (atoms_spec (ws := ws) h _ (by rw [hw]; exact List.mem_cons_self))
    exact ⟨meth, c, h1, h2, h3, h4, h5, h6⟩
  · intro p e s m args below meth c s₁ B hml hP _
    have hh0 : s₁.heap = s.heap := by rw [B.state]; rfl
    have ht : ∀ x ∈ c.exceptionTable.toList, False := by
      obtain ⟨meth9, c9, h1, h2, -, -, -, -, h7, -⟩ := Cond.code_spec B.named (atoms_spec (ws := ws) B.pre _ (by rw [hw]; exact List.mem_cons_self))
      cases Option.some.inj (h1.symm.trans B.method)
      cases Option.some.inj (h2.symm.trans (Stand.of_body B).code)
      intro x hx
      rw [Array.isEmpty_iff.mp h7] at hx
      cases hx
    obtain ⟨t, a1, o, b1, b2, b3⟩ := body p e s m args below meth c s₁ B hml ht hP s₁ hh0 (Stand.of_body B)
    exact ⟨t, o, a1, b1, b2, b3⟩
/-- the table of a body with handlers -/
theorem vx_table {p : Program} {x y : MethodName} {S : Spec} {cc bytes : ByteArray} {maxL maxL' : Nat} {ret ret' : Option FieldType} {e : Env} {s s₁ : State} {m : MethodId} {args : Array Value} {below : List Frame} {meth : Method} {c : Code} {hh : List (Nat × Nat × Nat × Nat)}
    (B : BodyLoose p l y S cc maxL ret e s m args below meth c s₁) (h : (Cond.codeWith y bytes maxL' ret' hh).before args s = true) : c.exceptionTable.toList = tableOf hh := by
  obtain ⟨m9, meth9, c9, hn9, h1, h2, -, -, h6, -⟩ := Cond.codeWith_spec h
  cases Option.some.inj (hn9.symm.trans B.named)
  cases Option.some.inj (h1.symm.trans B.method)
  cases Option.some.inj (h2.symm.trans (Stand.of_body B).code)
  rw [← h6, table_eq]
end Bodies
end VXA
/-! ===== END ===== -/
/-! ===== BEGIN a static call of a method with an exception table ===== -/
section VXS
variable {p : Program} {l : Launch} {e : Env} {R : Room} {s : State} {m : MethodId} {args : Array Value} {below : List Frame} {meth : Method} {c : Code} {T : State} {H : Heap} {locs : List Loc} {cells slots : Nat}
abbrev vx_CSW (R : Room) (s : State) (args : Array Value) (own : String) (index : Nat) (y : MethodName) (bytes : ByteArray) (maxL : Nat) (ret : Option FieldType) (hh : List (Nat × Nat × Nat × Nat)) (ws : List Cond) (rm : Room) (mc ms n : Nat) : Prop :=
  (rm.cells = mc ∧ rm.slots = ms ∧ rm.frames + 1 ≤ R.frames ∧ 8 + (maxL + 11) + rm.locals ≤ R.locals ∧ (∀ w ∈ ws, ∀ (a' : Array Value) (U : State), s.WarmedH U.vm → w.before a' U = true) ∧ Cond.codeWith y bytes maxL ret hh ∈ ws) ∧
  (Cond.codeWith y bytes maxL ret hh).before args s = true ∧ (Cond.initialized y.cls).before args s = true ∧ (y.cls ≠ "java/lang/invoke/MethodHandle" ∧ y.cls ≠ "java/lang/invoke/VarHandle") ∧
  (∀ sig, parseMethodDescriptor y.desc = some sig → n = sig.parameters.length) ∧ (Cond.methodLink own index y).before args s = true ∧ (Cond.static y).before args s = true
theorem vx_cwSW {own : String} {index maxL mc ms : Nat} {y : MethodName} {bytes : ByteArray} {ret : Option FieldType} {hh : List (Nat × Nat × Nat × Nat)} {Ts ws ws' : List Cond} {rm : Room} (n : Nat) (ht : ∀ w ∈ Ts, w.before args s = true) (hT : GoodIn Ts (va_wsS own index y ws)) (hw : ws = Cond.codeWith y bytes maxL ret hh :: ws') (hrc : rm.cells = mc) (hrs : rm.slots = ms)
    (hd : y.cls ≠ "java/lang/invoke/MethodHandle" ∧ y.cls ≠ "java/lang/invoke/VarHandle" ∧ (parseMethodDescriptor y.desc).map (fun d => d.parameters.length) = some n) (hR : rm.frames + 1 ≤ R.frames ∧ 8 + (maxL + 11) + rm.locals ≤ R.locals) :
    vx_CSW R s args own index y bytes maxL ret hh ws rm mc ms n := by
  have ok : ∀ w ∈ va_wsS own index y ws, w.before args s = true := fun w h => ht w (hT w h).1
  have hG : GoodIn Ts ws := fun w h => hT w (by unfold va_wsS; exact List.mem_append_right _ h)
  have hc : Cond.codeWith y bytes maxL ret hh ∈ ws := by rw [hw]; exact List.mem_cons_self
  refine ⟨⟨hrc, hrs, hR.1, hR.2, pay_in ht hG, hc⟩, ht _ (hG _ hc).1, ok _ (by simp [va_wsS]), ⟨hd.1, hd.2.1⟩, fun sig h => ?_, ok _ (by simp [va_wsS]), ok _ (by simp [va_wsS])⟩
  have h2 := hd.2.2
  rw [h] at h2
  exact (Option.some.inj h2).symm
theorem vx_callSW (X : Stand p l e R s m args below meth c T locs cells slots) (hexec : p.tables.exec = Jvm.exec) {own : String} {index : Nat} {y : MethodName} {bytes : ByteArray} {maxL : Nat} {ret : Option FieldType} {hh : List (Nat × Nat × Nat × Nat)}
    (hown : s.vm.findClass own = some m.cls) (hlink : (Cond.methodLink own index y).before args s = true) (hstat : (Cond.static y).before args s = true) (hinit : (Cond.initialized y.cls).before args s = true)
    (hcode : (Cond.codeWith y bytes maxL ret hh).before args s = true) (hy : y.cls ≠ "java/lang/invoke/MethodHandle" ∧ y.cls ≠ "java/lang/invoke/VarHandle")
    {W9 : Nat} {Pre : Pt → Array Value → Prop} {Post : Pt → Array Value → Option Value → Pt → Prop} (hK : Back l R p e below s args y 3 W9 Pre Post)
    {g : JFrame} (hg : g.method = m) (hsize : g.locals.size = c.maxLocals) {argsL rest : List Value} (hlen : ∀ sig, parseMethodDescriptor y.desc = some sig → argsL.length = sig.parameters.length)
    (hstack : g.stack = argsL.reverse ++ rest) (hW : 2 * g.monitorRoom + (rest.map fun v => v.category).sum ≤ W9) (hdg : decode c.code g.pc = .ok (.invokestatic index, 3))
    (hpre : ∀ vm₁, s.WarmedH vm₁ → Pre ⟨T.setVm vm₁, locs, cells, slots⟩ argsL.toArray) :
    ∃ (v : Option Value) (vm₁ : Vm) (B : Pt), s.WarmedH vm₁ ∧ Stand p l e R s m args below meth c B.U B.locs B.cells B.slots ∧ Post ⟨T.setVm vm₁, locs, cells, slots⟩ argsL.toArray v B ∧
      ∀ target, Steps p.tables e below (B.U.setTop { g with pc := g.pc + 3, stack := v.toList ++ rest }) target → Steps p.tables e below (T.setTop g) target := by
  obtain ⟨mk, methM, cM, hnamed, hmethM, -, -, -, -, -, -, hsigM⟩ := Cond.codeWith_spec hcode
  have hstatic : methM.isStatic = true := Cond.static_spec hnamed hmethM hstat
  obtain ⟨kP, hkP, -⟩ := className_of_methodNamed hnamed
  have hinitP : kP.init = .initialized := Cond.initialized_spec (findClass_of_methodNamed hnamed) hkP hinit
  obtain ⟨vm₁, X₁, hstep₁⟩ := X.invokestatic hexec hown hlink hnamed hmethM hstatic hkP hinitP hy (g := g) hg (argsL := argsL) (rest := rest) (hlen _ hsigM) hstack hdg
  obtain ⟨v, B, X', hpost, hsteps⟩ := hK m meth c ⟨T.setVm vm₁, locs, cells, slots⟩ { g with stack := rest } (.invokestatic index) mk argsL.toArray X₁ hg hsize hdg hW (X₁.named hnamed) (hpre vm₁ X₁.warmed)
  exact ⟨v, vm₁, B, X₁.warmed, X', hpost, fun target h => hstep₁ _ fun acts => by rw [doInvoke_state]; exact hsteps.trans h⟩
theorem vx_runSW {y : MethodName} {bytes cc : ByteArray} {maxL nL mc ms n index : Nat} {ret : Option FieldType} {hh : List (Nat × Nat × Nat × Nat)} {ws : List Cond} {rm : Room} {Pc : Array Value → State → Prop} {Qc : Array Value → State → Outcome → State → Prop} {free : Addr → Prop} {Ts : List Cond} {own : String} {As rest : List Value} {g : JFrame}
    (S : CallFix p m c cc nL s args Ts own) (hM : Met l y ws rm Pc Qc mc ms free) (cw : vx_CSW R s args own index y bytes maxL ret hh ws rm mc ms n) (hp : PreS s H Pc As)
    (hg : g.method = m) (hn : As.length = n) (hsize : g.locals.size = nL) (hstack : g.stack = As.reverse ++ rest) (hW : 2 * g.monitorRoom + (rest.map fun v => v.category).sum ≤ 8) (hdg : decode cc g.pc = .ok (.invokestatic index, 3)) (hf : cells + mc ≤ R.cells ∧ slots + ms ≤ R.slots) :
    va_Run p l e R s m args below meth c H locs cells slots mc ms g rest (Qc As.toArray) (free) := by
  obtain ⟨⟨hrc, hrs, hfr, hlo, hws, hcw⟩, hcode, hini, hy, hlen, hl, hstt⟩ := cw
  have hK : Back l R p e below s args y 3 8 (PreOf R mc ms Pc) (PostOf Qc mc ms free) := va_backW (hh := hh) (bytes := bytes) (maxL := maxL) (ret := ret) hM hp.1 hrc hrs hfr hlo hws hcw (fun a' U hW => word_at hW (Or.inl (by first | rfl | simp [Cond.onTables, Cond.keeps, Cond.steady])) hini)
  obtain ⟨hx, hb, hml, ho, -⟩ := S
  intro T hT X
  obtain ⟨v, vm₁, ⟨U', l2, c2, s2⟩, hW₁, X', ⟨g', mk, t, L, e1, e2, hq, h1, hL, h2, h3⟩, st⟩ := vx_callSW X hx (hh := hh) (bytes := bytes) (maxL := maxL) (ret := ret) ho hl hstt hini hcode hy hK hg (hsize.trans hml.symm) (argsL := As) (rest := rest) (fun sig h => hn.trans (hlen sig h)) hstack hW (by rw [hb]; exact hdg)
    (fun vm₁ hW₁ => ⟨hf.1, hf.2, hp.2 (T.setVm vm₁) hT hW₁⟩)
  dsimp only [Pt.U, Pt.locs, Pt.cells, Pt.slots] at X' e1 e2 h1 h2 h3 st
  subst h1; subst h2; subst h3
  exact ⟨v, (T.setVm vm₁).calling g' mk As.toArray, t, U', L, hT, X', hL, e1, e2, hq, st⟩
/-- not caught here, past rows that name other classes: it goes on to the caller -/
theorem vx_outP {p : Program} {l : Launch} {e : Env} {R : Room} {s : State} {m : MethodId} {args : Array Value} {below : List Frame} {meth : Method} {c : Code} {H : Heap} {locs : List Loc} {cells slots : Nat} {free : Addr → Prop} {ls : Array Slot} {rest : List Value} {Qc : Array Value → State → Outcome → State → Prop} {XC : String → State → State → Prop}
    {pc : Nat} {own E : String} {ce : Cell} {q : Addr} {mc ms : Nat} (hown : s.vm.findClass own = some m.cls) (hlocks : meth.locks = false)
    (hpass : ∀ z ∈ c.exceptionTable.toList, covers z pc = false ∨ (z.catchType ≠ 0 ∧ ∃ nm : String, (Cond.classLink own z.catchType nm).before args s = true ∧ va_Nc E nm s)) (hcell : H[q]? = some ce) (hv : ce.vm = .none) (hcl : s.vm.findClass E = some ce.cls)
    (hx : ∀ t : State, t.heap = H → s.vm.Alike t.vm → XC E s t) (hf : ∀ z ∈ locs, free z.base) (hc : cells ≤ mc) (hs : slots ≤ ms) :
    vx_W p l e R s m args below meth c H locs cells slots (vx_MQ below Qc XC args s mc ms free) (F0 m pc ls rest) q := by
  intro T hT X
  have hpl : e.platform.magicAccessors = ({} : Platform).magicAccessors := by rw [X.admits.platform]
  obtain ⟨vm', hW', X', st⟩ := X.outThrough hlocks q (g := F0 m pc ls rest) rfl rfl rfl (cell := ce) (by rw [hT]; exact hcell) (by rw [hv]; rfl)
    (by obtain ⟨k9, h9, -⟩ := Vm.findClass_spec hcl; exact ⟨k9, h9⟩) (fun z hz => by
      rcases hpass z hz with h | ⟨hz0, nm, hl1, hn1⟩
      · exact Or.inl h
      · obtain ⟨c6, hc6, hcl6⟩ := Cond.classLink_spec hown hl1 e.platform hpl
        obtain ⟨a8, b8, h1, h2, h3⟩ := hn1
        cases Option.some.inj (h1.symm.trans hcl)
        cases Option.some.inj (h2.symm.trans hc6)
        exact Or.inr ⟨hz0, _, hcl6, h3⟩)
  obtain ⟨g₀, hfr⟩ := X'.frames_eq
  have hcell9 : ((T.setVm vm').setFrames (.throwing q :: below)).heap[q]? = some ce := by
    show T.heap[q]? = some ce
    rw [hT]; exact hcell
  have hend : Ended ((T.setVm vm').setFrames (.throwing q :: below)) below (.threw q) := State.frames_setFrames _ (State.cur_lt_of_frames hfr)
  refine ⟨(T.setVm vm').setFrames (.throwing q :: below), ?_, .threw q, X'.here.running, hend, Or.inr ⟨q, rfl, E, ce, locs, hx _ hT (X'.ends _).1.alike, hcell9, hv, hcl, (X'.ends _).1, (X'.ends _).2.mono hc hs, hf⟩⟩
  rw [X.pushThrowing_eq]
  exact st
/-- a thing of a world lies in the heap -/
theorem vx_lt {D : va_G} {cl : List vw_C} {ws : va_W} {H1 : Heap} (h : va_P D cl ws H1) {k : Nat} {q : Nat × va_E} (hk : ws[k]? = some q) : q.1 < H1.size := (h k q hk).lt
end VXS
/-! ===== END ===== -/
/-! ===== BEGIN methods with a table of their own: called by a name, returning or throwing ===== -/
section VXH
/-! vx_backW, vx_callVX, vx_callSX, vx_callVW, vx_runVW, vx_runVX, vx_runSX, vx_ofWH follow the same proofs as their sisters above (Free/Laws.lean, Shelf42/LK1.lean); vx_outP calls Shelf42/NT130.lean (outThrough). -/
section
variable {l : Launch} {R : Room} {p : Program} {e : Env} {below : List Frame} {s : State} {sargs : Array Value} {y : MethodName} {len W9 : Nat}
theorem vx_backW {ws : List Cond} {rm : Room} {Pc : Array Value → State → Prop} {Qc : Array Value → State → Outcome → State → Prop} {XC : String → State → State → Prop} {mc ms : Nat} {free : Addr → Prop} {bytes : ByteArray} {maxL : Nat} {ret : Option FieldType} {hh : List (Nat × Nat × Nat × Nat)}
    (hM : vx_Met l y ws rm Pc Qc XC mc ms free) (hblind : FrameBlind Pc) (hrc : rm.cells = mc) (hrs : rm.slots = ms)
    (hframes : rm.frames + 1 ≤ R.frames) (hlocals : W9 + (maxL + 11) + rm.locals ≤ R.locals)
    (hws : ∀ w ∈ ws, ∀ a' U, s.WarmedH U.vm → w.before a' U = true) (hcode : Cond.codeWith y bytes maxL ret hh ∈ ws) (hinit : ∀ a' U, s.WarmedH U.vm → (Cond.initialized y.cls).before a' U = true) :
    vx_Back l R p e below s sargs y len W9 (PreOf R mc ms Pc) (PostOf Qc mc ms free) (vx_Post XC mc ms free) := by
  intro m meth c A g ig mk a X hg hsize hdg hW hn hp
  have h1 : (headSpec ws rm).pre.before a A.U = true := atoms_intro fun w hw => hws w hw _ _ X.warmed
  have h2 : (Cond.codeWith y bytes maxL ret hh).before a A.U = true := hws _ hcode _ _ X.warmed
  have h3 : (Cond.initialized y.cls).before a A.U = true := hinit _ _ X.warmed
  have h4 : A.cells + (headSpec ws rm).room.cells ≤ R.cells := by rw [show (headSpec ws rm).room.cells = mc from hrc]; exact hp.1
  have h5 : A.slots + (headSpec ws rm).room.slots ≤ R.slots := by rw [show (headSpec ws rm).room.slots = ms from hrs]; exact hp.2.1
  have hPc : Pc a (A.U.calling g mk a) := hblind _ _ _ _ hp.2.2
  obtain ⟨U, Ls, c0, s0⟩ := A
  dsimp only [Pt.U, Pt.locs, Pt.cells, Pt.slots] at h1 h2 h3 h4 h5 X hn hPc ⊢
  obtain ⟨m9, methY, cY, hn9, hmY, hcY, -, hlY, -⟩ := Cond.codeWith_spec h2
  cases Option.some.inj (hn9.symm.trans hn)
  obtain ⟨kY, hkY, -⟩ := className_of_methodNamed hn
  have hinitY : kY.init = .initialized := Cond.initialized_spec (findClass_of_methodNamed hn) hkY h3
  have h : At U g.method c below := by rw [hg]; exact X.here
  have hlocals9 : W9 + (maxL + 11) + (headSpec ws rm).room.locals ≤ R.locals := hlocals
  have happ : (headSpec ws rm).appliesLoose y e.platform (U.calling g mk a) = true :=
    Spec.appliesLoose_calling (g := g) h hdg hn hkY hinitY
      (X.room_calling (g := g) (R' := (headSpec ws rm).room) hsize hmY hcY hframes (by rw [hlY]; omega) h4 h5) h1
  obtain ⟨mid, hmid⟩ := h.above
  have hfr : (U.setTop g).frames = (.java g :: mid) ++ below := by rw [State.frames_setTop' g h.top, hmid]; rfl
  obtain ⟨o, s₂, hsteps, -, hend, hq⟩ := Steps.callFree hM p X.admits X.cas X.clock (acts := []) hfr happ hPc trivial
  have hq' : vx_Q Qc XC mc ms free a (U.calling g mk a) o s₂ := hq
  rw [State.frames_setTop' g h.top] at hend
  obtain ⟨g₀, hg0⟩ := Option.isSome_iff_exists.mp h.top
  obtain ⟨r, hr⟩ := State.topJava?_eq_some.mp hg0
  have hr' : (({ U with heap := s₂.heap, slotsUsed := s₂.slotsUsed } : State).setVm s₂.vm).frames = .java g₀ :: r := hr
  rcases hq' with ⟨hqc, L, hfe, hL⟩ | ⟨q, rfl, E, ce, L, hx, hce, hcv, hcl, hW₂, hsm, hL⟩
  · obtain ⟨⟨v, rfl⟩, hW₂, e2, q2, q3, q4, q5, q6⟩ := id hfe
    have e3 : s₂ = ({ (U.calling g mk a).setFrames s₂.frames with heap := s₂.heap, slotsUsed := s₂.slotsUsed } : State).setVm s₂.vm := by
      have : s₂ = ({ s₂ with vm := (U.calling g mk a).vm } : State).setVm s₂.vm := rfl
      rw [e2] at this
      exact this
    obtain ⟨c₂, i₂, len₂, hc₂, hd₂, hf₂⟩ := hend
    have hW' : U.WarmedH s₂.vm := hW₂
    have hcc : c₂ = c := by
      have h1 : s₂.code? g.method = U.code? g.method := by
        rw [State.code?_eq, State.code?_eq, hW'.alike.method?]
      exact Option.some.inj (hc₂.symm.trans (h1.trans h.code))
    subst hcc
    have hlen : len₂ = len := by rw [hdg] at hd₂; cases hd₂; rfl
    subst hlen
    have hs₂ : s₂ = (({ U with heap := s₂.heap, slotsUsed := s₂.slotsUsed } : State).setVm s₂.vm).setTop { g with pc := g.pc + len₂, stack := v.toList ++ g.stack } := by
      refine e3.trans ?_
      rw [hf₂, State.calling_eq h.top, State.setFrames_setFrames, State.setTop_of_frames _ hr', hr]
      rfl
    have hsame : U.sameButNew ({ U with heap := s₂.heap, slotsUsed := s₂.slotsUsed } : State) L mc ms := by
      refine ⟨?_, q2, q3, q4, q5, q6⟩
      obtain ⟨t, ht, -⟩ := State.frames_cons hr
      show ({ U with heap := s₂.heap, slotsUsed := s₂.slotsUsed } : State) = { U.setFrames U.frames with heap := s₂.heap, slotsUsed := s₂.slotsUsed }
      rw [State.setFrames_self ht]
    subst hg
    refine Or.inl ⟨v, ⟨(({ U with heap := s₂.heap, slotsUsed := s₂.slotsUsed } : State).setVm s₂.vm), Ls ++ L, c0 + mc, s0 + ms⟩,
      ⟨X.admits, X.cas, X.clock, X.frames, X.room, X.hears, X.method, X.code, (X.here.setHeapUsed s₂.heap s₂.slotsUsed).setVm hW'.alike, X.tail, State.WarmedH.trans X.warmed hW', X.limits, X.bytes, X.same.trans (hsame.setVm s.vm)⟩,
      ⟨g, mk, s₂, L, rfl, rfl, hqc, rfl, hL, rfl, rfl⟩, ?_⟩
    show Steps p.tables e below _ ((({ U with heap := s₂.heap, slotsUsed := s₂.slotsUsed } : State).setVm s₂.vm).setTop { g with pc := g.pc + len₂, stack := v.toList ++ g.stack })
    rw [← hs₂]
    exact hsteps
  · obtain ⟨e2, q2, q3, q4, q5, q6⟩ := id hsm
    have e3 : s₂ = ({ (U.calling g mk a).setFrames s₂.frames with heap := s₂.heap, slotsUsed := s₂.slotsUsed } : State).setVm s₂.vm := by
      have : s₂ = ({ s₂ with vm := (U.calling g mk a).vm } : State).setVm s₂.vm := rfl
      rw [e2] at this
      exact this
    have hf₂ : s₂.frames = .throwing q :: .java g :: U.frames.tail := hend
    have hW' : U.WarmedH s₂.vm := hW₂
    have hs₂ : s₂ = ((({ U with heap := s₂.heap, slotsUsed := s₂.slotsUsed } : State).setVm s₂.vm).setTop g).pushFrame (.throwing q) := by
      refine e3.trans ?_
      rw [hf₂, State.calling_eq h.top, State.setFrames_setFrames, State.pushFrame, State.frames_setTop _ hr', State.setTop_of_frames _ hr', State.setFrames_setFrames, hr]
      rfl
    have hsame : U.sameButNew ({ U with heap := s₂.heap, slotsUsed := s₂.slotsUsed } : State) L mc ms := by
      refine ⟨?_, q2, q3, q4, q5, q6⟩
      obtain ⟨t, ht, -⟩ := State.frames_cons hr
      show ({ U with heap := s₂.heap, slotsUsed := s₂.slotsUsed } : State) = { U.setFrames U.frames with heap := s₂.heap, slotsUsed := s₂.slotsUsed }
      rw [State.setFrames_self ht]
    subst hg
    refine Or.inr ⟨q, ⟨(({ U with heap := s₂.heap, slotsUsed := s₂.slotsUsed } : State).setVm s₂.vm), Ls ++ L, c0 + mc, s0 + ms⟩,
      ⟨X.admits, X.cas, X.clock, X.frames, X.room, X.hears, X.method, X.code, (X.here.setHeapUsed s₂.heap s₂.slotsUsed).setVm hW'.alike, X.tail, State.WarmedH.trans X.warmed hW', X.limits, X.bytes, X.same.trans (hsame.setVm s.vm)⟩,
      ⟨g, mk, s₂, L, E, ce, rfl, rfl, hx, hce, hcv, hcl, rfl, hL, rfl, rfl⟩, ?_⟩
    show Steps p.tables e below _ (((({ U with heap := s₂.heap, slotsUsed := s₂.slotsUsed } : State).setVm s₂.vm).setTop g).pushFrame (.throwing q))
    rw [← hs₂]
    exact hsteps
end
variable {p : Program} {l : Launch} {e : Env} {R : Room} {s : State} {m : MethodId} {args : Array Value} {below : List Frame} {meth : Method} {c : Code} {T : State} {H : Heap} {locs : List Loc} {cells slots : Nat}
theorem vx_callVX (X : Stand p l e R s m args below meth c T locs cells slots) (hexec : p.tables.exec = Jvm.exec) {own C : String} {index : Nat} {y : MethodName} {bytes : ByteArray} {maxL : Nat} {ret : Option FieldType} {hh : List (Nat × Nat × Nat × Nat)}
    (hown : s.vm.findClass own = some m.cls) (hlink : (Cond.methodLink own index y).before args s = true) (hinst : (Cond.instanceMethod y).before args s = true) (hsel : (Cond.selects C y y).before args s = true)
    (hcode : (Cond.codeWith y bytes maxL ret hh).before args s = true) (hy : y.cls ≠ "java/lang/invoke/MethodHandle" ∧ y.cls ≠ "java/lang/invoke/VarHandle")
    {W9 : Nat} {Pre : Pt → Array Value → Prop} {Post : Pt → Array Value → Option Value → Pt → Prop} {PostX : Pt → Array Value → Addr → Pt → Prop} (hK : vx_Back l R p e below s args y 3 W9 Pre Post PostX)
    {b : Addr} {cellB : Cell} (hcell : T.heap[b]? = some cellB) (hobj : cellB.vm.isStatics = false) (hcls : s.vm.findClass C = some cellB.cls)
    {g : JFrame} (hg : g.method = m) (hsize : g.locals.size = c.maxLocals) {argsL rest : List Value} (hlen : ∀ sig, parseMethodDescriptor y.desc = some sig → argsL.length = sig.parameters.length)
    (hstack : g.stack = argsL.reverse ++ .ref b :: rest) (hW : 2 * g.monitorRoom + (rest.map fun v => v.category).sum ≤ W9) (hdg : decode c.code g.pc = .ok (.invokevirtual index, 3))
    (hpre : ∀ vm₁, s.WarmedH vm₁ → Pre ⟨T.setVm vm₁, locs, cells, slots⟩ (Value.ref b :: argsL).toArray) :
    (∃ (v : Option Value) (vm₁ : Vm) (B : Pt), s.WarmedH vm₁ ∧ Stand p l e R s m args below meth c B.U B.locs B.cells B.slots ∧ Post ⟨T.setVm vm₁, locs, cells, slots⟩ (Value.ref b :: argsL).toArray v B ∧
      ∀ target, Steps p.tables e below (B.U.setTop { g with pc := g.pc + 3, stack := v.toList ++ rest }) target → Steps p.tables e below (T.setTop g) target) ∨
    (∃ (q : Addr) (vm₁ : Vm) (B : Pt), s.WarmedH vm₁ ∧ Stand p l e R s m args below meth c B.U B.locs B.cells B.slots ∧ PostX ⟨T.setVm vm₁, locs, cells, slots⟩ (Value.ref b :: argsL).toArray q B ∧
      Steps p.tables e below (T.setTop g) ((B.U.setTop { g with stack := rest }).pushFrame (.throwing q))) := by
  obtain ⟨mk, methM, hnamed, hmethM, hstM, habM⟩ := Cond.instanceMethod_spec hinst
  obtain ⟨m8, methM', cM, hn8, hmethM', -, -, -, -, -, -, hsigM⟩ := Cond.codeWith_spec hcode
  cases Option.some.inj (hn8.symm.trans hnamed)
  cases hmethM.symm.trans hmethM'
  obtain ⟨c2, r2, m2, q1, q2, q3, q4, kP, hkP, hkPi⟩ := Cond.selects_spec hsel
  cases hcls.symm.trans q1
  cases (State.methodFound?_of_named hnamed hy).symm.trans q2
  cases hnamed.symm.trans q3
  have hselP : selectMethod e.platform s.vm cellB.cls mk = .method mk := by rw [Launch.admits_selectMethod X.admits]; exact q4
  obtain ⟨vm₁, X₁, hstep₁⟩ := X.invokevirtual hexec hown hlink hnamed hmethM hstM hkP hkPi hy (a := b) (cell := cellB) hcell
    (fun z h => by rw [h] at hobj; cases hobj) hselP hmethM habM hkP hkPi (g := g) hg (argsL := argsL) (rest := rest) (hlen _ hsigM) hstack hdg
  rcases hK m meth c ⟨T.setVm vm₁, locs, cells, slots⟩ { g with stack := rest } (.invokevirtual index) mk (Value.ref b :: argsL).toArray X₁ hg hsize hdg hW (X₁.named hnamed) (hpre vm₁ X₁.warmed) with ⟨v, B, X', hpost, hsteps⟩ | ⟨q, B, X', hpost, hsteps⟩
  · exact Or.inl ⟨v, vm₁, B, X₁.warmed, X', hpost, fun target h => hstep₁ _ fun acts => by rw [doInvoke_state]; exact hsteps.trans h⟩
  · exact Or.inr ⟨q, vm₁, B, X₁.warmed, X', hpost, hstep₁ _ fun acts => by rw [doInvoke_state]; exact hsteps⟩
theorem vx_callSX (X : Stand p l e R s m args below meth c T locs cells slots) (hexec : p.tables.exec = Jvm.exec) {own : String} {index : Nat} {y : MethodName} {bytes : ByteArray} {maxL : Nat} {ret : Option FieldType} {hh : List (Nat × Nat × Nat × Nat)}
    (hown : s.vm.findClass own = some m.cls) (hlink : (Cond.methodLink own index y).before args s = true) (hstat : (Cond.static y).before args s = true) (hinit : (Cond.initialized y.cls).before args s = true)
    (hcode : (Cond.codeWith y bytes maxL ret hh).before args s = true) (hy : y.cls ≠ "java/lang/invoke/MethodHandle" ∧ y.cls ≠ "java/lang/invoke/VarHandle")
    {W9 : Nat} {Pre : Pt → Array Value → Prop} {Post : Pt → Array Value → Option Value → Pt → Prop} {PostX : Pt → Array Value → Addr → Pt → Prop} (hK : vx_Back l R p e below s args y 3 W9 Pre Post PostX)
    {g : JFrame} (hg : g.method = m) (hsize : g.locals.size = c.maxLocals) {argsL rest : List Value} (hlen : ∀ sig, parseMethodDescriptor y.desc = some sig → argsL.length = sig.parameters.length)
    (hstack : g.stack = argsL.reverse ++ rest) (hW : 2 * g.monitorRoom + (rest.map fun v => v.category).sum ≤ W9) (hdg : decode c.code g.pc = .ok (.invokestatic index, 3))
    (hpre : ∀ vm₁, s.WarmedH vm₁ → Pre ⟨T.setVm vm₁, locs, cells, slots⟩ argsL.toArray) :
    (∃ (v : Option Value) (vm₁ : Vm) (B : Pt), s.WarmedH vm₁ ∧ Stand p l e R s m args below meth c B.U B.locs B.cells B.slots ∧ Post ⟨T.setVm vm₁, locs, cells, slots⟩ argsL.toArray v B ∧
      ∀ target, Steps p.tables e below (B.U.setTop { g with pc := g.pc + 3, stack := v.toList ++ rest }) target → Steps p.tables e below (T.setTop g) target) ∨
    (∃ (q : Addr) (vm₁ : Vm) (B : Pt), s.WarmedH vm₁ ∧ Stand p l e R s m args below meth c B.U B.locs B.cells B.slots ∧ PostX ⟨T.setVm vm₁, locs, cells, slots⟩ argsL.toArray q B ∧
      Steps p.tables e below (T.setTop g) ((B.U.setTop { g with stack := rest }).pushFrame (.throwing q))) := by
  obtain ⟨mk, methM, cM, hnamed, hmethM, -, -, -, -, -, -, hsigM⟩ := Cond.codeWith_spec hcode
  have hstatic : methM.isStatic = true := Cond.static_spec hnamed hmethM hstat
  obtain ⟨kP, hkP, -⟩ := className_of_methodNamed hnamed
  have hinitP : kP.init = .initialized := Cond.initialized_spec (findClass_of_methodNamed hnamed) hkP hinit
  obtain ⟨vm₁, X₁, hstep₁⟩ := X.invokestatic hexec hown hlink hnamed hmethM hstatic hkP hinitP hy (g := g) hg (argsL := argsL) (rest := rest) (hlen _ hsigM) hstack hdg
  rcases hK m meth c ⟨T.setVm vm₁, locs, cells, slots⟩ { g with stack := rest } (.invokestatic index) mk argsL.toArray X₁ hg hsize hdg hW (X₁.named hnamed) (hpre vm₁ X₁.warmed) with ⟨v, B, X', hpost, hsteps⟩ | ⟨q, B, X', hpost, hsteps⟩
  · exact Or.inl ⟨v, vm₁, B, X₁.warmed, X', hpost, fun target h => hstep₁ _ fun acts => by rw [doInvoke_state]; exact hsteps.trans h⟩
  · exact Or.inr ⟨q, vm₁, B, X₁.warmed, X', hpost, hstep₁ _ fun acts => by rw [doInvoke_state]; exact hsteps⟩
theorem vx_callVW (X : Stand p l e R s m args below meth c T locs cells slots) (hexec : p.tables.exec = Jvm.exec) {own C : String} {index : Nat} {y : MethodName} {bytes : ByteArray} {maxL : Nat} {ret : Option FieldType} {hh : List (Nat × Nat × Nat × Nat)}
    (hown : s.vm.findClass own = some m.cls) (hlink : (Cond.methodLink own index y).before args s = true) (hinst : (Cond.instanceMethod y).before args s = true) (hsel : (Cond.selects C y y).before args s = true)
    (hcode : (Cond.codeWith y bytes maxL ret hh).before args s = true) (hy : y.cls ≠ "java/lang/invoke/MethodHandle" ∧ y.cls ≠ "java/lang/invoke/VarHandle")
    {W9 : Nat} {Pre : Pt → Array Value → Prop} {Post : Pt → Array Value → Option Value → Pt → Prop} (hK : Back l R p e below s args y 3 W9 Pre Post)
    {b : Addr} {cellB : Cell} (hcell : T.heap[b]? = some cellB) (hobj : cellB.vm.isStatics = false) (hcls : s.vm.findClass C = some cellB.cls)
    {g : JFrame} (hg : g.method = m) (hsize : g.locals.size = c.maxLocals) {argsL rest : List Value} (hlen : ∀ sig, parseMethodDescriptor y.desc = some sig → argsL.length = sig.parameters.length)
    (hstack : g.stack = argsL.reverse ++ .ref b :: rest) (hW : 2 * g.monitorRoom + (rest.map fun v => v.category).sum ≤ W9) (hdg : decode c.code g.pc = .ok (.invokevirtual index, 3))
    (hpre : ∀ vm₁, s.WarmedH vm₁ → Pre ⟨T.setVm vm₁, locs, cells, slots⟩ (Value.ref b :: argsL).toArray) :
    ∃ (v : Option Value) (vm₁ : Vm) (B : Pt), s.WarmedH vm₁ ∧ Stand p l e R s m args below meth c B.U B.locs B.cells B.slots ∧ Post ⟨T.setVm vm₁, locs, cells, slots⟩ (Value.ref b :: argsL).toArray v B ∧
      ∀ target, Steps p.tables e below (B.U.setTop { g with pc := g.pc + 3, stack := v.toList ++ rest }) target → Steps p.tables e below (T.setTop g) target := by
  obtain ⟨mk, methM, hnamed, hmethM, hstM, habM⟩ := Cond.instanceMethod_spec hinst
  obtain ⟨m8, methM', cM, hn8, hmethM', -, -, -, -, -, -, hsigM⟩ := Cond.codeWith_spec hcode
  cases Option.some.inj (hn8.symm.trans hnamed)
  cases hmethM.symm.trans hmethM'
  obtain ⟨c2, r2, m2, q1, q2, q3, q4, kP, hkP, hkPi⟩ := Cond.selects_spec hsel
  cases hcls.symm.trans q1
  cases (State.methodFound?_of_named hnamed hy).symm.trans q2
  cases hnamed.symm.trans q3
  have hselP : selectMethod e.platform s.vm cellB.cls mk = .method mk := by rw [Launch.admits_selectMethod X.admits]; exact q4
  obtain ⟨vm₁, X₁, hstep₁⟩ := X.invokevirtual hexec hown hlink hnamed hmethM hstM hkP hkPi hy (a := b) (cell := cellB) hcell
    (fun z h => by rw [h] at hobj; cases hobj) hselP hmethM habM hkP hkPi (g := g) hg (argsL := argsL) (rest := rest) (hlen _ hsigM) hstack hdg
  obtain ⟨v, B, X', hpost, hsteps⟩ := hK m meth c ⟨T.setVm vm₁, locs, cells, slots⟩ { g with stack := rest } (.invokevirtual index) mk (Value.ref b :: argsL).toArray X₁ hg hsize hdg hW (X₁.named hnamed) (hpre vm₁ X₁.warmed)
  exact ⟨v, vm₁, B, X₁.warmed, X', hpost, fun target h => hstep₁ _ fun acts => by rw [doInvoke_state]; exact hsteps.trans h⟩
abbrev vx_CVW (R : Room) (s : State) (args : Array Value) (own C : String) (index : Nat) (y : MethodName) (bytes : ByteArray) (maxL : Nat) (ret : Option FieldType) (hh : List (Nat × Nat × Nat × Nat)) (ws : List Cond) (rm : Room) (mc ms n : Nat) : Prop :=
  (rm.cells = mc ∧ rm.slots = ms ∧ rm.frames + 1 ≤ R.frames ∧ 8 + (maxL + 11) + rm.locals ≤ R.locals ∧ (∀ w ∈ ws, ∀ (a' : Array Value) (U : State), s.WarmedH U.vm → w.before a' U = true) ∧ Cond.codeWith y bytes maxL ret hh ∈ ws) ∧
  (Cond.codeWith y bytes maxL ret hh).before args s = true ∧ (Cond.initialized y.cls).before args s = true ∧ (y.cls ≠ "java/lang/invoke/MethodHandle" ∧ y.cls ≠ "java/lang/invoke/VarHandle") ∧
  (∀ sig, parseMethodDescriptor y.desc = some sig → n = sig.parameters.length) ∧ (Cond.methodLink own index y).before args s = true ∧ (Cond.instanceMethod y).before args s = true ∧ (Cond.selects C y y).before args s = true
theorem vx_cwVW {own C : String} {index maxL mc ms : Nat} {y : MethodName} {bytes : ByteArray} {ret : Option FieldType} {hh : List (Nat × Nat × Nat × Nat)} {Ts ws ws' : List Cond} {rm : Room} (n : Nat) (ht : ∀ w ∈ Ts, w.before args s = true) (hT : GoodIn Ts (wsV own index C y ws)) (hw : ws = Cond.codeWith y bytes maxL ret hh :: ws') (hrc : rm.cells = mc) (hrs : rm.slots = ms)
    (hd : y.cls = C ∧ y.cls ≠ "java/lang/invoke/MethodHandle" ∧ y.cls ≠ "java/lang/invoke/VarHandle" ∧ (parseMethodDescriptor y.desc).map (fun d => d.parameters.length) = some n) (hR : rm.frames + 1 ≤ R.frames ∧ 8 + (maxL + 11) + rm.locals ≤ R.locals) :
    vx_CVW R s args own C index y bytes maxL ret hh ws rm mc ms n := by
  obtain ⟨hC, hd⟩ := hd
  subst hC
  have ok : ∀ w ∈ wsV own index y.cls y ws, w.before args s = true := fun w h => ht w (hT w h).1
  have hG : GoodIn Ts ws := fun w h => hT w (by unfold wsV; exact List.mem_append_right _ h)
  have hc : Cond.codeWith y bytes maxL ret hh ∈ ws := by rw [hw]; exact List.mem_cons_self
  refine ⟨⟨hrc, hrs, hR.1, hR.2, pay_in ht hG, hc⟩, ht _ (hG _ hc).1, ok _ (by simp [wsV]), ⟨hd.1, hd.2.1⟩, fun sig h => ?_, ok _ (by simp [wsV]), ok _ (by simp [wsV]), ok _ (by simp [wsV])⟩
  have h2 := hd.2.2
  rw [h] at h2
  exact (Option.some.inj h2).symm
theorem vx_runVW {y : MethodName} {bytes cc : ByteArray} {maxL nL mc ms n index : Nat} {ret : Option FieldType} {hh : List (Nat × Nat × Nat × Nat)} {ws : List Cond} {rm : Room} {Pc : Array Value → State → Prop} {Qc : Array Value → State → Outcome → State → Prop} {free : Addr → Prop} {Ts : List Cond} {own C : String} {b : Addr} {As rest : List Value} {g : JFrame}
    (S : CallFix p m c cc nL s args Ts own) (hM : Met l y ws rm Pc Qc mc ms free) (cw : vx_CVW R s args own C index y bytes maxL ret hh ws rm mc ms n) (hp : PreV s H C b Pc As)
    (hg : g.method = m) (hn : As.length = n) (hsize : g.locals.size = nL) (hstack : g.stack = As.reverse ++ .ref b :: rest) (hW : 2 * g.monitorRoom + (rest.map fun v => v.category).sum ≤ 8) (hdg : decode cc g.pc = .ok (.invokevirtual index, 3)) (hf : cells + mc ≤ R.cells ∧ slots + ms ≤ R.slots) :
    va_Run p l e R s m args below meth c H locs cells slots mc ms g rest (Qc (Value.ref b :: As).toArray) free := by
  obtain ⟨⟨hrc, hrs, hfr, hlo, hws, hcw⟩, hcode, hini, hy, hlen, hl, hin, hse⟩ := cw
  have hK : Back l R p e below s args y 3 8 (PreOf R mc ms Pc) (PostOf Qc mc ms free) := va_backW (hh := hh) (bytes := bytes) (maxL := maxL) (ret := ret) hM hp.1 hrc hrs hfr hlo hws hcw (fun a' U hW => word_at hW (Or.inl (by first | rfl | simp [Cond.onTables, Cond.keeps, Cond.steady])) hini)
  obtain ⟨hx, hb, hml, ho, -⟩ := S
  obtain ⟨-, ⟨cellB, hcB, hoB, hclB⟩, hPc⟩ := hp
  intro T hT X
  obtain ⟨v, vm₁, ⟨U', l2, c2, s2⟩, hW₁, X', ⟨g', mk, t, L, e1, e2, hq, h1, hL, h2, h3⟩, st⟩ := vx_callVW X hx (C := C) (hh := hh) (bytes := bytes) (maxL := maxL) (ret := ret) ho hl hin hse hcode hy hK (by rw [hT]; exact hcB) hoB hclB hg (hsize.trans hml.symm) (argsL := As) (rest := rest) (fun sig h => hn.trans (hlen sig h)) hstack hW (by rw [hb]; exact hdg)
    (fun vm₁ hW₁ => ⟨hf.1, hf.2, hPc (T.setVm vm₁) hT hW₁⟩)
  dsimp only [Pt.U, Pt.locs, Pt.cells, Pt.slots] at X' e1 e2 h1 h2 h3 st
  subst h1; subst h2; subst h3
  exact ⟨v, (T.setVm vm₁).calling g' mk (Value.ref b :: As).toArray, t, U', L, hT, X', hL, e1, e2, hq, st⟩
section
variable {y : MethodName} {bytes cc : ByteArray} {maxL nL mc ms n index : Nat} {ret : Option FieldType} {ws : List Cond} {rm : Room} {Pc : Array Value → State → Prop} {Qc : Array Value → State → Outcome → State → Prop} {XC : String → State → State → Prop} {free : Addr → Prop} {Ts : List Cond} {own C : String} {b : Addr} {As rest : List Value} {g : JFrame}
theorem vx_runVX {hh : List (Nat × Nat × Nat × Nat)} (S : CallFix p m c cc nL s args Ts own) (hM : vx_Met l y ws rm Pc Qc XC mc ms free) (cw : vx_CVW R s args own C index y bytes maxL ret hh ws rm mc ms n) (hp : PreV s H C b Pc As)
    (hg : g.method = m) (hn : As.length = n) (hsize : g.locals.size = nL) (hstack : g.stack = As.reverse ++ .ref b :: rest) (hW : 2 * g.monitorRoom + (rest.map fun v => v.category).sum ≤ 8) (hdg : decode cc g.pc = .ok (.invokevirtual index, 3)) (hf : cells + mc ≤ R.cells ∧ slots + ms ≤ R.slots) :
    vx_Run p l e R s m args below meth c H locs cells slots mc ms g rest (Qc (Value.ref b :: As).toArray) XC free := by
  obtain ⟨⟨hrc, hrs, hfr, hlo, hws, hcw⟩, hcode, hini, hy, hlen, hl, hin, hse⟩ := cw
  have hK : vx_Back l R p e below s args y 3 8 (PreOf R mc ms Pc) (PostOf Qc mc ms free) (vx_Post XC mc ms free) := vx_backW (hh := hh) (bytes := bytes) (maxL := maxL) (ret := ret) hM hp.1 hrc hrs hfr hlo hws hcw (fun a' U hW => word_at hW (Or.inl (by first | rfl | simp [Cond.onTables, Cond.keeps, Cond.steady])) hini)
  obtain ⟨hx, hb, hml, ho, -⟩ := S
  obtain ⟨-, ⟨cellB, hcB, hoB, hclB⟩, hPc⟩ := hp
  intro T hT X
  rcases vx_callVX X hx (C := C) (hh := hh) (bytes := bytes) (maxL := maxL) (ret := ret) ho hl hin hse hcode hy hK (by rw [hT]; exact hcB) hoB hclB hg (hsize.trans hml.symm) (argsL := As) (rest := rest) (fun sig h => hn.trans (hlen sig h)) hstack hW (by rw [hb]; exact hdg)
    (fun vm₁ hW₁ => ⟨hf.1, hf.2, hPc (T.setVm vm₁) hT hW₁⟩) with ⟨v, vm₁, ⟨U', l2, c2, s2⟩, hW₁, X', ⟨g', mk, t, L, e1, e2, hq, h1, hL, h2, h3⟩, st⟩ | ⟨q, vm₁, ⟨U', l2, c2, s2⟩, hW₁, X', ⟨g', mk, t, L, E, ce, e1, e2, hq, hce, hcv, hcl, h1, hL, h2, h3⟩, st⟩
  · dsimp only [Pt.U, Pt.locs, Pt.cells, Pt.slots] at X' e1 e2 h1 h2 h3 st
    subst h1; subst h2; subst h3
    exact Or.inl ⟨v, (T.setVm vm₁).calling g' mk (Value.ref b :: As).toArray, t, U', L, hT, X', hL, e1, e2, hq, st⟩
  · dsimp only [Pt.U, Pt.locs, Pt.cells, Pt.slots] at X' e1 e2 h1 h2 h3 st hcl
    subst h1; subst h2; subst h3
    exact Or.inr ⟨q, (T.setVm vm₁).calling g' mk (Value.ref b :: As).toArray, t, U', L, E, ce, hT, X', hL, e1, e2, hq, hce, hcv, vx_cls hW₁ hcl, st⟩
theorem vx_runSX {hh : List (Nat × Nat × Nat × Nat)} (S : CallFix p m c cc nL s args Ts own) (hM : vx_Met l y ws rm Pc Qc XC mc ms free) (cw : vx_CSW R s args own index y bytes maxL ret hh ws rm mc ms n) (hp : PreS s H Pc As)
    (hg : g.method = m) (hn : As.length = n) (hsize : g.locals.size = nL) (hstack : g.stack = As.reverse ++ rest) (hW : 2 * g.monitorRoom + (rest.map fun v => v.category).sum ≤ 8) (hdg : decode cc g.pc = .ok (.invokestatic index, 3)) (hf : cells + mc ≤ R.cells ∧ slots + ms ≤ R.slots) :
    vx_Run p l e R s m args below meth c H locs cells slots mc ms g rest (Qc As.toArray) XC free := by
  obtain ⟨⟨hrc, hrs, hfr, hlo, hws, hcw⟩, hcode, hini, hy, hlen, hl, hstt⟩ := cw
  have hK : vx_Back l R p e below s args y 3 8 (PreOf R mc ms Pc) (PostOf Qc mc ms free) (vx_Post XC mc ms free) := vx_backW (hh := hh) (bytes := bytes) (maxL := maxL) (ret := ret) hM hp.1 hrc hrs hfr hlo hws hcw (fun a' U hW => word_at hW (Or.inl (by first | rfl | simp [Cond.onTables, Cond.keeps, Cond.steady])) hini)
  obtain ⟨hx, hb, hml, ho, -⟩ := S
  intro T hT X
  rcases vx_callSX X hx (hh := hh) (bytes := bytes) (maxL := maxL) (ret := ret) ho hl hstt hini hcode hy hK hg (hsize.trans hml.symm) (argsL := As) (rest := rest) (fun sig h => hn.trans (hlen sig h)) hstack hW (by rw [hb]; exact hdg)
    (fun vm₁ hW₁ => ⟨hf.1, hf.2, hp.2 (T.setVm vm₁) hT hW₁⟩) with ⟨v, vm₁, ⟨U', l2, c2, s2⟩, hW₁, X', ⟨g', mk, t, L, e1, e2, hq, h1, hL, h2, h3⟩, st⟩ | ⟨q, vm₁, ⟨U', l2, c2, s2⟩, hW₁, X', ⟨g', mk, t, L, E, ce, e1, e2, hq, hce, hcv, hcl, h1, hL, h2, h3⟩, st⟩
  · dsimp only [Pt.U, Pt.locs, Pt.cells, Pt.slots] at X' e1 e2 h1 h2 h3 st
    subst h1; subst h2; subst h3
    exact Or.inl ⟨v, (T.setVm vm₁).calling g' mk As.toArray, t, U', L, hT, X', hL, e1, e2, hq, st⟩
  · dsimp only [Pt.U, Pt.locs, Pt.cells, Pt.slots] at X' e1 e2 h1 h2 h3 st hcl
    subst h1; subst h2; subst h3
    exact Or.inr ⟨q, (T.setVm vm₁).calling g' mk As.toArray, t, U', L, E, ce, hT, X', hL, e1, e2, hq, hce, hcv, vx_cls hW₁ hcl, st⟩
end
end VXH
theorem vx_ofWH {l : Launch} {y : MethodName} {ws ws' : List Cond} {rm : Room} {Pc : Array Value → State → Prop} {Qc : Array Value → State → Outcome → State → Prop} {XC : String → State → State → Prop} {mc ms : Nat} {free : Addr → Prop} {cc : ByteArray} {maxL : Nat} {ret : Option FieldType} {hh : List (Nat × Nat × Nat × Nat)}
    (hy : plainName y.cls = true) (hw : ws = Cond.codeWith y cc maxL ret hh :: ws')
    (body : ∀ p e s m args below meth c s₁, BodyLoose p l y (headSpec ws rm) cc maxL ret e s m args below meth c s₁ → c.maxLocals = maxL → Pc args s →
      W p l e (headSpec ws rm).room s m args below meth c s.heap [] 0 0 (vx_MQ below Qc XC args s mc ms free) (entryFrame m args maxL)) : vx_Met l y ws rm Pc Qc XC mc ms free := by
  refine MetFree.of_bodyS (code := cc) (maxLocals := maxL) (ret := ret) hy ?_ ?_
  · intro args s m h hn
    obtain ⟨m9, meth, c, hn9, h1, h2, h3, h4, -, h5, h6, -⟩ := Cond.codeWith_spec (atoms_spec (ws := ws) h _ (by rw [hw]; exact List.mem_cons_self))
    cases hn.symm.trans hn9
    exact ⟨meth, c, h1, h2, h3, h4, h5, h6⟩
  · intro p e s m args below meth c s₁ B hml hP _
    have hh0 : s₁.heap = s.heap := by rw [B.state]; rfl
    obtain ⟨t, a1, o, b1, b2, b3⟩ := body p e s m args below meth c s₁ B hml hP s₁ hh0 (Stand.of_body B)
    exact ⟨t, o, a1, b1, b2, b3⟩
/-! ===== END ===== -/

/-! ===== BEGIN what the machine throws by itself, no traces kept ===== -/
section VXM
set_option maxHeartbeats 1000000 in
/-- the machine throws cls with the message text, no traces kept: from its note over the frame g to 'throwing' over the same frame (follows the proofs of Stand.vmThrowsMessage, Shelf/KitTracedVmS.lean, and Stand.throwsMessageColdBareV, StandMessageColdV.lean, without the step out of the frame) -/
theorem vx_vmAt {p : Program} {l : Launch} {e : Env} {R : Room} {s : State} {m₀ : MethodId} {args : Array Value} {below : List Frame} {meth : Method} {c : Code} {W : State} {locs : List Loc} {cells slots : Nat}
    (X : Stand p l e R s m₀ args below meth c W locs cells slots) (hexec : p.tables.exec = Jvm.exec) (htr : e.platform.stackTraces = false) {cls : String} {names : List String} {text : String}
    (hcls : Bundle.fit cls = true) (hnames : ∀ n ∈ names, Bundle.fit n = true) (hsoe : (cls == "java/lang/StackOverflowError") = false) (hoom : (cls == "java/lang/OutOfMemoryError") = false)
    (h : ∀ a ∈ Bundle.messageArmAtoms cls names, a.before args s = true)
    (hlocs : ∀ x ∈ locs, ∀ cell, s.heap[x.base]? = some cell → cell.vm.isStatics = false)
    (htext : (text == notModelled) = false) (hlimit : ¬ (stringBytes (stringToUtf16 text)).size > e.platform.arrayLengthLimit) (hheap : ¬ (stringBytes (stringToUtf16 text)).size * componentBytes .byte > e.platform.maxHeapBytes)
    {g : JFrame} (hg : g.method = m₀) (hsize : g.locals.size = c.maxLocals)
    (hRframes : names.length + 4 < R.frames) (hRlocals : 2 * g.monitorRoom + (g.stack.map fun v => v.category).sum + 10240 ≤ R.locals) (hshort : 13 * names.length + 55 ≤ 10240)
    (hRcells : cells + 3 ≤ R.cells) (hRslots : slots + ((stringBytes (stringToUtf16 text)).size + 4 + 6) ≤ R.slots) (hlocks : meth.locks = false) :
    ∃ (S : State) (q : Addr) (ce : Cell), (∀ target, Steps p.tables e below ((S.setTop g).pushFrame (.throwing q)) target → Steps p.tables e below ((W.setTop g).pushFrame (.throwNew cls (some text) none)) target) ∧
      Stand p l e R s m₀ args below meth c S locs (cells + 3) (slots + ((stringBytes (stringToUtf16 text)).size + 4 + 6)) ∧ S.heap[q]? = some ce ∧ s.vm.findClass cls = some ce.cls ∧ ce.vm = .none := by
  have howns : e.platform.frameOwnsMonitors = true := by rw [X.admits.platform]
  have hfin : e.platform.finalization = false := by rw [X.admits.platform]
  have hpl : e.platform.magicAccessors = ({} : Platform).magicAccessors := by rw [X.admits.platform]
  have a : ∀ x, x ∈ Bundle.messageArmAtoms cls names → x.holds args s none s [] = true := fun x hx => h x hx
  obtain ⟨T, Z0, L, -, Y⟩ := ThrowableC.of_atoms (args := args) howns hfin hpl (fun x hx => h x (by simp [Bundle.messageArmAtoms, hx]))
  obtain ⟨Z, M, LZ, LM, hnZ⟩ := Init0T.ofS_atoms (args := args) hpl L Y (fun x hx => h x (by simp [Bundle.messageArmAtoms, hx]))
  obtain ⟨P1, Ps, hlen, L1, hL, hP1m, hlink1, hlink⟩ := Bundle.chainS (args := args) hpl hnZ names cls hcls hnames (fun x hx => h x (by simp [Bundle.messageArmAtoms, hx]))
  obtain ⟨Zs, LZs, hn4, hfitv, hfitc⟩ := StringT.of_atoms (args := args) (fun x hx => h x (by simp [Bundle.messageArmAtoms, hx]))
  have hfound : s.vm.findClass cls = some P1.m.cls := findClass_of_methodNamed hP1m
  obtain ⟨c1, kX, hc1, hk, hord, -, -, hn6⟩ := Cond.instantiable_spec (a (.instantiable cls 6) (by simp [Bundle.messageArmAtoms]))
  cases Option.some.inj (hc1.symm.trans hfound)
  have hinit := Cond.initialized_spec hfound hk (a (.initialized cls) (by simp [Bundle.messageArmAtoms]))
  have hctor : kX.findMethod "<init>" "(Ljava/lang/String;)V" = some P1.m.idx := findMethod_of_methodNamed hP1m hk
  have hsel0 : selectMethod e.platform s.vm P1.m.cls T.fill0 = .method T.fill0 := by
    obtain ⟨c2, r2, m2, q1, q2, q3, q4, -⟩ := Cond.selects_spec (a (.selects cls Bundle.tFill0 Bundle.tFill0) (by simp [Bundle.messageArmAtoms]))
    cases Option.some.inj (q1.symm.trans hfound)
    cases Option.some.inj (q2.symm.trans (State.methodFound?_of_named Y.fill0 (by decide)))
    cases Option.some.inj (q3.symm.trans Y.fill0)
    rw [Launch.admits_selectMethod X.admits]; exact q4
  have hselF : selectMethod e.platform s.vm P1.m.cls T.fill = .method T.fill := by
    obtain ⟨c2, r2, m2, q1, q2, q3, q4, -⟩ := Cond.selects_spec (a (.selects cls Bundle.tFill Bundle.tFill) (by simp [Bundle.messageArmAtoms]))
    cases Option.some.inj (q1.symm.trans hfound)
    cases Option.some.inj (q2.symm.trans (State.methodFound?_of_named Y.fill (by decide)))
    cases Option.some.inj (q3.symm.trans Y.fill)
    rw [Launch.admits_selectMethod X.admits]; exact q4
  obtain ⟨cellS0, hcS0, hiss⟩ := Y.statics
  obtain ⟨u0, hu0⟩ := Cond.staticRefV Y.unassigned L.unassignedStatic L.statics hcS0 hiss (a (.isRef (.static Bundle.tN "UNASSIGNED_STACK" Bundle.steD)) (by simp [Bundle.messageArmAtoms]))
  obtain ⟨sen, hsen⟩ := Cond.staticRefV Y.sentinel L.sentinelStatic L.statics hcS0 hiss (a (.isRef (.static Bundle.tN "SUPPRESSED_SENTINEL" Bundle.listD)) (by simp [Bundle.messageArmAtoms]))
  obtain ⟨ci198, i198, fB, hk198, hg198, ha198, hsB, -, hnB, htB, hffB⟩ := Cond.ownField (t := .object "java/lang/Object") Y.found L.cls (by decide +kernel) (a (.fieldLink Bundle.tN 198 Bundle.tN "backtrace" "Ljava/lang/Object;") (by simp [Bundle.messageArmAtoms])) (a (.lays Bundle.tN Bundle.tN "backtrace" "Ljava/lang/Object;") (by simp [Bundle.messageArmAtoms])) e.platform hpl
  obtain ⟨cellS, hcS', heS, -, hkeep⟩ := X.same.2.2.2.2.2 T.aS cellS0 hcS0
  have hcellS : W.heap[T.aS]? = some cellS := hcS'
  have hout' : ∀ i, (⟨T.aS, i⟩ : Loc) ∉ locs := fun i hmem => by
    have := hlocs _ hmem cellS0 hcS0
    rw [hiss] at this; cases this
  have hknownS : cellS.vm ≠ .unknown := by
    rw [heS]; intro hu
    rw [show cellS0.vm = .unknown from hu] at hiss
    cases hiss
  have hvU : cellS.slots[T.fUnassigned.slot]? = some u0.v := by rw [hkeep _ (hout' _)]; exact hu0
  have hvSen : cellS.slots[T.fSentinel.slot]? = some sen.v := by rw [hkeep _ (hout' _)]; exact hsen
  obtain ⟨iM, hffM⟩ := Y.msg
  obtain ⟨tyC, dC, hdC, hdnC⟩ := Cond.laysAt hfound hk Y.cause (a (.lays cls Bundle.tN "cause" "Ljava/lang/Throwable;") (by simp [Bundle.messageArmAtoms]))
  obtain ⟨tyS, dS, hdS, hdnS⟩ := Cond.laysAt hfound hk Y.stack (a (.lays cls Bundle.tN "stackTrace" Bundle.steD) (by simp [Bundle.messageArmAtoms]))
  obtain ⟨tyP, dP, hdP, hdnP⟩ := Cond.laysAt hfound hk Y.supp (a (.lays cls Bundle.tN "suppressedExceptions" Bundle.listD) (by simp [Bundle.messageArmAtoms]))
  obtain ⟨tyM, dM, hdM, hdnM⟩ := Cond.laysAt hfound hk hffM (a (.lays cls Bundle.tN "detailMessage" "Ljava/lang/String;") (by simp [Bundle.messageArmAtoms]))
  obtain ⟨tyB, dB, hdB, hdnB⟩ := Cond.laysAt hfound hk hffB (a (.lays cls Bundle.tN "backtrace" "Ljava/lang/Object;") (by simp [Bundle.messageArmAtoms]))
  have bC := Cond.laysApart hdB hdC hdnB hdnC (by rw [hnB, Y.causeName]; decide)
  have bS := Cond.laysApart hdB hdS hdnB hdnS (by rw [hnB, Y.stackName]; decide)
  have bP := Cond.laysApart hdB hdP hdnB hdnP (by rw [hnB, Y.suppName]; decide)
  have hbk : ((preparedCellV T.toThrowableT (freshCell P1.m.cls kX) (W.heap.size + 2) u0 sen).withEntry W.cur).slots[fB.slot]? = some .null := by
    have := fresh_default (c := P1.m.cls) tyB
    rw [htB] at this
    simpa [preparedCellV, Cell.setSlot, Cell.withEntry, Array.getElem?_setIfInBounds, bC, bS, bP, bC.symm, bS.symm, bP.symm, defaultValue] using this
  have tkC := Takes.of_laid (v := .ref (W.heap.size + 2)) hk hord tyC (by rw [Y.causeType]; rfl)
  have tkS := Takes.of_laid (v := u0.v) hk hord tyS (by rw [Y.stackType]; exact fits_refV_array _ u0)
  have tkP := Takes.of_laid (v := sen.v) hk hord tyP (by rw [Y.suppType]; exact fits_refV_object _ sen)
  have tkM := Takes.of_laid (v := .ref (W.heap.size + 1)) hk hord tyM (by rw [Y.msgType]; rfl)
  have hskip : SkipFacts T e.platform s (fun u => u) u0 ((preparedCellV T.toThrowableT (freshCell P1.m.cls kX) (W.heap.size + 2) u0 sen).withEntry W.cur) := ⟨{ ci198 := ci198, i198 := i198, fBack := fB }, ⟨hk198, hg198, ha198, hsB⟩, hbk, fun _ _ => rfl⟩
  have h0 : At W g.method c below := by rw [hg]; exact X.here
  obtain ⟨hbeyond, hfreeW⟩ := X.vmMayThrow hsize (.throwNew cls (some text) none) (fun f hf => by cases hf) rfl hRlocals
  have hfr' : W.frames.length + Ps.length + 4 < (e.platform.stackLimits W.me).1 := by have := X.framesAbove hRframes; omega
  have hwd' : (stackUse (.java g :: W.frames.tail)).2 + 13 * Ps.length + 55 ≤ (e.platform.stackLimits W.me).2 := by have := X.stackAbove hsize (K := 13 * Ps.length + 55) (by omega); omega
  have hslots : W.slotsUsed + (stringBytes (stringToUtf16 text)).size + Zs.kS.instanceTypes.size + kX.instanceTypes.size ≤ e.platform.maxSlots := by
    have := X.slotsAbove hRslots
    rw [hn4, hn6]
    omega
  obtain ⟨vm', hW', st⟩ := Steps.vmThrowsMessageColdByV p (s₀ := s) (S := W) (g := g) h0 hexec T L Z LZ M LM X.warmed (t := W.cur) rfl Zs LZs P1 L1 Ps hL hlink1 hlink hsoe hoom hfound hk hinit hord hctor
    (Launch.admits_hotImplicitExceptions X.admits) hbeyond hfreeW htext hlimit hheap (X.cellsAbove hRcells) hslots (hfitv _) (hfitc _)
    (Nn := fun u => u) heapOnly_id (fun _ _ => rfl) (fun _ => rfl) (fun u x y => setCell_twice _ _ _ _) (fun _ => Nat.le_refl _) (cN := ((preparedCellV T.toThrowableT (freshCell P1.m.cls kX) (W.heap.size + 2) u0 sen).withEntry W.cur))
    hsel0 hcellS hknownS hvU tkS (fun _ hu => hu) (fun _ hu => hu) rfl rfl rfl (by simp [preparedCellV, Cell.setSlot, Cell.withEntry]) hskip (fun _ _ hA hW _ hroom _ hrest => L.nativeOff p htr hA hW hroom hrest) hselF hvSen tkC tkP tkM Y.objLocals rfl hfr' hwd'
  rw [plainBareV_eq T.toThrowableT (W.heap.size + 2) u0 sen (.ref (W.heap.size + 1)) W.cur rfl rfl] at st
  obtain ⟨-, -, w3, w4, -, -, -⟩ := withThrown_facts e.platform W Zs text P1.m.cls kX
  have X3 := ((X.pushed (bytesOf Zs.cB (stringToUtf16 text))).pushed (stringAt Zs.cS Zs.kS Zs.fv Zs.fc (stringToUtf16 text) W.heap.size)).pushed (freshCell P1.m.cls kX)
  rw [← withString_eq] at X3
  have X4 := X3.noted hW'
  have ha : (W.heap.size + 2) < ((withThrown W Zs text P1.m.cls kX).setVm vm').heap.size := by show _ < (withThrown W Zs text P1.m.cls kX).heap.size; rw [w3]; omega
  have hcell : ((withThrown W Zs text P1.m.cls kX).setVm vm').heap[(W.heap.size + 2)]? = some (freshCell P1.m.cls kX) := w4
  have X5 := ((((X4.stored hcell T.fCause.slot (.ref (W.heap.size + 2))).storedAgain ha T.fStack.slot u0.v).storedAgain ha T.fSupp.slot sen.v).storedAgain ha T.fStack.slot u0.v).storedAgain ha T.fMsg.slot (.ref (W.heap.size + 1))
  obtain ⟨g₁, hfrM⟩ := X5.frames_eq
  have hU : ((((withThrown W Zs text P1.m.cls kX).setVm vm').setCell (W.heap.size + 2) (plainBareV T.toThrowableT (freshCell P1.m.cls kX) (W.heap.size + 2) u0 sen (.ref (W.heap.size + 1)))).setTop g).pushFrame (.throwing (W.heap.size + 2)) = (((withThrown W Zs text P1.m.cls kX).setVm vm').setCell (W.heap.size + 2) (plainBareV T.toThrowableT (freshCell P1.m.cls kX) (W.heap.size + 2) u0 sen (.ref (W.heap.size + 1)))).setFrames (.throwing (W.heap.size + 2) :: .java g :: below) := by
    rw [State.pushFrame, State.frames_setTop _ hfrM, State.setTop_of_frames _ hfrM, State.setFrames_setFrames]
  have b1 : (bytesOf Zs.cB (stringToUtf16 text)).slots.size = (stringBytes (stringToUtf16 text)).size := by
    rw [(Cell.writeAll_facts _ _).2.2]; simp [bytes0]
  have b2 : (stringAt Zs.cS Zs.kS Zs.fv Zs.fc (stringToUtf16 text) W.heap.size).slots.size = 4 := by simp [string0, Cell.setSlot, hn4]
  have b3 : (freshCell P1.m.cls kX).slots.size = 6 := by simp [hn6]
  rw [b1, b2, b3] at X5
  have e9 : slots + (stringBytes (stringToUtf16 text)).size + 4 + 6 = slots + ((stringBytes (stringToUtf16 text)).size + 4 + 6) := by omega
  rw [e9] at X5
  simp only [List.append_assoc, List.cons_append, List.nil_append] at X5
  refine ⟨((withThrown W Zs text P1.m.cls kX).setVm vm').setCell (W.heap.size + 2) (plainBareV T.toThrowableT (freshCell P1.m.cls kX) (W.heap.size + 2) u0 sen (.ref (W.heap.size + 1))), W.heap.size + 2, _, fun target ht => st _ (by rw [X.tail, ← hU]; exact ht),
    X5.forget (fun y hy => ?_), heapAt_setCell_self _ ha, hfound, rfl⟩
  simp only [List.mem_cons, List.not_mem_nil, or_false] at hy
  have hge : s.heap.size ≤ W.heap.size := X.same.2.1
  rcases hy with rfl | rfl | rfl | rfl | rfl <;> exact Nat.le_trans hge (Nat.le_add_right _ 2)
set_option maxHeartbeats 1000000 in
/-- the machine throws NullPointerException, no traces kept: from its note over the frame g to 'throwing' over the same frame (follows the proof of Stand.vmThrowsNpe, Shelf42/KT2.lean; throwsNpeColdBareVAt, Shelf42/NT91.lean, called) -/
theorem vx_npeAt {p : Program} {l : Launch} {e : Env} {R : Room} {s : State} {m₀ : MethodId} {args : Array Value} {below : List Frame} {meth : Method} {c : Code} {W : State} {locs : List Loc} {cells slots : Nat}
    (X : Stand p l e R s m₀ args below meth c W locs cells slots) (hexec : p.tables.exec = Jvm.exec) (htr : e.platform.stackTraces = false) {n : Nat}
    (h : ∀ a ∈ Bundle.npeArmAtoms n, a.before args s = true)
    (hlocs : ∀ x ∈ locs, ∀ cell, s.heap[x.base]? = some cell → cell.vm.isStatics = false)
    {g : JFrame} (hg : g.method = m₀) (hsize : g.locals.size = c.maxLocals)
    (hRframes : 7 < R.frames) (hRlocals : 2 * g.monitorRoom + (g.stack.map fun v => v.category).sum + 10240 ≤ R.locals)
    (hRcells : cells + 1 ≤ R.cells) (hRslots : slots + n ≤ R.slots) (hlocks : meth.locks = false) :
    ∃ (S : State) (q : Addr) (ce : Cell), (∀ target, Steps p.tables e below ((S.setTop g).pushFrame (.throwing q)) target → Steps p.tables e below ((W.setTop g).pushFrame (.throwNew "java/lang/NullPointerException" none none)) target) ∧
      Stand p l e R s m₀ args below meth c S locs (cells + 1) (slots + n) ∧ S.heap[q]? = some ce ∧ s.vm.findClass "java/lang/NullPointerException" = some ce.cls ∧ ce.vm = .none := by
  have howns : e.platform.frameOwnsMonitors = true := by rw [X.admits.platform]
  have hfin : e.platform.finalization = false := by rw [X.admits.platform]
  have hpl : e.platform.magicAccessors = ({} : Platform).magicAccessors := by rw [X.admits.platform]
  have hpl2 : e.platform.arrayCloneIsPublic = true := by rw [X.admits.platform]
  have a' : ∀ x, x ∈ Bundle.npeArmAtoms n → x.holds args s none s [] = true := fun x hx => h x hx
  obtain ⟨T, Z, L, LZ, Y⟩ := ThrowableC.of_atoms (args := args) howns hfin hpl (fun x hx => h x (by simp [Bundle.npeArmAtoms, hx]))
  obtain ⟨N, LN, hcN, hnNF, hordN, hffS⟩ := NpeC.of_atoms (args := args) hpl hpl2 L Y (fun x hx => h x (by simp [Bundle.npeArmAtoms, hx]))
  obtain ⟨P1, L1, hP1m, hP1s⟩ := PassC.of_atoms (args := args) (s := s) hpl (X := Bundle.nN) (Y := Bundle.rN) (by decide) (by decide) LibCode.NullPointerException.Init0.at_0 LibCode.NullPointerException.Init0.at_1 LibCode.NullPointerException.Init0.at_4 (fun x hx => h x (by simp [Bundle.npeArmAtoms, hx]))
  obtain ⟨PR, LR, hPRm, hPRs⟩ := PassC.of_atoms (args := args) (s := s) hpl (X := Bundle.rN) (Y := Bundle.eN) (by decide) (by decide) LibCode.RuntimeException.Init0.at_0 LibCode.RuntimeException.Init0.at_1 LibCode.RuntimeException.Init0.at_4 (fun x hx => h x (by simp [Bundle.npeArmAtoms, hx]))
  obtain ⟨PE, LEx, hPEm, hPEs⟩ := PassC.of_atoms (args := args) (s := s) hpl (X := Bundle.eN) (Y := Bundle.tN) (by decide) (by decide) LibCode.Exception.Init0.at_0 LibCode.Exception.Init0.at_1 LibCode.Exception.Init0.at_4 (fun x hx => h x (by simp [Bundle.npeArmAtoms, hx]))
  have hfound : s.vm.findClass Bundle.nN = some P1.m.cls := findClass_of_methodNamed hP1m
  have ecls : N.cN = P1.m.cls := Option.some.inj (hcN.symm.trans hfound)
  have hk : s.vm.classes[P1.m.cls]? = some N.kN := by rw [← ecls]; exact LN.cls
  have hinit := Cond.initialized_spec hfound hk (a' (.initialized Bundle.nN) (by simp [Bundle.npeArmAtoms]))
  have hctor : N.kN.findMethod "<init>" "()V" = some P1.m.idx := findMethod_of_methodNamed hP1m hk
  obtain ⟨c1, k1, hc1, hk1, -, -, -, hn⟩ := Cond.instantiable_spec (a' (.instantiable Bundle.nN n) (by simp [Bundle.npeArmAtoms]))
  cases Option.some.inj (hc1.symm.trans hfound)
  cases Option.some.inj (hk1.symm.trans hk)
  have hfsz : (freshCell P1.m.cls N.kN).slots.size = n := by simp [hn]
  have hlink1 : P1.sup = PR.m := Option.some.inj (hP1s.symm.trans hPRm)
  have hlinkR : PR.sup = PE.m := Option.some.inj (hPRs.symm.trans hPEm)
  have hlinkE : PE.sup = Z.m T.toThrowableT := Option.some.inj (hPEs.symm.trans Y.init0)
  have hLs : ∀ P, P ∈ [PR, PE] → P.Links0 e.platform s := fun P hP => by
    simp only [List.mem_cons, List.not_mem_nil, or_false] at hP
    rcases hP with rfl | rfl
    · exact LR
    · exact LEx
  have hsel0 : selectMethod e.platform s.vm P1.m.cls T.fill0 = .method T.fill0 := by
    obtain ⟨c2, r2, m2, q1, q2, q3, q4, -⟩ := Cond.selects_spec (a' (.selects Bundle.nN Bundle.tFill0 Bundle.tFill0) (by simp [Bundle.npeArmAtoms]))
    cases Option.some.inj (q1.symm.trans hfound)
    cases Option.some.inj (q2.symm.trans (State.methodFound?_of_named Y.fill0 (by decide)))
    cases Option.some.inj (q3.symm.trans Y.fill0)
    rw [Launch.admits_selectMethod X.admits]; exact q4
  have hselF : selectMethod e.platform s.vm P1.m.cls T.fill = .method N.fill := by
    obtain ⟨c2, r2, m2, q1, q2, q3, q4, -⟩ := Cond.selects_spec (a' (.selects Bundle.nN Bundle.tFill Bundle.nFill) (by simp [Bundle.npeArmAtoms]))
    cases Option.some.inj (q1.symm.trans hfound)
    cases Option.some.inj (q2.symm.trans (State.methodFound?_of_named Y.fill (by decide)))
    cases Option.some.inj (q3.symm.trans hnNF)
    rw [Launch.admits_selectMethod X.admits]; exact q4
  obtain ⟨cellS0, hcS0, hiss⟩ := Y.statics
  obtain ⟨u0, hu0⟩ := Cond.staticRefV Y.unassigned L.unassignedStatic L.statics hcS0 hiss (a' (.isRef (.static Bundle.tN "UNASSIGNED_STACK" Bundle.steD)) (by simp [Bundle.npeArmAtoms]))
  obtain ⟨sen, hsen⟩ := Cond.staticRefV Y.sentinel L.sentinelStatic L.statics hcS0 hiss (a' (.isRef (.static Bundle.tN "SUPPRESSED_SENTINEL" Bundle.listD)) (by simp [Bundle.npeArmAtoms]))
  obtain ⟨ci198, i198, fB, hk198, hg198, ha198, hsB, -, hnB, htB, hffB⟩ := Cond.ownField (t := .object "java/lang/Object") Y.found L.cls (by decide +kernel) (a' (.fieldLink Bundle.tN 198 Bundle.tN "backtrace" Bundle.objD) (by simp [Bundle.npeArmAtoms])) (a' (.lays Bundle.tN Bundle.tN "backtrace" Bundle.objD) (by simp [Bundle.npeArmAtoms])) e.platform hpl
  obtain ⟨cellS, hcS', heS, -, hkeep⟩ := X.same.2.2.2.2.2 T.aS cellS0 hcS0
  have hcellS : W.heap[T.aS]? = some cellS := hcS'
  have hout' : ∀ i, (⟨T.aS, i⟩ : Loc) ∉ locs := fun i hmem => by
    have := hlocs _ hmem cellS0 hcS0
    rw [hiss] at this; cases this
  have hknownS : cellS.vm ≠ .unknown := by
    rw [heS]; intro hu
    rw [show cellS0.vm = .unknown from hu] at hiss
    cases hiss
  have hvU : cellS.slots[T.fUnassigned.slot]? = some u0.v := by rw [hkeep _ (hout' _)]; exact hu0
  have hvSen : cellS.slots[T.fSentinel.slot]? = some sen.v := by rw [hkeep _ (hout' _)]; exact hsen
  obtain ⟨tyC, dC, hdC, hdnC⟩ := Cond.laysAt hfound hk Y.cause (a' (.lays Bundle.nN Bundle.tN "cause" "Ljava/lang/Throwable;") (by simp [Bundle.npeArmAtoms]))
  obtain ⟨tyS, dS, hdS, hdnS⟩ := Cond.laysAt hfound hk Y.stack (a' (.lays Bundle.nN Bundle.tN "stackTrace" Bundle.steD) (by simp [Bundle.npeArmAtoms]))
  obtain ⟨tyP, dP, hdP, hdnP⟩ := Cond.laysAt hfound hk Y.supp (a' (.lays Bundle.nN Bundle.tN "suppressedExceptions" Bundle.listD) (by simp [Bundle.npeArmAtoms]))
  obtain ⟨tyX, dX, hdX, hdnX⟩ := Cond.laysAt hfound hk hffS (a' (.lays Bundle.nN Bundle.nN "extendedMessageState" "I") (by simp [Bundle.npeArmAtoms, Bundle.npeAtoms]))
  obtain ⟨hnX, htX⟩ := State.fieldFound?_type hffS (t := .int) (by decide +kernel)
  have xC := Cond.laysApart hdC hdX hdnC hdnX (by rw [hnX, Y.causeName]; decide)
  have xS := Cond.laysApart hdS hdX hdnS hdnX (by rw [hnX, Y.stackName]; decide)
  have xP := Cond.laysApart hdP hdX hdnP hdnX (by rw [hnX, Y.suppName]; decide)
  have hv0 : (freshCell P1.m.cls N.kN).slots[N.fState.slot]? = some (.int 0) := by
    have := fresh_default (c := P1.m.cls) tyX
    rw [htX] at this; exact this
  obtain ⟨tyB, dB, hdB, hdnB⟩ := Cond.laysAt hfound hk hffB (a' (.lays Bundle.nN Bundle.tN "backtrace" Bundle.objD) (by simp [Bundle.npeArmAtoms]))
  have bC := Cond.laysApart hdB hdC hdnB hdnC (by rw [hnB, Y.causeName]; decide)
  have bS := Cond.laysApart hdB hdS hdnB hdnS (by rw [hnB, Y.stackName]; decide)
  have bP := Cond.laysApart hdB hdP hdnB hdnP (by rw [hnB, Y.suppName]; decide)
  have bX := Cond.laysApart hdB hdX hdnB hdnX (by rw [hnB, hnX]; decide)
  have hbk : ((npeCell N.toNpeT (preparedCellV T.toThrowableT (freshCell P1.m.cls N.kN) W.heap.size u0 sen) W.cur).withEntry W.cur).slots[fB.slot]? = some .null := by
    have := fresh_default (c := P1.m.cls) tyB
    rw [htB] at this
    simpa [npeCell, preparedCellV, Cell.setSlot, Cell.withEntry, Array.getElem?_setIfInBounds, bC, bS, bP, bX, bC.symm, bS.symm, bP.symm, bX.symm, defaultValue] using this
  have tkC := Takes.of_laid (v := .ref W.heap.size) hk hordN tyC (by rw [Y.causeType]; rfl)
  have tkS := Takes.of_laid (v := u0.v) hk hordN tyS (by rw [Y.stackType]; exact fits_refV_array _ u0)
  have tkP := Takes.of_laid (v := sen.v) hk hordN tyP (by rw [Y.suppType]; exact fits_refV_object _ sen)
  have tkX := Takes.of_laid (v := .int 1) hk hordN tyX (by rw [htX]; rfl)
  have hskip : SkipFacts T e.platform s (fun u => u) u0 ((npeCell N.toNpeT (preparedCellV T.toThrowableT (freshCell P1.m.cls N.kN) W.heap.size u0 sen) W.cur).withEntry W.cur) := ⟨{ ci198 := ci198, i198 := i198, fBack := fB }, ⟨hk198, hg198, ha198, hsB⟩, hbk, fun _ _ => rfl⟩
  obtain ⟨vm', X3, st, -⟩ := X.throwsNpeColdBareVAt hexec hg hsize T L Z LZ N LN P1 L1 [PR, PE] hLs hlink1 ⟨hlinkR, hlinkE, trivial⟩ hfound hk hinit hordN hctor hsel0 hselF hcellS hknownS hvU hvSen
    hv0 xC xS xP tkC tkS tkP tkX Y.objLocals hskip (fun _ _ hA hW _ hroom _ hrest => L.nativeOff p htr hA hW hroom hrest) (by simpa using hRframes) hRlocals (by simp) hRcells (by rw [hn]; exact hRslots)
  have hlt : W.heap.size < ((W.pushCell (freshCell P1.m.cls N.kN)).setVm vm').heap.size := by
    show W.heap.size < (W.pushCell (freshCell P1.m.cls N.kN)).heap.size
    rw [State.heap_size_pushCell]; omega
  rw [hfsz] at X3
  obtain ⟨g₁, hfrM⟩ := X3.frames_eq
  have hU : ((((W.pushCell (freshCell P1.m.cls N.kN)).setVm vm').setCell W.heap.size (npeBareV T.toThrowableT N.toNpeT (freshCell P1.m.cls N.kN) W.heap.size u0 sen)).setTop g).pushFrame (.throwing W.heap.size) = (((W.pushCell (freshCell P1.m.cls N.kN)).setVm vm').setCell W.heap.size (npeBareV T.toThrowableT N.toNpeT (freshCell P1.m.cls N.kN) W.heap.size u0 sen)).setFrames (.throwing W.heap.size :: .java g :: below) := by
    rw [State.pushFrame, State.frames_setTop _ hfrM, State.setTop_of_frames _ hfrM, State.setFrames_setFrames]
  refine ⟨_, W.heap.size, _, fun target ht => st.trans (by rw [← hU]; exact ht), X3.forget (fun y hy => ?_), heapAt_setCell_self _ hlt, hfound, rfl⟩
  simp only [List.mem_cons, List.not_mem_nil, or_false] at hy
  have hge : s.heap.size ≤ W.heap.size := X.same.2.1
  rcases hy with rfl | rfl | rfl | rfl | rfl <;> exact hge
/-- the words of a machine's NullPointerException, but the four that speak of the heap -/
def vx_atN (n : Nat) : List Cond := (Bundle.npeArmAtoms n).filter vx_no
/-- the words of a machine's throw with a message, but the four that speak of the heap -/
def vx_atM (X : String) (names : List String) : List Cond := (Bundle.messageArmAtoms X names).filter vx_no
section
variable {p : Program} {l : Launch} {e : Env} {R : Room} {s : State} {m : MethodId} {args : Array Value} {below : List Frame} {meth : Method} {c : Code} {H : Heap} {locs : List Loc} {cells slots : Nat}
/-- a frame seen from a rebased start, seen from the first start again -/
theorem vx_back9 {T S : State} {R' : Room} {k n : Nat} (X : Stand p l e R s m args below meth c T locs cells slots) (Y : Stand p l e R' ((T.setVm s.vm).setFrames (.invoking m args :: below)) m args below meth c T [] 0 0) (Z : Stand p l e R' ((T.setVm s.vm).setFrames (.invoking m args :: below)) m args below meth c S [] k n) :
    Stand p l e R s m args below meth c S locs (cells + k) (slots + n) := by
  have hW0 : s.WarmedH ((T.setVm s.vm).setFrames (.invoking m args :: below)).vm := State.WarmedH.refl s
  refine { admits := X.admits, cas := X.cas, clock := X.clock, frames := X.frames, room := X.room, hears := X.hears, method := X.method, code := X.code, here := Z.here, tail := Z.tail, warmed := State.WarmedH.trans hW0 Z.warmed, limits := Z.limits.trans (Y.limits.symm.trans X.limits), bytes := Z.bytes.trans (Y.bytes.symm.trans X.bytes), same := ?_ }
  obtain ⟨e1, e2⟩ := Z.same
  rw [State.setFrames_setFrames] at e1
  have h2 : (T.setVm s.vm).sameButNew (S.setVm s.vm) [] k n := ⟨e1, e2⟩
  have h3 := X.same.trans h2
  rw [List.append_nil] at h3
  exact h3
/-- from the machine's note that E is thrown here with this text -/
def vx_Note (p : Program) (l : Launch) (e : Env) (R : Room) (s : State) (m : MethodId) (args : Array Value) (below : List Frame) (meth : Method) (c : Code) (H : Heap) (locs : List Loc) (cells slots : Nat) (Q : State → Prop) (g : JFrame) (E text : String) : Prop :=
  ∀ T : State, T.heap = H → Stand p l e R s m args below meth c T locs cells slots → ∃ t, Steps p.tables e below ((T.setTop g).pushFrame (.throwNew E (some text) none)) t ∧ Q t
theorem vx_vm {pc : Nat} {ls : Array Slot} {rest : List Value} {Q : State → Prop} (hexec : p.tables.exec = Jvm.exec) (hl : l.stackTraces = false) {cls text : String} {names : List String} {nb : Nat} {A : Nat → Prop}
    (hcls : Bundle.fit cls = true) (hnames : ∀ n ∈ names, Bundle.fit n = true) (hsoe : (cls == "java/lang/StackOverflowError") = false) (hoom : (cls == "java/lang/OutOfMemoryError") = false)
    (hat : ∀ w ∈ vx_atM cls names, w.before args s = true) (hgood : ∀ w ∈ vx_atM cls names, vx_ot w = true)
    (hU : vx_Zq Bundle.tN "UNASSIGNED_STACK" Bundle.steD A s s.heap) (hN : vx_Zq Bundle.tN "SUPPRESSED_SENTINEL" Bundle.listD A s s.heap) (hS : va_S A s.heap H locs) (hsize : ls.size = c.maxLocals)
    (htext : (text == notModelled) = false) (hnb : (stringBytes (stringToUtf16 text)).size ≤ nb) (hnb1 : nb ≤ 1000)
    (hRframes : names.length + 4 < R.frames) (hRlocals : (rest.map fun v => v.category).sum + 10240 ≤ R.locals) (hshort : 13 * names.length + 55 ≤ 10240) (hRcells : cells + 3 ≤ R.cells) (hRslots : slots + (nb + 10) ≤ R.slots) (hlocks : meth.locks = false)
    (k : ∀ (H1 : Heap) (q9 : Addr) (ce : Cell), H.size ≤ H1.size → (∀ q : Nat, q < H.size → H1[q]? = H[q]?) → va_S A s.heap H1 locs → H1[q9]? = some ce → ce.vm = .none → s.vm.findClass cls = some ce.cls → vx_W p l e R s m args below meth c H1 locs (cells + 3) (slots + (nb + 10)) Q (F0 m pc ls rest) q9) :
    vx_Note p l e R s m args below meth c H locs cells slots Q (F0 m pc ls rest) cls text := by
  intro T hT X
  have htr : e.platform.stackTraces = false := (show e.platform.stackTraces = l.stackTraces by rw [X.admits.platform]).trans hl
  have Y := vx_rebase X (R' := { frames := R.frames, locals := R.locals, cells := 3, slots := nb + 10 }) (Nat.le_refl _) (Nat.le_refl _) hRcells hRslots
  have hhp : ((T.setVm s.vm).setFrames (.invoking m args :: below)).heap = H := hT
  have hW0 : s.WarmedH ((T.setVm s.vm).setFrames (.invoking m args :: below)).vm := State.WarmedH.refl s
  have hat' : ∀ w ∈ vx_atM cls names, w.before args ((T.setVm s.vm).setFrames (.invoking m args :: below)) = true := fun w hw => vx_ot_at hW0 rfl (hgood w hw) (hat w hw)
  have hU' : vx_Zq Bundle.tN "UNASSIGNED_STACK" Bundle.steD A ((T.setVm s.vm).setFrames (.invoking m args :: below)) ((T.setVm s.vm).setFrames (.invoking m args :: below)).heap := by rw [hhp]; exact vx_Zq.moved hW0.alike (hU.kept hS.2.1)
  have hN' : vx_Zq Bundle.tN "SUPPRESSED_SENTINEL" Bundle.listD A ((T.setVm s.vm).setFrames (.invoking m args :: below)) ((T.setVm s.vm).setFrames (.invoking m args :: below)).heap := by rw [hhp]; exact vx_Zq.moved hW0.alike (hN.kept hS.2.1)
  obtain ⟨S, q, ce, st, Z, hce, hcl', hv⟩ := vx_vmAt Y hexec htr (cls := cls) (names := names) (text := text) hcls hnames hsoe hoom (vx_own hat' (vx_isRefq hU'.1) (vx_isRefq hN'.1) hU'.2.word hN'.2.word) (fun x hx => nomatch hx) htext
    (by rw [Launch.admits_arrayLengthLimit X.admits]; omega) (by rw [Launch.admits_maxHeapBytes X.admits]; simp only [componentBytes]; omega)
    (g := F0 m pc ls rest) rfl hsize hRframes (by show 2 * 0 + (rest.map fun v => v.category).sum + 10240 ≤ R.locals; omega) hshort (by show 0 + 3 ≤ 3; omega) (by show 0 + (_ + 4 + 6) ≤ nb + 10; omega) hlocks
  obtain ⟨f1, f2⟩ := vx_frame Z.same
  have f1' : H.size ≤ S.heap.size := by rw [← hT]; exact f1
  have f2' : ∀ q : Nat, q < H.size → S.heap[q]? = H[q]? := fun q hq => by
    rw [← hT]
    exact f2 q (by rw [← hT] at hq; exact hq) (fun z hz => nomatch hz)
  have X5 := vx_back9 X Y Z
  have X6 : Stand p l e R s m args below meth c S locs (cells + 3) (slots + (nb + 10)) := { X5 with same := X5.same.mono (by omega) (by omega) }
  obtain ⟨t, a1, b1⟩ := k S.heap q ce f1' f2' ⟨Nat.le_trans hS.1 f1', fun q h1 h2 => (f2' q (Nat.lt_of_lt_of_le h1 hS.1)).trans (hS.2.1 q h1 h2), hS.2.2⟩ hce hv hcl' S rfl X6
  exact ⟨t, st t a1, b1⟩
/-- from the machine's note that NullPointerException is thrown here -/
def vx_NoteN (p : Program) (l : Launch) (e : Env) (R : Room) (s : State) (m : MethodId) (args : Array Value) (below : List Frame) (meth : Method) (c : Code) (H : Heap) (locs : List Loc) (cells slots : Nat) (Q : State → Prop) (g : JFrame) : Prop :=
  ∀ T : State, T.heap = H → Stand p l e R s m args below meth c T locs cells slots → ∃ t, Steps p.tables e below ((T.setTop g).pushFrame (.throwNew "java/lang/NullPointerException" none none)) t ∧ Q t
theorem vx_npe {pc : Nat} {ls : Array Slot} {rest : List Value} {Q : State → Prop} (hexec : p.tables.exec = Jvm.exec) (hl : l.stackTraces = false) {nb : Nat} {A : Nat → Prop}
    (hat : ∀ w ∈ vx_atN nb, w.before args s = true) (hgood : ∀ w ∈ vx_atN nb, vx_ot w = true)
    (hU : vx_Zq Bundle.tN "UNASSIGNED_STACK" Bundle.steD A s s.heap) (hN : vx_Zq Bundle.tN "SUPPRESSED_SENTINEL" Bundle.listD A s s.heap) (hS : va_S A s.heap H locs) (hsize : ls.size = c.maxLocals)
    (hRframes : 7 < R.frames) (hRlocals : (rest.map fun v => v.category).sum + 10240 ≤ R.locals) (hRcells : cells + 1 ≤ R.cells) (hRslots : slots + nb ≤ R.slots) (hlocks : meth.locks = false)
    (k : ∀ (H1 : Heap) (q9 : Addr) (ce : Cell), H.size ≤ H1.size → (∀ q : Nat, q < H.size → H1[q]? = H[q]?) → va_S A s.heap H1 locs → H1[q9]? = some ce → ce.vm = .none → s.vm.findClass "java/lang/NullPointerException" = some ce.cls → vx_W p l e R s m args below meth c H1 locs (cells + 1) (slots + nb) Q (F0 m pc ls rest) q9) :
    vx_NoteN p l e R s m args below meth c H locs cells slots Q (F0 m pc ls rest) := by
  intro T hT X
  have htr : e.platform.stackTraces = false := (show e.platform.stackTraces = l.stackTraces by rw [X.admits.platform]).trans hl
  have Y := vx_rebase X (R' := { frames := R.frames, locals := R.locals, cells := 1, slots := nb }) (Nat.le_refl _) (Nat.le_refl _) hRcells hRslots
  have hhp : ((T.setVm s.vm).setFrames (.invoking m args :: below)).heap = H := hT
  have hW0 : s.WarmedH ((T.setVm s.vm).setFrames (.invoking m args :: below)).vm := State.WarmedH.refl s
  have hat' : ∀ w ∈ vx_atN nb, w.before args ((T.setVm s.vm).setFrames (.invoking m args :: below)) = true := fun w hw => vx_ot_at hW0 rfl (hgood w hw) (hat w hw)
  have hU' : vx_Zq Bundle.tN "UNASSIGNED_STACK" Bundle.steD A ((T.setVm s.vm).setFrames (.invoking m args :: below)) ((T.setVm s.vm).setFrames (.invoking m args :: below)).heap := by rw [hhp]; exact vx_Zq.moved hW0.alike (hU.kept hS.2.1)
  have hN' : vx_Zq Bundle.tN "SUPPRESSED_SENTINEL" Bundle.listD A ((T.setVm s.vm).setFrames (.invoking m args :: below)) ((T.setVm s.vm).setFrames (.invoking m args :: below)).heap := by rw [hhp]; exact vx_Zq.moved hW0.alike (hN.kept hS.2.1)
  obtain ⟨S, q, ce, st, Z, hce, hcl', hv⟩ := vx_npeAt Y hexec htr (n := nb) (vx_own hat' (vx_isRefq hU'.1) (vx_isRefq hN'.1) hU'.2.word hN'.2.word) (fun x hx => nomatch hx)
    (g := F0 m pc ls rest) rfl hsize hRframes (by show 2 * 0 + (rest.map fun v => v.category).sum + 10240 ≤ R.locals; omega) (by show 0 + 1 ≤ 1; omega) (by show 0 + nb ≤ nb; omega) hlocks
  obtain ⟨f1, f2⟩ := vx_frame Z.same
  have f1' : H.size ≤ S.heap.size := by rw [← hT]; exact f1
  have f2' : ∀ q : Nat, q < H.size → S.heap[q]? = H[q]? := fun q hq => by
    rw [← hT]
    exact f2 q (by rw [← hT] at hq; exact hq) (fun z hz => nomatch hz)
  have X5 := vx_back9 X Y Z
  have X6 : Stand p l e R s m args below meth c S locs (cells + 1) (slots + nb) := { X5 with same := X5.same.mono (by omega) (by omega) }
  obtain ⟨t, a1, b1⟩ := k S.heap q ce f1' f2' ⟨Nat.le_trans hS.1 f1', fun q h1 h2 => (f2' q (Nat.lt_of_lt_of_le h1 hS.1)).trans (hS.2.1 q h1 h2), hS.2.2⟩ hce hv hcl' S rfl X6
  exact ⟨t, st t a1, b1⟩
variable {Q : State → Prop} {cc : ByteArray} {pc : Nat} {ls : Array Slot} {rest : List Value}
theorem vx_idivZ (hexec : p.tables.exec = Jvm.exec) (hb : c.code = cc) {a b : Int32} (h0 : b = 0) (d : decode cc pc = .ok (.idiv, 1)) (k : vx_Note p l e R s m args below meth c H locs cells slots Q (F0 m pc ls rest) "java/lang/ArithmeticException" "/ by zero") :
    W p l e R s m args below meth c H locs cells slots Q (F0 m pc ls (.int b :: .int a :: rest)) := by
  intro T hT X
  obtain ⟨t, st, q⟩ := k T hT X
  exact ⟨t, X.idivZero hexec (g := F0 m pc ls (.int b :: .int a :: rest)) rfl (a := a) (rest := rest) (by rw [h0]) (by rw [hb]; exact d) t st, q⟩
theorem vx_iremZ (hexec : p.tables.exec = Jvm.exec) (hb : c.code = cc) {a b : Int32} (h0 : b = 0) (d : decode cc pc = .ok (.irem, 1)) (k : vx_Note p l e R s m args below meth c H locs cells slots Q (F0 m pc ls rest) "java/lang/ArithmeticException" "/ by zero") :
    W p l e R s m args below meth c H locs cells slots Q (F0 m pc ls (.int b :: .int a :: rest)) := by
  intro T hT X
  obtain ⟨t, st, q⟩ := k T hT X
  exact ⟨t, X.iremZero hexec (g := F0 m pc ls (.int b :: .int a :: rest)) rfl (a := a) (rest := rest) (by rw [h0]) (by rw [hb]; exact d) t st, q⟩
theorem vx_ldivZ (hexec : p.tables.exec = Jvm.exec) (hb : c.code = cc) {a b : Int64} (h0 : b = 0) (d : decode cc pc = .ok (.ldiv, 1)) (k : vx_Note p l e R s m args below meth c H locs cells slots Q (F0 m pc ls rest) "java/lang/ArithmeticException" "/ by zero") :
    W p l e R s m args below meth c H locs cells slots Q (F0 m pc ls (.long b :: .long a :: rest)) := by
  intro T hT X
  obtain ⟨t, st, q⟩ := k T hT X
  exact ⟨t, X.ldivZero hexec (g := F0 m pc ls (.long b :: .long a :: rest)) rfl (a := a) (rest := rest) (by rw [h0]) (by rw [hb]; exact d) t st, q⟩
theorem vx_lremZ (hexec : p.tables.exec = Jvm.exec) (hb : c.code = cc) {a b : Int64} (h0 : b = 0) (d : decode cc pc = .ok (.lrem, 1)) (k : vx_Note p l e R s m args below meth c H locs cells slots Q (F0 m pc ls rest) "java/lang/ArithmeticException" "/ by zero") :
    W p l e R s m args below meth c H locs cells slots Q (F0 m pc ls (.long b :: .long a :: rest)) := by
  intro T hT X
  obtain ⟨t, st, q⟩ := k T hT X
  exact ⟨t, X.lremZero hexec (g := F0 m pc ls (.long b :: .long a :: rest)) rfl (a := a) (rest := rest) (by rw [h0]) (by rw [hb]; exact d) t st, q⟩
theorem vx_ialdZ {D : va_G} {cl : List vw_C} {ws : va_W} {tys : List (ClassId × FieldType)} {a : Nat} (hexec : p.tables.exec = Jvm.exec) (hb : c.code = cc) (hK : va_K D cl tys s) (hP : va_P D cl ws H) (q0 t0 : Nat) {cA : ClassId} {n : Nat} {f : Nat → Int32} (ha : ws[q0]? = some (a, .inl (cA, n, .inl f))) (ht : tys[t0]? = some (cA, .int)) {i : Int32} (hout : ¬ vp_in i n) (hdg : decode cc pc = .ok (.iaload, 1))
    (k : ∀ tx : String, tx = (toString "Index " ++ toString i ++ toString " out of bounds for length " ++ toString n : String) → vx_Note p l e R s m args below meth c H locs cells slots Q (F0 m pc ls rest) "java/lang/ArrayIndexOutOfBoundsException" tx) : W p l e R s m args below meth c H locs cells slots Q (F0 m pc ls (.int i :: .ref a :: rest)) := by
  intro T hT X
  obtain ⟨t, st, q⟩ := k _ rfl T hT X
  refine ⟨t, ?_, q⟩
  have h1 := X.ialoadOut hexec (by rw [hT]; exact hP q0 _ ha) ((hK.2 t0 _ ht).1 n (fun j => .int (f j))) (j := i) (by show (i < 0 ∨ (arrV _ _ _).slots.size ≤ _); rw [arrV_size]; exact Classical.byContradiction hout) (g := F0 m pc ls (.int i :: .ref a :: rest)) rfl (rest := rest) rfl (by rw [hb]; exact hdg) t
  simp only [arrV_size] at h1
  exact h1 st
theorem vx_iastZ {D : va_G} {cl : List vw_C} {ws : va_W} {tys : List (ClassId × FieldType)} {a : Nat} (hexec : p.tables.exec = Jvm.exec) (hb : c.code = cc) (hK : va_K D cl tys s) (hP : va_P D cl ws H) (q0 t0 : Nat) {cA : ClassId} {n : Nat} {f : Nat → Int32} (ha : ws[q0]? = some (a, .inl (cA, n, .inl f))) (ht : tys[t0]? = some (cA, .int)) {i : Int32} {x : Int32} (hout : ¬ vp_in i n) (hdg : decode cc pc = .ok (.iastore, 1))
    (k : ∀ tx : String, tx = (toString "Index " ++ toString i ++ toString " out of bounds for length " ++ toString n : String) → vx_Note p l e R s m args below meth c H locs cells slots Q (F0 m pc ls rest) "java/lang/ArrayIndexOutOfBoundsException" tx) : W p l e R s m args below meth c H locs cells slots Q (F0 m pc ls (.int x :: .int i :: .ref a :: rest)) := by
  intro T hT X
  obtain ⟨t, st, q⟩ := k _ rfl T hT X
  refine ⟨t, ?_, q⟩
  have h1 := X.iastoreOut hexec (by rw [hT]; exact hP q0 _ ha) ((hK.2 t0 _ ht).1 n (fun j => .int (f j))) (j := i) (by show (i < 0 ∨ (arrV _ _ _).slots.size ≤ _); rw [arrV_size]; exact Classical.byContradiction hout) (g := F0 m pc ls (.int x :: .int i :: .ref a :: rest)) rfl (rest := rest) rfl (by rw [hb]; exact hdg) t
  simp only [arrV_size] at h1
  exact h1 st
theorem vx_baldZ {D : va_G} {cl : List vw_C} {ws : va_W} {tys : List (ClassId × FieldType)} {a : Nat} (hexec : p.tables.exec = Jvm.exec) (hb : c.code = cc) (hK : va_K D cl tys s) (hP : va_P D cl ws H) (q0 t0 : Nat) {cA : ClassId} {n : Nat} {f : Nat → Int32} (ha : ws[q0]? = some (a, .inl (cA, n, .inl f))) (ht : tys[t0]? = some (cA, .byte)) {i : Int32} (hout : ¬ vp_in i n) (hdg : decode cc pc = .ok (.baload, 1))
    (k : ∀ tx : String, tx = (toString "Index " ++ toString i ++ toString " out of bounds for length " ++ toString n : String) → vx_Note p l e R s m args below meth c H locs cells slots Q (F0 m pc ls rest) "java/lang/ArrayIndexOutOfBoundsException" tx) : W p l e R s m args below meth c H locs cells slots Q (F0 m pc ls (.int i :: .ref a :: rest)) := by
  intro T hT X
  obtain ⟨t, st, q⟩ := k _ rfl T hT X
  refine ⟨t, ?_, q⟩
  have h1 := X.baloadOut hexec (by rw [hT]; exact hP q0 _ ha) ((hK.2 t0 _ ht).1 n (fun j => .int (f j))) (j := i) (by show (i < 0 ∨ (arrV _ _ _).slots.size ≤ _); rw [arrV_size]; exact Classical.byContradiction hout) (g := F0 m pc ls (.int i :: .ref a :: rest)) rfl (rest := rest) rfl (by rw [hb]; exact hdg) t
  simp only [arrV_size] at h1
  exact h1 st
theorem vx_bastZ {D : va_G} {cl : List vw_C} {ws : va_W} {tys : List (ClassId × FieldType)} {a : Nat} (hexec : p.tables.exec = Jvm.exec) (hb : c.code = cc) (hK : va_K D cl tys s) (hP : va_P D cl ws H) (q0 t0 : Nat) {cA : ClassId} {n : Nat} {f : Nat → Int32} (ha : ws[q0]? = some (a, .inl (cA, n, .inl f))) (ht : tys[t0]? = some (cA, .byte)) {i : Int32} {x : Int32} (hout : ¬ vp_in i n) (hdg : decode cc pc = .ok (.bastore, 1))
    (k : ∀ tx : String, tx = (toString "Index " ++ toString i ++ toString " out of bounds for length " ++ toString n : String) → vx_Note p l e R s m args below meth c H locs cells slots Q (F0 m pc ls rest) "java/lang/ArrayIndexOutOfBoundsException" tx) : W p l e R s m args below meth c H locs cells slots Q (F0 m pc ls (.int x :: .int i :: .ref a :: rest)) := by
  intro T hT X
  obtain ⟨t, st, q⟩ := k _ rfl T hT X
  refine ⟨t, ?_, q⟩
  have h1 := X.bastoreOut hexec (by rw [hT]; exact hP q0 _ ha) ((hK.2 t0 _ ht).1 n (fun j => .int (f j))) (j := i) (by show (i < 0 ∨ (arrV _ _ _).slots.size ≤ _); rw [arrV_size]; exact Classical.byContradiction hout) (g := F0 m pc ls (.int x :: .int i :: .ref a :: rest)) rfl (rest := rest) rfl (by rw [hb]; exact hdg) t
  simp only [arrV_size] at h1
  exact h1 st
theorem vx_zaldZ {D : va_G} {cl : List vw_C} {ws : va_W} {tys : List (ClassId × FieldType)} {a : Nat} (hexec : p.tables.exec = Jvm.exec) (hb : c.code = cc) (hK : va_K D cl tys s) (hP : va_P D cl ws H) (q0 t0 : Nat) {cA : ClassId} {n : Nat} {f : Nat → Int32} (ha : ws[q0]? = some (a, .inl (cA, n, .inl f))) (ht : tys[t0]? = some (cA, .boolean)) {i : Int32} (hout : ¬ vp_in i n) (hdg : decode cc pc = .ok (.baload, 1))
    (k : ∀ tx : String, tx = (toString "Index " ++ toString i ++ toString " out of bounds for length " ++ toString n : String) → vx_Note p l e R s m args below meth c H locs cells slots Q (F0 m pc ls rest) "java/lang/ArrayIndexOutOfBoundsException" tx) : W p l e R s m args below meth c H locs cells slots Q (F0 m pc ls (.int i :: .ref a :: rest)) := by
  intro T hT X
  obtain ⟨t, st, q⟩ := k _ rfl T hT X
  refine ⟨t, ?_, q⟩
  have h1 := X.baloadOut hexec (by rw [hT]; exact hP q0 _ ha) ((hK.2 t0 _ ht).1 n (fun j => .int (f j))) (j := i) (by show (i < 0 ∨ (arrV _ _ _).slots.size ≤ _); rw [arrV_size]; exact Classical.byContradiction hout) (g := F0 m pc ls (.int i :: .ref a :: rest)) rfl (rest := rest) rfl (by rw [hb]; exact hdg) t
  simp only [arrV_size] at h1
  exact h1 st
theorem vx_zastZ {D : va_G} {cl : List vw_C} {ws : va_W} {tys : List (ClassId × FieldType)} {a : Nat} (hexec : p.tables.exec = Jvm.exec) (hb : c.code = cc) (hK : va_K D cl tys s) (hP : va_P D cl ws H) (q0 t0 : Nat) {cA : ClassId} {n : Nat} {f : Nat → Int32} (ha : ws[q0]? = some (a, .inl (cA, n, .inl f))) (ht : tys[t0]? = some (cA, .boolean)) {i : Int32} {x : Int32} (hout : ¬ vp_in i n) (hdg : decode cc pc = .ok (.bastore, 1))
    (k : ∀ tx : String, tx = (toString "Index " ++ toString i ++ toString " out of bounds for length " ++ toString n : String) → vx_Note p l e R s m args below meth c H locs cells slots Q (F0 m pc ls rest) "java/lang/ArrayIndexOutOfBoundsException" tx) : W p l e R s m args below meth c H locs cells slots Q (F0 m pc ls (.int x :: .int i :: .ref a :: rest)) := by
  intro T hT X
  obtain ⟨t, st, q⟩ := k _ rfl T hT X
  refine ⟨t, ?_, q⟩
  have h1 := X.bastoreOut hexec (by rw [hT]; exact hP q0 _ ha) ((hK.2 t0 _ ht).1 n (fun j => .int (f j))) (j := i) (by show (i < 0 ∨ (arrV _ _ _).slots.size ≤ _); rw [arrV_size]; exact Classical.byContradiction hout) (g := F0 m pc ls (.int x :: .int i :: .ref a :: rest)) rfl (rest := rest) rfl (by rw [hb]; exact hdg) t
  simp only [arrV_size] at h1
  exact h1 st
theorem vx_caldZ {D : va_G} {cl : List vw_C} {ws : va_W} {tys : List (ClassId × FieldType)} {a : Nat} (hexec : p.tables.exec = Jvm.exec) (hb : c.code = cc) (hK : va_K D cl tys s) (hP : va_P D cl ws H) (q0 t0 : Nat) {cA : ClassId} {n : Nat} {f : Nat → Int32} (ha : ws[q0]? = some (a, .inl (cA, n, .inl f))) (ht : tys[t0]? = some (cA, .char)) {i : Int32} (hout : ¬ vp_in i n) (hdg : decode cc pc = .ok (.caload, 1))
    (k : ∀ tx : String, tx = (toString "Index " ++ toString i ++ toString " out of bounds for length " ++ toString n : String) → vx_Note p l e R s m args below meth c H locs cells slots Q (F0 m pc ls rest) "java/lang/ArrayIndexOutOfBoundsException" tx) : W p l e R s m args below meth c H locs cells slots Q (F0 m pc ls (.int i :: .ref a :: rest)) := by
  intro T hT X
  obtain ⟨t, st, q⟩ := k _ rfl T hT X
  refine ⟨t, ?_, q⟩
  have h1 := X.caloadOut hexec (by rw [hT]; exact hP q0 _ ha) ((hK.2 t0 _ ht).1 n (fun j => .int (f j))) (j := i) (by show (i < 0 ∨ (arrV _ _ _).slots.size ≤ _); rw [arrV_size]; exact Classical.byContradiction hout) (g := F0 m pc ls (.int i :: .ref a :: rest)) rfl (rest := rest) rfl (by rw [hb]; exact hdg) t
  simp only [arrV_size] at h1
  exact h1 st
theorem vx_castZ {D : va_G} {cl : List vw_C} {ws : va_W} {tys : List (ClassId × FieldType)} {a : Nat} (hexec : p.tables.exec = Jvm.exec) (hb : c.code = cc) (hK : va_K D cl tys s) (hP : va_P D cl ws H) (q0 t0 : Nat) {cA : ClassId} {n : Nat} {f : Nat → Int32} (ha : ws[q0]? = some (a, .inl (cA, n, .inl f))) (ht : tys[t0]? = some (cA, .char)) {i : Int32} {x : Int32} (hout : ¬ vp_in i n) (hdg : decode cc pc = .ok (.castore, 1))
    (k : ∀ tx : String, tx = (toString "Index " ++ toString i ++ toString " out of bounds for length " ++ toString n : String) → vx_Note p l e R s m args below meth c H locs cells slots Q (F0 m pc ls rest) "java/lang/ArrayIndexOutOfBoundsException" tx) : W p l e R s m args below meth c H locs cells slots Q (F0 m pc ls (.int x :: .int i :: .ref a :: rest)) := by
  intro T hT X
  obtain ⟨t, st, q⟩ := k _ rfl T hT X
  refine ⟨t, ?_, q⟩
  have h1 := X.castoreOut hexec (by rw [hT]; exact hP q0 _ ha) ((hK.2 t0 _ ht).1 n (fun j => .int (f j))) (j := i) (by show (i < 0 ∨ (arrV _ _ _).slots.size ≤ _); rw [arrV_size]; exact Classical.byContradiction hout) (g := F0 m pc ls (.int x :: .int i :: .ref a :: rest)) rfl (rest := rest) rfl (by rw [hb]; exact hdg) t
  simp only [arrV_size] at h1
  exact h1 st
theorem vx_saldZ {D : va_G} {cl : List vw_C} {ws : va_W} {tys : List (ClassId × FieldType)} {a : Nat} (hexec : p.tables.exec = Jvm.exec) (hb : c.code = cc) (hK : va_K D cl tys s) (hP : va_P D cl ws H) (q0 t0 : Nat) {cA : ClassId} {n : Nat} {f : Nat → Int32} (ha : ws[q0]? = some (a, .inl (cA, n, .inl f))) (ht : tys[t0]? = some (cA, .short)) {i : Int32} (hout : ¬ vp_in i n) (hdg : decode cc pc = .ok (.saload, 1))
    (k : ∀ tx : String, tx = (toString "Index " ++ toString i ++ toString " out of bounds for length " ++ toString n : String) → vx_Note p l e R s m args below meth c H locs cells slots Q (F0 m pc ls rest) "java/lang/ArrayIndexOutOfBoundsException" tx) : W p l e R s m args below meth c H locs cells slots Q (F0 m pc ls (.int i :: .ref a :: rest)) := by
  intro T hT X
  obtain ⟨t, st, q⟩ := k _ rfl T hT X
  refine ⟨t, ?_, q⟩
  have h1 := X.saloadOut hexec (by rw [hT]; exact hP q0 _ ha) ((hK.2 t0 _ ht).1 n (fun j => .int (f j))) (j := i) (by show (i < 0 ∨ (arrV _ _ _).slots.size ≤ _); rw [arrV_size]; exact Classical.byContradiction hout) (g := F0 m pc ls (.int i :: .ref a :: rest)) rfl (rest := rest) rfl (by rw [hb]; exact hdg) t
  simp only [arrV_size] at h1
  exact h1 st
theorem vx_sastZ {D : va_G} {cl : List vw_C} {ws : va_W} {tys : List (ClassId × FieldType)} {a : Nat} (hexec : p.tables.exec = Jvm.exec) (hb : c.code = cc) (hK : va_K D cl tys s) (hP : va_P D cl ws H) (q0 t0 : Nat) {cA : ClassId} {n : Nat} {f : Nat → Int32} (ha : ws[q0]? = some (a, .inl (cA, n, .inl f))) (ht : tys[t0]? = some (cA, .short)) {i : Int32} {x : Int32} (hout : ¬ vp_in i n) (hdg : decode cc pc = .ok (.sastore, 1))
    (k : ∀ tx : String, tx = (toString "Index " ++ toString i ++ toString " out of bounds for length " ++ toString n : String) → vx_Note p l e R s m args below meth c H locs cells slots Q (F0 m pc ls rest) "java/lang/ArrayIndexOutOfBoundsException" tx) : W p l e R s m args below meth c H locs cells slots Q (F0 m pc ls (.int x :: .int i :: .ref a :: rest)) := by
  intro T hT X
  obtain ⟨t, st, q⟩ := k _ rfl T hT X
  refine ⟨t, ?_, q⟩
  have h1 := X.sastoreOut hexec (by rw [hT]; exact hP q0 _ ha) ((hK.2 t0 _ ht).1 n (fun j => .int (f j))) (j := i) (by show (i < 0 ∨ (arrV _ _ _).slots.size ≤ _); rw [arrV_size]; exact Classical.byContradiction hout) (g := F0 m pc ls (.int x :: .int i :: .ref a :: rest)) rfl (rest := rest) rfl (by rw [hb]; exact hdg) t
  simp only [arrV_size] at h1
  exact h1 st
theorem vx_laldZ {D : va_G} {cl : List vw_C} {ws : va_W} {tys : List (ClassId × FieldType)} {a : Nat} (hexec : p.tables.exec = Jvm.exec) (hb : c.code = cc) (hK : va_K D cl tys s) (hP : va_P D cl ws H) (q0 t0 : Nat) {cA : ClassId} {n : Nat} {f : Nat → Int64} (ha : ws[q0]? = some (a, .inl (cA, n, .inr (.inl f)))) (ht : tys[t0]? = some (cA, .long)) {i : Int32} (hout : ¬ vp_in i n) (hdg : decode cc pc = .ok (.laload, 1))
    (k : ∀ tx : String, tx = (toString "Index " ++ toString i ++ toString " out of bounds for length " ++ toString n : String) → vx_Note p l e R s m args below meth c H locs cells slots Q (F0 m pc ls rest) "java/lang/ArrayIndexOutOfBoundsException" tx) : W p l e R s m args below meth c H locs cells slots Q (F0 m pc ls (.int i :: .ref a :: rest)) := by
  intro T hT X
  obtain ⟨t, st, q⟩ := k _ rfl T hT X
  refine ⟨t, ?_, q⟩
  have h1 := X.laloadOut hexec (by rw [hT]; exact hP q0 _ ha) ((hK.2 t0 _ ht).1 n (fun j => .long (f j))) (j := i) (by show (i < 0 ∨ (arrV _ _ _).slots.size ≤ _); rw [arrV_size]; exact Classical.byContradiction hout) (g := F0 m pc ls (.int i :: .ref a :: rest)) rfl (rest := rest) rfl (by rw [hb]; exact hdg) t
  simp only [arrV_size] at h1
  exact h1 st
theorem vx_lastZ {D : va_G} {cl : List vw_C} {ws : va_W} {tys : List (ClassId × FieldType)} {a : Nat} (hexec : p.tables.exec = Jvm.exec) (hb : c.code = cc) (hK : va_K D cl tys s) (hP : va_P D cl ws H) (q0 t0 : Nat) {cA : ClassId} {n : Nat} {f : Nat → Int64} (ha : ws[q0]? = some (a, .inl (cA, n, .inr (.inl f)))) (ht : tys[t0]? = some (cA, .long)) {i : Int32} {x : Int64} (hout : ¬ vp_in i n) (hdg : decode cc pc = .ok (.lastore, 1))
    (k : ∀ tx : String, tx = (toString "Index " ++ toString i ++ toString " out of bounds for length " ++ toString n : String) → vx_Note p l e R s m args below meth c H locs cells slots Q (F0 m pc ls rest) "java/lang/ArrayIndexOutOfBoundsException" tx) : W p l e R s m args below meth c H locs cells slots Q (F0 m pc ls (.long x :: .int i :: .ref a :: rest)) := by
  intro T hT X
  obtain ⟨t, st, q⟩ := k _ rfl T hT X
  refine ⟨t, ?_, q⟩
  have h1 := X.lastoreOut hexec (by rw [hT]; exact hP q0 _ ha) ((hK.2 t0 _ ht).1 n (fun j => .long (f j))) (j := i) (by show (i < 0 ∨ (arrV _ _ _).slots.size ≤ _); rw [arrV_size]; exact Classical.byContradiction hout) (g := F0 m pc ls (.long x :: .int i :: .ref a :: rest)) rfl (rest := rest) rfl (by rw [hb]; exact hdg) t
  simp only [arrV_size] at h1
  exact h1 st
theorem vx_faldZ {D : va_G} {cl : List vw_C} {ws : va_W} {tys : List (ClassId × FieldType)} {a : Nat} (hexec : p.tables.exec = Jvm.exec) (hb : c.code = cc) (hK : va_K D cl tys s) (hP : va_P D cl ws H) (q0 t0 : Nat) {cA : ClassId} {n : Nat} {f : Nat → UInt32} (ha : ws[q0]? = some (a, .inl (cA, n, .inr (.inr (.inl f))))) (ht : tys[t0]? = some (cA, .float)) {i : Int32} (hout : ¬ vp_in i n) (hdg : decode cc pc = .ok (.faload, 1))
    (k : ∀ tx : String, tx = (toString "Index " ++ toString i ++ toString " out of bounds for length " ++ toString n : String) → vx_Note p l e R s m args below meth c H locs cells slots Q (F0 m pc ls rest) "java/lang/ArrayIndexOutOfBoundsException" tx) : W p l e R s m args below meth c H locs cells slots Q (F0 m pc ls (.int i :: .ref a :: rest)) := by
  intro T hT X
  obtain ⟨t, st, q⟩ := k _ rfl T hT X
  refine ⟨t, ?_, q⟩
  have h1 := X.faloadOut hexec (by rw [hT]; exact hP q0 _ ha) ((hK.2 t0 _ ht).1 n (fun j => .float (f j))) (j := i) (by show (i < 0 ∨ (arrV _ _ _).slots.size ≤ _); rw [arrV_size]; exact Classical.byContradiction hout) (g := F0 m pc ls (.int i :: .ref a :: rest)) rfl (rest := rest) rfl (by rw [hb]; exact hdg) t
  simp only [arrV_size] at h1
  exact h1 st
theorem vx_fastZ {D : va_G} {cl : List vw_C} {ws : va_W} {tys : List (ClassId × FieldType)} {a : Nat} (hexec : p.tables.exec = Jvm.exec) (hb : c.code = cc) (hK : va_K D cl tys s) (hP : va_P D cl ws H) (q0 t0 : Nat) {cA : ClassId} {n : Nat} {f : Nat → UInt32} (ha : ws[q0]? = some (a, .inl (cA, n, .inr (.inr (.inl f))))) (ht : tys[t0]? = some (cA, .float)) {i : Int32} {x : UInt32} (hout : ¬ vp_in i n) (hdg : decode cc pc = .ok (.fastore, 1))
    (k : ∀ tx : String, tx = (toString "Index " ++ toString i ++ toString " out of bounds for length " ++ toString n : String) → vx_Note p l e R s m args below meth c H locs cells slots Q (F0 m pc ls rest) "java/lang/ArrayIndexOutOfBoundsException" tx) : W p l e R s m args below meth c H locs cells slots Q (F0 m pc ls (.float x :: .int i :: .ref a :: rest)) := by
  intro T hT X
  obtain ⟨t, st, q⟩ := k _ rfl T hT X
  refine ⟨t, ?_, q⟩
  have h1 := X.fastoreOut hexec (by rw [hT]; exact hP q0 _ ha) ((hK.2 t0 _ ht).1 n (fun j => .float (f j))) (j := i) (by show (i < 0 ∨ (arrV _ _ _).slots.size ≤ _); rw [arrV_size]; exact Classical.byContradiction hout) (g := F0 m pc ls (.float x :: .int i :: .ref a :: rest)) rfl (rest := rest) rfl (by rw [hb]; exact hdg) t
  simp only [arrV_size] at h1
  exact h1 st
theorem vx_daldZ {D : va_G} {cl : List vw_C} {ws : va_W} {tys : List (ClassId × FieldType)} {a : Nat} (hexec : p.tables.exec = Jvm.exec) (hb : c.code = cc) (hK : va_K D cl tys s) (hP : va_P D cl ws H) (q0 t0 : Nat) {cA : ClassId} {n : Nat} {f : Nat → UInt64} (ha : ws[q0]? = some (a, .inl (cA, n, .inr (.inr (.inr (.inl f)))))) (ht : tys[t0]? = some (cA, .double)) {i : Int32} (hout : ¬ vp_in i n) (hdg : decode cc pc = .ok (.daload, 1))
    (k : ∀ tx : String, tx = (toString "Index " ++ toString i ++ toString " out of bounds for length " ++ toString n : String) → vx_Note p l e R s m args below meth c H locs cells slots Q (F0 m pc ls rest) "java/lang/ArrayIndexOutOfBoundsException" tx) : W p l e R s m args below meth c H locs cells slots Q (F0 m pc ls (.int i :: .ref a :: rest)) := by
  intro T hT X
  obtain ⟨t, st, q⟩ := k _ rfl T hT X
  refine ⟨t, ?_, q⟩
  have h1 := X.daloadOut hexec (by rw [hT]; exact hP q0 _ ha) ((hK.2 t0 _ ht).1 n (fun j => .double (f j))) (j := i) (by show (i < 0 ∨ (arrV _ _ _).slots.size ≤ _); rw [arrV_size]; exact Classical.byContradiction hout) (g := F0 m pc ls (.int i :: .ref a :: rest)) rfl (rest := rest) rfl (by rw [hb]; exact hdg) t
  simp only [arrV_size] at h1
  exact h1 st
theorem vx_dastZ {D : va_G} {cl : List vw_C} {ws : va_W} {tys : List (ClassId × FieldType)} {a : Nat} (hexec : p.tables.exec = Jvm.exec) (hb : c.code = cc) (hK : va_K D cl tys s) (hP : va_P D cl ws H) (q0 t0 : Nat) {cA : ClassId} {n : Nat} {f : Nat → UInt64} (ha : ws[q0]? = some (a, .inl (cA, n, .inr (.inr (.inr (.inl f)))))) (ht : tys[t0]? = some (cA, .double)) {i : Int32} {x : UInt64} (hout : ¬ vp_in i n) (hdg : decode cc pc = .ok (.dastore, 1))
    (k : ∀ tx : String, tx = (toString "Index " ++ toString i ++ toString " out of bounds for length " ++ toString n : String) → vx_Note p l e R s m args below meth c H locs cells slots Q (F0 m pc ls rest) "java/lang/ArrayIndexOutOfBoundsException" tx) : W p l e R s m args below meth c H locs cells slots Q (F0 m pc ls (.double x :: .int i :: .ref a :: rest)) := by
  intro T hT X
  obtain ⟨t, st, q⟩ := k _ rfl T hT X
  refine ⟨t, ?_, q⟩
  have h1 := X.dastoreOut hexec (by rw [hT]; exact hP q0 _ ha) ((hK.2 t0 _ ht).1 n (fun j => .double (f j))) (j := i) (by show (i < 0 ∨ (arrV _ _ _).slots.size ≤ _); rw [arrV_size]; exact Classical.byContradiction hout) (g := F0 m pc ls (.double x :: .int i :: .ref a :: rest)) rfl (rest := rest) rfl (by rw [hb]; exact hdg) t
  simp only [arrV_size] at h1
  exact h1 st
theorem vx_arraylengthN (hexec : p.tables.exec = Jvm.exec) (hb : c.code = cc) (hdg : decode cc pc = .ok (.arraylength, 1)) (k : vx_NoteN p l e R s m args below meth c H locs cells slots Q (F0 m pc ls rest)) : W p l e R s m args below meth c H locs cells slots Q (F0 m pc ls (.null :: rest)) := by
  intro T hT X
  obtain ⟨t, st, q⟩ := k T hT X
  exact ⟨t, X.arraylengthNull hexec (g := F0 m pc ls (.null :: rest)) rfl (rest := rest) rfl (by rw [hb]; exact hdg) t st, q⟩
theorem vx_ialoadN (hexec : p.tables.exec = Jvm.exec) (hb : c.code = cc) {i : Int32} (hdg : decode cc pc = .ok (.iaload, 1)) (k : vx_NoteN p l e R s m args below meth c H locs cells slots Q (F0 m pc ls rest)) : W p l e R s m args below meth c H locs cells slots Q (F0 m pc ls (.int i :: .null :: rest)) := by
  intro T hT X
  obtain ⟨t, st, q⟩ := k T hT X
  exact ⟨t, X.ialoadNull hexec (g := F0 m pc ls (.int i :: .null :: rest)) rfl (rest := rest) rfl (by rw [hb]; exact hdg) t st, q⟩
theorem vx_laloadN (hexec : p.tables.exec = Jvm.exec) (hb : c.code = cc) {i : Int32} (hdg : decode cc pc = .ok (.laload, 1)) (k : vx_NoteN p l e R s m args below meth c H locs cells slots Q (F0 m pc ls rest)) : W p l e R s m args below meth c H locs cells slots Q (F0 m pc ls (.int i :: .null :: rest)) := by
  intro T hT X
  obtain ⟨t, st, q⟩ := k T hT X
  exact ⟨t, X.laloadNull hexec (g := F0 m pc ls (.int i :: .null :: rest)) rfl (rest := rest) rfl (by rw [hb]; exact hdg) t st, q⟩
theorem vx_faloadN (hexec : p.tables.exec = Jvm.exec) (hb : c.code = cc) {i : Int32} (hdg : decode cc pc = .ok (.faload, 1)) (k : vx_NoteN p l e R s m args below meth c H locs cells slots Q (F0 m pc ls rest)) : W p l e R s m args below meth c H locs cells slots Q (F0 m pc ls (.int i :: .null :: rest)) := by
  intro T hT X
  obtain ⟨t, st, q⟩ := k T hT X
  exact ⟨t, X.faloadNull hexec (g := F0 m pc ls (.int i :: .null :: rest)) rfl (rest := rest) rfl (by rw [hb]; exact hdg) t st, q⟩
theorem vx_daloadN (hexec : p.tables.exec = Jvm.exec) (hb : c.code = cc) {i : Int32} (hdg : decode cc pc = .ok (.daload, 1)) (k : vx_NoteN p l e R s m args below meth c H locs cells slots Q (F0 m pc ls rest)) : W p l e R s m args below meth c H locs cells slots Q (F0 m pc ls (.int i :: .null :: rest)) := by
  intro T hT X
  obtain ⟨t, st, q⟩ := k T hT X
  exact ⟨t, X.daloadNull hexec (g := F0 m pc ls (.int i :: .null :: rest)) rfl (rest := rest) rfl (by rw [hb]; exact hdg) t st, q⟩
theorem vx_aaloadN (hexec : p.tables.exec = Jvm.exec) (hb : c.code = cc) {i : Int32} (hdg : decode cc pc = .ok (.aaload, 1)) (k : vx_NoteN p l e R s m args below meth c H locs cells slots Q (F0 m pc ls rest)) : W p l e R s m args below meth c H locs cells slots Q (F0 m pc ls (.int i :: .null :: rest)) := by
  intro T hT X
  obtain ⟨t, st, q⟩ := k T hT X
  exact ⟨t, X.aaloadNull hexec (g := F0 m pc ls (.int i :: .null :: rest)) rfl (rest := rest) rfl (by rw [hb]; exact hdg) t st, q⟩
theorem vx_baloadN (hexec : p.tables.exec = Jvm.exec) (hb : c.code = cc) {i : Int32} (hdg : decode cc pc = .ok (.baload, 1)) (k : vx_NoteN p l e R s m args below meth c H locs cells slots Q (F0 m pc ls rest)) : W p l e R s m args below meth c H locs cells slots Q (F0 m pc ls (.int i :: .null :: rest)) := by
  intro T hT X
  obtain ⟨t, st, q⟩ := k T hT X
  exact ⟨t, X.baloadNull hexec (g := F0 m pc ls (.int i :: .null :: rest)) rfl (rest := rest) rfl (by rw [hb]; exact hdg) t st, q⟩
theorem vx_caloadN (hexec : p.tables.exec = Jvm.exec) (hb : c.code = cc) {i : Int32} (hdg : decode cc pc = .ok (.caload, 1)) (k : vx_NoteN p l e R s m args below meth c H locs cells slots Q (F0 m pc ls rest)) : W p l e R s m args below meth c H locs cells slots Q (F0 m pc ls (.int i :: .null :: rest)) := by
  intro T hT X
  obtain ⟨t, st, q⟩ := k T hT X
  exact ⟨t, X.caloadNull hexec (g := F0 m pc ls (.int i :: .null :: rest)) rfl (rest := rest) rfl (by rw [hb]; exact hdg) t st, q⟩
theorem vx_saloadN (hexec : p.tables.exec = Jvm.exec) (hb : c.code = cc) {i : Int32} (hdg : decode cc pc = .ok (.saload, 1)) (k : vx_NoteN p l e R s m args below meth c H locs cells slots Q (F0 m pc ls rest)) : W p l e R s m args below meth c H locs cells slots Q (F0 m pc ls (.int i :: .null :: rest)) := by
  intro T hT X
  obtain ⟨t, st, q⟩ := k T hT X
  exact ⟨t, X.saloadNull hexec (g := F0 m pc ls (.int i :: .null :: rest)) rfl (rest := rest) rfl (by rw [hb]; exact hdg) t st, q⟩
theorem vx_iastoreN (hexec : p.tables.exec = Jvm.exec) (hb : c.code = cc) {x : Int32} {i : Int32} (hdg : decode cc pc = .ok (.iastore, 1)) (k : vx_NoteN p l e R s m args below meth c H locs cells slots Q (F0 m pc ls rest)) : W p l e R s m args below meth c H locs cells slots Q (F0 m pc ls (.int x :: .int i :: .null :: rest)) := by
  intro T hT X
  obtain ⟨t, st, q⟩ := k T hT X
  exact ⟨t, X.iastoreNull hexec (g := F0 m pc ls (.int x :: .int i :: .null :: rest)) rfl (rest := rest) rfl (by rw [hb]; exact hdg) t st, q⟩
theorem vx_lastoreN (hexec : p.tables.exec = Jvm.exec) (hb : c.code = cc) {x : Int64} {i : Int32} (hdg : decode cc pc = .ok (.lastore, 1)) (k : vx_NoteN p l e R s m args below meth c H locs cells slots Q (F0 m pc ls rest)) : W p l e R s m args below meth c H locs cells slots Q (F0 m pc ls (.long x :: .int i :: .null :: rest)) := by
  intro T hT X
  obtain ⟨t, st, q⟩ := k T hT X
  exact ⟨t, X.lastoreNull hexec (g := F0 m pc ls (.long x :: .int i :: .null :: rest)) rfl (rest := rest) rfl (by rw [hb]; exact hdg) t st, q⟩
theorem vx_fastoreN (hexec : p.tables.exec = Jvm.exec) (hb : c.code = cc) {x : UInt32} {i : Int32} (hdg : decode cc pc = .ok (.fastore, 1)) (k : vx_NoteN p l e R s m args below meth c H locs cells slots Q (F0 m pc ls rest)) : W p l e R s m args below meth c H locs cells slots Q (F0 m pc ls (.float x :: .int i :: .null :: rest)) := by
  intro T hT X
  obtain ⟨t, st, q⟩ := k T hT X
  exact ⟨t, X.fastoreNull hexec (g := F0 m pc ls (.float x :: .int i :: .null :: rest)) rfl (rest := rest) rfl (by rw [hb]; exact hdg) t st, q⟩
theorem vx_dastoreN (hexec : p.tables.exec = Jvm.exec) (hb : c.code = cc) {x : UInt64} {i : Int32} (hdg : decode cc pc = .ok (.dastore, 1)) (k : vx_NoteN p l e R s m args below meth c H locs cells slots Q (F0 m pc ls rest)) : W p l e R s m args below meth c H locs cells slots Q (F0 m pc ls (.double x :: .int i :: .null :: rest)) := by
  intro T hT X
  obtain ⟨t, st, q⟩ := k T hT X
  exact ⟨t, X.dastoreNull hexec (g := F0 m pc ls (.double x :: .int i :: .null :: rest)) rfl (rest := rest) rfl (by rw [hb]; exact hdg) t st, q⟩
theorem vx_bastoreN (hexec : p.tables.exec = Jvm.exec) (hb : c.code = cc) {x : Int32} {i : Int32} (hdg : decode cc pc = .ok (.bastore, 1)) (k : vx_NoteN p l e R s m args below meth c H locs cells slots Q (F0 m pc ls rest)) : W p l e R s m args below meth c H locs cells slots Q (F0 m pc ls (.int x :: .int i :: .null :: rest)) := by
  intro T hT X
  obtain ⟨t, st, q⟩ := k T hT X
  exact ⟨t, X.bastoreNull hexec (g := F0 m pc ls (.int x :: .int i :: .null :: rest)) rfl (rest := rest) rfl (by rw [hb]; exact hdg) t st, q⟩
theorem vx_castoreN (hexec : p.tables.exec = Jvm.exec) (hb : c.code = cc) {x : Int32} {i : Int32} (hdg : decode cc pc = .ok (.castore, 1)) (k : vx_NoteN p l e R s m args below meth c H locs cells slots Q (F0 m pc ls rest)) : W p l e R s m args below meth c H locs cells slots Q (F0 m pc ls (.int x :: .int i :: .null :: rest)) := by
  intro T hT X
  obtain ⟨t, st, q⟩ := k T hT X
  exact ⟨t, X.castoreNull hexec (g := F0 m pc ls (.int x :: .int i :: .null :: rest)) rfl (rest := rest) rfl (by rw [hb]; exact hdg) t st, q⟩
theorem vx_sastoreN (hexec : p.tables.exec = Jvm.exec) (hb : c.code = cc) {x : Int32} {i : Int32} (hdg : decode cc pc = .ok (.sastore, 1)) (k : vx_NoteN p l e R s m args below meth c H locs cells slots Q (F0 m pc ls rest)) : W p l e R s m args below meth c H locs cells slots Q (F0 m pc ls (.int x :: .int i :: .null :: rest)) := by
  intro T hT X
  obtain ⟨t, st, q⟩ := k T hT X
  exact ⟨t, X.sastoreNull hexec (g := F0 m pc ls (.int x :: .int i :: .null :: rest)) rfl (rest := rest) rfl (by rw [hb]; exact hdg) t st, q⟩
theorem vx_invokeN {own C : String} {index maxL : Nat} {y : MethodName} {bytes : ByteArray} {ret : Option FieldType} (hexec : p.tables.exec = Jvm.exec) (hb : c.code = cc) (hown : s.vm.findClass own = some m.cls) (hlink : (Cond.methodLink own index y).before args s = true) (hinst : (Cond.instanceMethod y).before args s = true) (hcode : (Cond.code y bytes maxL ret).before args s = true) (hsel : (Cond.selects C y y).before args s = true)
    (hx : y.cls ≠ "java/lang/invoke/MethodHandle" ∧ y.cls ≠ "java/lang/invoke/VarHandle") {As : List Value} (hlen : (parseMethodDescriptor y.desc).map (fun d => d.parameters.length) = some As.length) (hdg : decode cc pc = .ok (.invokevirtual index, 3))
    (k : vx_NoteN p l e R s m args below meth c H locs cells slots Q (F0 m pc ls rest)) {st0 : List Value} (hst : st0 = As.reverse ++ .null :: rest) : W p l e R s m args below meth c H locs cells slots Q (F0 m pc ls st0) := by
  intro T hT X
  obtain ⟨r0, r, hn, hrm, hstR, hsigR⟩ := va_Decl.of hinst hcode
  obtain ⟨c2, r2, m2, q1, q2, q3, q4, kP, hkP, hkPi⟩ := Cond.selects_spec hsel
  cases hn.symm.trans q3
  have hl9 : As.length = r.sig.parameters.length := by
    rw [hsigR] at hlen
    exact (Option.some.inj hlen).symm
  obtain ⟨vm', X1, st1⟩ := X.invokevirtualNull hexec hown hlink hn hrm hstR hkP hkPi hx (g := F0 m pc ls st0) rfl (argsL := As) (rest := rest) hl9 hst (by rw [hb]; exact hdg)
  obtain ⟨t, st, q⟩ := k (T.setVm vm') hT X1
  exact ⟨t, st1 t st, q⟩
theorem vx_newarrayZ {atype : ArrayType} (hexec : p.tables.exec = Jvm.exec) (hb : c.code = cc) {n : Int32} (h0 : n < 0) (hdg : decode cc pc = .ok (.newarray atype, 2)) (k : ∀ tx : String, tx = toString n → vx_Note p l e R s m args below meth c H locs cells slots Q (F0 m pc ls rest) "java/lang/NegativeArraySizeException" tx) : W p l e R s m args below meth c H locs cells slots Q (F0 m pc ls (.int n :: rest)) := by
  intro T hT X
  obtain ⟨t, st, q⟩ := k _ rfl T hT X
  exact ⟨t, X.newarrayNegative hexec (g := F0 m pc ls (.int n :: rest)) rfl h0 (rest := rest) rfl (by rw [hb]; exact hdg) t st, q⟩
end
end VXM
/-! ===== END ===== -/
end
section
/-! ===== BEGIN printed: names, fields, word lists, decode rows ===== -/
def RX0 : String := "VoussoirYard$BlockKind"
def TX0 : u_T := fun k => match k with
  | 0 => ("VoussoirYard$BlockKind", "width", "I", true)
  | 1 => ("VoussoirYard$BlockKind", "height", "I", true)
  | 2 => ("VoussoirYard$BlockKind", "price", "I", true)
  | 3 => ("VoussoirYard$BlockKind", "isBedded", "Z", true)
  | _ => ("VoussoirYard$BlockKind", "left", "I", false)
def tyX0 : Nat → FieldType := fun k => match k with
  | 0 => .int
  | 1 => .int
  | 2 => .int
  | 3 => .boolean
  | _ => .int
abbrev wsX00 : List Cond := u_ws RX0 TX0 5
theorem nmX0 : ∀ a, a < 5 → ∀ b, b < 5 → a ≠ b → (TX0 a).2.1 ≠ (TX0 b).2.1 := by decide +kernel
theorem tyX0_ok : ∀ k, k < 5 → parseFieldDescriptor (TX0 k).2.2.1 = some (tyX0 k) := by decide +kernel
abbrev cX0_init : ByteArray := prog_2_method_1_code
def yX0_init : MethodName := ⟨RX0, "<init>", "(IIIIZ)V"⟩
abbrev cX0_doubledArea : ByteArray := prog_2_method_2_code
def yX0_doubledArea : MethodName := ⟨RX0, "doubledArea", "()I"⟩
abbrev cX0_canGive : ByteArray := prog_2_method_3_code
def yX0_canGive : MethodName := ⟨RX0, "canGive", "(LVoussoirYard$Quad;)Z"⟩
def RX1 : String := "VoussoirYard$Drawing"
def TX1 : u_T := fun k => match k with
  | 0 => ("VoussoirYard$Drawing", "joints", "[LVoussoirYard$Joint;", true)
  | 1 => ("VoussoirYard$Drawing", "proposed", "LVoussoirYard$Joint;", true)
  | 2 => ("VoussoirYard$Drawing", "quad", "LVoussoirYard$Quad;", true)
  | 3 => ("VoussoirYard$Drawing", "count", "I", false)
  | 4 => ("VoussoirYard$Drawing", "version", "I", false)
  | _ => ("VoussoirYard$Drawing", "density", "I", false)
def tyX1 : Nat → FieldType := fun k => match k with
  | 0 => .array (.object "VoussoirYard$Joint")
  | 1 => .object "VoussoirYard$Joint"
  | 2 => .object "VoussoirYard$Quad"
  | 3 => .int
  | 4 => .int
  | _ => .int
abbrev wsX10 : List Cond := u_ws RX1 TX1 6
theorem nmX1 : ∀ a, a < 6 → ∀ b, b < 6 → a ≠ b → (TX1 a).2.1 ≠ (TX1 b).2.1 := by decide +kernel
theorem tyX1_ok : ∀ k, k < 6 → parseFieldDescriptor (TX1 k).2.2.1 = some (tyX1 k) := by decide +kernel
abbrev cX1_init : ByteArray := prog_3_method_1_code
def yX1_init : MethodName := ⟨RX1, "<init>", "()V"⟩
abbrev cX1_jointAt : ByteArray := prog_3_method_2_code
def yX1_jointAt : MethodName := ⟨RX1, "jointAt", "(I)LVoussoirYard$Joint;"⟩
abbrev cX1_placeCount : ByteArray := prog_3_method_3_code
def yX1_placeCount : MethodName := ⟨RX1, "placeCount", "()I"⟩
abbrev cX1_hasPlace : ByteArray := prog_3_method_4_code
def yX1_hasPlace : MethodName := ⟨RX1, "hasPlace", "(I)Z"⟩
abbrev cX1_propose : ByteArray := prog_3_method_5_code
def yX1_propose : MethodName := ⟨RX1, "propose", "(IIII)V"⟩
abbrev cX1_allowsProposal : ByteArray := prog_3_method_6_code
def yX1_allowsProposal : MethodName := ⟨RX1, "allowsProposal", "(I)Z"⟩
abbrev cX1_wouldTurnLeft : ByteArray := prog_3_method_7_code
def yX1_wouldTurnLeft : MethodName := ⟨RX1, "wouldTurnLeft", "(LVoussoirYard$Joint;LVoussoirYard$Joint;)Z"⟩
abbrev cX1_acceptNewJoint : ByteArray := prog_3_method_8_code
def yX1_acceptNewJoint : MethodName := ⟨RX1, "acceptNewJoint", "()V"⟩
abbrev cX1_acceptMovedJoint : ByteArray := prog_3_method_9_code
def yX1_acceptMovedJoint : MethodName := ⟨RX1, "acceptMovedJoint", "(I)V"⟩
abbrev cX1_quadOf : ByteArray := prog_3_method_10_code
def yX1_quadOf : MethodName := ⟨RX1, "quadOf", "(I)LVoussoirYard$Quad;"⟩
abbrev cX1_areaOf : ByteArray := prog_3_method_11_code
def yX1_areaOf : MethodName := ⟨RX1, "areaOf", "(I)I"⟩
abbrev cX1_weightOf : ByteArray := prog_3_method_12_code
def yX1_weightOf : MethodName := ⟨RX1, "weightOf", "(I)I"⟩
abbrev cX1_areaOfAll : ByteArray := prog_3_method_13_code
def yX1_areaOfAll : MethodName := ⟨RX1, "areaOfAll", "()I"⟩
abbrev cX1_weightOfAll : ByteArray := prog_3_method_14_code
def yX1_weightOfAll : MethodName := ⟨RX1, "weightOfAll", "()I"⟩
abbrev cX1_areaGoneRound : ByteArray := prog_3_method_15_code
def yX1_areaGoneRound : MethodName := ⟨RX1, "areaGoneRound", "()I"⟩
def RX2 : String := "VoussoirYard$Joint"
def TX2 : u_T := fun k => match k with
  | 0 => ("VoussoirYard$Joint", "innerX", "I", false)
  | 1 => ("VoussoirYard$Joint", "innerY", "I", false)
  | 2 => ("VoussoirYard$Joint", "outerX", "I", false)
  | _ => ("VoussoirYard$Joint", "outerY", "I", false)
def tyX2 : Nat → FieldType := fun k => match k with
  | 0 => .int
  | 1 => .int
  | 2 => .int
  | _ => .int
abbrev wsX20 : List Cond := u_ws RX2 TX2 4
theorem nmX2 : ∀ a, a < 4 → ∀ b, b < 4 → a ≠ b → (TX2 a).2.1 ≠ (TX2 b).2.1 := by decide +kernel
theorem tyX2_ok : ∀ k, k < 4 → parseFieldDescriptor (TX2 k).2.2.1 = some (tyX2 k) := by decide +kernel
abbrev cX2_init : ByteArray := prog_4_method_1_code
def yX2_init : MethodName := ⟨RX2, "<init>", "()V"⟩
abbrev cX2_moveTo : ByteArray := prog_4_method_2_code
def yX2_moveTo : MethodName := ⟨RX2, "moveTo", "(IIII)V"⟩
abbrev cX2_hasLength : ByteArray := prog_4_method_3_code
def yX2_hasLength : MethodName := ⟨RX2, "hasLength", "()Z"⟩
def RX3 : String := "VoussoirYard$Mason"
def TX3 : u_T := fun k => match k with
  | 0 => ("VoussoirYard$Mason", "letter", "C", true)
  | 1 => ("VoussoirYard$Mason", "skill", "I", true)
  | 2 => ("VoussoirYard$Mason", "pay", "I", true)
  | 3 => ("VoussoirYard$Mason", "freeOn", "I", false)
  | _ => ("VoussoirYard$Mason", "told", "I", false)
def tyX3 : Nat → FieldType := fun k => match k with
  | 0 => .char
  | 1 => .int
  | 2 => .int
  | 3 => .int
  | _ => .int
abbrev wsX30 : List Cond := u_ws RX3 TX3 5
theorem nmX3 : ∀ a, a < 5 → ∀ b, b < 5 → a ≠ b → (TX3 a).2.1 ≠ (TX3 b).2.1 := by decide +kernel
theorem tyX3_ok : ∀ k, k < 5 → parseFieldDescriptor (TX3 k).2.2.1 = some (tyX3 k) := by decide +kernel
abbrev cX3_init : ByteArray := prog_5_method_1_code
def yX3_init : MethodName := ⟨RX3, "<init>", "(CII)V"⟩
abbrev cX3_markFor : ByteArray := prog_5_method_2_code
def yX3_markFor : MethodName := ⟨RX3, "markFor", "(II)Ljava/lang/String;"⟩
abbrev cX3_finish : ByteArray := prog_5_method_3_code
def yX3_finish : MethodName := ⟨RX3, "finish", "(II)I"⟩
def RX4 : String := "VoussoirYard$Quad"
def TX4 : u_T := fun k => match k with
  | 0 => ("VoussoirYard$Quad", "x", "[I", true)
  | _ => ("VoussoirYard$Quad", "y", "[I", true)
def tyX4 : Nat → FieldType := fun k => match k with
  | 0 => .array .int
  | _ => .array .int
abbrev wsX40 : List Cond := u_ws RX4 TX4 2
theorem nmX4 : ∀ a, a < 2 → ∀ b, b < 2 → a ≠ b → (TX4 a).2.1 ≠ (TX4 b).2.1 := by decide +kernel
theorem tyX4_ok : ∀ k, k < 2 → parseFieldDescriptor (TX4 k).2.2.1 = some (tyX4 k) := by decide +kernel
abbrev cX4_init : ByteArray := prog_6_method_1_code
def yX4_init : MethodName := ⟨RX4, "<init>", "()V"⟩
abbrev cX4_stretch : ByteArray := prog_6_method_2_code
def yX4_stretch : MethodName := ⟨RX4, "stretch", "(LVoussoirYard$Joint;LVoussoirYard$Joint;)V"⟩
abbrev cX4_copyFrom : ByteArray := prog_6_method_3_code
def yX4_copyFrom : MethodName := ⟨RX4, "copyFrom", "(LVoussoirYard$Quad;)V"⟩
abbrev cX4_turnsLeftEverywhere : ByteArray := prog_6_method_4_code
def yX4_turnsLeftEverywhere : MethodName := ⟨RX4, "turnsLeftEverywhere", "()Z"⟩
abbrev cX4_doubledArea : ByteArray := prog_6_method_5_code
def yX4_doubledArea : MethodName := ⟨RX4, "doubledArea", "()I"⟩
abbrev cX4_lightWeight : ByteArray := prog_6_method_6_code
def yX4_lightWeight : MethodName := ⟨RX4, "lightWeight", "()I"⟩
abbrev cX4_lightMoment : ByteArray := prog_6_method_7_code
def yX4_lightMoment : MethodName := ⟨RX4, "lightMoment", "()I"⟩
abbrev cX4_widest : ByteArray := prog_6_method_8_code
def yX4_widest : MethodName := ⟨RX4, "widest", "()I"⟩
abbrev cX4_highest : ByteArray := prog_6_method_9_code
def yX4_highest : MethodName := ⟨RX4, "highest", "()I"⟩
abbrev cX4_greatestDifference : ByteArray := prog_6_method_10_code
def yX4_greatestDifference : MethodName := ⟨RX4, "greatestDifference", "([I)I"⟩
abbrev cX4_looksLike : ByteArray := prog_6_method_11_code
def yX4_looksLike : MethodName := ⟨RX4, "looksLike", "(LVoussoirYard$Quad;)Z"⟩
def RX5 : String := "VoussoirYard$Stone"
def TX5 : u_T := fun k => match k with
  | 0 => ("VoussoirYard$Stone", "shape", "LVoussoirYard$Quad;", true)
  | 1 => ("VoussoirYard$Stone", "blockArea", "I", true)
  | 2 => ("VoussoirYard$Stone", "readyDay", "I", true)
  | 3 => ("VoussoirYard$Stone", "markText", "Ljava/lang/String;", true)
  | _ => ("VoussoirYard$Stone", "state", "C", false)
def tyX5 : Nat → FieldType := fun k => match k with
  | 0 => .object "VoussoirYard$Quad"
  | 1 => .int
  | 2 => .int
  | 3 => .object "java/lang/String"
  | _ => .char
abbrev wsX50 : List Cond := u_ws RX5 TX5 5
theorem nmX5 : ∀ a, a < 5 → ∀ b, b < 5 → a ≠ b → (TX5 a).2.1 ≠ (TX5 b).2.1 := by decide +kernel
theorem tyX5_ok : ∀ k, k < 5 → parseFieldDescriptor (TX5 k).2.2.1 = some (tyX5 k) := by decide +kernel
abbrev cX5_init : ByteArray := prog_7_method_1_code
def yX5_init : MethodName := ⟨RX5, "<init>", "(LVoussoirYard$Quad;IILjava/lang/String;)V"⟩
abbrev cX5_stateAt : ByteArray := prog_7_method_2_code
def yX5_stateAt : MethodName := ⟨RX5, "stateAt", "(I)C"⟩
def RX6 : String := "VoussoirYard$ThrustSearch"
def TX6 : u_T := fun k => match k with
  | 0 => ("VoussoirYard$ThrustSearch", "perH", "[J", true)
  | 1 => ("VoussoirYard$ThrustSearch", "perV", "[J", true)
  | 2 => ("VoussoirYard$ThrustSearch", "rest", "[J", true)
  | 3 => ("VoussoirYard$ThrustSearch", "conditions", "I", false)
  | 4 => ("VoussoirYard$ThrustSearch", "lostForce", "[J", true)
  | 5 => ("VoussoirYard$ThrustSearch", "lostMoment", "[J", true)
  | 6 => ("VoussoirYard$ThrustSearch", "leastTop", "J", false)
  | 7 => ("VoussoirYard$ThrustSearch", "leastDivisor", "J", false)
  | 8 => ("VoussoirYard$ThrustSearch", "mostTop", "J", false)
  | 9 => ("VoussoirYard$ThrustSearch", "mostDivisor", "J", false)
  | _ => ("VoussoirYard$ThrustSearch", "isPossible", "Z", false)
def tyX6 : Nat → FieldType := fun k => match k with
  | 0 => .array .long
  | 1 => .array .long
  | 2 => .array .long
  | 3 => .int
  | 4 => .array .long
  | 5 => .array .long
  | 6 => .long
  | 7 => .long
  | 8 => .long
  | 9 => .long
  | _ => .boolean
abbrev wsX60 : List Cond := u_ws RX6 TX6 11
theorem nmX6 : ∀ a, a < 11 → ∀ b, b < 11 → a ≠ b → (TX6 a).2.1 ≠ (TX6 b).2.1 := by decide +kernel
theorem tyX6_ok : ∀ k, k < 11 → parseFieldDescriptor (TX6 k).2.2.1 = some (tyX6 k) := by decide +kernel
abbrev cX6_init : ByteArray := prog_8_method_1_code
def yX6_init : MethodName := ⟨RX6, "<init>", "()V"⟩
abbrev cX6_finds : ByteArray := prog_8_method_2_code
def yX6_finds : MethodName := ⟨RX6, "finds", "(LVoussoirYard$Drawing;[II)Z"⟩
abbrev cX6_leastThrustRoundedUp : ByteArray := prog_8_method_3_code
def yX6_leastThrustRoundedUp : MethodName := ⟨RX6, "leastThrustRoundedUp", "()J"⟩
abbrev cX6_sumWeights : ByteArray := prog_8_method_4_code
def yX6_sumWeights : MethodName := ⟨RX6, "sumWeights", "(LVoussoirYard$Drawing;[I)V"⟩
abbrev cX6_addLines : ByteArray := prog_8_method_5_code
def yX6_addLines : MethodName := ⟨RX6, "addLines", "(LVoussoirYard$Drawing;I)V"⟩
abbrev cX6_momentAgainst : ByteArray := prog_8_method_6_code
def yX6_momentAgainst : MethodName := ⟨RX6, "momentAgainst", "(II)J"⟩
abbrev cX6_addGrip : ByteArray := prog_8_method_7_code
def yX6_addGrip : MethodName := ⟨RX6, "addGrip", "(LVoussoirYard$Joint;II)V"⟩
abbrev cX6_addCondition : ByteArray := prog_8_method_8_code
def yX6_addCondition : MethodName := ⟨RX6, "addCondition", "(JJJ)V"⟩
abbrev cX6_takeOutV : ByteArray := prog_8_method_9_code
def yX6_takeOutV : MethodName := ⟨RX6, "takeOutV", "()V"⟩
abbrev cX6_pairWithBoundsFromAbove : ByteArray := prog_8_method_10_code
def yX6_pairWithBoundsFromAbove : MethodName := ⟨RX6, "pairWithBoundsFromAbove", "(I)V"⟩
abbrev cX6_boundH : ByteArray := prog_8_method_11_code
def yX6_boundH : MethodName := ⟨RX6, "boundH", "(JJ)V"⟩
def RX7 : String := "VoussoirYard"
def TX7 : u_T := fun k => match k with
  | 0 => ("VoussoirYard", "drawing", "LVoussoirYard$Drawing;", true)
  | 1 => ("VoussoirYard", "search", "LVoussoirYard$ThrustSearch;", true)
  | 2 => ("VoussoirYard", "kinds", "[LVoussoirYard$BlockKind;", true)
  | 3 => ("VoussoirYard", "masons", "[LVoussoirYard$Mason;", true)
  | 4 => ("VoussoirYard", "stones", "[LVoussoirYard$Stone;", true)
  | 5 => ("VoussoirYard", "stoneOfPlace", "[I", true)
  | 6 => ("VoussoirYard", "loadOfPlace", "[I", true)
  | 7 => ("VoussoirYard", "triedLoads", "[I", true)
  | 8 => ("VoussoirYard", "kindCount", "I", false)
  | 9 => ("VoussoirYard", "masonCount", "I", false)
  | 10 => ("VoussoirYard", "stoneCount", "I", false)
  | 11 => ("VoussoirYard", "centreStrength", "I", false)
  | 12 => ("VoussoirYard", "isStanding", "Z", false)
  | 13 => ("VoussoirYard", "today", "I", false)
  | 14 => ("VoussoirYard", "lastSetDay", "I", false)
  | _ => ("VoussoirYard", "moneySpent", "J", false)
def tyX7 : Nat → FieldType := fun k => match k with
  | 0 => .object "VoussoirYard$Drawing"
  | 1 => .object "VoussoirYard$ThrustSearch"
  | 2 => .array (.object "VoussoirYard$BlockKind")
  | 3 => .array (.object "VoussoirYard$Mason")
  | 4 => .array (.object "VoussoirYard$Stone")
  | 5 => .array .int
  | 6 => .array .int
  | 7 => .array .int
  | 8 => .int
  | 9 => .int
  | 10 => .int
  | 11 => .int
  | 12 => .boolean
  | 13 => .int
  | 14 => .int
  | _ => .long
abbrev wsX70 : List Cond := u_ws RX7 TX7 16
theorem nmX7 : ∀ a, a < 16 → ∀ b, b < 16 → a ≠ b → (TX7 a).2.1 ≠ (TX7 b).2.1 := by decide +kernel
theorem tyX7_ok : ∀ k, k < 16 → parseFieldDescriptor (TX7 k).2.2.1 = some (tyX7 k) := by decide +kernel
abbrev cX7_init : ByteArray := prog_1_method_1_code
def yX7_init : MethodName := ⟨RX7, "<init>", "()V"⟩
abbrev cX7_drawJoint : ByteArray := prog_1_method_2_code
def yX7_drawJoint : MethodName := ⟨RX7, "drawJoint", "(IIII)I"⟩
abbrev cX7_moveJoint : ByteArray := prog_1_method_3_code
def yX7_moveJoint : MethodName := ⟨RX7, "moveJoint", "(IIIII)I"⟩
abbrev cX7_setDensity : ByteArray := prog_1_method_4_code
def yX7_setDensity : MethodName := ⟨RX7, "setDensity", "(I)I"⟩
abbrev cX7_places : ByteArray := prog_1_method_5_code
def yX7_places : MethodName := ⟨RX7, "places", "()I"⟩
abbrev cX7_area : ByteArray := prog_1_method_6_code
def yX7_area : MethodName := ⟨RX7, "area", "(I)I"⟩
abbrev cX7_weight : ByteArray := prog_1_method_7_code
def yX7_weight : MethodName := ⟨RX7, "weight", "(I)I"⟩
abbrev cX7_isOnPaper : ByteArray := prog_1_method_8_code
def yX7_isOnPaper : MethodName := ⟨RX7, "isOnPaper", "(II)Z"⟩
abbrev cX7_isSafe : ByteArray := prog_1_method_9_code
def yX7_isSafe : MethodName := ⟨RX7, "isSafe", "(I)Z"⟩
abbrev cX7_thrust : ByteArray := prog_1_method_10_code
def yX7_thrust : MethodName := ⟨RX7, "thrust", "(I)J"⟩
abbrev cX7_bears : ByteArray := prog_1_method_11_code
def yX7_bears : MethodName := ⟨RX7, "bears", "(II)I"⟩
abbrev cX7_grip : ByteArray := prog_1_method_12_code
def yX7_grip : MethodName := ⟨RX7, "grip", "()I"⟩
abbrev cX7_isGrip : ByteArray := prog_1_method_13_code
def yX7_isGrip : MethodName := ⟨RX7, "isGrip", "(I)Z"⟩
abbrev cX7_wouldBear : ByteArray := prog_1_method_14_code
def yX7_wouldBear : MethodName := ⟨RX7, "wouldBear", "(III)Z"⟩
abbrev cX7_addBlocks : ByteArray := prog_1_method_15_code
def yX7_addBlocks : MethodName := ⟨RX7, "addBlocks", "(IIIIZ)I"⟩
abbrev cX7_blocks : ByteArray := prog_1_method_16_code
def yX7_blocks : MethodName := ⟨RX7, "blocks", "(I)I"⟩
abbrev cX7_bestBlock : ByteArray := prog_1_method_17_code
def yX7_bestBlock : MethodName := ⟨RX7, "bestBlock", "(I)I"⟩
abbrev cX7_addMason : ByteArray := prog_1_method_18_code
def yX7_addMason : MethodName := ⟨RX7, "addMason", "(II)I"⟩
abbrev cX7_cut : ByteArray := prog_1_method_19_code
def yX7_cut : MethodName := ⟨RX7, "cut", "(III)I"⟩
abbrev cX7_isBetween : ByteArray := prog_1_method_20_code
def yX7_isBetween : MethodName := ⟨RX7, "isBetween", "(III)Z"⟩
abbrev cX7_kindAt : ByteArray := prog_1_method_21_code
def yX7_kindAt : MethodName := ⟨RX7, "kindAt", "(I)LVoussoirYard$BlockKind;"⟩
abbrev cX7_masonAt : ByteArray := prog_1_method_22_code
def yX7_masonAt : MethodName := ⟨RX7, "masonAt", "(I)LVoussoirYard$Mason;"⟩
abbrev cX7_readyOn : ByteArray := prog_1_method_23_code
def yX7_readyOn : MethodName := ⟨RX7, "readyOn", "(I)I"⟩
abbrev cX7_stateOf : ByteArray := prog_1_method_24_code
def yX7_stateOf : MethodName := ⟨RX7, "stateOf", "(I)C"⟩
abbrev cX7_mark : ByteArray := prog_1_method_25_code
def yX7_mark : MethodName := ⟨RX7, "mark", "(I)I"⟩
abbrev cX7_markAt : ByteArray := prog_1_method_26_code
def yX7_markAt : MethodName := ⟨RX7, "markAt", "(II)C"⟩
abbrev cX7_fits : ByteArray := prog_1_method_27_code
def yX7_fits : MethodName := ⟨RX7, "fits", "(II)Z"⟩
abbrev cX7_setCentre : ByteArray := prog_1_method_28_code
def yX7_setCentre : MethodName := ⟨RX7, "setCentre", "(I)I"⟩
abbrev cX7_set : ByteArray := prog_1_method_29_code
def yX7_set : MethodName := ⟨RX7, "set", "(II)I"⟩
abbrev cX7_stoneIn : ByteArray := prog_1_method_30_code
def yX7_stoneIn : MethodName := ⟨RX7, "stoneIn", "(I)I"⟩
abbrev cX7_strike : ByteArray := prog_1_method_31_code
def yX7_strike : MethodName := ⟨RX7, "strike", "()J"⟩
abbrev cX7_load : ByteArray := prog_1_method_32_code
def yX7_load : MethodName := ⟨RX7, "load", "(II)Z"⟩
abbrev cX7_stands : ByteArray := prog_1_method_33_code
def yX7_stands : MethodName := ⟨RX7, "stands", "()Z"⟩
abbrev cX7_pass : ByteArray := prog_1_method_34_code
def yX7_pass : MethodName := ⟨RX7, "pass", "(I)I"⟩
abbrev cX7_stoneAt : ByteArray := prog_1_method_35_code
def yX7_stoneAt : MethodName := ⟨RX7, "stoneAt", "(I)LVoussoirYard$Stone;"⟩
abbrev cX7_stoneOf : ByteArray := prog_1_method_36_code
def yX7_stoneOf : MethodName := ⟨RX7, "stoneOf", "(I)I"⟩
abbrev cX7_isFilled : ByteArray := prog_1_method_37_code
def yX7_isFilled : MethodName := ⟨RX7, "isFilled", "(I)Z"⟩
abbrev cX7_filledPlaces : ByteArray := prog_1_method_38_code
def yX7_filledPlaces : MethodName := ⟨RX7, "filledPlaces", "()I"⟩
abbrev cX7_isWholeArchFilled : ByteArray := prog_1_method_39_code
def yX7_isWholeArchFilled : MethodName := ⟨RX7, "isWholeArchFilled", "()Z"⟩
abbrev cX7_canBeFilled : ByteArray := prog_1_method_40_code
def yX7_canBeFilled : MethodName := ⟨RX7, "canBeFilled", "(I)Z"⟩
abbrev cX7_centreWouldBear : ByteArray := prog_1_method_41_code
def yX7_centreWouldBear : MethodName := ⟨RX7, "centreWouldBear", "(I)Z"⟩
abbrev cX7_isSafeWithMortar : ByteArray := prog_1_method_42_code
def yX7_isSafeWithMortar : MethodName := ⟨RX7, "isSafeWithMortar", "()Z"⟩
abbrev cX7_fall : ByteArray := prog_1_method_43_code
def yX7_fall : MethodName := ⟨RX7, "fall", "()V"⟩
abbrev cX7_spent : ByteArray := prog_1_method_44_code
def yX7_spent : MethodName := ⟨RX7, "spent", "()J"⟩
abbrev cX7_waste : ByteArray := prog_1_method_45_code
def yX7_waste : MethodName := ⟨RX7, "waste", "()I"⟩
abbrev cX7_usedShare : ByteArray := prog_1_method_46_code
def yX7_usedShare : MethodName := ⟨RX7, "usedShare", "()F"⟩
abbrev cX7_meanArea : ByteArray := prog_1_method_47_code
def yX7_meanArea : MethodName := ⟨RX7, "meanArea", "()D"⟩
abbrev cX7_isSound : ByteArray := prog_1_method_48_code
def yX7_isSound : MethodName := ⟨RX7, "isSound", "()Z"⟩
abbrev cX7_areaOfUsedBlocks : ByteArray := prog_1_method_49_code
def yX7_areaOfUsedBlocks : MethodName := ⟨RX7, "areaOfUsedBlocks", "()I"⟩
abbrev cX7_areaOfStones : ByteArray := prog_1_method_50_code
def yX7_areaOfStones : MethodName := ⟨RX7, "areaOfStones", "()I"⟩
abbrev cX7_areSetStonesFitting : ByteArray := prog_1_method_51_code
def yX7_areSetStonesFitting : MethodName := ⟨RX7, "areSetStonesFitting", "()Z"⟩
abbrev cX7_frostFreeDaysBefore : ByteArray := prog_1_method_52_code
def yX7_frostFreeDaysBefore : MethodName := ⟨RX7, "frostFreeDaysBefore", "(I)I"⟩
abbrev cX7_dayBehindWork : ByteArray := prog_1_method_53_code
def yX7_dayBehindWork : MethodName := ⟨RX7, "dayBehindWork", "(II)I"⟩
abbrev cX7_cross : ByteArray := prog_1_method_54_code
def yX7_cross : MethodName := ⟨RX7, "cross", "(IIII)I"⟩
def RX8 : String := "VoussoirYardModel$Blocks"
def TX8 : u_T := fun k => match k with
  | 0 => ("VoussoirYardModel$Blocks", "width", "I", true)
  | 1 => ("VoussoirYardModel$Blocks", "height", "I", true)
  | 2 => ("VoussoirYardModel$Blocks", "price", "I", true)
  | 3 => ("VoussoirYardModel$Blocks", "bedded", "Z", true)
  | _ => ("VoussoirYardModel$Blocks", "left", "I", false)
def tyX8 : Nat → FieldType := fun k => match k with
  | 0 => .int
  | 1 => .int
  | 2 => .int
  | 3 => .boolean
  | _ => .int
abbrev wsX80 : List Cond := u_ws RX8 TX8 5
theorem nmX8 : ∀ a, a < 5 → ∀ b, b < 5 → a ≠ b → (TX8 a).2.1 ≠ (TX8 b).2.1 := by decide +kernel
theorem tyX8_ok : ∀ k, k < 5 → parseFieldDescriptor (TX8 k).2.2.1 = some (tyX8 k) := by decide +kernel
abbrev cX8_init : ByteArray := prog_11_method_1_code
def yX8_init : MethodName := ⟨RX8, "<init>", "(IIIIZ)V"⟩
def RX9 : String := "VoussoirYardModel$Mason"
def TX9 : u_T := fun k => match k with
  | 0 => ("VoussoirYardModel$Mason", "skill", "I", true)
  | 1 => ("VoussoirYardModel$Mason", "pay", "I", true)
  | 2 => ("VoussoirYardModel$Mason", "free", "I", false)
  | _ => ("VoussoirYardModel$Mason", "begun", "I", false)
def tyX9 : Nat → FieldType := fun k => match k with
  | 0 => .int
  | 1 => .int
  | 2 => .int
  | _ => .int
abbrev wsX90 : List Cond := u_ws RX9 TX9 4
theorem nmX9 : ∀ a, a < 4 → ∀ b, b < 4 → a ≠ b → (TX9 a).2.1 ≠ (TX9 b).2.1 := by decide +kernel
theorem tyX9_ok : ∀ k, k < 4 → parseFieldDescriptor (TX9 k).2.2.1 = some (tyX9 k) := by decide +kernel
abbrev cX9_init : ByteArray := prog_12_method_1_code
def yX9_init : MethodName := ⟨RX9, "<init>", "(II)V"⟩
def RX10 : String := "VoussoirYardModel$Stone"
def TX10 : u_T := fun k => match k with
  | 0 => ("VoussoirYardModel$Stone", "shape", "[I", true)
  | 1 => ("VoussoirYardModel$Stone", "ready", "I", true)
  | 2 => ("VoussoirYardModel$Stone", "mark", "Ljava/lang/String;", true)
  | _ => ("VoussoirYardModel$Stone", "state", "C", false)
def tyX10 : Nat → FieldType := fun k => match k with
  | 0 => .array .int
  | 1 => .int
  | 2 => .object "java/lang/String"
  | _ => .char
abbrev wsX100 : List Cond := u_ws RX10 TX10 4
theorem nmX10 : ∀ a, a < 4 → ∀ b, b < 4 → a ≠ b → (TX10 a).2.1 ≠ (TX10 b).2.1 := by decide +kernel
theorem tyX10_ok : ∀ k, k < 4 → parseFieldDescriptor (TX10 k).2.2.1 = some (tyX10 k) := by decide +kernel
abbrev cX10_init : ByteArray := prog_13_method_1_code
def yX10_init : MethodName := ⟨RX10, "<init>", "([IILjava/lang/String;)V"⟩
def RX11 : String := "VoussoirYardModel"
def TX11 : u_T := fun k => match k with
  | 0 => ("VoussoirYardModel", "joints", "Ljava/util/List;", true)
  | 1 => ("VoussoirYardModel", "quarry", "Ljava/util/List;", true)
  | 2 => ("VoussoirYardModel", "masons", "Ljava/util/List;", true)
  | 3 => ("VoussoirYardModel", "stones", "Ljava/util/List;", true)
  | 4 => ("VoussoirYardModel", "filled", "[I", true)
  | 5 => ("VoussoirYardModel", "loads", "[I", true)
  | 6 => ("VoussoirYardModel", "thrown", "I", false)
  | 7 => ("VoussoirYardModel", "version", "I", false)
  | 8 => ("VoussoirYardModel", "density", "I", false)
  | 9 => ("VoussoirYardModel", "day", "I", false)
  | 10 => ("VoussoirYardModel", "strength", "I", false)
  | 11 => ("VoussoirYardModel", "waste", "I", false)
  | 12 => ("VoussoirYardModel", "used", "I", false)
  | 13 => ("VoussoirYardModel", "cut", "I", false)
  | 14 => ("VoussoirYardModel", "set", "I", false)
  | 15 => ("VoussoirYardModel", "stands", "Z", false)
  | _ => ("VoussoirYardModel", "spent", "J", false)
def tyX11 : Nat → FieldType := fun k => match k with
  | 0 => .object "java/util/List"
  | 1 => .object "java/util/List"
  | 2 => .object "java/util/List"
  | 3 => .object "java/util/List"
  | 4 => .array .int
  | 5 => .array .int
  | 6 => .int
  | 7 => .int
  | 8 => .int
  | 9 => .int
  | 10 => .int
  | 11 => .int
  | 12 => .int
  | 13 => .int
  | 14 => .int
  | 15 => .boolean
  | _ => .long
abbrev wsX110 : List Cond := u_ws RX11 TX11 17
theorem nmX11 : ∀ a, a < 17 → ∀ b, b < 17 → a ≠ b → (TX11 a).2.1 ≠ (TX11 b).2.1 := by decide +kernel
theorem tyX11_ok : ∀ k, k < 17 → parseFieldDescriptor (TX11 k).2.2.1 = some (tyX11 k) := by decide +kernel
abbrev cX11_init : ByteArray := prog_10_method_1_code
def yX11_init : MethodName := ⟨RX11, "<init>", "()V"⟩
abbrev cX11_thrown : ByteArray := prog_10_method_2_code
def yX11_thrown : MethodName := ⟨RX11, "thrown", "()I"⟩
abbrev cX11_refuse : ByteArray := prog_10_method_3_code
def yX11_refuse : MethodName := ⟨RX11, "refuse", "(I)I"⟩
abbrev cX11_isIn : ByteArray := prog_10_method_4_code
def yX11_isIn : MethodName := ⟨RX11, "isIn", "(JJJ)Z"⟩
abbrev cX11_no : ByteArray := prog_10_method_5_code
def yX11_no : MethodName := ⟨RX11, "no", "(ZI)Z"⟩
abbrev cX11_many : ByteArray := prog_10_method_6_code
def yX11_many : MethodName := ⟨RX11, "many", "()I"⟩
abbrev cX11_isPlace : ByteArray := prog_10_method_7_code
def yX11_isPlace : MethodName := ⟨RX11, "isPlace", "(I)Z"⟩
abbrev cX11_noPlace : ByteArray := prog_10_method_8_code
def yX11_noPlace : MethodName := ⟨RX11, "noPlace", "(I)Z"⟩
abbrev cX11_corners : ByteArray := prog_10_method_9_code
def yX11_corners : MethodName := ⟨RX11, "corners", "([I[I)[I"⟩
abbrev cX11_turns : ByteArray := prog_10_method_10_code
def yX11_turns : MethodName := ⟨RX11, "turns", "([I[I)Z"⟩
abbrev cX11_isJoint : ByteArray := prog_10_method_11_code
def yX11_isJoint : MethodName := ⟨RX11, "isJoint", "([I)Z"⟩
abbrev cX11_standing : ByteArray := prog_10_method_12_code
def yX11_standing : MethodName := ⟨RX11, "standing", "()I"⟩
abbrev cX11_drawJoint : ByteArray := prog_10_method_13_code
def yX11_drawJoint : MethodName := ⟨RX11, "drawJoint", "(IIII)I"⟩
abbrev cX11_moveJoint : ByteArray := prog_10_method_14_code
def yX11_moveJoint : MethodName := ⟨RX11, "moveJoint", "(IIIII)I"⟩
abbrev cX11_setDensity : ByteArray := prog_10_method_15_code
def yX11_setDensity : MethodName := ⟨RX11, "setDensity", "(I)I"⟩
abbrev cX11_places : ByteArray := prog_10_method_16_code
def yX11_places : MethodName := ⟨RX11, "places", "()I"⟩
abbrev cX11_shapeOf : ByteArray := prog_10_method_17_code
def yX11_shapeOf : MethodName := ⟨RX11, "shapeOf", "(I)[I"⟩
abbrev cX11_areaOf : ByteArray := prog_10_method_18_code
def yX11_areaOf : MethodName := ⟨RX11, "areaOf", "(I)I"⟩
abbrev cX11_momentOf : ByteArray := prog_10_method_19_code
def yX11_momentOf : MethodName := ⟨RX11, "momentOf", "(I)J"⟩
abbrev cX11_weightOf : ByteArray := prog_10_method_20_code
def yX11_weightOf : MethodName := ⟨RX11, "weightOf", "(I)I"⟩
abbrev cX11_area : ByteArray := prog_10_method_21_code
def yX11_area : MethodName := ⟨RX11, "area", "(I)I"⟩
abbrev cX11_weight : ByteArray := prog_10_method_22_code
def yX11_weight : MethodName := ⟨RX11, "weight", "(I)I"⟩
abbrev cX11_conditions : ByteArray := prog_10_method_23_code
def yX11_conditions : MethodName := ⟨RX11, "conditions", "(I)Ljava/util/List;"⟩
abbrev cX11_det : ByteArray := prog_10_method_24_code
def yX11_det : MethodName := ⟨RX11, "det", "([J[J[JIII)J"⟩
abbrev cX11_least : ByteArray := prog_10_method_25_code
def yX11_least : MethodName := ⟨RX11, "least", "(I)[J"⟩
abbrev cX11_meets : ByteArray := prog_10_method_26_code
def yX11_meets : MethodName := ⟨RX11, "meets", "(Ljava/util/List;[J[J[JJ)Z"⟩
abbrev cX11_isGrip : ByteArray := prog_10_method_27_code
def yX11_isGrip : MethodName := ⟨RX11, "isGrip", "(I)Z"⟩
abbrev cX11_isSafe : ByteArray := prog_10_method_28_code
def yX11_isSafe : MethodName := ⟨RX11, "isSafe", "(I)Z"⟩
abbrev cX11_up : ByteArray := prog_10_method_29_code
def yX11_up : MethodName := ⟨RX11, "up", "([J)J"⟩
abbrev cX11_thrust : ByteArray := prog_10_method_30_code
def yX11_thrust : MethodName := ⟨RX11, "thrust", "(I)J"⟩
abbrev cX11_holds : ByteArray := prog_10_method_31_code
def yX11_holds : MethodName := ⟨RX11, "holds", "(III)Z"⟩
abbrev cX11_bears : ByteArray := prog_10_method_32_code
def yX11_bears : MethodName := ⟨RX11, "bears", "(II)I"⟩
abbrev cX11_isFrost : ByteArray := prog_10_method_33_code
def yX11_isFrost : MethodName := ⟨RX11, "isFrost", "(I)Z"⟩
abbrev cX11_gripOf : ByteArray := prog_10_method_34_code
def yX11_gripOf : MethodName := ⟨RX11, "gripOf", "()I"⟩
abbrev cX11_grip : ByteArray := prog_10_method_35_code
def yX11_grip : MethodName := ⟨RX11, "grip", "()I"⟩
abbrev cX11_addBlocks : ByteArray := prog_10_method_36_code
def yX11_addBlocks : MethodName := ⟨RX11, "addBlocks", "(IIIIZ)I"⟩
abbrev cX11_blocks : ByteArray := prog_10_method_37_code
def yX11_blocks : MethodName := ⟨RX11, "blocks", "(I)I"⟩
abbrev cX11_canCut : ByteArray := prog_10_method_38_code
def yX11_canCut : MethodName := ⟨RX11, "canCut", "(ILVoussoirYardModel$Blocks;)Z"⟩
abbrev cX11_bestBlock : ByteArray := prog_10_method_39_code
def yX11_bestBlock : MethodName := ⟨RX11, "bestBlock", "(I)I"⟩
abbrev cX11_addMason : ByteArray := prog_10_method_40_code
def yX11_addMason : MethodName := ⟨RX11, "addMason", "(II)I"⟩
abbrev cX11_cut : ByteArray := prog_10_method_41_code
def yX11_cut : MethodName := ⟨RX11, "cut", "(III)I"⟩
abbrev cX11_seen : ByteArray := prog_10_method_42_code
def yX11_seen : MethodName := ⟨RX11, "seen", "([I)[I"⟩
abbrev cX11_isStone : ByteArray := prog_10_method_43_code
def yX11_isStone : MethodName := ⟨RX11, "isStone", "(I)Z"⟩
abbrev cX11_noStone : ByteArray := prog_10_method_44_code
def yX11_noStone : MethodName := ⟨RX11, "noStone", "(I)Z"⟩
abbrev cX11_readyOn : ByteArray := prog_10_method_45_code
def yX11_readyOn : MethodName := ⟨RX11, "readyOn", "(I)I"⟩
abbrev cX11_stateIn : ByteArray := prog_10_method_46_code
def yX11_stateIn : MethodName := ⟨RX11, "stateIn", "(I)C"⟩
abbrev cX11_stateOf : ByteArray := prog_10_method_47_code
def yX11_stateOf : MethodName := ⟨RX11, "stateOf", "(I)C"⟩
abbrev cX11_mark : ByteArray := prog_10_method_48_code
def yX11_mark : MethodName := ⟨RX11, "mark", "(I)I"⟩
abbrev cX11_markAt : ByteArray := prog_10_method_49_code
def yX11_markAt : MethodName := ⟨RX11, "markAt", "(II)C"⟩
abbrev cX11_isFitting : ByteArray := prog_10_method_50_code
def yX11_isFitting : MethodName := ⟨RX11, "isFitting", "(II)Z"⟩
abbrev cX11_fits : ByteArray := prog_10_method_51_code
def yX11_fits : MethodName := ⟨RX11, "fits", "(II)Z"⟩
abbrev cX11_setCentre : ByteArray := prog_10_method_52_code
def yX11_setCentre : MethodName := ⟨RX11, "setCentre", "(I)I"⟩
abbrev cX11_set : ByteArray := prog_10_method_53_code
def yX11_set : MethodName := ⟨RX11, "set", "(II)I"⟩
abbrev cX11_stoneIn : ByteArray := prog_10_method_54_code
def yX11_stoneIn : MethodName := ⟨RX11, "stoneIn", "(I)I"⟩
abbrev cX11_strike : ByteArray := prog_10_method_55_code
def yX11_strike : MethodName := ⟨RX11, "strike", "()J"⟩
abbrev cX11_load : ByteArray := prog_10_method_56_code
def yX11_load : MethodName := ⟨RX11, "load", "(II)Z"⟩
abbrev cX11_stands : ByteArray := prog_10_method_57_code
def yX11_stands : MethodName := ⟨RX11, "stands", "()Z"⟩
abbrev cX11_pass : ByteArray := prog_10_method_58_code
def yX11_pass : MethodName := ⟨RX11, "pass", "(I)I"⟩
abbrev cX11_spent : ByteArray := prog_10_method_59_code
def yX11_spent : MethodName := ⟨RX11, "spent", "()J"⟩
abbrev cX11_waste : ByteArray := prog_10_method_60_code
def yX11_waste : MethodName := ⟨RX11, "waste", "()I"⟩
abbrev cX11_usedShare : ByteArray := prog_10_method_61_code
def yX11_usedShare : MethodName := ⟨RX11, "usedShare", "()F"⟩
abbrev cX11_meanArea : ByteArray := prog_10_method_62_code
def yX11_meanArea : MethodName := ⟨RX11, "meanArea", "()D"⟩
abbrev cX11_isSound : ByteArray := prog_10_method_63_code
def yX11_isSound : MethodName := ⟨RX11, "isSound", "()Z"⟩
def RJx145de : String := "java/io/Serializable"
def TJx145de : u_T := fun k => match k with
  | _ => ("", "", "", false)
def tyJx145de : Nat → FieldType := fun k => match k with
  | _ => .int
abbrev wsJx145de0 : List Cond := u_ws RJx145de TJx145de 0
theorem nmJx145de : ∀ a, a < 0 → ∀ b, b < 0 → a ≠ b → (TJx145de a).2.1 ≠ (TJx145de b).2.1 := by decide +kernel
theorem tyJx145de_ok : ∀ k, k < 0 → parseFieldDescriptor (TJx145de k).2.2.1 = some (tyJx145de k) := by decide +kernel
def RJ5 : String := "java/lang/AbstractStringBuilder"
def TJ5 : u_T := fun k => match k with
  | _ => ("", "", "", false)
def tyJ5 : Nat → FieldType := fun k => match k with
  | _ => .int
abbrev wsJ50 : List Cond := u_ws RJ5 TJ5 0
theorem nmJ5 : ∀ a, a < 0 → ∀ b, b < 0 → a ≠ b → (TJ5 a).2.1 ≠ (TJ5 b).2.1 := by decide +kernel
theorem tyJ5_ok : ∀ k, k < 0 → parseFieldDescriptor (TJ5 k).2.2.1 = some (tyJ5 k) := by decide +kernel
abbrev cJ5_init_d00df : ByteArray := prog_15_method_2_code
def yJ5_init_d00df : MethodName := ⟨RJ5, "<init>", "(I)V"⟩
abbrev cJ5_length_8abf5 : ByteArray := prog_15_method_6_code
def yJ5_length_8abf5 : MethodName := ⟨RJ5, "length", "()I"⟩
abbrev cJ5_ensureCapacityInternal_d00df : ByteArray := prog_15_method_9_code
def yJ5_ensureCapacityInternal_d00df : MethodName := ⟨RJ5, "ensureCapacityInternal", "(I)V"⟩
abbrev cJ5_newCapacity_0f7a4 : ByteArray := prog_15_method_10_code
def yJ5_newCapacity_0f7a4 : MethodName := ⟨RJ5, "newCapacity", "(I)I"⟩
abbrev cJ5_inflate_da8c8 : ByteArray := prog_15_method_11_code
def yJ5_inflate_da8c8 : MethodName := ⟨RJ5, "inflate", "()V"⟩
abbrev cJ5_append_cf1ce : ByteArray := prog_15_method_22_code
def yJ5_append_cf1ce : MethodName := ⟨RJ5, "append", "(Ljava/lang/String;)Ljava/lang/AbstractStringBuilder;"⟩
abbrev cJ5_appendNull_278bc : ByteArray := prog_15_method_26_code
def yJ5_appendNull_278bc : MethodName := ⟨RJ5, "appendNull", "()Ljava/lang/AbstractStringBuilder;"⟩
abbrev cJ5_append_3fe6f : ByteArray := prog_15_method_31_code
def yJ5_append_3fe6f : MethodName := ⟨RJ5, "append", "(C)Ljava/lang/AbstractStringBuilder;"⟩
abbrev cJ5_append_c97b9 : ByteArray := prog_15_method_32_code
def yJ5_append_c97b9 : MethodName := ⟨RJ5, "append", "(I)Ljava/lang/AbstractStringBuilder;"⟩
abbrev cJ5_getValue_6d5f1 : ByteArray := prog_15_method_64_code
def yJ5_getValue_6d5f1 : MethodName := ⟨RJ5, "getValue", "()[B"⟩
abbrev cJ5_isLatin1_aae02 : ByteArray := prog_15_method_68_code
def yJ5_isLatin1_aae02 : MethodName := ⟨RJ5, "isLatin1", "()Z"⟩
abbrev cJ5_inflateIfNeededFor_a7421 : ByteArray := prog_15_method_71_code
def yJ5_inflateIfNeededFor_a7421 : MethodName := ⟨RJ5, "inflateIfNeededFor", "(Ljava/lang/String;)V"⟩
abbrev cJ5_putStringAt_47b60 : ByteArray := prog_15_method_73_code
def yJ5_putStringAt_47b60 : MethodName := ⟨RJ5, "putStringAt", "(ILjava/lang/String;)V"⟩
def RJx2cfe8 : String := "java/lang/Appendable"
def TJx2cfe8 : u_T := fun k => match k with
  | _ => ("", "", "", false)
def tyJx2cfe8 : Nat → FieldType := fun k => match k with
  | _ => .int
abbrev wsJx2cfe80 : List Cond := u_ws RJx2cfe8 TJx2cfe8 0
theorem nmJx2cfe8 : ∀ a, a < 0 → ∀ b, b < 0 → a ≠ b → (TJx2cfe8 a).2.1 ≠ (TJx2cfe8 b).2.1 := by decide +kernel
theorem tyJx2cfe8_ok : ∀ k, k < 0 → parseFieldDescriptor (TJx2cfe8 k).2.2.1 = some (tyJx2cfe8 k) := by decide +kernel
def RJx00060 : String := "java/lang/ArrayIndexOutOfBoundsException"
def TJx00060 : u_T := fun k => match k with
  | 0 => ("java/lang/Throwable", "backtrace", "Ljava/lang/Object;", false)
  | 1 => ("java/lang/Throwable", "detailMessage", "Ljava/lang/String;", false)
  | 2 => ("java/lang/Throwable", "cause", "Ljava/lang/Throwable;", false)
  | 3 => ("java/lang/Throwable", "stackTrace", "[Ljava/lang/StackTraceElement;", false)
  | 4 => ("java/lang/Throwable", "depth", "I", false)
  | _ => ("java/lang/Throwable", "suppressedExceptions", "Ljava/util/List;", false)
def tyJx00060 : Nat → FieldType := fun k => match k with
  | 0 => .object "java/lang/Object"
  | 1 => .object "java/lang/String"
  | 2 => .object "java/lang/Throwable"
  | 3 => .array (.object "java/lang/StackTraceElement")
  | 4 => .int
  | _ => .object "java/util/List"
abbrev wsJx000600 : List Cond := u_ws RJx00060 TJx00060 6
theorem nmJx00060 : ∀ a, a < 6 → ∀ b, b < 6 → a ≠ b → (TJx00060 a).2.1 ≠ (TJx00060 b).2.1 := by decide +kernel
theorem tyJx00060_ok : ∀ k, k < 6 → parseFieldDescriptor (TJx00060 k).2.2.1 = some (tyJx00060 k) := by decide +kernel
abbrev cJx00060_init_a7421 : ByteArray := prog_18_method_2_code
def yJx00060_init_a7421 : MethodName := ⟨RJx00060, "<init>", "(Ljava/lang/String;)V"⟩
def RJx9f9b0 : String := "java/lang/CharSequence"
def TJx9f9b0 : u_T := fun k => match k with
  | _ => ("", "", "", false)
def tyJx9f9b0 : Nat → FieldType := fun k => match k with
  | _ => .int
abbrev wsJx9f9b00 : List Cond := u_ws RJx9f9b0 TJx9f9b0 0
theorem nmJx9f9b0 : ∀ a, a < 0 → ∀ b, b < 0 → a ≠ b → (TJx9f9b0 a).2.1 ≠ (TJx9f9b0 b).2.1 := by decide +kernel
theorem tyJx9f9b0_ok : ∀ k, k < 0 → parseFieldDescriptor (TJx9f9b0 k).2.2.1 = some (tyJx9f9b0 k) := by decide +kernel
def RJx8e188 : String := "java/lang/Cloneable"
def TJx8e188 : u_T := fun k => match k with
  | _ => ("", "", "", false)
def tyJx8e188 : Nat → FieldType := fun k => match k with
  | _ => .int
abbrev wsJx8e1880 : List Cond := u_ws RJx8e188 TJx8e188 0
theorem nmJx8e188 : ∀ a, a < 0 → ∀ b, b < 0 → a ≠ b → (TJx8e188 a).2.1 ≠ (TJx8e188 b).2.1 := by decide +kernel
theorem tyJx8e188_ok : ∀ k, k < 0 → parseFieldDescriptor (TJx8e188 k).2.2.1 = some (tyJx8e188 k) := by decide +kernel
def RJxb160c : String := "java/lang/Comparable"
def TJxb160c : u_T := fun k => match k with
  | _ => ("", "", "", false)
def tyJxb160c : Nat → FieldType := fun k => match k with
  | _ => .int
abbrev wsJxb160c0 : List Cond := u_ws RJxb160c TJxb160c 0
theorem nmJxb160c : ∀ a, a < 0 → ∀ b, b < 0 → a ≠ b → (TJxb160c a).2.1 ≠ (TJxb160c b).2.1 := by decide +kernel
theorem tyJxb160c_ok : ∀ k, k < 0 → parseFieldDescriptor (TJxb160c k).2.2.1 = some (tyJxb160c k) := by decide +kernel
def RJ6 : String := "java/lang/Integer"
def TJ6 : u_T := fun k => match k with
  | _ => ("", "", "", false)
def tyJ6 : Nat → FieldType := fun k => match k with
  | _ => .int
abbrev wsJ60 : List Cond := u_ws RJ6 TJ6 0
theorem nmJ6 : ∀ a, a < 0 → ∀ b, b < 0 → a ≠ b → (TJ6 a).2.1 ≠ (TJ6 b).2.1 := by decide +kernel
theorem tyJ6_ok : ∀ k, k < 0 → parseFieldDescriptor (TJ6 k).2.2.1 = some (tyJ6 k) := by decide +kernel
abbrev cJ6_getChars_ba4f3 : ByteArray := prog_26_method_12_code
def yJ6_getChars_ba4f3 : MethodName := ⟨RJ6, "getChars", "(II[B)I"⟩
abbrev cJ6_stringSize_0f7a4 : ByteArray := prog_26_method_13_code
def yJ6_stringSize_0f7a4 : MethodName := ⟨RJ6, "stringSize", "(I)I"⟩
def RJxab1ab : String := "java/lang/Iterable"
def TJxab1ab : u_T := fun k => match k with
  | _ => ("", "", "", false)
def tyJxab1ab : Nat → FieldType := fun k => match k with
  | _ => .int
abbrev wsJxab1ab0 : List Cond := u_ws RJxab1ab TJxab1ab 0
theorem nmJxab1ab : ∀ a, a < 0 → ∀ b, b < 0 → a ≠ b → (TJxab1ab a).2.1 ≠ (TJxab1ab b).2.1 := by decide +kernel
theorem tyJxab1ab_ok : ∀ k, k < 0 → parseFieldDescriptor (TJxab1ab k).2.2.1 = some (tyJxab1ab k) := by decide +kernel
def RJ9 : String := "java/lang/Math"
def TJ9 : u_T := fun k => match k with
  | _ => ("", "", "", false)
def tyJ9 : Nat → FieldType := fun k => match k with
  | _ => .int
abbrev wsJ90 : List Cond := u_ws RJ9 TJ9 0
theorem nmJ9 : ∀ a, a < 0 → ∀ b, b < 0 → a ≠ b → (TJ9 a).2.1 ≠ (TJ9 b).2.1 := by decide +kernel
theorem tyJ9_ok : ∀ k, k < 0 → parseFieldDescriptor (TJ9 k).2.2.1 = some (tyJ9 k) := by decide +kernel
abbrev cJ9_floorDiv_f86c9 : ByteArray := prog_28_method_49_code
def yJ9_floorDiv_f86c9 : MethodName := ⟨RJ9, "floorDiv", "(JJ)J"⟩
abbrev cJ9_abs_067f4 : ByteArray := prog_28_method_61_code
def yJ9_abs_067f4 : MethodName := ⟨RJ9, "abs", "(J)J"⟩
abbrev cJ9_max_7cf53 : ByteArray := prog_28_method_65_code
def yJ9_max_7cf53 : MethodName := ⟨RJ9, "max", "(II)I"⟩
abbrev cJ9_min_7cf53 : ByteArray := prog_28_method_69_code
def yJ9_min_7cf53 : MethodName := ⟨RJ9, "min", "(II)I"⟩
def RJxd2413 : String := "java/lang/Number"
def TJxd2413 : u_T := fun k => match k with
  | _ => ("", "", "", false)
def tyJxd2413 : Nat → FieldType := fun k => match k with
  | _ => .int
abbrev wsJxd24130 : List Cond := u_ws RJxd2413 TJxd2413 0
theorem nmJxd2413 : ∀ a, a < 0 → ∀ b, b < 0 → a ≠ b → (TJxd2413 a).2.1 ≠ (TJxd2413 b).2.1 := by decide +kernel
theorem tyJxd2413_ok : ∀ k, k < 0 → parseFieldDescriptor (TJxd2413 k).2.2.1 = some (tyJxd2413 k) := by decide +kernel
def RJ0 : String := "java/lang/String"
def TJ0 : u_T := fun k => match k with
  | 0 => ("java/lang/String", "value", "[B", true)
  | 1 => ("java/lang/String", "coder", "B", true)
  | 2 => ("java/lang/String", "hash", "I", false)
  | _ => ("java/lang/String", "hashIsZero", "Z", false)
def tyJ0 : Nat → FieldType := fun k => match k with
  | 0 => .array .byte
  | 1 => .byte
  | 2 => .int
  | _ => .boolean
abbrev wsJ00 : List Cond := u_ws RJ0 TJ0 4
theorem nmJ0 : ∀ a, a < 4 → ∀ b, b < 4 → a ≠ b → (TJ0 a).2.1 ≠ (TJ0 b).2.1 := by decide +kernel
theorem tyJ0_ok : ∀ k, k < 4 → parseFieldDescriptor (TJ0 k).2.2.1 = some (tyJ0 k) := by decide +kernel
abbrev cJ0_init_81219 : ByteArray := prog_31_method_53_code
def yJ0_init_81219 : MethodName := ⟨RJ0, "<init>", "(Ljava/lang/StringBuilder;)V"⟩
abbrev cJ0_length_8abf5 : ByteArray := prog_31_method_54_code
def yJ0_length_8abf5 : MethodName := ⟨RJ0, "length", "()I"⟩
abbrev cJ0_charAt_5068e : ByteArray := prog_31_method_56_code
def yJ0_charAt_5068e : MethodName := ⟨RJ0, "charAt", "(I)C"⟩
abbrev cJ0_getBytes_840e7 : ByteArray := prog_31_method_147_code
def yJ0_getBytes_840e7 : MethodName := ⟨RJ0, "getBytes", "([BIB)V"⟩
abbrev cJ0_init_db425 : ByteArray := prog_31_method_150_code
def yJ0_init_db425 : MethodName := ⟨RJ0, "<init>", "(Ljava/lang/AbstractStringBuilder;Ljava/lang/Void;)V"⟩
abbrev cJ0_coder_7d493 : ByteArray := prog_31_method_152_code
def yJ0_coder_7d493 : MethodName := ⟨RJ0, "coder", "()B"⟩
abbrev cJ0_isLatin1_aae02 : ByteArray := prog_31_method_154_code
def yJ0_isLatin1_aae02 : MethodName := ⟨RJ0, "isLatin1", "()Z"⟩
abbrev cJ0_checkIndex_df160 : ByteArray := prog_31_method_155_code
def yJ0_checkIndex_df160 : MethodName := ⟨RJ0, "checkIndex", "(II)V"⟩
abbrev cJ0_checkBoundsOffCount_cabcc : ByteArray := prog_31_method_157_code
def yJ0_checkBoundsOffCount_cabcc : MethodName := ⟨RJ0, "checkBoundsOffCount", "(III)I"⟩
abbrev cJ0_checkBoundsBeginEnd_23922 : ByteArray := prog_31_method_158_code
def yJ0_checkBoundsBeginEnd_23922 : MethodName := ⟨RJ0, "checkBoundsBeginEnd", "(III)V"⟩
def RJ4 : String := "java/lang/StringBuilder"
def TJ4 : u_T := fun k => match k with
  | 0 => ("java/lang/AbstractStringBuilder", "value", "[B", false)
  | 1 => ("java/lang/AbstractStringBuilder", "coder", "B", false)
  | 2 => ("java/lang/AbstractStringBuilder", "maybeLatin1", "Z", false)
  | _ => ("java/lang/AbstractStringBuilder", "count", "I", false)
def tyJ4 : Nat → FieldType := fun k => match k with
  | 0 => .array .byte
  | 1 => .byte
  | 2 => .boolean
  | _ => .int
abbrev wsJ40 : List Cond := u_ws RJ4 TJ4 4
theorem nmJ4 : ∀ a, a < 4 → ∀ b, b < 4 → a ≠ b → (TJ4 a).2.1 ≠ (TJ4 b).2.1 := by decide +kernel
theorem tyJ4_ok : ∀ k, k < 4 → parseFieldDescriptor (TJ4 k).2.2.1 = some (tyJ4 k) := by decide +kernel
abbrev cJ4_init_da8c8 : ByteArray := prog_32_method_1_code
def yJ4_init_da8c8 : MethodName := ⟨RJ4, "<init>", "()V"⟩
abbrev cJ4_append_15ec4 : ByteArray := prog_32_method_7_code
def yJ4_append_15ec4 : MethodName := ⟨RJ4, "append", "(Ljava/lang/String;)Ljava/lang/StringBuilder;"⟩
abbrev cJ4_append_cf468 : ByteArray := prog_32_method_14_code
def yJ4_append_cf468 : MethodName := ⟨RJ4, "append", "(C)Ljava/lang/StringBuilder;"⟩
abbrev cJ4_append_bf812 : ByteArray := prog_32_method_15_code
def yJ4_append_bf812 : MethodName := ⟨RJ4, "append", "(I)Ljava/lang/StringBuilder;"⟩
abbrev cJ4_toString_0e30d : ByteArray := prog_32_method_42_code
def yJ4_toString_0e30d : MethodName := ⟨RJ4, "toString", "()Ljava/lang/String;"⟩
abbrev cJ4_length_8abf5 : ByteArray := prog_32_method_93_code
def yJ4_length_8abf5 : MethodName := ⟨RJ4, "length", "()I"⟩
def RJ1 : String := "java/lang/StringLatin1"
def TJ1 : u_T := fun k => match k with
  | _ => ("", "", "", false)
def tyJ1 : Nat → FieldType := fun k => match k with
  | _ => .int
abbrev wsJ10 : List Cond := u_ws RJ1 TJ1 0
theorem nmJ1 : ∀ a, a < 0 → ∀ b, b < 0 → a ≠ b → (TJ1 a).2.1 ≠ (TJ1 b).2.1 := by decide +kernel
theorem tyJ1_ok : ∀ k, k < 0 → parseFieldDescriptor (TJ1 k).2.2.1 = some (tyJ1 k) := by decide +kernel
abbrev cJ1_charAt_3b067 : ByteArray := prog_33_method_2_code
def yJ1_charAt_3b067 : MethodName := ⟨RJ1, "charAt", "([BI)C"⟩
abbrev cJ1_canEncode_fc78d : ByteArray := prog_33_method_3_code
def yJ1_canEncode_fc78d : MethodName := ⟨RJ1, "canEncode", "(C)Z"⟩
abbrev cJ1_inflate_0e8fd : ByteArray := prog_33_method_50_code
def yJ1_inflate_0e8fd : MethodName := ⟨RJ1, "inflate", "([BI[BII)V"⟩
def RJ2 : String := "java/lang/StringUTF16"
def TJ2 : u_T := fun k => match k with
  | _ => ("", "", "", false)
def tyJ2 : Nat → FieldType := fun k => match k with
  | _ => .int
abbrev wsJ20 : List Cond := u_ws RJ2 TJ2 0
theorem nmJ2 : ∀ a, a < 0 → ∀ b, b < 0 → a ≠ b → (TJ2 a).2.1 ≠ (TJ2 b).2.1 := by decide +kernel
theorem tyJ2_ok : ∀ k, k < 0 → parseFieldDescriptor (TJ2 k).2.2.1 = some (tyJ2 k) := by decide +kernel
abbrev cJ2_newBytesFor_77867 : ByteArray := prog_34_method_2_code
def yJ2_newBytesFor_77867 : MethodName := ⟨RJ2, "newBytesFor", "(I)[B"⟩
abbrev cJ2_newBytesLength_0f7a4 : ByteArray := prog_34_method_3_code
def yJ2_newBytesLength_0f7a4 : MethodName := ⟨RJ2, "newBytesLength", "(I)I"⟩
abbrev cJ2_putChar_b72d1 : ByteArray := prog_34_method_4_code
def yJ2_putChar_b72d1 : MethodName := ⟨RJ2, "putChar", "([BII)V"⟩
abbrev cJ2_getChar_3b067 : ByteArray := prog_34_method_5_code
def yJ2_getChar_3b067 : MethodName := ⟨RJ2, "getChar", "([BI)C"⟩
abbrev cJ2_length_9d52b : ByteArray := prog_34_method_6_code
def yJ2_length_9d52b : MethodName := ⟨RJ2, "length", "([B)I"⟩
abbrev cJ2_coderFromArrayLen_85cad : ByteArray := prog_34_method_15_code
def yJ2_coderFromArrayLen_85cad : MethodName := ⟨RJ2, "coderFromArrayLen", "([BI)B"⟩
abbrev cJ2_compress_39247 : ByteArray := prog_34_method_17_code
def yJ2_compress_39247 : MethodName := ⟨RJ2, "compress", "([BII)[B"⟩
abbrev cJ2_compress_5af95 : ByteArray := prog_34_method_22_code
def yJ2_compress_5af95 : MethodName := ⟨RJ2, "compress", "([BI[BII)I"⟩
abbrev cJ2_putCharSB_b72d1 : ByteArray := prog_34_method_71_code
def yJ2_putCharSB_b72d1 : MethodName := ⟨RJ2, "putCharSB", "([BII)V"⟩
abbrev cJ2_getChars_46870 : ByteArray := prog_34_method_77_code
def yJ2_getChars_46870 : MethodName := ⟨RJ2, "getChars", "(III[B)I"⟩
abbrev cJ2_putCharsAt_cd4e5 : ByteArray := prog_34_method_81_code
def yJ2_putCharsAt_cd4e5 : MethodName := ⟨RJ2, "putCharsAt", "([BICCCC)I"⟩
abbrev cJ2_charAt_3b067 : ByteArray := prog_34_method_83_code
def yJ2_charAt_3b067 : MethodName := ⟨RJ2, "charAt", "([BI)C"⟩
abbrev cJ2_inflate_0e8fd : ByteArray := prog_34_method_86_code
def yJ2_inflate_0e8fd : MethodName := ⟨RJ2, "inflate", "([BI[BII)V"⟩
abbrev cJ2_getChars_ba4f3 : ByteArray := prog_34_method_89_code
def yJ2_getChars_ba4f3 : MethodName := ⟨RJ2, "getChars", "(II[B)I"⟩
abbrev cJ2_checkIndex_2214a : ByteArray := prog_34_method_91_code
def yJ2_checkIndex_2214a : MethodName := ⟨RJ2, "checkIndex", "(I[B)V"⟩
abbrev cJ2_checkBoundsBeginEnd_d044e : ByteArray := prog_34_method_93_code
def yJ2_checkBoundsBeginEnd_d044e : MethodName := ⟨RJ2, "checkBoundsBeginEnd", "(II[B)V"⟩
abbrev cJ2_checkBoundsOffCount_d044e : ByteArray := prog_34_method_94_code
def yJ2_checkBoundsOffCount_d044e : MethodName := ⟨RJ2, "checkBoundsOffCount", "(II[B)V"⟩
def RJ10 : String := "java/lang/System"
def TJ10 : u_T := fun k => match k with
  | _ => ("", "", "", false)
def tyJ10 : Nat → FieldType := fun k => match k with
  | _ => .int
abbrev wsJ100 : List Cond := u_ws RJ10 TJ10 0
theorem nmJ10 : ∀ a, a < 0 → ∀ b, b < 0 → a ≠ b → (TJ10 a).2.1 ≠ (TJ10 b).2.1 := by decide +kernel
theorem tyJ10_ok : ∀ k, k < 0 → parseFieldDescriptor (TJ10 k).2.2.1 = some (tyJ10 k) := by decide +kernel
def RJxfd54e : String := "java/lang/constant/Constable"
def TJxfd54e : u_T := fun k => match k with
  | _ => ("", "", "", false)
def tyJxfd54e : Nat → FieldType := fun k => match k with
  | _ => .int
abbrev wsJxfd54e0 : List Cond := u_ws RJxfd54e TJxfd54e 0
theorem nmJxfd54e : ∀ a, a < 0 → ∀ b, b < 0 → a ≠ b → (TJxfd54e a).2.1 ≠ (TJxfd54e b).2.1 := by decide +kernel
theorem tyJxfd54e_ok : ∀ k, k < 0 → parseFieldDescriptor (TJxfd54e k).2.2.1 = some (tyJxfd54e k) := by decide +kernel
def RJx3cf43 : String := "java/lang/constant/ConstantDesc"
def TJx3cf43 : u_T := fun k => match k with
  | _ => ("", "", "", false)
def tyJx3cf43 : Nat → FieldType := fun k => match k with
  | _ => .int
abbrev wsJx3cf430 : List Cond := u_ws RJx3cf43 TJx3cf43 0
theorem nmJx3cf43 : ∀ a, a < 0 → ∀ b, b < 0 → a ≠ b → (TJx3cf43 a).2.1 ≠ (TJx3cf43 b).2.1 := by decide +kernel
theorem tyJx3cf43_ok : ∀ k, k < 0 → parseFieldDescriptor (TJx3cf43 k).2.2.1 = some (tyJx3cf43 k) := by decide +kernel
def RJxa1e45 : String := "java/util/AbstractCollection"
def TJxa1e45 : u_T := fun k => match k with
  | _ => ("", "", "", false)
def tyJxa1e45 : Nat → FieldType := fun k => match k with
  | _ => .int
abbrev wsJxa1e450 : List Cond := u_ws RJxa1e45 TJxa1e45 0
theorem nmJxa1e45 : ∀ a, a < 0 → ∀ b, b < 0 → a ≠ b → (TJxa1e45 a).2.1 ≠ (TJxa1e45 b).2.1 := by decide +kernel
theorem tyJxa1e45_ok : ∀ k, k < 0 → parseFieldDescriptor (TJxa1e45 k).2.2.1 = some (tyJxa1e45 k) := by decide +kernel
abbrev cJxa1e45_init_da8c8 : ByteArray := prog_40_method_1_code
def yJxa1e45_init_da8c8 : MethodName := ⟨RJxa1e45, "<init>", "()V"⟩
def RJxc12de : String := "java/util/AbstractList"
def TJxc12de : u_T := fun k => match k with
  | _ => ("", "", "", false)
def tyJxc12de : Nat → FieldType := fun k => match k with
  | _ => .int
abbrev wsJxc12de0 : List Cond := u_ws RJxc12de TJxc12de 0
theorem nmJxc12de : ∀ a, a < 0 → ∀ b, b < 0 → a ≠ b → (TJxc12de a).2.1 ≠ (TJxc12de b).2.1 := by decide +kernel
theorem tyJxc12de_ok : ∀ k, k < 0 → parseFieldDescriptor (TJxc12de k).2.2.1 = some (tyJxc12de k) := by decide +kernel
abbrev cJxc12de_init_da8c8 : ByteArray := prog_41_method_1_code
def yJxc12de_init_da8c8 : MethodName := ⟨RJxc12de, "<init>", "()V"⟩
def RJx35411 : String := "java/util/ArrayList$Itr"
def TJx35411 : u_T := fun k => match k with
  | 0 => ("java/util/ArrayList$Itr", "cursor", "I", false)
  | 1 => ("java/util/ArrayList$Itr", "lastRet", "I", false)
  | 2 => ("java/util/ArrayList$Itr", "expectedModCount", "I", false)
  | _ => ("java/util/ArrayList$Itr", "this$0", "Ljava/util/ArrayList;", true)
def tyJx35411 : Nat → FieldType := fun k => match k with
  | 0 => .int
  | 1 => .int
  | 2 => .int
  | _ => .object "java/util/ArrayList"
abbrev wsJx354110 : List Cond := u_ws RJx35411 TJx35411 4
theorem nmJx35411 : ∀ a, a < 4 → ∀ b, b < 4 → a ≠ b → (TJx35411 a).2.1 ≠ (TJx35411 b).2.1 := by decide +kernel
theorem tyJx35411_ok : ∀ k, k < 4 → parseFieldDescriptor (TJx35411 k).2.2.1 = some (tyJx35411 k) := by decide +kernel
abbrev cJx35411_init_45d68 : ByteArray := prog_43_method_1_code
def yJx35411_init_45d68 : MethodName := ⟨RJx35411, "<init>", "(Ljava/util/ArrayList;)V"⟩
abbrev cJx35411_hasNext_aae02 : ByteArray := prog_43_method_2_code
def yJx35411_hasNext_aae02 : MethodName := ⟨RJx35411, "hasNext", "()Z"⟩
abbrev cJx35411_next_0502b : ByteArray := prog_43_method_3_code
def yJx35411_next_0502b : MethodName := ⟨RJx35411, "next", "()Ljava/lang/Object;"⟩
abbrev cJx35411_checkForComodification_da8c8 : ByteArray := prog_43_method_6_code
def yJx35411_checkForComodification_da8c8 : MethodName := ⟨RJx35411, "checkForComodification", "()V"⟩
def RJx4a65c : String := "java/util/ArrayList"
def TJx4a65c : u_T := fun k => match k with
  | 0 => ("java/util/AbstractList", "modCount", "I", false)
  | 1 => ("java/util/ArrayList", "elementData", "[Ljava/lang/Object;", false)
  | _ => ("java/util/ArrayList", "size", "I", false)
def tyJx4a65c : Nat → FieldType := fun k => match k with
  | 0 => .int
  | 1 => .array (.object "java/lang/Object")
  | _ => .int
abbrev wsJx4a65c0 : List Cond := u_ws RJx4a65c TJx4a65c 3
theorem nmJx4a65c : ∀ a, a < 3 → ∀ b, b < 3 → a ≠ b → (TJx4a65c a).2.1 ≠ (TJx4a65c b).2.1 := by decide +kernel
theorem tyJx4a65c_ok : ∀ k, k < 3 → parseFieldDescriptor (TJx4a65c k).2.2.1 = some (tyJx4a65c k) := by decide +kernel
abbrev cJx4a65c_init_da8c8 : ByteArray := prog_42_method_2_code
def yJx4a65c_init_da8c8 : MethodName := ⟨RJx4a65c, "<init>", "()V"⟩
abbrev cJx4a65c_grow_92f84 : ByteArray := prog_42_method_6_code
def yJx4a65c_grow_92f84 : MethodName := ⟨RJx4a65c, "grow", "(I)[Ljava/lang/Object;"⟩
abbrev cJx4a65c_grow_d5877 : ByteArray := prog_42_method_7_code
def yJx4a65c_grow_d5877 : MethodName := ⟨RJx4a65c, "grow", "()[Ljava/lang/Object;"⟩
abbrev cJx4a65c_size_8abf5 : ByteArray := prog_42_method_8_code
def yJx4a65c_size_8abf5 : MethodName := ⟨RJx4a65c, "size", "()I"⟩
abbrev cJx4a65c_isEmpty_aae02 : ByteArray := prog_42_method_9_code
def yJx4a65c_isEmpty_aae02 : MethodName := ⟨RJx4a65c, "isEmpty", "()Z"⟩
abbrev cJx4a65c_elementData_915e3 : ByteArray := prog_42_method_18_code
def yJx4a65c_elementData_915e3 : MethodName := ⟨RJx4a65c, "elementData", "(I)Ljava/lang/Object;"⟩
abbrev cJx4a65c_get_915e3 : ByteArray := prog_42_method_20_code
def yJx4a65c_get_915e3 : MethodName := ⟨RJx4a65c, "get", "(I)Ljava/lang/Object;"⟩
abbrev cJx4a65c_set_bcc79 : ByteArray := prog_42_method_23_code
def yJx4a65c_set_bcc79 : MethodName := ⟨RJx4a65c, "set", "(ILjava/lang/Object;)Ljava/lang/Object;"⟩
abbrev cJx4a65c_add_72be8 : ByteArray := prog_42_method_24_code
def yJx4a65c_add_72be8 : MethodName := ⟨RJx4a65c, "add", "(Ljava/lang/Object;[Ljava/lang/Object;I)V"⟩
abbrev cJx4a65c_add_9ea2d : ByteArray := prog_42_method_25_code
def yJx4a65c_add_9ea2d : MethodName := ⟨RJx4a65c, "add", "(Ljava/lang/Object;)Z"⟩
abbrev cJx4a65c_iterator_32c93 : ByteArray := prog_42_method_55_code
def yJx4a65c_iterator_32c93 : MethodName := ⟨RJx4a65c, "iterator", "()Ljava/util/Iterator;"⟩
def RJ7 : String := "java/util/Arrays"
def TJ7 : u_T := fun k => match k with
  | _ => ("", "", "", false)
def tyJ7 : Nat → FieldType := fun k => match k with
  | _ => .int
abbrev wsJ70 : List Cond := u_ws RJ7 TJ7 0
theorem nmJ7 : ∀ a, a < 0 → ∀ b, b < 0 → a ≠ b → (TJ7 a).2.1 ≠ (TJ7 b).2.1 := by decide +kernel
theorem tyJ7_ok : ∀ k, k < 0 → parseFieldDescriptor (TJ7 k).2.2.1 = some (tyJ7 k) := by decide +kernel
abbrev cJ7_copyOf_1904c : ByteArray := prog_44_method_119_code
def yJ7_copyOf_1904c : MethodName := ⟨RJ7, "copyOf", "([Ljava/lang/Object;I)[Ljava/lang/Object;"⟩
abbrev cJ7_copyOf_6403c : ByteArray := prog_44_method_120_code
def yJ7_copyOf_6403c : MethodName := ⟨RJ7, "copyOf", "([Ljava/lang/Object;ILjava/lang/Class;)[Ljava/lang/Object;"⟩
abbrev cJ7_copyOf_9075b : ByteArray := prog_44_method_121_code
def yJ7_copyOf_9075b : MethodName := ⟨RJ7, "copyOf", "([BI)[B"⟩
abbrev cJ7_checkLength_df160 : ByteArray := prog_44_method_131_code
def yJ7_checkLength_df160 : MethodName := ⟨RJ7, "checkLength", "(II)V"⟩
abbrev cJ7_copyOfRange_39247 : ByteArray := prog_44_method_132_code
def yJ7_copyOfRange_39247 : MethodName := ⟨RJ7, "copyOfRange", "([BII)[B"⟩
abbrev cJ7_copyOfRangeByte_39247 : ByteArray := prog_44_method_133_code
def yJ7_copyOfRangeByte_39247 : MethodName := ⟨RJ7, "copyOfRangeByte", "([BII)[B"⟩
def RJx5ef63 : String := "java/util/Collection"
def TJx5ef63 : u_T := fun k => match k with
  | _ => ("", "", "", false)
def tyJx5ef63 : Nat → FieldType := fun k => match k with
  | _ => .int
abbrev wsJx5ef630 : List Cond := u_ws RJx5ef63 TJx5ef63 0
theorem nmJx5ef63 : ∀ a, a < 0 → ∀ b, b < 0 → a ≠ b → (TJx5ef63 a).2.1 ≠ (TJx5ef63 b).2.1 := by decide +kernel
theorem tyJx5ef63_ok : ∀ k, k < 0 → parseFieldDescriptor (TJx5ef63 k).2.2.1 = some (tyJx5ef63 k) := by decide +kernel
def RJx4d0d8 : String := "java/util/Iterator"
def TJx4d0d8 : u_T := fun k => match k with
  | _ => ("", "", "", false)
def tyJx4d0d8 : Nat → FieldType := fun k => match k with
  | _ => .int
abbrev wsJx4d0d80 : List Cond := u_ws RJx4d0d8 TJx4d0d8 0
theorem nmJx4d0d8 : ∀ a, a < 0 → ∀ b, b < 0 → a ≠ b → (TJx4d0d8 a).2.1 ≠ (TJx4d0d8 b).2.1 := by decide +kernel
theorem tyJx4d0d8_ok : ∀ k, k < 0 → parseFieldDescriptor (TJx4d0d8 k).2.2.1 = some (tyJx4d0d8 k) := by decide +kernel
def RJxbd725 : String := "java/util/List"
def TJxbd725 : u_T := fun k => match k with
  | _ => ("", "", "", false)
def tyJxbd725 : Nat → FieldType := fun k => match k with
  | _ => .int
abbrev wsJxbd7250 : List Cond := u_ws RJxbd725 TJxbd725 0
theorem nmJxbd725 : ∀ a, a < 0 → ∀ b, b < 0 → a ≠ b → (TJxbd725 a).2.1 ≠ (TJxbd725 b).2.1 := by decide +kernel
theorem tyJxbd725_ok : ∀ k, k < 0 → parseFieldDescriptor (TJxbd725 k).2.2.1 = some (tyJxbd725 k) := by decide +kernel
def RJ15 : String := "java/util/Objects"
def TJ15 : u_T := fun k => match k with
  | _ => ("", "", "", false)
def tyJ15 : Nat → FieldType := fun k => match k with
  | _ => .int
abbrev wsJ150 : List Cond := u_ws RJ15 TJ15 0
theorem nmJ15 : ∀ a, a < 0 → ∀ b, b < 0 → a ≠ b → (TJ15 a).2.1 ≠ (TJ15 b).2.1 := by decide +kernel
theorem tyJ15_ok : ∀ k, k < 0 → parseFieldDescriptor (TJ15 k).2.2.1 = some (tyJ15 k) := by decide +kernel
abbrev cJ15_checkIndex_7cf53 : ByteArray := prog_49_method_17_code
def yJ15_checkIndex_7cf53 : MethodName := ⟨RJ15, "checkIndex", "(II)I"⟩
def RJxf0a74 : String := "java/util/RandomAccess"
def TJxf0a74 : u_T := fun k => match k with
  | _ => ("", "", "", false)
def tyJxf0a74 : Nat → FieldType := fun k => match k with
  | _ => .int
abbrev wsJxf0a740 : List Cond := u_ws RJxf0a74 TJxf0a74 0
theorem nmJxf0a74 : ∀ a, a < 0 → ∀ b, b < 0 → a ≠ b → (TJxf0a74 a).2.1 ≠ (TJxf0a74 b).2.1 := by decide +kernel
theorem tyJxf0a74_ok : ∀ k, k < 0 → parseFieldDescriptor (TJxf0a74 k).2.2.1 = some (tyJxf0a74 k) := by decide +kernel
def RJxa66e6 : String := "java/util/SequencedCollection"
def TJxa66e6 : u_T := fun k => match k with
  | _ => ("", "", "", false)
def tyJxa66e6 : Nat → FieldType := fun k => match k with
  | _ => .int
abbrev wsJxa66e60 : List Cond := u_ws RJxa66e6 TJxa66e6 0
theorem nmJxa66e6 : ∀ a, a < 0 → ∀ b, b < 0 → a ≠ b → (TJxa66e6 a).2.1 ≠ (TJxa66e6 b).2.1 := by decide +kernel
theorem tyJxa66e6_ok : ∀ k, k < 0 → parseFieldDescriptor (TJxa66e6 k).2.2.1 = some (tyJxa66e6 k) := by decide +kernel
def RJ8 : String := "jdk/internal/util/ArraysSupport"
def TJ8 : u_T := fun k => match k with
  | _ => ("", "", "", false)
def tyJ8 : Nat → FieldType := fun k => match k with
  | _ => .int
abbrev wsJ80 : List Cond := u_ws RJ8 TJ8 0
theorem nmJ8 : ∀ a, a < 0 → ∀ b, b < 0 → a ≠ b → (TJ8 a).2.1 ≠ (TJ8 b).2.1 := by decide +kernel
theorem tyJ8_ok : ∀ k, k < 0 → parseFieldDescriptor (TJ8 k).2.2.1 = some (tyJ8 k) := by decide +kernel
abbrev cJ8_newLength_cabcc : ByteArray := prog_52_method_27_code
def yJ8_newLength_cabcc : MethodName := ⟨RJ8, "newLength", "(III)I"⟩
abbrev cJ8_hugeLength_7cf53 : ByteArray := prog_52_method_28_code
def yJ8_hugeLength_7cf53 : MethodName := ⟨RJ8, "hugeLength", "(II)I"⟩
def RJ3 : String := "jdk/internal/util/Preconditions"
def TJ3 : u_T := fun k => match k with
  | _ => ("", "", "", false)
def tyJ3 : Nat → FieldType := fun k => match k with
  | _ => .int
abbrev wsJ30 : List Cond := u_ws RJ3 TJ3 0
theorem nmJ3 : ∀ a, a < 0 → ∀ b, b < 0 → a ≠ b → (TJ3 a).2.1 ≠ (TJ3 b).2.1 := by decide +kernel
theorem tyJ3_ok : ∀ k, k < 0 → parseFieldDescriptor (TJ3 k).2.2.1 = some (tyJ3 k) := by decide +kernel
abbrev cJ3_checkIndex_8e157 : ByteArray := prog_53_method_11_code
def yJ3_checkIndex_8e157 : MethodName := ⟨RJ3, "checkIndex", "(IILjava/util/function/BiFunction;)I"⟩
abbrev cJ3_checkFromToIndex_8c36e : ByteArray := prog_53_method_12_code
def yJ3_checkFromToIndex_8c36e : MethodName := ⟨RJ3, "checkFromToIndex", "(IIILjava/util/function/BiFunction;)I"⟩
abbrev cJ3_checkFromIndexSize_8c36e : ByteArray := prog_53_method_13_code
def yJ3_checkFromIndexSize_8c36e : MethodName := ⟨RJ3, "checkFromIndexSize", "(IIILjava/util/function/BiFunction;)I"⟩
def RL : String := "VoussoirYardLaw"
abbrev cL_drawJoint : ByteArray := method_3_code
def yL_drawJoint : MethodName := ⟨RL, "drawJoint", "(LVoussoirYard;IIII[J)I"⟩
abbrev cL_moveJoint : ByteArray := method_4_code
def yL_moveJoint : MethodName := ⟨RL, "moveJoint", "(LVoussoirYard;IIIII[J)I"⟩
abbrev cL_setDensity : ByteArray := method_5_code
def yL_setDensity : MethodName := ⟨RL, "setDensity", "(LVoussoirYard;I[J)I"⟩
abbrev cL_area : ByteArray := method_6_code
def yL_area : MethodName := ⟨RL, "area", "(LVoussoirYard;I[J)I"⟩
abbrev cL_weight : ByteArray := method_7_code
def yL_weight : MethodName := ⟨RL, "weight", "(LVoussoirYard;I[J)I"⟩
abbrev cL_isSafe : ByteArray := method_8_code
def yL_isSafe : MethodName := ⟨RL, "isSafe", "(LVoussoirYard;I[J)I"⟩
abbrev cL_thrust : ByteArray := method_9_code
def yL_thrust : MethodName := ⟨RL, "thrust", "(LVoussoirYard;I[J)I"⟩
abbrev cL_bears : ByteArray := method_10_code
def yL_bears : MethodName := ⟨RL, "bears", "(LVoussoirYard;II[J)I"⟩
abbrev cL_addBlocks : ByteArray := method_11_code
def yL_addBlocks : MethodName := ⟨RL, "addBlocks", "(LVoussoirYard;IIIIZ[J)I"⟩
abbrev cL_blocks : ByteArray := method_12_code
def yL_blocks : MethodName := ⟨RL, "blocks", "(LVoussoirYard;I[J)I"⟩
abbrev cL_bestBlock : ByteArray := method_13_code
def yL_bestBlock : MethodName := ⟨RL, "bestBlock", "(LVoussoirYard;I[J)I"⟩
abbrev cL_addMason : ByteArray := method_14_code
def yL_addMason : MethodName := ⟨RL, "addMason", "(LVoussoirYard;II[J)I"⟩
abbrev cL_cut : ByteArray := method_15_code
def yL_cut : MethodName := ⟨RL, "cut", "(LVoussoirYard;III[J)I"⟩
abbrev cL_readyOn : ByteArray := method_16_code
def yL_readyOn : MethodName := ⟨RL, "readyOn", "(LVoussoirYard;I[J)I"⟩
abbrev cL_stateOf : ByteArray := method_17_code
def yL_stateOf : MethodName := ⟨RL, "stateOf", "(LVoussoirYard;I[J)I"⟩
abbrev cL_mark : ByteArray := method_18_code
def yL_mark : MethodName := ⟨RL, "mark", "(LVoussoirYard;I[J)I"⟩
abbrev cL_markAt : ByteArray := method_19_code
def yL_markAt : MethodName := ⟨RL, "markAt", "(LVoussoirYard;II[J)I"⟩
abbrev cL_fits : ByteArray := method_20_code
def yL_fits : MethodName := ⟨RL, "fits", "(LVoussoirYard;II[J)I"⟩
abbrev cL_setCentre : ByteArray := method_21_code
def yL_setCentre : MethodName := ⟨RL, "setCentre", "(LVoussoirYard;I[J)I"⟩
abbrev cL_set : ByteArray := method_22_code
def yL_set : MethodName := ⟨RL, "set", "(LVoussoirYard;II[J)I"⟩
abbrev cL_stoneIn : ByteArray := method_23_code
def yL_stoneIn : MethodName := ⟨RL, "stoneIn", "(LVoussoirYard;I[J)I"⟩
abbrev cL_strike : ByteArray := method_24_code
def yL_strike : MethodName := ⟨RL, "strike", "(LVoussoirYard;[J)I"⟩
abbrev cL_load : ByteArray := method_25_code
def yL_load : MethodName := ⟨RL, "load", "(LVoussoirYard;II[J)I"⟩
abbrev cL_pass : ByteArray := method_26_code
def yL_pass : MethodName := ⟨RL, "pass", "(LVoussoirYard;I[J)I"⟩
abbrev cL_usedShare : ByteArray := method_27_code
def yL_usedShare : MethodName := ⟨RL, "usedShare", "(LVoussoirYard;[D)I"⟩
abbrev cL_meanArea : ByteArray := method_28_code
def yL_meanArea : MethodName := ⟨RL, "meanArea", "(LVoussoirYard;[D)I"⟩
abbrev cL_law : ByteArray := code
def yL_law : MethodName := ⟨RL, "law", "([I)Z"⟩
theorem inX0 : ∀ w ∈ wsX00, w ∈ lw_tbl := by decide +kernel
theorem inX1 : ∀ w ∈ wsX10, w ∈ lw_tbl := by decide +kernel
theorem inX2 : ∀ w ∈ wsX20, w ∈ lw_tbl := by decide +kernel
theorem inX3 : ∀ w ∈ wsX30, w ∈ lw_tbl := by decide +kernel
theorem inX4 : ∀ w ∈ wsX40, w ∈ lw_tbl := by decide +kernel
theorem inX5 : ∀ w ∈ wsX50, w ∈ lw_tbl := by decide +kernel
theorem inX6 : ∀ w ∈ wsX60, w ∈ lw_tbl := by decide +kernel
theorem inX7 : ∀ w ∈ wsX70, w ∈ lw_tbl := by decide +kernel
theorem inX8 : ∀ w ∈ wsX80, w ∈ lw_tbl := by decide +kernel
theorem inX9 : ∀ w ∈ wsX90, w ∈ lw_tbl := by decide +kernel
theorem inX10 : ∀ w ∈ wsX100, w ∈ lw_tbl := by decide +kernel
theorem inX11 : ∀ w ∈ wsX110, w ∈ lw_tbl := by decide +kernel
theorem inJx145de : ∀ w ∈ wsJx145de0, w ∈ lw_tbl := by decide +kernel
theorem inJ5 : ∀ w ∈ wsJ50, w ∈ lw_tbl := by decide +kernel
theorem inJx2cfe8 : ∀ w ∈ wsJx2cfe80, w ∈ lw_tbl := by decide +kernel
theorem inJx00060 : ∀ w ∈ wsJx000600, w ∈ lw_tbl := by decide +kernel
theorem inJx9f9b0 : ∀ w ∈ wsJx9f9b00, w ∈ lw_tbl := by decide +kernel
theorem inJx8e188 : ∀ w ∈ wsJx8e1880, w ∈ lw_tbl := by decide +kernel
theorem inJxb160c : ∀ w ∈ wsJxb160c0, w ∈ lw_tbl := by decide +kernel
theorem inJ6 : ∀ w ∈ wsJ60, w ∈ lw_tbl := by decide +kernel
theorem inJxab1ab : ∀ w ∈ wsJxab1ab0, w ∈ lw_tbl := by decide +kernel
theorem inJ9 : ∀ w ∈ wsJ90, w ∈ lw_tbl := by decide +kernel
theorem inJxd2413 : ∀ w ∈ wsJxd24130, w ∈ lw_tbl := by decide +kernel
theorem inJ0 : ∀ w ∈ wsJ00, w ∈ lw_tbl := by decide +kernel
theorem inJ4 : ∀ w ∈ wsJ40, w ∈ lw_tbl := by decide +kernel
theorem inJ1 : ∀ w ∈ wsJ10, w ∈ lw_tbl := by decide +kernel
theorem inJ2 : ∀ w ∈ wsJ20, w ∈ lw_tbl := by decide +kernel
theorem inJ10 : ∀ w ∈ wsJ100, w ∈ lw_tbl := by decide +kernel
theorem inJxfd54e : ∀ w ∈ wsJxfd54e0, w ∈ lw_tbl := by decide +kernel
theorem inJx3cf43 : ∀ w ∈ wsJx3cf430, w ∈ lw_tbl := by decide +kernel
theorem inJxa1e45 : ∀ w ∈ wsJxa1e450, w ∈ lw_tbl := by decide +kernel
theorem inJxc12de : ∀ w ∈ wsJxc12de0, w ∈ lw_tbl := by decide +kernel
theorem inJx35411 : ∀ w ∈ wsJx354110, w ∈ lw_tbl := by decide +kernel
theorem inJx4a65c : ∀ w ∈ wsJx4a65c0, w ∈ lw_tbl := by decide +kernel
theorem inJ7 : ∀ w ∈ wsJ70, w ∈ lw_tbl := by decide +kernel
theorem inJx5ef63 : ∀ w ∈ wsJx5ef630, w ∈ lw_tbl := by decide +kernel
theorem inJx4d0d8 : ∀ w ∈ wsJx4d0d80, w ∈ lw_tbl := by decide +kernel
theorem inJxbd725 : ∀ w ∈ wsJxbd7250, w ∈ lw_tbl := by decide +kernel
theorem inJ15 : ∀ w ∈ wsJ150, w ∈ lw_tbl := by decide +kernel
theorem inJxf0a74 : ∀ w ∈ wsJxf0a740, w ∈ lw_tbl := by decide +kernel
theorem inJxa66e6 : ∀ w ∈ wsJxa66e60, w ∈ lw_tbl := by decide +kernel
theorem inJ8 : ∀ w ∈ wsJ80, w ∈ lw_tbl := by decide +kernel
theorem inJ3 : ∀ w ∈ wsJ30, w ∈ lw_tbl := by decide +kernel
abbrev vwCl : List vw_C := [(RJ0, TJ0, 4), (RJ4, TJ4, 4), (RJx00060, TJx00060, 6), (RJx35411, TJx35411, 4), (RJx4a65c, TJx4a65c, 3), (RX0, TX0, 5), (RX1, TX1, 6), (RX2, TX2, 4), (RX3, TX3, 5), (RX4, TX4, 2), (RX5, TX5, 5), (RX6, TX6, 11), (RX7, TX7, 16), (RX8, TX8, 5), (RX9, TX9, 4), (RX10, TX10, 4), (RX11, TX11, 17)]
end
section
theorem dX0_init_0 : decode cX0_init 0 = .ok (.aload_n 0, 1) := by decide +kernel
theorem dX0_init_1 : decode cX0_init 1 = .ok (.invokespecial 1, 3) := by decide +kernel
theorem dX0_init_4 : decode cX0_init 4 = .ok (.aload_n 0, 1) := by decide +kernel
theorem dX0_init_5 : decode cX0_init 5 = .ok (.iload_n 1, 1) := by decide +kernel
theorem dX0_init_6 : decode cX0_init 6 = .ok (.putfield 7, 3) := by decide +kernel
theorem dX0_init_9 : decode cX0_init 9 = .ok (.aload_n 0, 1) := by decide +kernel
theorem dX0_init_10 : decode cX0_init 10 = .ok (.iload_n 2, 1) := by decide +kernel
theorem dX0_init_11 : decode cX0_init 11 = .ok (.putfield 13, 3) := by decide +kernel
theorem dX0_init_14 : decode cX0_init 14 = .ok (.aload_n 0, 1) := by decide +kernel
theorem dX0_init_15 : decode cX0_init 15 = .ok (.iload_n 3, 1) := by decide +kernel
theorem dX0_init_16 : decode cX0_init 16 = .ok (.putfield 16, 3) := by decide +kernel
theorem dX0_init_19 : decode cX0_init 19 = .ok (.aload_n 0, 1) := by decide +kernel
theorem dX0_init_20 : decode cX0_init 20 = .ok (.iload 4, 2) := by decide +kernel
theorem dX0_init_22 : decode cX0_init 22 = .ok (.putfield 19, 3) := by decide +kernel
theorem dX0_init_25 : decode cX0_init 25 = .ok (.aload_n 0, 1) := by decide +kernel
theorem dX0_init_26 : decode cX0_init 26 = .ok (.iload 5, 2) := by decide +kernel
theorem dX0_init_28 : decode cX0_init 28 = .ok (.putfield 22, 3) := by decide +kernel
theorem dX0_init_31 : decode cX0_init 31 = .ok (.return_, 1) := by decide +kernel
theorem dX1_init_0 : decode cX1_init 0 = .ok (.aload_n 0, 1) := by decide +kernel
theorem dX1_init_1 : decode cX1_init 1 = .ok (.invokespecial 3, 3) := by decide +kernel
theorem dX1_init_4 : decode cX1_init 4 = .ok (.aload_n 0, 1) := by decide +kernel
theorem dX1_init_5 : decode cX1_init 5 = .ok (.bipush 8, 2) := by decide +kernel
theorem dX1_init_7 : decode cX1_init 7 = .ok (.anewarray 9, 3) := by decide +kernel
theorem dX1_init_10 : decode cX1_init 10 = .ok (.putfield 11, 3) := by decide +kernel
theorem dX1_init_13 : decode cX1_init 13 = .ok (.aload_n 0, 1) := by decide +kernel
theorem dX1_init_14 : decode cX1_init 14 = .ok (.new 9, 3) := by decide +kernel
theorem dX1_init_17 : decode cX1_init 17 = .ok (.dup, 1) := by decide +kernel
theorem dX1_init_18 : decode cX1_init 18 = .ok (.invokespecial 17, 3) := by decide +kernel
theorem dX1_init_21 : decode cX1_init 21 = .ok (.putfield 18, 3) := by decide +kernel
theorem dX1_init_24 : decode cX1_init 24 = .ok (.aload_n 0, 1) := by decide +kernel
theorem dX1_init_25 : decode cX1_init 25 = .ok (.new 22, 3) := by decide +kernel
theorem dX1_init_28 : decode cX1_init 28 = .ok (.dup, 1) := by decide +kernel
theorem dX1_init_29 : decode cX1_init 29 = .ok (.invokespecial 24, 3) := by decide +kernel
theorem dX1_init_32 : decode cX1_init 32 = .ok (.putfield 25, 3) := by decide +kernel
theorem dX1_init_35 : decode cX1_init 35 = .ok (.aload_n 0, 1) := by decide +kernel
theorem dX1_init_36 : decode cX1_init 36 = .ok (.iconst 0, 1) := by decide +kernel
theorem dX1_init_37 : decode cX1_init 37 = .ok (.putfield 29, 3) := by decide +kernel
theorem dX1_init_40 : decode cX1_init 40 = .ok (.aload_n 0, 1) := by decide +kernel
theorem dX1_init_41 : decode cX1_init 41 = .ok (.iconst 0, 1) := by decide +kernel
theorem dX1_init_42 : decode cX1_init 42 = .ok (.putfield 33, 3) := by decide +kernel
theorem dX1_init_45 : decode cX1_init 45 = .ok (.aload_n 0, 1) := by decide +kernel
theorem dX1_init_46 : decode cX1_init 46 = .ok (.iconst 1, 1) := by decide +kernel
theorem dX1_init_47 : decode cX1_init 47 = .ok (.putfield 36, 3) := by decide +kernel
theorem dX1_init_50 : decode cX1_init 50 = .ok (.iconst 0, 1) := by decide +kernel
theorem dX1_init_51 : decode cX1_init 51 = .ok (.istore_n 1, 1) := by decide +kernel
theorem dX1_init_52 : decode cX1_init 52 = .ok (.iload_n 1, 1) := by decide +kernel
theorem dX1_init_53 : decode cX1_init 53 = .ok (.bipush 8, 2) := by decide +kernel
theorem dX1_init_55 : decode cX1_init 55 = .ok (.if_icmp .ge 22, 3) := by decide +kernel
theorem dX1_init_58 : decode cX1_init 58 = .ok (.aload_n 0, 1) := by decide +kernel
theorem dX1_init_59 : decode cX1_init 59 = .ok (.getfield 11, 3) := by decide +kernel
theorem dX1_init_62 : decode cX1_init 62 = .ok (.iload_n 1, 1) := by decide +kernel
theorem dX1_init_63 : decode cX1_init 63 = .ok (.new 9, 3) := by decide +kernel
theorem dX1_init_66 : decode cX1_init 66 = .ok (.dup, 1) := by decide +kernel
theorem dX1_init_67 : decode cX1_init 67 = .ok (.invokespecial 17, 3) := by decide +kernel
theorem dX1_init_70 : decode cX1_init 70 = .ok (.aastore, 1) := by decide +kernel
theorem dX1_init_71 : decode cX1_init 71 = .ok (.iinc 1 1, 3) := by decide +kernel
theorem dX1_init_74 : decode cX1_init 74 = .ok (.goto (-22), 3) := by decide +kernel
theorem dX1_init_77 : decode cX1_init 77 = .ok (.return_, 1) := by decide +kernel
theorem dX1_jointAt_0 : decode cX1_jointAt 0 = .ok (.iload_n 1, 1) := by decide +kernel
theorem dX1_jointAt_1 : decode cX1_jointAt 1 = .ok (.ifCond .lt 29, 3) := by decide +kernel
theorem dX1_jointAt_4 : decode cX1_jointAt 4 = .ok (.iload_n 1, 1) := by decide +kernel
theorem dX1_jointAt_5 : decode cX1_jointAt 5 = .ok (.aload_n 0, 1) := by decide +kernel
theorem dX1_jointAt_6 : decode cX1_jointAt 6 = .ok (.getfield 29, 3) := by decide +kernel
theorem dX1_jointAt_9 : decode cX1_jointAt 9 = .ok (.if_icmp .ge 21, 3) := by decide +kernel
theorem dX1_jointAt_12 : decode cX1_jointAt 12 = .ok (.iload_n 1, 1) := by decide +kernel
theorem dX1_jointAt_13 : decode cX1_jointAt 13 = .ok (.aload_n 0, 1) := by decide +kernel
theorem dX1_jointAt_14 : decode cX1_jointAt 14 = .ok (.getfield 11, 3) := by decide +kernel
theorem dX1_jointAt_17 : decode cX1_jointAt 17 = .ok (.arraylength, 1) := by decide +kernel
theorem dX1_jointAt_18 : decode cX1_jointAt 18 = .ok (.if_icmp .ge 12, 3) := by decide +kernel
theorem dX1_jointAt_21 : decode cX1_jointAt 21 = .ok (.aload_n 0, 1) := by decide +kernel
theorem dX1_jointAt_22 : decode cX1_jointAt 22 = .ok (.getfield 11, 3) := by decide +kernel
theorem dX1_jointAt_25 : decode cX1_jointAt 25 = .ok (.iload_n 1, 1) := by decide +kernel
theorem dX1_jointAt_26 : decode cX1_jointAt 26 = .ok (.aaload, 1) := by decide +kernel
theorem dX1_jointAt_27 : decode cX1_jointAt 27 = .ok (.goto 4, 3) := by decide +kernel
theorem dX1_jointAt_30 : decode cX1_jointAt 30 = .ok (.aconst_null, 1) := by decide +kernel
theorem dX1_jointAt_31 : decode cX1_jointAt 31 = .ok (.areturn, 1) := by decide +kernel
theorem dX1_placeCount_0 : decode cX1_placeCount 0 = .ok (.iconst 0, 1) := by decide +kernel
theorem dX1_placeCount_1 : decode cX1_placeCount 1 = .ok (.aload_n 0, 1) := by decide +kernel
theorem dX1_placeCount_2 : decode cX1_placeCount 2 = .ok (.getfield 29, 3) := by decide +kernel
theorem dX1_placeCount_5 : decode cX1_placeCount 5 = .ok (.iconst 1, 1) := by decide +kernel
theorem dX1_placeCount_6 : decode cX1_placeCount 6 = .ok (.isub, 1) := by decide +kernel
theorem dX1_placeCount_7 : decode cX1_placeCount 7 = .ok (.invokestatic 39, 3) := by decide +kernel
theorem dX1_placeCount_10 : decode cX1_placeCount 10 = .ok (.ireturn, 1) := by decide +kernel
theorem dX1_hasPlace_0 : decode cX1_hasPlace 0 = .ok (.iload_n 1, 1) := by decide +kernel
theorem dX1_hasPlace_1 : decode cX1_hasPlace 1 = .ok (.ifCond .lt 15, 3) := by decide +kernel
theorem dX1_hasPlace_4 : decode cX1_hasPlace 4 = .ok (.iload_n 1, 1) := by decide +kernel
theorem dX1_hasPlace_5 : decode cX1_hasPlace 5 = .ok (.aload_n 0, 1) := by decide +kernel
theorem dX1_hasPlace_6 : decode cX1_hasPlace 6 = .ok (.invokevirtual 45, 3) := by decide +kernel
theorem dX1_hasPlace_9 : decode cX1_hasPlace 9 = .ok (.if_icmp .ge 7, 3) := by decide +kernel
theorem dX1_hasPlace_12 : decode cX1_hasPlace 12 = .ok (.iconst 1, 1) := by decide +kernel
theorem dX1_hasPlace_13 : decode cX1_hasPlace 13 = .ok (.goto 4, 3) := by decide +kernel
theorem dX1_hasPlace_16 : decode cX1_hasPlace 16 = .ok (.iconst 0, 1) := by decide +kernel
theorem dX1_hasPlace_17 : decode cX1_hasPlace 17 = .ok (.ireturn, 1) := by decide +kernel
theorem dX1_propose_0 : decode cX1_propose 0 = .ok (.aload_n 0, 1) := by decide +kernel
theorem dX1_propose_1 : decode cX1_propose 1 = .ok (.getfield 18, 3) := by decide +kernel
theorem dX1_propose_4 : decode cX1_propose 4 = .ok (.iload_n 1, 1) := by decide +kernel
theorem dX1_propose_5 : decode cX1_propose 5 = .ok (.iload_n 2, 1) := by decide +kernel
theorem dX1_propose_6 : decode cX1_propose 6 = .ok (.iload_n 3, 1) := by decide +kernel
theorem dX1_propose_7 : decode cX1_propose 7 = .ok (.iload 4, 2) := by decide +kernel
theorem dX1_propose_9 : decode cX1_propose 9 = .ok (.invokevirtual 49, 3) := by decide +kernel
theorem dX1_propose_12 : decode cX1_propose 12 = .ok (.return_, 1) := by decide +kernel
theorem dX1_allowsProposal_0 : decode cX1_allowsProposal 0 = .ok (.aload_n 0, 1) := by decide +kernel
theorem dX1_allowsProposal_1 : decode cX1_allowsProposal 1 = .ok (.getfield 18, 3) := by decide +kernel
theorem dX1_allowsProposal_4 : decode cX1_allowsProposal 4 = .ok (.invokevirtual 53, 3) := by decide +kernel
theorem dX1_allowsProposal_7 : decode cX1_allowsProposal 7 = .ok (.ifCond .eq 43, 3) := by decide +kernel
theorem dX1_allowsProposal_10 : decode cX1_allowsProposal 10 = .ok (.aload_n 0, 1) := by decide +kernel
theorem dX1_allowsProposal_11 : decode cX1_allowsProposal 11 = .ok (.aload_n 0, 1) := by decide +kernel
theorem dX1_allowsProposal_12 : decode cX1_allowsProposal 12 = .ok (.iload_n 1, 1) := by decide +kernel
theorem dX1_allowsProposal_13 : decode cX1_allowsProposal 13 = .ok (.iconst 1, 1) := by decide +kernel
theorem dX1_allowsProposal_14 : decode cX1_allowsProposal 14 = .ok (.isub, 1) := by decide +kernel
theorem dX1_allowsProposal_15 : decode cX1_allowsProposal 15 = .ok (.invokevirtual 57, 3) := by decide +kernel
theorem dX1_allowsProposal_18 : decode cX1_allowsProposal 18 = .ok (.aload_n 0, 1) := by decide +kernel
theorem dX1_allowsProposal_19 : decode cX1_allowsProposal 19 = .ok (.getfield 18, 3) := by decide +kernel
theorem dX1_allowsProposal_22 : decode cX1_allowsProposal 22 = .ok (.invokevirtual 61, 3) := by decide +kernel
theorem dX1_allowsProposal_25 : decode cX1_allowsProposal 25 = .ok (.ifCond .eq 25, 3) := by decide +kernel
theorem dX1_allowsProposal_28 : decode cX1_allowsProposal 28 = .ok (.aload_n 0, 1) := by decide +kernel
theorem dX1_allowsProposal_29 : decode cX1_allowsProposal 29 = .ok (.aload_n 0, 1) := by decide +kernel
theorem dX1_allowsProposal_30 : decode cX1_allowsProposal 30 = .ok (.getfield 18, 3) := by decide +kernel
theorem dX1_allowsProposal_33 : decode cX1_allowsProposal 33 = .ok (.aload_n 0, 1) := by decide +kernel
theorem dX1_allowsProposal_34 : decode cX1_allowsProposal 34 = .ok (.iload_n 1, 1) := by decide +kernel
theorem dX1_allowsProposal_35 : decode cX1_allowsProposal 35 = .ok (.iconst 1, 1) := by decide +kernel
theorem dX1_allowsProposal_36 : decode cX1_allowsProposal 36 = .ok (.iadd, 1) := by decide +kernel
theorem dX1_allowsProposal_37 : decode cX1_allowsProposal 37 = .ok (.invokevirtual 57, 3) := by decide +kernel
theorem dX1_allowsProposal_40 : decode cX1_allowsProposal 40 = .ok (.invokevirtual 61, 3) := by decide +kernel
theorem dX1_allowsProposal_43 : decode cX1_allowsProposal 43 = .ok (.ifCond .eq 7, 3) := by decide +kernel
theorem dX1_allowsProposal_46 : decode cX1_allowsProposal 46 = .ok (.iconst 1, 1) := by decide +kernel
theorem dX1_allowsProposal_47 : decode cX1_allowsProposal 47 = .ok (.goto 4, 3) := by decide +kernel
theorem dX1_allowsProposal_50 : decode cX1_allowsProposal 50 = .ok (.iconst 0, 1) := by decide +kernel
theorem dX1_allowsProposal_51 : decode cX1_allowsProposal 51 = .ok (.ireturn, 1) := by decide +kernel
theorem dX1_wouldTurnLeft_0 : decode cX1_wouldTurnLeft 0 = .ok (.aload_n 1, 1) := by decide +kernel
theorem dX1_wouldTurnLeft_1 : decode cX1_wouldTurnLeft 1 = .ok (.ifnull 7, 3) := by decide +kernel
theorem dX1_wouldTurnLeft_4 : decode cX1_wouldTurnLeft 4 = .ok (.aload_n 2, 1) := by decide +kernel
theorem dX1_wouldTurnLeft_5 : decode cX1_wouldTurnLeft 5 = .ok (.ifnonnull 5, 3) := by decide +kernel
theorem dX1_wouldTurnLeft_8 : decode cX1_wouldTurnLeft 8 = .ok (.iconst 1, 1) := by decide +kernel
theorem dX1_wouldTurnLeft_9 : decode cX1_wouldTurnLeft 9 = .ok (.ireturn, 1) := by decide +kernel
theorem dX1_wouldTurnLeft_10 : decode cX1_wouldTurnLeft 10 = .ok (.aload_n 0, 1) := by decide +kernel
theorem dX1_wouldTurnLeft_11 : decode cX1_wouldTurnLeft 11 = .ok (.getfield 25, 3) := by decide +kernel
theorem dX1_wouldTurnLeft_14 : decode cX1_wouldTurnLeft 14 = .ok (.aload_n 1, 1) := by decide +kernel
theorem dX1_wouldTurnLeft_15 : decode cX1_wouldTurnLeft 15 = .ok (.aload_n 2, 1) := by decide +kernel
theorem dX1_wouldTurnLeft_16 : decode cX1_wouldTurnLeft 16 = .ok (.invokevirtual 65, 3) := by decide +kernel
theorem dX1_wouldTurnLeft_19 : decode cX1_wouldTurnLeft 19 = .ok (.aload_n 0, 1) := by decide +kernel
theorem dX1_wouldTurnLeft_20 : decode cX1_wouldTurnLeft 20 = .ok (.getfield 25, 3) := by decide +kernel
theorem dX1_wouldTurnLeft_23 : decode cX1_wouldTurnLeft 23 = .ok (.invokevirtual 69, 3) := by decide +kernel
theorem dX1_wouldTurnLeft_26 : decode cX1_wouldTurnLeft 26 = .ok (.ireturn, 1) := by decide +kernel
theorem dX1_acceptNewJoint_0 : decode cX1_acceptNewJoint 0 = .ok (.aload_n 0, 1) := by decide +kernel
theorem dX1_acceptNewJoint_1 : decode cX1_acceptNewJoint 1 = .ok (.getfield 29, 3) := by decide +kernel
theorem dX1_acceptNewJoint_4 : decode cX1_acceptNewJoint 4 = .ok (.aload_n 0, 1) := by decide +kernel
theorem dX1_acceptNewJoint_5 : decode cX1_acceptNewJoint 5 = .ok (.getfield 11, 3) := by decide +kernel
theorem dX1_acceptNewJoint_8 : decode cX1_acceptNewJoint 8 = .ok (.arraylength, 1) := by decide +kernel
theorem dX1_acceptNewJoint_9 : decode cX1_acceptNewJoint 9 = .ok (.if_icmp .ge 23, 3) := by decide +kernel
theorem dX1_acceptNewJoint_12 : decode cX1_acceptNewJoint 12 = .ok (.aload_n 0, 1) := by decide +kernel
theorem dX1_acceptNewJoint_13 : decode cX1_acceptNewJoint 13 = .ok (.dup, 1) := by decide +kernel
theorem dX1_acceptNewJoint_14 : decode cX1_acceptNewJoint 14 = .ok (.getfield 29, 3) := by decide +kernel
theorem dX1_acceptNewJoint_17 : decode cX1_acceptNewJoint 17 = .ok (.iconst 1, 1) := by decide +kernel
theorem dX1_acceptNewJoint_18 : decode cX1_acceptNewJoint 18 = .ok (.iadd, 1) := by decide +kernel
theorem dX1_acceptNewJoint_19 : decode cX1_acceptNewJoint 19 = .ok (.putfield 29, 3) := by decide +kernel
theorem dX1_acceptNewJoint_22 : decode cX1_acceptNewJoint 22 = .ok (.aload_n 0, 1) := by decide +kernel
theorem dX1_acceptNewJoint_23 : decode cX1_acceptNewJoint 23 = .ok (.aload_n 0, 1) := by decide +kernel
theorem dX1_acceptNewJoint_24 : decode cX1_acceptNewJoint 24 = .ok (.getfield 29, 3) := by decide +kernel
theorem dX1_acceptNewJoint_27 : decode cX1_acceptNewJoint 27 = .ok (.iconst 1, 1) := by decide +kernel
theorem dX1_acceptNewJoint_28 : decode cX1_acceptNewJoint 28 = .ok (.isub, 1) := by decide +kernel
theorem dX1_acceptNewJoint_29 : decode cX1_acceptNewJoint 29 = .ok (.invokevirtual 72, 3) := by decide +kernel
theorem dX1_acceptNewJoint_32 : decode cX1_acceptNewJoint 32 = .ok (.return_, 1) := by decide +kernel
theorem dX1_acceptMovedJoint_0 : decode cX1_acceptMovedJoint 0 = .ok (.aload_n 0, 1) := by decide +kernel
theorem dX1_acceptMovedJoint_1 : decode cX1_acceptMovedJoint 1 = .ok (.iload_n 1, 1) := by decide +kernel
theorem dX1_acceptMovedJoint_2 : decode cX1_acceptMovedJoint 2 = .ok (.invokevirtual 57, 3) := by decide +kernel
theorem dX1_acceptMovedJoint_5 : decode cX1_acceptMovedJoint 5 = .ok (.astore_n 2, 1) := by decide +kernel
theorem dX1_acceptMovedJoint_6 : decode cX1_acceptMovedJoint 6 = .ok (.aload_n 2, 1) := by decide +kernel
theorem dX1_acceptMovedJoint_7 : decode cX1_acceptMovedJoint 7 = .ok (.ifnull 45, 3) := by decide +kernel
theorem dX1_acceptMovedJoint_10 : decode cX1_acceptMovedJoint 10 = .ok (.aload_n 2, 1) := by decide +kernel
theorem dX1_acceptMovedJoint_11 : decode cX1_acceptMovedJoint 11 = .ok (.aload_n 0, 1) := by decide +kernel
theorem dX1_acceptMovedJoint_12 : decode cX1_acceptMovedJoint 12 = .ok (.getfield 18, 3) := by decide +kernel
theorem dX1_acceptMovedJoint_15 : decode cX1_acceptMovedJoint 15 = .ok (.getfield 76, 3) := by decide +kernel
theorem dX1_acceptMovedJoint_18 : decode cX1_acceptMovedJoint 18 = .ok (.aload_n 0, 1) := by decide +kernel
theorem dX1_acceptMovedJoint_19 : decode cX1_acceptMovedJoint 19 = .ok (.getfield 18, 3) := by decide +kernel
theorem dX1_acceptMovedJoint_22 : decode cX1_acceptMovedJoint 22 = .ok (.getfield 79, 3) := by decide +kernel
theorem dX1_acceptMovedJoint_25 : decode cX1_acceptMovedJoint 25 = .ok (.aload_n 0, 1) := by decide +kernel
theorem dX1_acceptMovedJoint_26 : decode cX1_acceptMovedJoint 26 = .ok (.getfield 18, 3) := by decide +kernel
theorem dX1_acceptMovedJoint_29 : decode cX1_acceptMovedJoint 29 = .ok (.getfield 82, 3) := by decide +kernel
theorem dX1_acceptMovedJoint_32 : decode cX1_acceptMovedJoint 32 = .ok (.aload_n 0, 1) := by decide +kernel
theorem dX1_acceptMovedJoint_33 : decode cX1_acceptMovedJoint 33 = .ok (.getfield 18, 3) := by decide +kernel
theorem dX1_acceptMovedJoint_36 : decode cX1_acceptMovedJoint 36 = .ok (.getfield 85, 3) := by decide +kernel
theorem dX1_acceptMovedJoint_39 : decode cX1_acceptMovedJoint 39 = .ok (.invokevirtual 49, 3) := by decide +kernel
theorem dX1_acceptMovedJoint_42 : decode cX1_acceptMovedJoint 42 = .ok (.aload_n 0, 1) := by decide +kernel
theorem dX1_acceptMovedJoint_43 : decode cX1_acceptMovedJoint 43 = .ok (.dup, 1) := by decide +kernel
theorem dX1_acceptMovedJoint_44 : decode cX1_acceptMovedJoint 44 = .ok (.getfield 33, 3) := by decide +kernel
theorem dX1_acceptMovedJoint_47 : decode cX1_acceptMovedJoint 47 = .ok (.iconst 1, 1) := by decide +kernel
theorem dX1_acceptMovedJoint_48 : decode cX1_acceptMovedJoint 48 = .ok (.iadd, 1) := by decide +kernel
theorem dX1_acceptMovedJoint_49 : decode cX1_acceptMovedJoint 49 = .ok (.putfield 33, 3) := by decide +kernel
theorem dX1_acceptMovedJoint_52 : decode cX1_acceptMovedJoint 52 = .ok (.return_, 1) := by decide +kernel
theorem dX1_quadOf_0 : decode cX1_quadOf 0 = .ok (.aload_n 0, 1) := by decide +kernel
theorem dX1_quadOf_1 : decode cX1_quadOf 1 = .ok (.iload_n 1, 1) := by decide +kernel
theorem dX1_quadOf_2 : decode cX1_quadOf 2 = .ok (.invokevirtual 57, 3) := by decide +kernel
theorem dX1_quadOf_5 : decode cX1_quadOf 5 = .ok (.astore_n 2, 1) := by decide +kernel
theorem dX1_quadOf_6 : decode cX1_quadOf 6 = .ok (.aload_n 2, 1) := by decide +kernel
theorem dX1_quadOf_7 : decode cX1_quadOf 7 = .ok (.ifnonnull 7, 3) := by decide +kernel
theorem dX1_quadOf_10 : decode cX1_quadOf 10 = .ok (.aconst_null, 1) := by decide +kernel
theorem dX1_quadOf_11 : decode cX1_quadOf 11 = .ok (.goto 10, 3) := by decide +kernel
theorem dX1_quadOf_14 : decode cX1_quadOf 14 = .ok (.aload_n 0, 1) := by decide +kernel
theorem dX1_quadOf_15 : decode cX1_quadOf 15 = .ok (.iload_n 1, 1) := by decide +kernel
theorem dX1_quadOf_16 : decode cX1_quadOf 16 = .ok (.iconst 1, 1) := by decide +kernel
theorem dX1_quadOf_17 : decode cX1_quadOf 17 = .ok (.iadd, 1) := by decide +kernel
theorem dX1_quadOf_18 : decode cX1_quadOf 18 = .ok (.invokevirtual 57, 3) := by decide +kernel
theorem dX1_quadOf_21 : decode cX1_quadOf 21 = .ok (.astore_n 3, 1) := by decide +kernel
theorem dX1_quadOf_22 : decode cX1_quadOf 22 = .ok (.aload_n 2, 1) := by decide +kernel
theorem dX1_quadOf_23 : decode cX1_quadOf 23 = .ok (.ifnull 7, 3) := by decide +kernel
theorem dX1_quadOf_26 : decode cX1_quadOf 26 = .ok (.aload_n 3, 1) := by decide +kernel
theorem dX1_quadOf_27 : decode cX1_quadOf 27 = .ok (.ifnonnull 5, 3) := by decide +kernel
theorem dX1_quadOf_30 : decode cX1_quadOf 30 = .ok (.aconst_null, 1) := by decide +kernel
theorem dX1_quadOf_31 : decode cX1_quadOf 31 = .ok (.areturn, 1) := by decide +kernel
theorem dX1_quadOf_32 : decode cX1_quadOf 32 = .ok (.aload_n 0, 1) := by decide +kernel
theorem dX1_quadOf_33 : decode cX1_quadOf 33 = .ok (.getfield 25, 3) := by decide +kernel
theorem dX1_quadOf_36 : decode cX1_quadOf 36 = .ok (.aload_n 2, 1) := by decide +kernel
theorem dX1_quadOf_37 : decode cX1_quadOf 37 = .ok (.aload_n 3, 1) := by decide +kernel
theorem dX1_quadOf_38 : decode cX1_quadOf 38 = .ok (.invokevirtual 65, 3) := by decide +kernel
theorem dX1_quadOf_41 : decode cX1_quadOf 41 = .ok (.aload_n 0, 1) := by decide +kernel
theorem dX1_quadOf_42 : decode cX1_quadOf 42 = .ok (.getfield 25, 3) := by decide +kernel
theorem dX1_quadOf_45 : decode cX1_quadOf 45 = .ok (.areturn, 1) := by decide +kernel
theorem dX1_areaOfAll_0 : decode cX1_areaOfAll 0 = .ok (.iconst 0, 1) := by decide +kernel
theorem dX1_areaOfAll_1 : decode cX1_areaOfAll 1 = .ok (.istore_n 1, 1) := by decide +kernel
theorem dX1_areaOfAll_2 : decode cX1_areaOfAll 2 = .ok (.iconst 0, 1) := by decide +kernel
theorem dX1_areaOfAll_3 : decode cX1_areaOfAll 3 = .ok (.istore_n 2, 1) := by decide +kernel
theorem dX1_areaOfAll_4 : decode cX1_areaOfAll 4 = .ok (.iload_n 2, 1) := by decide +kernel
theorem dX1_areaOfAll_5 : decode cX1_areaOfAll 5 = .ok (.aload_n 0, 1) := by decide +kernel
theorem dX1_areaOfAll_6 : decode cX1_areaOfAll 6 = .ok (.invokevirtual 45, 3) := by decide +kernel
theorem dX1_areaOfAll_9 : decode cX1_areaOfAll 9 = .ok (.if_icmp .ge 17, 3) := by decide +kernel
theorem dX1_areaOfAll_12 : decode cX1_areaOfAll 12 = .ok (.iload_n 1, 1) := by decide +kernel
theorem dX1_areaOfAll_13 : decode cX1_areaOfAll 13 = .ok (.aload_n 0, 1) := by decide +kernel
theorem dX1_areaOfAll_14 : decode cX1_areaOfAll 14 = .ok (.iload_n 2, 1) := by decide +kernel
theorem dX1_areaOfAll_15 : decode cX1_areaOfAll 15 = .ok (.invokevirtual 98, 3) := by decide +kernel
theorem dX1_areaOfAll_18 : decode cX1_areaOfAll 18 = .ok (.iadd, 1) := by decide +kernel
theorem dX1_areaOfAll_19 : decode cX1_areaOfAll 19 = .ok (.istore_n 1, 1) := by decide +kernel
theorem dX1_areaOfAll_20 : decode cX1_areaOfAll 20 = .ok (.iinc 2 1, 3) := by decide +kernel
theorem dX1_areaOfAll_23 : decode cX1_areaOfAll 23 = .ok (.goto (-19), 3) := by decide +kernel
theorem dX1_areaOfAll_26 : decode cX1_areaOfAll 26 = .ok (.iload_n 1, 1) := by decide +kernel
theorem dX1_areaOfAll_27 : decode cX1_areaOfAll 27 = .ok (.ireturn, 1) := by decide +kernel
theorem dX1_weightOfAll_0 : decode cX1_weightOfAll 0 = .ok (.iconst 0, 1) := by decide +kernel
theorem dX1_weightOfAll_1 : decode cX1_weightOfAll 1 = .ok (.istore_n 1, 1) := by decide +kernel
theorem dX1_weightOfAll_2 : decode cX1_weightOfAll 2 = .ok (.iconst 0, 1) := by decide +kernel
theorem dX1_weightOfAll_3 : decode cX1_weightOfAll 3 = .ok (.istore_n 2, 1) := by decide +kernel
theorem dX1_weightOfAll_4 : decode cX1_weightOfAll 4 = .ok (.iload_n 2, 1) := by decide +kernel
theorem dX1_weightOfAll_5 : decode cX1_weightOfAll 5 = .ok (.aload_n 0, 1) := by decide +kernel
theorem dX1_weightOfAll_6 : decode cX1_weightOfAll 6 = .ok (.invokevirtual 45, 3) := by decide +kernel
theorem dX1_weightOfAll_9 : decode cX1_weightOfAll 9 = .ok (.if_icmp .ge 17, 3) := by decide +kernel
theorem dX1_weightOfAll_12 : decode cX1_weightOfAll 12 = .ok (.iload_n 1, 1) := by decide +kernel
theorem dX1_weightOfAll_13 : decode cX1_weightOfAll 13 = .ok (.aload_n 0, 1) := by decide +kernel
theorem dX1_weightOfAll_14 : decode cX1_weightOfAll 14 = .ok (.iload_n 2, 1) := by decide +kernel
theorem dX1_weightOfAll_15 : decode cX1_weightOfAll 15 = .ok (.invokevirtual 102, 3) := by decide +kernel
theorem dX1_weightOfAll_18 : decode cX1_weightOfAll 18 = .ok (.iadd, 1) := by decide +kernel
theorem dX1_weightOfAll_19 : decode cX1_weightOfAll 19 = .ok (.istore_n 1, 1) := by decide +kernel
theorem dX1_weightOfAll_20 : decode cX1_weightOfAll 20 = .ok (.iinc 2 1, 3) := by decide +kernel
theorem dX1_weightOfAll_23 : decode cX1_weightOfAll 23 = .ok (.goto (-19), 3) := by decide +kernel
theorem dX1_weightOfAll_26 : decode cX1_weightOfAll 26 = .ok (.iload_n 1, 1) := by decide +kernel
theorem dX1_weightOfAll_27 : decode cX1_weightOfAll 27 = .ok (.ireturn, 1) := by decide +kernel
theorem dX1_areaGoneRound_0 : decode cX1_areaGoneRound 0 = .ok (.iconst 0, 1) := by decide +kernel
theorem dX1_areaGoneRound_1 : decode cX1_areaGoneRound 1 = .ok (.istore_n 1, 1) := by decide +kernel
theorem dX1_areaGoneRound_2 : decode cX1_areaGoneRound 2 = .ok (.iconst 0, 1) := by decide +kernel
theorem dX1_areaGoneRound_3 : decode cX1_areaGoneRound 3 = .ok (.istore_n 2, 1) := by decide +kernel
theorem dX1_areaGoneRound_4 : decode cX1_areaGoneRound 4 = .ok (.iload_n 2, 1) := by decide +kernel
theorem dX1_areaGoneRound_5 : decode cX1_areaGoneRound 5 = .ok (.aload_n 0, 1) := by decide +kernel
theorem dX1_areaGoneRound_6 : decode cX1_areaGoneRound 6 = .ok (.getfield 29, 3) := by decide +kernel
theorem dX1_areaGoneRound_9 : decode cX1_areaGoneRound 9 = .ok (.if_icmp .ge 81, 3) := by decide +kernel
theorem dX1_areaGoneRound_12 : decode cX1_areaGoneRound 12 = .ok (.aload_n 0, 1) := by decide +kernel
theorem dX1_areaGoneRound_13 : decode cX1_areaGoneRound 13 = .ok (.iload_n 2, 1) := by decide +kernel
theorem dX1_areaGoneRound_14 : decode cX1_areaGoneRound 14 = .ok (.invokevirtual 57, 3) := by decide +kernel
theorem dX1_areaGoneRound_17 : decode cX1_areaGoneRound 17 = .ok (.astore_n 3, 1) := by decide +kernel
theorem dX1_areaGoneRound_18 : decode cX1_areaGoneRound 18 = .ok (.aload_n 0, 1) := by decide +kernel
theorem dX1_areaGoneRound_19 : decode cX1_areaGoneRound 19 = .ok (.iload_n 2, 1) := by decide +kernel
theorem dX1_areaGoneRound_20 : decode cX1_areaGoneRound 20 = .ok (.iconst 1, 1) := by decide +kernel
theorem dX1_areaGoneRound_21 : decode cX1_areaGoneRound 21 = .ok (.iadd, 1) := by decide +kernel
theorem dX1_areaGoneRound_22 : decode cX1_areaGoneRound 22 = .ok (.invokevirtual 57, 3) := by decide +kernel
theorem dX1_areaGoneRound_25 : decode cX1_areaGoneRound 25 = .ok (.astore 4, 2) := by decide +kernel
theorem dX1_areaGoneRound_27 : decode cX1_areaGoneRound 27 = .ok (.aload_n 3, 1) := by decide +kernel
theorem dX1_areaGoneRound_28 : decode cX1_areaGoneRound 28 = .ok (.ifnull 56, 3) := by decide +kernel
theorem dX1_areaGoneRound_31 : decode cX1_areaGoneRound 31 = .ok (.aload 4, 2) := by decide +kernel
theorem dX1_areaGoneRound_33 : decode cX1_areaGoneRound 33 = .ok (.ifnull 51, 3) := by decide +kernel
theorem dX1_areaGoneRound_36 : decode cX1_areaGoneRound 36 = .ok (.iload_n 1, 1) := by decide +kernel
theorem dX1_areaGoneRound_37 : decode cX1_areaGoneRound 37 = .ok (.aload_n 3, 1) := by decide +kernel
theorem dX1_areaGoneRound_38 : decode cX1_areaGoneRound 38 = .ok (.getfield 76, 3) := by decide +kernel
theorem dX1_areaGoneRound_41 : decode cX1_areaGoneRound 41 = .ok (.aload_n 3, 1) := by decide +kernel
theorem dX1_areaGoneRound_42 : decode cX1_areaGoneRound 42 = .ok (.getfield 79, 3) := by decide +kernel
theorem dX1_areaGoneRound_45 : decode cX1_areaGoneRound 45 = .ok (.aload 4, 2) := by decide +kernel
theorem dX1_areaGoneRound_47 : decode cX1_areaGoneRound 47 = .ok (.getfield 76, 3) := by decide +kernel
theorem dX1_areaGoneRound_50 : decode cX1_areaGoneRound 50 = .ok (.aload 4, 2) := by decide +kernel
theorem dX1_areaGoneRound_52 : decode cX1_areaGoneRound 52 = .ok (.getfield 79, 3) := by decide +kernel
theorem dX1_areaGoneRound_55 : decode cX1_areaGoneRound 55 = .ok (.invokestatic 105, 3) := by decide +kernel
theorem dX1_areaGoneRound_58 : decode cX1_areaGoneRound 58 = .ok (.iadd, 1) := by decide +kernel
theorem dX1_areaGoneRound_59 : decode cX1_areaGoneRound 59 = .ok (.istore_n 1, 1) := by decide +kernel
theorem dX1_areaGoneRound_60 : decode cX1_areaGoneRound 60 = .ok (.iload_n 1, 1) := by decide +kernel
theorem dX1_areaGoneRound_61 : decode cX1_areaGoneRound 61 = .ok (.aload 4, 2) := by decide +kernel
theorem dX1_areaGoneRound_63 : decode cX1_areaGoneRound 63 = .ok (.getfield 82, 3) := by decide +kernel
theorem dX1_areaGoneRound_66 : decode cX1_areaGoneRound 66 = .ok (.aload 4, 2) := by decide +kernel
theorem dX1_areaGoneRound_68 : decode cX1_areaGoneRound 68 = .ok (.getfield 85, 3) := by decide +kernel
theorem dX1_areaGoneRound_71 : decode cX1_areaGoneRound 71 = .ok (.aload_n 3, 1) := by decide +kernel
theorem dX1_areaGoneRound_72 : decode cX1_areaGoneRound 72 = .ok (.getfield 82, 3) := by decide +kernel
theorem dX1_areaGoneRound_75 : decode cX1_areaGoneRound 75 = .ok (.aload_n 3, 1) := by decide +kernel
theorem dX1_areaGoneRound_76 : decode cX1_areaGoneRound 76 = .ok (.getfield 85, 3) := by decide +kernel
theorem dX1_areaGoneRound_79 : decode cX1_areaGoneRound 79 = .ok (.invokestatic 105, 3) := by decide +kernel
theorem dX1_areaGoneRound_82 : decode cX1_areaGoneRound 82 = .ok (.iadd, 1) := by decide +kernel
theorem dX1_areaGoneRound_83 : decode cX1_areaGoneRound 83 = .ok (.istore_n 1, 1) := by decide +kernel
theorem dX1_areaGoneRound_84 : decode cX1_areaGoneRound 84 = .ok (.iinc 2 1, 3) := by decide +kernel
theorem dX1_areaGoneRound_87 : decode cX1_areaGoneRound 87 = .ok (.goto (-83), 3) := by decide +kernel
theorem dX1_areaGoneRound_90 : decode cX1_areaGoneRound 90 = .ok (.aload_n 0, 1) := by decide +kernel
theorem dX1_areaGoneRound_91 : decode cX1_areaGoneRound 91 = .ok (.iconst 0, 1) := by decide +kernel
theorem dX1_areaGoneRound_92 : decode cX1_areaGoneRound 92 = .ok (.invokevirtual 57, 3) := by decide +kernel
theorem dX1_areaGoneRound_95 : decode cX1_areaGoneRound 95 = .ok (.astore_n 2, 1) := by decide +kernel
theorem dX1_areaGoneRound_96 : decode cX1_areaGoneRound 96 = .ok (.aload_n 0, 1) := by decide +kernel
theorem dX1_areaGoneRound_97 : decode cX1_areaGoneRound 97 = .ok (.aload_n 0, 1) := by decide +kernel
theorem dX1_areaGoneRound_98 : decode cX1_areaGoneRound 98 = .ok (.getfield 29, 3) := by decide +kernel
theorem dX1_areaGoneRound_101 : decode cX1_areaGoneRound 101 = .ok (.iconst 1, 1) := by decide +kernel
theorem dX1_areaGoneRound_102 : decode cX1_areaGoneRound 102 = .ok (.isub, 1) := by decide +kernel
theorem dX1_areaGoneRound_103 : decode cX1_areaGoneRound 103 = .ok (.invokevirtual 57, 3) := by decide +kernel
theorem dX1_areaGoneRound_106 : decode cX1_areaGoneRound 106 = .ok (.astore_n 3, 1) := by decide +kernel
theorem dX1_areaGoneRound_107 : decode cX1_areaGoneRound 107 = .ok (.aload_n 2, 1) := by decide +kernel
theorem dX1_areaGoneRound_108 : decode cX1_areaGoneRound 108 = .ok (.ifnull 51, 3) := by decide +kernel
theorem dX1_areaGoneRound_111 : decode cX1_areaGoneRound 111 = .ok (.aload_n 3, 1) := by decide +kernel
theorem dX1_areaGoneRound_112 : decode cX1_areaGoneRound 112 = .ok (.ifnull 47, 3) := by decide +kernel
theorem dX1_areaGoneRound_115 : decode cX1_areaGoneRound 115 = .ok (.iload_n 1, 1) := by decide +kernel
theorem dX1_areaGoneRound_116 : decode cX1_areaGoneRound 116 = .ok (.aload_n 3, 1) := by decide +kernel
theorem dX1_areaGoneRound_117 : decode cX1_areaGoneRound 117 = .ok (.getfield 76, 3) := by decide +kernel
theorem dX1_areaGoneRound_120 : decode cX1_areaGoneRound 120 = .ok (.aload_n 3, 1) := by decide +kernel
theorem dX1_areaGoneRound_121 : decode cX1_areaGoneRound 121 = .ok (.getfield 79, 3) := by decide +kernel
theorem dX1_areaGoneRound_124 : decode cX1_areaGoneRound 124 = .ok (.aload_n 3, 1) := by decide +kernel
theorem dX1_areaGoneRound_125 : decode cX1_areaGoneRound 125 = .ok (.getfield 82, 3) := by decide +kernel
theorem dX1_areaGoneRound_128 : decode cX1_areaGoneRound 128 = .ok (.aload_n 3, 1) := by decide +kernel
theorem dX1_areaGoneRound_129 : decode cX1_areaGoneRound 129 = .ok (.getfield 85, 3) := by decide +kernel
theorem dX1_areaGoneRound_132 : decode cX1_areaGoneRound 132 = .ok (.invokestatic 105, 3) := by decide +kernel
theorem dX1_areaGoneRound_135 : decode cX1_areaGoneRound 135 = .ok (.iadd, 1) := by decide +kernel
theorem dX1_areaGoneRound_136 : decode cX1_areaGoneRound 136 = .ok (.istore_n 1, 1) := by decide +kernel
theorem dX1_areaGoneRound_137 : decode cX1_areaGoneRound 137 = .ok (.iload_n 1, 1) := by decide +kernel
theorem dX1_areaGoneRound_138 : decode cX1_areaGoneRound 138 = .ok (.aload_n 2, 1) := by decide +kernel
theorem dX1_areaGoneRound_139 : decode cX1_areaGoneRound 139 = .ok (.getfield 82, 3) := by decide +kernel
theorem dX1_areaGoneRound_142 : decode cX1_areaGoneRound 142 = .ok (.aload_n 2, 1) := by decide +kernel
theorem dX1_areaGoneRound_143 : decode cX1_areaGoneRound 143 = .ok (.getfield 85, 3) := by decide +kernel
theorem dX1_areaGoneRound_146 : decode cX1_areaGoneRound 146 = .ok (.aload_n 2, 1) := by decide +kernel
theorem dX1_areaGoneRound_147 : decode cX1_areaGoneRound 147 = .ok (.getfield 76, 3) := by decide +kernel
theorem dX1_areaGoneRound_150 : decode cX1_areaGoneRound 150 = .ok (.aload_n 2, 1) := by decide +kernel
theorem dX1_areaGoneRound_151 : decode cX1_areaGoneRound 151 = .ok (.getfield 79, 3) := by decide +kernel
theorem dX1_areaGoneRound_154 : decode cX1_areaGoneRound 154 = .ok (.invokestatic 105, 3) := by decide +kernel
theorem dX1_areaGoneRound_157 : decode cX1_areaGoneRound 157 = .ok (.iadd, 1) := by decide +kernel
theorem dX1_areaGoneRound_158 : decode cX1_areaGoneRound 158 = .ok (.istore_n 1, 1) := by decide +kernel
theorem dX1_areaGoneRound_159 : decode cX1_areaGoneRound 159 = .ok (.iload_n 1, 1) := by decide +kernel
theorem dX1_areaGoneRound_160 : decode cX1_areaGoneRound 160 = .ok (.ireturn, 1) := by decide +kernel
theorem dX2_init_0 : decode cX2_init 0 = .ok (.aload_n 0, 1) := by decide +kernel
theorem dX2_init_1 : decode cX2_init 1 = .ok (.invokespecial 1, 3) := by decide +kernel
theorem dX2_init_4 : decode cX2_init 4 = .ok (.aload_n 0, 1) := by decide +kernel
theorem dX2_init_5 : decode cX2_init 5 = .ok (.iconst 0, 1) := by decide +kernel
theorem dX2_init_6 : decode cX2_init 6 = .ok (.putfield 7, 3) := by decide +kernel
theorem dX2_init_9 : decode cX2_init 9 = .ok (.aload_n 0, 1) := by decide +kernel
theorem dX2_init_10 : decode cX2_init 10 = .ok (.iconst 0, 1) := by decide +kernel
theorem dX2_init_11 : decode cX2_init 11 = .ok (.putfield 13, 3) := by decide +kernel
theorem dX2_init_14 : decode cX2_init 14 = .ok (.aload_n 0, 1) := by decide +kernel
theorem dX2_init_15 : decode cX2_init 15 = .ok (.iconst 0, 1) := by decide +kernel
theorem dX2_init_16 : decode cX2_init 16 = .ok (.putfield 16, 3) := by decide +kernel
theorem dX2_init_19 : decode cX2_init 19 = .ok (.aload_n 0, 1) := by decide +kernel
theorem dX2_init_20 : decode cX2_init 20 = .ok (.iconst 0, 1) := by decide +kernel
theorem dX2_init_21 : decode cX2_init 21 = .ok (.putfield 19, 3) := by decide +kernel
theorem dX2_init_24 : decode cX2_init 24 = .ok (.return_, 1) := by decide +kernel
theorem dX2_moveTo_0 : decode cX2_moveTo 0 = .ok (.aload_n 0, 1) := by decide +kernel
theorem dX2_moveTo_1 : decode cX2_moveTo 1 = .ok (.iload_n 1, 1) := by decide +kernel
theorem dX2_moveTo_2 : decode cX2_moveTo 2 = .ok (.putfield 7, 3) := by decide +kernel
theorem dX2_moveTo_5 : decode cX2_moveTo 5 = .ok (.aload_n 0, 1) := by decide +kernel
theorem dX2_moveTo_6 : decode cX2_moveTo 6 = .ok (.iload_n 2, 1) := by decide +kernel
theorem dX2_moveTo_7 : decode cX2_moveTo 7 = .ok (.putfield 13, 3) := by decide +kernel
theorem dX2_moveTo_10 : decode cX2_moveTo 10 = .ok (.aload_n 0, 1) := by decide +kernel
theorem dX2_moveTo_11 : decode cX2_moveTo 11 = .ok (.iload_n 3, 1) := by decide +kernel
theorem dX2_moveTo_12 : decode cX2_moveTo 12 = .ok (.putfield 16, 3) := by decide +kernel
theorem dX2_moveTo_15 : decode cX2_moveTo 15 = .ok (.aload_n 0, 1) := by decide +kernel
theorem dX2_moveTo_16 : decode cX2_moveTo 16 = .ok (.iload 4, 2) := by decide +kernel
theorem dX2_moveTo_18 : decode cX2_moveTo 18 = .ok (.putfield 19, 3) := by decide +kernel
theorem dX2_moveTo_21 : decode cX2_moveTo 21 = .ok (.return_, 1) := by decide +kernel
theorem dX2_hasLength_0 : decode cX2_hasLength 0 = .ok (.aload_n 0, 1) := by decide +kernel
theorem dX2_hasLength_1 : decode cX2_hasLength 1 = .ok (.getfield 7, 3) := by decide +kernel
theorem dX2_hasLength_4 : decode cX2_hasLength 4 = .ok (.aload_n 0, 1) := by decide +kernel
theorem dX2_hasLength_5 : decode cX2_hasLength 5 = .ok (.getfield 16, 3) := by decide +kernel
theorem dX2_hasLength_8 : decode cX2_hasLength 8 = .ok (.if_icmp .ne 14, 3) := by decide +kernel
theorem dX2_hasLength_11 : decode cX2_hasLength 11 = .ok (.aload_n 0, 1) := by decide +kernel
theorem dX2_hasLength_12 : decode cX2_hasLength 12 = .ok (.getfield 13, 3) := by decide +kernel
theorem dX2_hasLength_15 : decode cX2_hasLength 15 = .ok (.aload_n 0, 1) := by decide +kernel
theorem dX2_hasLength_16 : decode cX2_hasLength 16 = .ok (.getfield 19, 3) := by decide +kernel
theorem dX2_hasLength_19 : decode cX2_hasLength 19 = .ok (.if_icmp .eq 7, 3) := by decide +kernel
theorem dX2_hasLength_22 : decode cX2_hasLength 22 = .ok (.iconst 1, 1) := by decide +kernel
theorem dX2_hasLength_23 : decode cX2_hasLength 23 = .ok (.goto 4, 3) := by decide +kernel
theorem dX2_hasLength_26 : decode cX2_hasLength 26 = .ok (.iconst 0, 1) := by decide +kernel
theorem dX2_hasLength_27 : decode cX2_hasLength 27 = .ok (.ireturn, 1) := by decide +kernel
theorem dX3_init_0 : decode cX3_init 0 = .ok (.aload_n 0, 1) := by decide +kernel
theorem dX3_init_1 : decode cX3_init 1 = .ok (.invokespecial 1, 3) := by decide +kernel
theorem dX3_init_4 : decode cX3_init 4 = .ok (.aload_n 0, 1) := by decide +kernel
theorem dX3_init_5 : decode cX3_init 5 = .ok (.iconst 0, 1) := by decide +kernel
theorem dX3_init_6 : decode cX3_init 6 = .ok (.putfield 7, 3) := by decide +kernel
theorem dX3_init_9 : decode cX3_init 9 = .ok (.aload_n 0, 1) := by decide +kernel
theorem dX3_init_10 : decode cX3_init 10 = .ok (.iconst 0, 1) := by decide +kernel
theorem dX3_init_11 : decode cX3_init 11 = .ok (.putfield 13, 3) := by decide +kernel
theorem dX3_init_14 : decode cX3_init 14 = .ok (.aload_n 0, 1) := by decide +kernel
theorem dX3_init_15 : decode cX3_init 15 = .ok (.iload_n 1, 1) := by decide +kernel
theorem dX3_init_16 : decode cX3_init 16 = .ok (.putfield 16, 3) := by decide +kernel
theorem dX3_init_19 : decode cX3_init 19 = .ok (.aload_n 0, 1) := by decide +kernel
theorem dX3_init_20 : decode cX3_init 20 = .ok (.iload_n 2, 1) := by decide +kernel
theorem dX3_init_21 : decode cX3_init 21 = .ok (.putfield 20, 3) := by decide +kernel
theorem dX3_init_24 : decode cX3_init 24 = .ok (.aload_n 0, 1) := by decide +kernel
theorem dX3_init_25 : decode cX3_init 25 = .ok (.iload_n 3, 1) := by decide +kernel
theorem dX3_init_26 : decode cX3_init 26 = .ok (.putfield 23, 3) := by decide +kernel
theorem dX3_init_29 : decode cX3_init 29 = .ok (.return_, 1) := by decide +kernel
theorem dX4_init_0 : decode cX4_init 0 = .ok (.aload_n 0, 1) := by decide +kernel
theorem dX4_init_1 : decode cX4_init 1 = .ok (.invokespecial 1, 3) := by decide +kernel
theorem dX4_init_4 : decode cX4_init 4 = .ok (.aload_n 0, 1) := by decide +kernel
theorem dX4_init_5 : decode cX4_init 5 = .ok (.iconst 4, 1) := by decide +kernel
theorem dX4_init_6 : decode cX4_init 6 = .ok (.newarray .int, 2) := by decide +kernel
theorem dX4_init_8 : decode cX4_init 8 = .ok (.putfield 9, 3) := by decide +kernel
theorem dX4_init_11 : decode cX4_init 11 = .ok (.aload_n 0, 1) := by decide +kernel
theorem dX4_init_12 : decode cX4_init 12 = .ok (.iconst 4, 1) := by decide +kernel
theorem dX4_init_13 : decode cX4_init 13 = .ok (.newarray .int, 2) := by decide +kernel
theorem dX4_init_15 : decode cX4_init 15 = .ok (.putfield 13, 3) := by decide +kernel
theorem dX4_init_18 : decode cX4_init 18 = .ok (.return_, 1) := by decide +kernel
theorem dX6_init_0 : decode cX6_init 0 = .ok (.aload_n 0, 1) := by decide +kernel
theorem dX6_init_1 : decode cX6_init 1 = .ok (.invokespecial 3, 3) := by decide +kernel
theorem dX6_init_4 : decode cX6_init 4 = .ok (.aload_n 0, 1) := by decide +kernel
theorem dX6_init_5 : decode cX6_init 5 = .ok (.bipush 80, 2) := by decide +kernel
theorem dX6_init_7 : decode cX6_init 7 = .ok (.newarray .long, 2) := by decide +kernel
theorem dX6_init_9 : decode cX6_init 9 = .ok (.putfield 11, 3) := by decide +kernel
theorem dX6_init_12 : decode cX6_init 12 = .ok (.aload_n 0, 1) := by decide +kernel
theorem dX6_init_13 : decode cX6_init 13 = .ok (.bipush 80, 2) := by decide +kernel
theorem dX6_init_15 : decode cX6_init 15 = .ok (.newarray .long, 2) := by decide +kernel
theorem dX6_init_17 : decode cX6_init 17 = .ok (.putfield 15, 3) := by decide +kernel
theorem dX6_init_20 : decode cX6_init 20 = .ok (.aload_n 0, 1) := by decide +kernel
theorem dX6_init_21 : decode cX6_init 21 = .ok (.bipush 80, 2) := by decide +kernel
theorem dX6_init_23 : decode cX6_init 23 = .ok (.newarray .long, 2) := by decide +kernel
theorem dX6_init_25 : decode cX6_init 25 = .ok (.putfield 18, 3) := by decide +kernel
theorem dX6_init_28 : decode cX6_init 28 = .ok (.aload_n 0, 1) := by decide +kernel
theorem dX6_init_29 : decode cX6_init 29 = .ok (.iconst 0, 1) := by decide +kernel
theorem dX6_init_30 : decode cX6_init 30 = .ok (.putfield 21, 3) := by decide +kernel
theorem dX6_init_33 : decode cX6_init 33 = .ok (.aload_n 0, 1) := by decide +kernel
theorem dX6_init_34 : decode cX6_init 34 = .ok (.bipush 8, 2) := by decide +kernel
theorem dX6_init_36 : decode cX6_init 36 = .ok (.newarray .long, 2) := by decide +kernel
theorem dX6_init_38 : decode cX6_init 38 = .ok (.putfield 25, 3) := by decide +kernel
theorem dX6_init_41 : decode cX6_init 41 = .ok (.aload_n 0, 1) := by decide +kernel
theorem dX6_init_42 : decode cX6_init 42 = .ok (.bipush 8, 2) := by decide +kernel
theorem dX6_init_44 : decode cX6_init 44 = .ok (.newarray .long, 2) := by decide +kernel
theorem dX6_init_46 : decode cX6_init 46 = .ok (.putfield 28, 3) := by decide +kernel
theorem dX6_init_49 : decode cX6_init 49 = .ok (.aload_n 0, 1) := by decide +kernel
theorem dX6_init_50 : decode cX6_init 50 = .ok (.lconst 0, 1) := by decide +kernel
theorem dX6_init_51 : decode cX6_init 51 = .ok (.putfield 31, 3) := by decide +kernel
theorem dX6_init_54 : decode cX6_init 54 = .ok (.aload_n 0, 1) := by decide +kernel
theorem dX6_init_55 : decode cX6_init 55 = .ok (.lconst 1, 1) := by decide +kernel
theorem dX6_init_56 : decode cX6_init 56 = .ok (.putfield 35, 3) := by decide +kernel
theorem dX6_init_59 : decode cX6_init 59 = .ok (.aload_n 0, 1) := by decide +kernel
theorem dX6_init_60 : decode cX6_init 60 = .ok (.lconst 0, 1) := by decide +kernel
theorem dX6_init_61 : decode cX6_init 61 = .ok (.putfield 38, 3) := by decide +kernel
theorem dX6_init_64 : decode cX6_init 64 = .ok (.aload_n 0, 1) := by decide +kernel
theorem dX6_init_65 : decode cX6_init 65 = .ok (.lconst 0, 1) := by decide +kernel
theorem dX6_init_66 : decode cX6_init 66 = .ok (.putfield 41, 3) := by decide +kernel
theorem dX6_init_69 : decode cX6_init 69 = .ok (.aload_n 0, 1) := by decide +kernel
theorem dX6_init_70 : decode cX6_init 70 = .ok (.iconst 1, 1) := by decide +kernel
theorem dX6_init_71 : decode cX6_init 71 = .ok (.putfield 44, 3) := by decide +kernel
theorem dX6_init_74 : decode cX6_init 74 = .ok (.return_, 1) := by decide +kernel
theorem dX7_init_0 : decode cX7_init 0 = .ok (.aload_n 0, 1) := by decide +kernel
theorem dX7_init_1 : decode cX7_init 1 = .ok (.invokespecial 1, 3) := by decide +kernel
theorem dX7_init_4 : decode cX7_init 4 = .ok (.aload_n 0, 1) := by decide +kernel
theorem dX7_init_5 : decode cX7_init 5 = .ok (.new 7, 3) := by decide +kernel
theorem dX7_init_8 : decode cX7_init 8 = .ok (.dup, 1) := by decide +kernel
theorem dX7_init_9 : decode cX7_init 9 = .ok (.invokespecial 9, 3) := by decide +kernel
theorem dX7_init_12 : decode cX7_init 12 = .ok (.putfield 10, 3) := by decide +kernel
theorem dX7_init_15 : decode cX7_init 15 = .ok (.aload_n 0, 1) := by decide +kernel
theorem dX7_init_16 : decode cX7_init 16 = .ok (.new 16, 3) := by decide +kernel
theorem dX7_init_19 : decode cX7_init 19 = .ok (.dup, 1) := by decide +kernel
theorem dX7_init_20 : decode cX7_init 20 = .ok (.invokespecial 18, 3) := by decide +kernel
theorem dX7_init_23 : decode cX7_init 23 = .ok (.putfield 19, 3) := by decide +kernel
theorem dX7_init_26 : decode cX7_init 26 = .ok (.aload_n 0, 1) := by decide +kernel
theorem dX7_init_27 : decode cX7_init 27 = .ok (.bipush 6, 2) := by decide +kernel
theorem dX7_init_29 : decode cX7_init 29 = .ok (.anewarray 23, 3) := by decide +kernel
theorem dX7_init_32 : decode cX7_init 32 = .ok (.putfield 25, 3) := by decide +kernel
theorem dX7_init_35 : decode cX7_init 35 = .ok (.aload_n 0, 1) := by decide +kernel
theorem dX7_init_36 : decode cX7_init 36 = .ok (.iconst 4, 1) := by decide +kernel
theorem dX7_init_37 : decode cX7_init 37 = .ok (.anewarray 29, 3) := by decide +kernel
theorem dX7_init_40 : decode cX7_init 40 = .ok (.putfield 31, 3) := by decide +kernel
theorem dX7_init_43 : decode cX7_init 43 = .ok (.aload_n 0, 1) := by decide +kernel
theorem dX7_init_44 : decode cX7_init 44 = .ok (.bipush 40, 2) := by decide +kernel
theorem dX7_init_46 : decode cX7_init 46 = .ok (.anewarray 35, 3) := by decide +kernel
theorem dX7_init_49 : decode cX7_init 49 = .ok (.putfield 37, 3) := by decide +kernel
theorem dX7_init_52 : decode cX7_init 52 = .ok (.aload_n 0, 1) := by decide +kernel
theorem dX7_init_53 : decode cX7_init 53 = .ok (.bipush 8, 2) := by decide +kernel
theorem dX7_init_55 : decode cX7_init 55 = .ok (.newarray .int, 2) := by decide +kernel
theorem dX7_init_57 : decode cX7_init 57 = .ok (.putfield 41, 3) := by decide +kernel
theorem dX7_init_60 : decode cX7_init 60 = .ok (.aload_n 0, 1) := by decide +kernel
theorem dX7_init_61 : decode cX7_init 61 = .ok (.bipush 8, 2) := by decide +kernel
theorem dX7_init_63 : decode cX7_init 63 = .ok (.newarray .int, 2) := by decide +kernel
theorem dX7_init_65 : decode cX7_init 65 = .ok (.putfield 45, 3) := by decide +kernel
theorem dX7_init_68 : decode cX7_init 68 = .ok (.aload_n 0, 1) := by decide +kernel
theorem dX7_init_69 : decode cX7_init 69 = .ok (.bipush 8, 2) := by decide +kernel
theorem dX7_init_71 : decode cX7_init 71 = .ok (.newarray .int, 2) := by decide +kernel
theorem dX7_init_73 : decode cX7_init 73 = .ok (.putfield 48, 3) := by decide +kernel
theorem dX7_init_76 : decode cX7_init 76 = .ok (.aload_n 0, 1) := by decide +kernel
theorem dX7_init_77 : decode cX7_init 77 = .ok (.iconst 0, 1) := by decide +kernel
theorem dX7_init_78 : decode cX7_init 78 = .ok (.putfield 51, 3) := by decide +kernel
theorem dX7_init_81 : decode cX7_init 81 = .ok (.aload_n 0, 1) := by decide +kernel
theorem dX7_init_82 : decode cX7_init 82 = .ok (.iconst 0, 1) := by decide +kernel
theorem dX7_init_83 : decode cX7_init 83 = .ok (.putfield 55, 3) := by decide +kernel
theorem dX7_init_86 : decode cX7_init 86 = .ok (.aload_n 0, 1) := by decide +kernel
theorem dX7_init_87 : decode cX7_init 87 = .ok (.iconst 0, 1) := by decide +kernel
theorem dX7_init_88 : decode cX7_init 88 = .ok (.putfield 58, 3) := by decide +kernel
theorem dX7_init_91 : decode cX7_init 91 = .ok (.aload_n 0, 1) := by decide +kernel
theorem dX7_init_92 : decode cX7_init 92 = .ok (.iconst 0, 1) := by decide +kernel
theorem dX7_init_93 : decode cX7_init 93 = .ok (.putfield 61, 3) := by decide +kernel
theorem dX7_init_96 : decode cX7_init 96 = .ok (.aload_n 0, 1) := by decide +kernel
theorem dX7_init_97 : decode cX7_init 97 = .ok (.iconst 0, 1) := by decide +kernel
theorem dX7_init_98 : decode cX7_init 98 = .ok (.putfield 64, 3) := by decide +kernel
theorem dX7_init_101 : decode cX7_init 101 = .ok (.aload_n 0, 1) := by decide +kernel
theorem dX7_init_102 : decode cX7_init 102 = .ok (.iconst 0, 1) := by decide +kernel
theorem dX7_init_103 : decode cX7_init 103 = .ok (.putfield 68, 3) := by decide +kernel
theorem dX7_init_106 : decode cX7_init 106 = .ok (.aload_n 0, 1) := by decide +kernel
theorem dX7_init_107 : decode cX7_init 107 = .ok (.iconst 0, 1) := by decide +kernel
theorem dX7_init_108 : decode cX7_init 108 = .ok (.putfield 71, 3) := by decide +kernel
theorem dX7_init_111 : decode cX7_init 111 = .ok (.aload_n 0, 1) := by decide +kernel
theorem dX7_init_112 : decode cX7_init 112 = .ok (.lconst 0, 1) := by decide +kernel
theorem dX7_init_113 : decode cX7_init 113 = .ok (.putfield 74, 3) := by decide +kernel
theorem dX7_init_116 : decode cX7_init 116 = .ok (.iconst 0, 1) := by decide +kernel
theorem dX7_init_117 : decode cX7_init 117 = .ok (.istore_n 1, 1) := by decide +kernel
theorem dX7_init_118 : decode cX7_init 118 = .ok (.iload_n 1, 1) := by decide +kernel
theorem dX7_init_119 : decode cX7_init 119 = .ok (.aload_n 0, 1) := by decide +kernel
theorem dX7_init_120 : decode cX7_init 120 = .ok (.getfield 41, 3) := by decide +kernel
theorem dX7_init_123 : decode cX7_init 123 = .ok (.arraylength, 1) := by decide +kernel
theorem dX7_init_124 : decode cX7_init 124 = .ok (.if_icmp .ge 16, 3) := by decide +kernel
theorem dX7_init_127 : decode cX7_init 127 = .ok (.aload_n 0, 1) := by decide +kernel
theorem dX7_init_128 : decode cX7_init 128 = .ok (.getfield 41, 3) := by decide +kernel
theorem dX7_init_131 : decode cX7_init 131 = .ok (.iload_n 1, 1) := by decide +kernel
theorem dX7_init_132 : decode cX7_init 132 = .ok (.iconst (-1), 1) := by decide +kernel
theorem dX7_init_133 : decode cX7_init 133 = .ok (.iastore, 1) := by decide +kernel
theorem dX7_init_134 : decode cX7_init 134 = .ok (.iinc 1 1, 3) := by decide +kernel
theorem dX7_init_137 : decode cX7_init 137 = .ok (.goto (-19), 3) := by decide +kernel
theorem dX7_init_140 : decode cX7_init 140 = .ok (.return_, 1) := by decide +kernel
theorem dX7_drawJoint_0 : decode cX7_drawJoint 0 = .ok (.aload_n 0, 1) := by decide +kernel
theorem dX7_drawJoint_1 : decode cX7_drawJoint 1 = .ok (.getfield 10, 3) := by decide +kernel
theorem dX7_drawJoint_4 : decode cX7_drawJoint 4 = .ok (.getfield 78, 3) := by decide +kernel
theorem dX7_drawJoint_7 : decode cX7_drawJoint 7 = .ok (.istore 5, 2) := by decide +kernel
theorem dX7_drawJoint_9 : decode cX7_drawJoint 9 = .ok (.iload_n 1, 1) := by decide +kernel
theorem dX7_drawJoint_10 : decode cX7_drawJoint 10 = .ok (.iload_n 2, 1) := by decide +kernel
theorem dX7_drawJoint_11 : decode cX7_drawJoint 11 = .ok (.invokestatic 81, 3) := by decide +kernel
theorem dX7_drawJoint_14 : decode cX7_drawJoint 14 = .ok (.ifCond .eq 12, 3) := by decide +kernel
theorem dX7_drawJoint_17 : decode cX7_drawJoint 17 = .ok (.iload_n 3, 1) := by decide +kernel
theorem dX7_drawJoint_18 : decode cX7_drawJoint 18 = .ok (.iload 4, 2) := by decide +kernel
theorem dX7_drawJoint_20 : decode cX7_drawJoint 20 = .ok (.invokestatic 81, 3) := by decide +kernel
theorem dX7_drawJoint_23 : decode cX7_drawJoint 23 = .ok (.ifCond .ne 13, 3) := by decide +kernel
theorem dX7_drawJoint_26 : decode cX7_drawJoint 26 = .ok (.new 85, 3) := by decide +kernel
theorem dX7_drawJoint_29 : decode cX7_drawJoint 29 = .ok (.dup, 1) := by decide +kernel
theorem dX7_drawJoint_30 : decode cX7_drawJoint 30 = .ok (.ldc 87, 2) := by decide +kernel
theorem dX7_drawJoint_32 : decode cX7_drawJoint 32 = .ok (.invokespecial 89, 3) := by decide +kernel
theorem dX7_drawJoint_35 : decode cX7_drawJoint 35 = .ok (.athrow, 1) := by decide +kernel
theorem dX7_drawJoint_36 : decode cX7_drawJoint 36 = .ok (.aload_n 0, 1) := by decide +kernel
theorem dX7_drawJoint_37 : decode cX7_drawJoint 37 = .ok (.getfield 10, 3) := by decide +kernel
theorem dX7_drawJoint_40 : decode cX7_drawJoint 40 = .ok (.iload_n 1, 1) := by decide +kernel
theorem dX7_drawJoint_41 : decode cX7_drawJoint 41 = .ok (.iload_n 2, 1) := by decide +kernel
theorem dX7_drawJoint_42 : decode cX7_drawJoint 42 = .ok (.iload_n 3, 1) := by decide +kernel
theorem dX7_drawJoint_43 : decode cX7_drawJoint 43 = .ok (.iload 4, 2) := by decide +kernel
theorem dX7_drawJoint_45 : decode cX7_drawJoint 45 = .ok (.invokevirtual 92, 3) := by decide +kernel
theorem dX7_drawJoint_48 : decode cX7_drawJoint 48 = .ok (.aload_n 0, 1) := by decide +kernel
theorem dX7_drawJoint_49 : decode cX7_drawJoint 49 = .ok (.getfield 10, 3) := by decide +kernel
theorem dX7_drawJoint_52 : decode cX7_drawJoint 52 = .ok (.iload 5, 2) := by decide +kernel
theorem dX7_drawJoint_54 : decode cX7_drawJoint 54 = .ok (.invokevirtual 96, 3) := by decide +kernel
theorem dX7_drawJoint_57 : decode cX7_drawJoint 57 = .ok (.ifCond .ne 13, 3) := by decide +kernel
theorem dX7_drawJoint_60 : decode cX7_drawJoint 60 = .ok (.new 85, 3) := by decide +kernel
theorem dX7_drawJoint_63 : decode cX7_drawJoint 63 = .ok (.dup, 1) := by decide +kernel
theorem dX7_drawJoint_64 : decode cX7_drawJoint 64 = .ok (.ldc 100, 2) := by decide +kernel
theorem dX7_drawJoint_66 : decode cX7_drawJoint 66 = .ok (.invokespecial 89, 3) := by decide +kernel
theorem dX7_drawJoint_69 : decode cX7_drawJoint 69 = .ok (.athrow, 1) := by decide +kernel
theorem dX7_drawJoint_70 : decode cX7_drawJoint 70 = .ok (.aload_n 0, 1) := by decide +kernel
theorem dX7_drawJoint_71 : decode cX7_drawJoint 71 = .ok (.invokevirtual 102, 3) := by decide +kernel
theorem dX7_drawJoint_74 : decode cX7_drawJoint 74 = .ok (.ifCond .le 13, 3) := by decide +kernel
theorem dX7_drawJoint_77 : decode cX7_drawJoint 77 = .ok (.new 106, 3) := by decide +kernel
theorem dX7_drawJoint_80 : decode cX7_drawJoint 80 = .ok (.dup, 1) := by decide +kernel
theorem dX7_drawJoint_81 : decode cX7_drawJoint 81 = .ok (.ldc 108, 2) := by decide +kernel
theorem dX7_drawJoint_83 : decode cX7_drawJoint 83 = .ok (.invokespecial 110, 3) := by decide +kernel
theorem dX7_drawJoint_86 : decode cX7_drawJoint 86 = .ok (.athrow, 1) := by decide +kernel
theorem dX7_drawJoint_87 : decode cX7_drawJoint 87 = .ok (.iload 5, 2) := by decide +kernel
theorem dX7_drawJoint_89 : decode cX7_drawJoint 89 = .ok (.bipush 8, 2) := by decide +kernel
theorem dX7_drawJoint_91 : decode cX7_drawJoint 91 = .ok (.if_icmp .lt 13, 3) := by decide +kernel
theorem dX7_drawJoint_94 : decode cX7_drawJoint 94 = .ok (.new 111, 3) := by decide +kernel
theorem dX7_drawJoint_97 : decode cX7_drawJoint 97 = .ok (.dup, 1) := by decide +kernel
theorem dX7_drawJoint_98 : decode cX7_drawJoint 98 = .ok (.ldc 113, 2) := by decide +kernel
theorem dX7_drawJoint_100 : decode cX7_drawJoint 100 = .ok (.invokespecial 115, 3) := by decide +kernel
theorem dX7_drawJoint_103 : decode cX7_drawJoint 103 = .ok (.athrow, 1) := by decide +kernel
theorem dX7_drawJoint_104 : decode cX7_drawJoint 104 = .ok (.aload_n 0, 1) := by decide +kernel
theorem dX7_drawJoint_105 : decode cX7_drawJoint 105 = .ok (.getfield 10, 3) := by decide +kernel
theorem dX7_drawJoint_108 : decode cX7_drawJoint 108 = .ok (.invokevirtual 116, 3) := by decide +kernel
theorem dX7_drawJoint_111 : decode cX7_drawJoint 111 = .ok (.iload 5, 2) := by decide +kernel
theorem dX7_drawJoint_113 : decode cX7_drawJoint 113 = .ok (.ireturn, 1) := by decide +kernel
theorem dX7_moveJoint_0 : decode cX7_moveJoint 0 = .ok (.aload_n 0, 1) := by decide +kernel
theorem dX7_moveJoint_1 : decode cX7_moveJoint 1 = .ok (.getfield 10, 3) := by decide +kernel
theorem dX7_moveJoint_4 : decode cX7_moveJoint 4 = .ok (.iload_n 1, 1) := by decide +kernel
theorem dX7_moveJoint_5 : decode cX7_moveJoint 5 = .ok (.invokevirtual 119, 3) := by decide +kernel
theorem dX7_moveJoint_8 : decode cX7_moveJoint 8 = .ok (.ifnonnull 13, 3) := by decide +kernel
theorem dX7_moveJoint_11 : decode cX7_moveJoint 11 = .ok (.new 123, 3) := by decide +kernel
theorem dX7_moveJoint_14 : decode cX7_moveJoint 14 = .ok (.dup, 1) := by decide +kernel
theorem dX7_moveJoint_15 : decode cX7_moveJoint 15 = .ok (.ldc 125, 2) := by decide +kernel
theorem dX7_moveJoint_17 : decode cX7_moveJoint 17 = .ok (.invokespecial 127, 3) := by decide +kernel
theorem dX7_moveJoint_20 : decode cX7_moveJoint 20 = .ok (.athrow, 1) := by decide +kernel
theorem dX7_moveJoint_21 : decode cX7_moveJoint 21 = .ok (.iload_n 2, 1) := by decide +kernel
theorem dX7_moveJoint_22 : decode cX7_moveJoint 22 = .ok (.iload_n 3, 1) := by decide +kernel
theorem dX7_moveJoint_23 : decode cX7_moveJoint 23 = .ok (.invokestatic 81, 3) := by decide +kernel
theorem dX7_moveJoint_26 : decode cX7_moveJoint 26 = .ok (.ifCond .eq 13, 3) := by decide +kernel
theorem dX7_moveJoint_29 : decode cX7_moveJoint 29 = .ok (.iload 4, 2) := by decide +kernel
theorem dX7_moveJoint_31 : decode cX7_moveJoint 31 = .ok (.iload 5, 2) := by decide +kernel
theorem dX7_moveJoint_33 : decode cX7_moveJoint 33 = .ok (.invokestatic 81, 3) := by decide +kernel
theorem dX7_moveJoint_36 : decode cX7_moveJoint 36 = .ok (.ifCond .ne 13, 3) := by decide +kernel
theorem dX7_moveJoint_39 : decode cX7_moveJoint 39 = .ok (.new 85, 3) := by decide +kernel
theorem dX7_moveJoint_42 : decode cX7_moveJoint 42 = .ok (.dup, 1) := by decide +kernel
theorem dX7_moveJoint_43 : decode cX7_moveJoint 43 = .ok (.ldc 87, 2) := by decide +kernel
theorem dX7_moveJoint_45 : decode cX7_moveJoint 45 = .ok (.invokespecial 89, 3) := by decide +kernel
theorem dX7_moveJoint_48 : decode cX7_moveJoint 48 = .ok (.athrow, 1) := by decide +kernel
theorem dX7_moveJoint_49 : decode cX7_moveJoint 49 = .ok (.aload_n 0, 1) := by decide +kernel
theorem dX7_moveJoint_50 : decode cX7_moveJoint 50 = .ok (.getfield 10, 3) := by decide +kernel
theorem dX7_moveJoint_53 : decode cX7_moveJoint 53 = .ok (.iload_n 2, 1) := by decide +kernel
theorem dX7_moveJoint_54 : decode cX7_moveJoint 54 = .ok (.iload_n 3, 1) := by decide +kernel
theorem dX7_moveJoint_55 : decode cX7_moveJoint 55 = .ok (.iload 4, 2) := by decide +kernel
theorem dX7_moveJoint_57 : decode cX7_moveJoint 57 = .ok (.iload 5, 2) := by decide +kernel
theorem dX7_moveJoint_59 : decode cX7_moveJoint 59 = .ok (.invokevirtual 92, 3) := by decide +kernel
theorem dX7_moveJoint_62 : decode cX7_moveJoint 62 = .ok (.aload_n 0, 1) := by decide +kernel
theorem dX7_moveJoint_63 : decode cX7_moveJoint 63 = .ok (.getfield 10, 3) := by decide +kernel
theorem dX7_moveJoint_66 : decode cX7_moveJoint 66 = .ok (.iload_n 1, 1) := by decide +kernel
theorem dX7_moveJoint_67 : decode cX7_moveJoint 67 = .ok (.invokevirtual 96, 3) := by decide +kernel
theorem dX7_moveJoint_70 : decode cX7_moveJoint 70 = .ok (.ifCond .ne 13, 3) := by decide +kernel
theorem dX7_moveJoint_73 : decode cX7_moveJoint 73 = .ok (.new 85, 3) := by decide +kernel
theorem dX7_moveJoint_76 : decode cX7_moveJoint 76 = .ok (.dup, 1) := by decide +kernel
theorem dX7_moveJoint_77 : decode cX7_moveJoint 77 = .ok (.ldc 100, 2) := by decide +kernel
theorem dX7_moveJoint_79 : decode cX7_moveJoint 79 = .ok (.invokespecial 89, 3) := by decide +kernel
theorem dX7_moveJoint_82 : decode cX7_moveJoint 82 = .ok (.athrow, 1) := by decide +kernel
theorem dX7_moveJoint_83 : decode cX7_moveJoint 83 = .ok (.aload_n 0, 1) := by decide +kernel
theorem dX7_moveJoint_84 : decode cX7_moveJoint 84 = .ok (.iload_n 1, 1) := by decide +kernel
theorem dX7_moveJoint_85 : decode cX7_moveJoint 85 = .ok (.iconst 1, 1) := by decide +kernel
theorem dX7_moveJoint_86 : decode cX7_moveJoint 86 = .ok (.isub, 1) := by decide +kernel
theorem dX7_moveJoint_87 : decode cX7_moveJoint 87 = .ok (.invokevirtual 128, 3) := by decide +kernel
theorem dX7_moveJoint_90 : decode cX7_moveJoint 90 = .ok (.ifCond .ne 11, 3) := by decide +kernel
theorem dX7_moveJoint_93 : decode cX7_moveJoint 93 = .ok (.aload_n 0, 1) := by decide +kernel
theorem dX7_moveJoint_94 : decode cX7_moveJoint 94 = .ok (.iload_n 1, 1) := by decide +kernel
theorem dX7_moveJoint_95 : decode cX7_moveJoint 95 = .ok (.invokevirtual 128, 3) := by decide +kernel
theorem dX7_moveJoint_98 : decode cX7_moveJoint 98 = .ok (.ifCond .eq 13, 3) := by decide +kernel
theorem dX7_moveJoint_101 : decode cX7_moveJoint 101 = .ok (.new 106, 3) := by decide +kernel
theorem dX7_moveJoint_104 : decode cX7_moveJoint 104 = .ok (.dup, 1) := by decide +kernel
theorem dX7_moveJoint_105 : decode cX7_moveJoint 105 = .ok (.ldc 131, 2) := by decide +kernel
theorem dX7_moveJoint_107 : decode cX7_moveJoint 107 = .ok (.invokespecial 110, 3) := by decide +kernel
theorem dX7_moveJoint_110 : decode cX7_moveJoint 110 = .ok (.athrow, 1) := by decide +kernel
theorem dX7_moveJoint_111 : decode cX7_moveJoint 111 = .ok (.aload_n 0, 1) := by decide +kernel
theorem dX7_moveJoint_112 : decode cX7_moveJoint 112 = .ok (.getfield 10, 3) := by decide +kernel
theorem dX7_moveJoint_115 : decode cX7_moveJoint 115 = .ok (.iload_n 1, 1) := by decide +kernel
theorem dX7_moveJoint_116 : decode cX7_moveJoint 116 = .ok (.invokevirtual 133, 3) := by decide +kernel
theorem dX7_moveJoint_119 : decode cX7_moveJoint 119 = .ok (.aload_n 0, 1) := by decide +kernel
theorem dX7_moveJoint_120 : decode cX7_moveJoint 120 = .ok (.getfield 10, 3) := by decide +kernel
theorem dX7_moveJoint_123 : decode cX7_moveJoint 123 = .ok (.getfield 137, 3) := by decide +kernel
theorem dX7_moveJoint_126 : decode cX7_moveJoint 126 = .ok (.ireturn, 1) := by decide +kernel
theorem dX7_setDensity_0 : decode cX7_setDensity 0 = .ok (.iload_n 1, 1) := by decide +kernel
theorem dX7_setDensity_1 : decode cX7_setDensity 1 = .ok (.iconst 1, 1) := by decide +kernel
theorem dX7_setDensity_2 : decode cX7_setDensity 2 = .ok (.if_icmp .lt 8, 3) := by decide +kernel
theorem dX7_setDensity_5 : decode cX7_setDensity 5 = .ok (.iload_n 1, 1) := by decide +kernel
theorem dX7_setDensity_6 : decode cX7_setDensity 6 = .ok (.iconst 3, 1) := by decide +kernel
theorem dX7_setDensity_7 : decode cX7_setDensity 7 = .ok (.if_icmp .le 13, 3) := by decide +kernel
theorem dX7_setDensity_10 : decode cX7_setDensity 10 = .ok (.new 85, 3) := by decide +kernel
theorem dX7_setDensity_13 : decode cX7_setDensity 13 = .ok (.dup, 1) := by decide +kernel
theorem dX7_setDensity_14 : decode cX7_setDensity 14 = .ok (.ldc 140, 2) := by decide +kernel
theorem dX7_setDensity_16 : decode cX7_setDensity 16 = .ok (.invokespecial 89, 3) := by decide +kernel
theorem dX7_setDensity_19 : decode cX7_setDensity 19 = .ok (.athrow, 1) := by decide +kernel
theorem dX7_setDensity_20 : decode cX7_setDensity 20 = .ok (.aload_n 0, 1) := by decide +kernel
theorem dX7_setDensity_21 : decode cX7_setDensity 21 = .ok (.invokevirtual 102, 3) := by decide +kernel
theorem dX7_setDensity_24 : decode cX7_setDensity 24 = .ok (.ifCond .le 13, 3) := by decide +kernel
theorem dX7_setDensity_27 : decode cX7_setDensity 27 = .ok (.new 106, 3) := by decide +kernel
theorem dX7_setDensity_30 : decode cX7_setDensity 30 = .ok (.dup, 1) := by decide +kernel
theorem dX7_setDensity_31 : decode cX7_setDensity 31 = .ok (.ldc 108, 2) := by decide +kernel
theorem dX7_setDensity_33 : decode cX7_setDensity 33 = .ok (.invokespecial 110, 3) := by decide +kernel
theorem dX7_setDensity_36 : decode cX7_setDensity 36 = .ok (.athrow, 1) := by decide +kernel
theorem dX7_setDensity_37 : decode cX7_setDensity 37 = .ok (.aload_n 0, 1) := by decide +kernel
theorem dX7_setDensity_38 : decode cX7_setDensity 38 = .ok (.getfield 10, 3) := by decide +kernel
theorem dX7_setDensity_41 : decode cX7_setDensity 41 = .ok (.getfield 142, 3) := by decide +kernel
theorem dX7_setDensity_44 : decode cX7_setDensity 44 = .ok (.istore_n 2, 1) := by decide +kernel
theorem dX7_setDensity_45 : decode cX7_setDensity 45 = .ok (.aload_n 0, 1) := by decide +kernel
theorem dX7_setDensity_46 : decode cX7_setDensity 46 = .ok (.getfield 10, 3) := by decide +kernel
theorem dX7_setDensity_49 : decode cX7_setDensity 49 = .ok (.iload_n 1, 1) := by decide +kernel
theorem dX7_setDensity_50 : decode cX7_setDensity 50 = .ok (.putfield 142, 3) := by decide +kernel
theorem dX7_setDensity_53 : decode cX7_setDensity 53 = .ok (.iload_n 2, 1) := by decide +kernel
theorem dX7_setDensity_54 : decode cX7_setDensity 54 = .ok (.ireturn, 1) := by decide +kernel
theorem dX7_places_0 : decode cX7_places 0 = .ok (.aload_n 0, 1) := by decide +kernel
theorem dX7_places_1 : decode cX7_places 1 = .ok (.getfield 10, 3) := by decide +kernel
theorem dX7_places_4 : decode cX7_places 4 = .ok (.invokevirtual 145, 3) := by decide +kernel
theorem dX7_places_7 : decode cX7_places 7 = .ok (.ireturn, 1) := by decide +kernel
theorem dX7_area_0 : decode cX7_area 0 = .ok (.aload_n 0, 1) := by decide +kernel
theorem dX7_area_1 : decode cX7_area 1 = .ok (.getfield 10, 3) := by decide +kernel
theorem dX7_area_4 : decode cX7_area 4 = .ok (.iload_n 1, 1) := by decide +kernel
theorem dX7_area_5 : decode cX7_area 5 = .ok (.invokevirtual 148, 3) := by decide +kernel
theorem dX7_area_8 : decode cX7_area 8 = .ok (.ifCond .ne 13, 3) := by decide +kernel
theorem dX7_area_11 : decode cX7_area 11 = .ok (.new 123, 3) := by decide +kernel
theorem dX7_area_14 : decode cX7_area 14 = .ok (.dup, 1) := by decide +kernel
theorem dX7_area_15 : decode cX7_area 15 = .ok (.ldc 151, 2) := by decide +kernel
theorem dX7_area_17 : decode cX7_area 17 = .ok (.invokespecial 127, 3) := by decide +kernel
theorem dX7_area_20 : decode cX7_area 20 = .ok (.athrow, 1) := by decide +kernel
theorem dX7_area_21 : decode cX7_area 21 = .ok (.aload_n 0, 1) := by decide +kernel
theorem dX7_area_22 : decode cX7_area 22 = .ok (.getfield 10, 3) := by decide +kernel
theorem dX7_area_25 : decode cX7_area 25 = .ok (.iload_n 1, 1) := by decide +kernel
theorem dX7_area_26 : decode cX7_area 26 = .ok (.invokevirtual 153, 3) := by decide +kernel
theorem dX7_area_29 : decode cX7_area 29 = .ok (.ireturn, 1) := by decide +kernel
theorem dX7_weight_0 : decode cX7_weight 0 = .ok (.aload_n 0, 1) := by decide +kernel
theorem dX7_weight_1 : decode cX7_weight 1 = .ok (.getfield 10, 3) := by decide +kernel
theorem dX7_weight_4 : decode cX7_weight 4 = .ok (.iload_n 1, 1) := by decide +kernel
theorem dX7_weight_5 : decode cX7_weight 5 = .ok (.invokevirtual 148, 3) := by decide +kernel
theorem dX7_weight_8 : decode cX7_weight 8 = .ok (.ifCond .ne 13, 3) := by decide +kernel
theorem dX7_weight_11 : decode cX7_weight 11 = .ok (.new 123, 3) := by decide +kernel
theorem dX7_weight_14 : decode cX7_weight 14 = .ok (.dup, 1) := by decide +kernel
theorem dX7_weight_15 : decode cX7_weight 15 = .ok (.ldc 151, 2) := by decide +kernel
theorem dX7_weight_17 : decode cX7_weight 17 = .ok (.invokespecial 127, 3) := by decide +kernel
theorem dX7_weight_20 : decode cX7_weight 20 = .ok (.athrow, 1) := by decide +kernel
theorem dX7_weight_21 : decode cX7_weight 21 = .ok (.aload_n 0, 1) := by decide +kernel
theorem dX7_weight_22 : decode cX7_weight 22 = .ok (.getfield 10, 3) := by decide +kernel
theorem dX7_weight_25 : decode cX7_weight 25 = .ok (.iload_n 1, 1) := by decide +kernel
theorem dX7_weight_26 : decode cX7_weight 26 = .ok (.invokevirtual 157, 3) := by decide +kernel
theorem dX7_weight_29 : decode cX7_weight 29 = .ok (.ireturn, 1) := by decide +kernel
theorem dX7_isOnPaper_0 : decode cX7_isOnPaper 0 = .ok (.iload_n 0, 1) := by decide +kernel
theorem dX7_isOnPaper_1 : decode cX7_isOnPaper 1 = .ok (.ifCond .lt 23, 3) := by decide +kernel
theorem dX7_isOnPaper_4 : decode cX7_isOnPaper 4 = .ok (.iload_n 0, 1) := by decide +kernel
theorem dX7_isOnPaper_5 : decode cX7_isOnPaper 5 = .ok (.bipush 20, 2) := by decide +kernel
theorem dX7_isOnPaper_7 : decode cX7_isOnPaper 7 = .ok (.if_icmp .gt 17, 3) := by decide +kernel
theorem dX7_isOnPaper_10 : decode cX7_isOnPaper 10 = .ok (.iload_n 1, 1) := by decide +kernel
theorem dX7_isOnPaper_11 : decode cX7_isOnPaper 11 = .ok (.ifCond .lt 13, 3) := by decide +kernel
theorem dX7_isOnPaper_14 : decode cX7_isOnPaper 14 = .ok (.iload_n 1, 1) := by decide +kernel
theorem dX7_isOnPaper_15 : decode cX7_isOnPaper 15 = .ok (.bipush 20, 2) := by decide +kernel
theorem dX7_isOnPaper_17 : decode cX7_isOnPaper 17 = .ok (.if_icmp .gt 7, 3) := by decide +kernel
theorem dX7_isOnPaper_20 : decode cX7_isOnPaper 20 = .ok (.iconst 1, 1) := by decide +kernel
theorem dX7_isOnPaper_21 : decode cX7_isOnPaper 21 = .ok (.goto 4, 3) := by decide +kernel
theorem dX7_isOnPaper_24 : decode cX7_isOnPaper 24 = .ok (.iconst 0, 1) := by decide +kernel
theorem dX7_isOnPaper_25 : decode cX7_isOnPaper 25 = .ok (.ireturn, 1) := by decide +kernel
theorem dX7_isSafe_0 : decode cX7_isSafe 0 = .ok (.iload_n 1, 1) := by decide +kernel
theorem dX7_isSafe_1 : decode cX7_isSafe 1 = .ok (.invokestatic 160, 3) := by decide +kernel
theorem dX7_isSafe_4 : decode cX7_isSafe 4 = .ok (.ifCond .ne 13, 3) := by decide +kernel
theorem dX7_isSafe_7 : decode cX7_isSafe 7 = .ok (.new 85, 3) := by decide +kernel
theorem dX7_isSafe_10 : decode cX7_isSafe 10 = .ok (.dup, 1) := by decide +kernel
theorem dX7_isSafe_11 : decode cX7_isSafe 11 = .ok (.ldc 163, 2) := by decide +kernel
theorem dX7_isSafe_13 : decode cX7_isSafe 13 = .ok (.invokespecial 89, 3) := by decide +kernel
theorem dX7_isSafe_16 : decode cX7_isSafe 16 = .ok (.athrow, 1) := by decide +kernel
theorem dX7_isSafe_17 : decode cX7_isSafe 17 = .ok (.aload_n 0, 1) := by decide +kernel
theorem dX7_isSafe_18 : decode cX7_isSafe 18 = .ok (.getfield 10, 3) := by decide +kernel
theorem dX7_isSafe_21 : decode cX7_isSafe 21 = .ok (.invokevirtual 145, 3) := by decide +kernel
theorem dX7_isSafe_24 : decode cX7_isSafe 24 = .ok (.iconst 2, 1) := by decide +kernel
theorem dX7_isSafe_25 : decode cX7_isSafe 25 = .ok (.if_icmp .ge 13, 3) := by decide +kernel
theorem dX7_isSafe_28 : decode cX7_isSafe 28 = .ok (.new 165, 3) := by decide +kernel
theorem dX7_isSafe_31 : decode cX7_isSafe 31 = .ok (.dup, 1) := by decide +kernel
theorem dX7_isSafe_32 : decode cX7_isSafe 32 = .ok (.ldc 167, 2) := by decide +kernel
theorem dX7_isSafe_34 : decode cX7_isSafe 34 = .ok (.invokespecial 169, 3) := by decide +kernel
theorem dX7_isSafe_37 : decode cX7_isSafe 37 = .ok (.athrow, 1) := by decide +kernel
theorem dX7_isSafe_38 : decode cX7_isSafe 38 = .ok (.aload_n 0, 1) := by decide +kernel
theorem dX7_isSafe_39 : decode cX7_isSafe 39 = .ok (.getfield 19, 3) := by decide +kernel
theorem dX7_isSafe_42 : decode cX7_isSafe 42 = .ok (.aload_n 0, 1) := by decide +kernel
theorem dX7_isSafe_43 : decode cX7_isSafe 43 = .ok (.getfield 10, 3) := by decide +kernel
theorem dX7_isSafe_46 : decode cX7_isSafe 46 = .ok (.aload_n 0, 1) := by decide +kernel
theorem dX7_isSafe_47 : decode cX7_isSafe 47 = .ok (.getfield 45, 3) := by decide +kernel
theorem dX7_isSafe_50 : decode cX7_isSafe 50 = .ok (.iload_n 1, 1) := by decide +kernel
theorem dX7_isSafe_51 : decode cX7_isSafe 51 = .ok (.invokevirtual 170, 3) := by decide +kernel
theorem dX7_isSafe_54 : decode cX7_isSafe 54 = .ok (.ireturn, 1) := by decide +kernel
theorem dX7_thrust_0 : decode cX7_thrust 0 = .ok (.iload_n 1, 1) := by decide +kernel
theorem dX7_thrust_1 : decode cX7_thrust 1 = .ok (.invokestatic 160, 3) := by decide +kernel
theorem dX7_thrust_4 : decode cX7_thrust 4 = .ok (.ifCond .ne 13, 3) := by decide +kernel
theorem dX7_thrust_7 : decode cX7_thrust 7 = .ok (.new 85, 3) := by decide +kernel
theorem dX7_thrust_10 : decode cX7_thrust 10 = .ok (.dup, 1) := by decide +kernel
theorem dX7_thrust_11 : decode cX7_thrust 11 = .ok (.ldc 163, 2) := by decide +kernel
theorem dX7_thrust_13 : decode cX7_thrust 13 = .ok (.invokespecial 89, 3) := by decide +kernel
theorem dX7_thrust_16 : decode cX7_thrust 16 = .ok (.athrow, 1) := by decide +kernel
theorem dX7_thrust_17 : decode cX7_thrust 17 = .ok (.aload_n 0, 1) := by decide +kernel
theorem dX7_thrust_18 : decode cX7_thrust 18 = .ok (.getfield 10, 3) := by decide +kernel
theorem dX7_thrust_21 : decode cX7_thrust 21 = .ok (.invokevirtual 145, 3) := by decide +kernel
theorem dX7_thrust_24 : decode cX7_thrust 24 = .ok (.iconst 2, 1) := by decide +kernel
theorem dX7_thrust_25 : decode cX7_thrust 25 = .ok (.if_icmp .ge 13, 3) := by decide +kernel
theorem dX7_thrust_28 : decode cX7_thrust 28 = .ok (.new 165, 3) := by decide +kernel
theorem dX7_thrust_31 : decode cX7_thrust 31 = .ok (.dup, 1) := by decide +kernel
theorem dX7_thrust_32 : decode cX7_thrust 32 = .ok (.ldc 167, 2) := by decide +kernel
theorem dX7_thrust_34 : decode cX7_thrust 34 = .ok (.invokespecial 169, 3) := by decide +kernel
theorem dX7_thrust_37 : decode cX7_thrust 37 = .ok (.athrow, 1) := by decide +kernel
theorem dX7_thrust_38 : decode cX7_thrust 38 = .ok (.aload_n 0, 1) := by decide +kernel
theorem dX7_thrust_39 : decode cX7_thrust 39 = .ok (.getfield 19, 3) := by decide +kernel
theorem dX7_thrust_42 : decode cX7_thrust 42 = .ok (.aload_n 0, 1) := by decide +kernel
theorem dX7_thrust_43 : decode cX7_thrust 43 = .ok (.getfield 10, 3) := by decide +kernel
theorem dX7_thrust_46 : decode cX7_thrust 46 = .ok (.aload_n 0, 1) := by decide +kernel
theorem dX7_thrust_47 : decode cX7_thrust 47 = .ok (.getfield 45, 3) := by decide +kernel
theorem dX7_thrust_50 : decode cX7_thrust 50 = .ok (.iload_n 1, 1) := by decide +kernel
theorem dX7_thrust_51 : decode cX7_thrust 51 = .ok (.invokevirtual 170, 3) := by decide +kernel
theorem dX7_thrust_54 : decode cX7_thrust 54 = .ok (.ifCond .ne 13, 3) := by decide +kernel
theorem dX7_thrust_57 : decode cX7_thrust 57 = .ok (.new 165, 3) := by decide +kernel
theorem dX7_thrust_60 : decode cX7_thrust 60 = .ok (.dup, 1) := by decide +kernel
theorem dX7_thrust_61 : decode cX7_thrust 61 = .ok (.ldc 174, 2) := by decide +kernel
theorem dX7_thrust_63 : decode cX7_thrust 63 = .ok (.invokespecial 169, 3) := by decide +kernel
theorem dX7_thrust_66 : decode cX7_thrust 66 = .ok (.athrow, 1) := by decide +kernel
theorem dX7_thrust_67 : decode cX7_thrust 67 = .ok (.aload_n 0, 1) := by decide +kernel
theorem dX7_thrust_68 : decode cX7_thrust 68 = .ok (.getfield 19, 3) := by decide +kernel
theorem dX7_thrust_71 : decode cX7_thrust 71 = .ok (.invokevirtual 176, 3) := by decide +kernel
theorem dX7_thrust_74 : decode cX7_thrust 74 = .ok (.lreturn, 1) := by decide +kernel
theorem dX7_bears_0 : decode cX7_bears 0 = .ok (.aload_n 0, 1) := by decide +kernel
theorem dX7_bears_1 : decode cX7_bears 1 = .ok (.getfield 10, 3) := by decide +kernel
theorem dX7_bears_4 : decode cX7_bears 4 = .ok (.iload_n 1, 1) := by decide +kernel
theorem dX7_bears_5 : decode cX7_bears 5 = .ok (.invokevirtual 148, 3) := by decide +kernel
theorem dX7_bears_8 : decode cX7_bears 8 = .ok (.ifCond .ne 13, 3) := by decide +kernel
theorem dX7_bears_11 : decode cX7_bears 11 = .ok (.new 123, 3) := by decide +kernel
theorem dX7_bears_14 : decode cX7_bears 14 = .ok (.dup, 1) := by decide +kernel
theorem dX7_bears_15 : decode cX7_bears 15 = .ok (.ldc 151, 2) := by decide +kernel
theorem dX7_bears_17 : decode cX7_bears 17 = .ok (.invokespecial 127, 3) := by decide +kernel
theorem dX7_bears_20 : decode cX7_bears 20 = .ok (.athrow, 1) := by decide +kernel
theorem dX7_bears_21 : decode cX7_bears 21 = .ok (.iload_n 2, 1) := by decide +kernel
theorem dX7_bears_22 : decode cX7_bears 22 = .ok (.invokestatic 160, 3) := by decide +kernel
theorem dX7_bears_25 : decode cX7_bears 25 = .ok (.ifCond .ne 13, 3) := by decide +kernel
theorem dX7_bears_28 : decode cX7_bears 28 = .ok (.new 85, 3) := by decide +kernel
theorem dX7_bears_31 : decode cX7_bears 31 = .ok (.dup, 1) := by decide +kernel
theorem dX7_bears_32 : decode cX7_bears 32 = .ok (.ldc 163, 2) := by decide +kernel
theorem dX7_bears_34 : decode cX7_bears 34 = .ok (.invokespecial 89, 3) := by decide +kernel
theorem dX7_bears_37 : decode cX7_bears 37 = .ok (.athrow, 1) := by decide +kernel
theorem dX7_bears_38 : decode cX7_bears 38 = .ok (.aload_n 0, 1) := by decide +kernel
theorem dX7_bears_39 : decode cX7_bears 39 = .ok (.getfield 10, 3) := by decide +kernel
theorem dX7_bears_42 : decode cX7_bears 42 = .ok (.invokevirtual 145, 3) := by decide +kernel
theorem dX7_bears_45 : decode cX7_bears 45 = .ok (.iconst 2, 1) := by decide +kernel
theorem dX7_bears_46 : decode cX7_bears 46 = .ok (.if_icmp .ge 13, 3) := by decide +kernel
theorem dX7_bears_49 : decode cX7_bears 49 = .ok (.new 165, 3) := by decide +kernel
theorem dX7_bears_52 : decode cX7_bears 52 = .ok (.dup, 1) := by decide +kernel
theorem dX7_bears_53 : decode cX7_bears 53 = .ok (.ldc 167, 2) := by decide +kernel
theorem dX7_bears_55 : decode cX7_bears 55 = .ok (.invokespecial 169, 3) := by decide +kernel
theorem dX7_bears_58 : decode cX7_bears 58 = .ok (.athrow, 1) := by decide +kernel
theorem dX7_bears_59 : decode cX7_bears 59 = .ok (.aload_n 0, 1) := by decide +kernel
theorem dX7_bears_60 : decode cX7_bears 60 = .ok (.iload_n 1, 1) := by decide +kernel
theorem dX7_bears_61 : decode cX7_bears 61 = .ok (.iconst 0, 1) := by decide +kernel
theorem dX7_bears_62 : decode cX7_bears 62 = .ok (.iload_n 2, 1) := by decide +kernel
theorem dX7_bears_63 : decode cX7_bears 63 = .ok (.invokevirtual 180, 3) := by decide +kernel
theorem dX7_bears_66 : decode cX7_bears 66 = .ok (.ifCond .ne 13, 3) := by decide +kernel
theorem dX7_bears_69 : decode cX7_bears 69 = .ok (.new 165, 3) := by decide +kernel
theorem dX7_bears_72 : decode cX7_bears 72 = .ok (.dup, 1) := by decide +kernel
theorem dX7_bears_73 : decode cX7_bears 73 = .ok (.ldc 184, 2) := by decide +kernel
theorem dX7_bears_75 : decode cX7_bears 75 = .ok (.invokespecial 169, 3) := by decide +kernel
theorem dX7_bears_78 : decode cX7_bears 78 = .ok (.athrow, 1) := by decide +kernel
theorem dX7_bears_79 : decode cX7_bears 79 = .ok (.iconst 0, 1) := by decide +kernel
theorem dX7_bears_80 : decode cX7_bears 80 = .ok (.istore_n 3, 1) := by decide +kernel
theorem dX7_bears_81 : decode cX7_bears 81 = .ok (.sipush 16384, 3) := by decide +kernel
theorem dX7_bears_84 : decode cX7_bears 84 = .ok (.istore 4, 2) := by decide +kernel
theorem dX7_bears_86 : decode cX7_bears 86 = .ok (.iload 4, 2) := by decide +kernel
theorem dX7_bears_88 : decode cX7_bears 88 = .ok (.ifCond .le 40, 3) := by decide +kernel
theorem dX7_bears_91 : decode cX7_bears 91 = .ok (.iload_n 3, 1) := by decide +kernel
theorem dX7_bears_92 : decode cX7_bears 92 = .ok (.iload 4, 2) := by decide +kernel
theorem dX7_bears_94 : decode cX7_bears 94 = .ok (.iadd, 1) := by decide +kernel
theorem dX7_bears_95 : decode cX7_bears 95 = .ok (.sipush 20000, 3) := by decide +kernel
theorem dX7_bears_98 : decode cX7_bears 98 = .ok (.if_icmp .gt 21, 3) := by decide +kernel
theorem dX7_bears_101 : decode cX7_bears 101 = .ok (.aload_n 0, 1) := by decide +kernel
theorem dX7_bears_102 : decode cX7_bears 102 = .ok (.iload_n 1, 1) := by decide +kernel
theorem dX7_bears_103 : decode cX7_bears 103 = .ok (.iload_n 3, 1) := by decide +kernel
theorem dX7_bears_104 : decode cX7_bears 104 = .ok (.iload 4, 2) := by decide +kernel
theorem dX7_bears_106 : decode cX7_bears 106 = .ok (.iadd, 1) := by decide +kernel
theorem dX7_bears_107 : decode cX7_bears 107 = .ok (.iload_n 2, 1) := by decide +kernel
theorem dX7_bears_108 : decode cX7_bears 108 = .ok (.invokevirtual 180, 3) := by decide +kernel
theorem dX7_bears_111 : decode cX7_bears 111 = .ok (.ifCond .eq 8, 3) := by decide +kernel
theorem dX7_bears_114 : decode cX7_bears 114 = .ok (.iload_n 3, 1) := by decide +kernel
theorem dX7_bears_115 : decode cX7_bears 115 = .ok (.iload 4, 2) := by decide +kernel
theorem dX7_bears_117 : decode cX7_bears 117 = .ok (.iadd, 1) := by decide +kernel
theorem dX7_bears_118 : decode cX7_bears 118 = .ok (.istore_n 3, 1) := by decide +kernel
theorem dX7_bears_119 : decode cX7_bears 119 = .ok (.iload 4, 2) := by decide +kernel
theorem dX7_bears_121 : decode cX7_bears 121 = .ok (.iconst 2, 1) := by decide +kernel
theorem dX7_bears_122 : decode cX7_bears 122 = .ok (.idiv, 1) := by decide +kernel
theorem dX7_bears_123 : decode cX7_bears 123 = .ok (.istore 4, 2) := by decide +kernel
theorem dX7_bears_125 : decode cX7_bears 125 = .ok (.goto (-39), 3) := by decide +kernel
theorem dX7_bears_128 : decode cX7_bears 128 = .ok (.iload_n 3, 1) := by decide +kernel
theorem dX7_bears_129 : decode cX7_bears 129 = .ok (.ireturn, 1) := by decide +kernel
theorem dX7_grip_0 : decode cX7_grip 0 = .ok (.aload_n 0, 1) := by decide +kernel
theorem dX7_grip_1 : decode cX7_grip 1 = .ok (.invokevirtual 186, 3) := by decide +kernel
theorem dX7_grip_4 : decode cX7_grip 4 = .ok (.ifCond .ne 5, 3) := by decide +kernel
theorem dX7_grip_7 : decode cX7_grip 7 = .ok (.iconst 3, 1) := by decide +kernel
theorem dX7_grip_8 : decode cX7_grip 8 = .ok (.ireturn, 1) := by decide +kernel
theorem dX7_grip_9 : decode cX7_grip 9 = .ok (.aload_n 0, 1) := by decide +kernel
theorem dX7_grip_10 : decode cX7_grip 10 = .ok (.getfield 68, 3) := by decide +kernel
theorem dX7_grip_13 : decode cX7_grip 13 = .ok (.invokestatic 190, 3) := by decide +kernel
theorem dX7_grip_16 : decode cX7_grip 16 = .ok (.aload_n 0, 1) := by decide +kernel
theorem dX7_grip_17 : decode cX7_grip 17 = .ok (.getfield 71, 3) := by decide +kernel
theorem dX7_grip_20 : decode cX7_grip 20 = .ok (.invokestatic 190, 3) := by decide +kernel
theorem dX7_grip_23 : decode cX7_grip 23 = .ok (.isub, 1) := by decide +kernel
theorem dX7_grip_24 : decode cX7_grip 24 = .ok (.istore_n 1, 1) := by decide +kernel
theorem dX7_grip_25 : decode cX7_grip 25 = .ok (.bipush 8, 2) := by decide +kernel
theorem dX7_grip_27 : decode cX7_grip 27 = .ok (.iconst 3, 1) := by decide +kernel
theorem dX7_grip_28 : decode cX7_grip 28 = .ok (.iload_n 1, 1) := by decide +kernel
theorem dX7_grip_29 : decode cX7_grip 29 = .ok (.iconst 5, 1) := by decide +kernel
theorem dX7_grip_30 : decode cX7_grip 30 = .ok (.idiv, 1) := by decide +kernel
theorem dX7_grip_31 : decode cX7_grip 31 = .ok (.iadd, 1) := by decide +kernel
theorem dX7_grip_32 : decode cX7_grip 32 = .ok (.invokestatic 193, 3) := by decide +kernel
theorem dX7_grip_35 : decode cX7_grip 35 = .ok (.ireturn, 1) := by decide +kernel
theorem dX7_isGrip_0 : decode cX7_isGrip 0 = .ok (.iload_n 0, 1) := by decide +kernel
theorem dX7_isGrip_1 : decode cX7_isGrip 1 = .ok (.ifCond .lt 13, 3) := by decide +kernel
theorem dX7_isGrip_4 : decode cX7_isGrip 4 = .ok (.iload_n 0, 1) := by decide +kernel
theorem dX7_isGrip_5 : decode cX7_isGrip 5 = .ok (.bipush 10, 2) := by decide +kernel
theorem dX7_isGrip_7 : decode cX7_isGrip 7 = .ok (.if_icmp .gt 7, 3) := by decide +kernel
theorem dX7_isGrip_10 : decode cX7_isGrip 10 = .ok (.iconst 1, 1) := by decide +kernel
theorem dX7_isGrip_11 : decode cX7_isGrip 11 = .ok (.goto 4, 3) := by decide +kernel
theorem dX7_isGrip_14 : decode cX7_isGrip 14 = .ok (.iconst 0, 1) := by decide +kernel
theorem dX7_isGrip_15 : decode cX7_isGrip 15 = .ok (.ireturn, 1) := by decide +kernel
theorem dX7_addBlocks_0 : decode cX7_addBlocks 0 = .ok (.iload_n 1, 1) := by decide +kernel
theorem dX7_addBlocks_1 : decode cX7_addBlocks 1 = .ok (.iconst 1, 1) := by decide +kernel
theorem dX7_addBlocks_2 : decode cX7_addBlocks 2 = .ok (.bipush 20, 2) := by decide +kernel
theorem dX7_addBlocks_4 : decode cX7_addBlocks 4 = .ok (.invokestatic 205, 3) := by decide +kernel
theorem dX7_addBlocks_7 : decode cX7_addBlocks 7 = .ok (.ifCond .eq 35, 3) := by decide +kernel
theorem dX7_addBlocks_10 : decode cX7_addBlocks 10 = .ok (.iload_n 2, 1) := by decide +kernel
theorem dX7_addBlocks_11 : decode cX7_addBlocks 11 = .ok (.iconst 1, 1) := by decide +kernel
theorem dX7_addBlocks_12 : decode cX7_addBlocks 12 = .ok (.bipush 20, 2) := by decide +kernel
theorem dX7_addBlocks_14 : decode cX7_addBlocks 14 = .ok (.invokestatic 205, 3) := by decide +kernel
theorem dX7_addBlocks_17 : decode cX7_addBlocks 17 = .ok (.ifCond .eq 25, 3) := by decide +kernel
theorem dX7_addBlocks_20 : decode cX7_addBlocks 20 = .ok (.iload_n 3, 1) := by decide +kernel
theorem dX7_addBlocks_21 : decode cX7_addBlocks 21 = .ok (.iconst 1, 1) := by decide +kernel
theorem dX7_addBlocks_22 : decode cX7_addBlocks 22 = .ok (.bipush 99, 2) := by decide +kernel
theorem dX7_addBlocks_24 : decode cX7_addBlocks 24 = .ok (.invokestatic 205, 3) := by decide +kernel
theorem dX7_addBlocks_27 : decode cX7_addBlocks 27 = .ok (.ifCond .eq 15, 3) := by decide +kernel
theorem dX7_addBlocks_30 : decode cX7_addBlocks 30 = .ok (.iload 4, 2) := by decide +kernel
theorem dX7_addBlocks_32 : decode cX7_addBlocks 32 = .ok (.iconst 0, 1) := by decide +kernel
theorem dX7_addBlocks_33 : decode cX7_addBlocks 33 = .ok (.sipush 999, 3) := by decide +kernel
theorem dX7_addBlocks_36 : decode cX7_addBlocks 36 = .ok (.invokestatic 205, 3) := by decide +kernel
theorem dX7_addBlocks_39 : decode cX7_addBlocks 39 = .ok (.ifCond .ne 13, 3) := by decide +kernel
theorem dX7_addBlocks_42 : decode cX7_addBlocks 42 = .ok (.new 85, 3) := by decide +kernel
theorem dX7_addBlocks_45 : decode cX7_addBlocks 45 = .ok (.dup, 1) := by decide +kernel
theorem dX7_addBlocks_46 : decode cX7_addBlocks 46 = .ok (.ldc 87, 2) := by decide +kernel
theorem dX7_addBlocks_48 : decode cX7_addBlocks 48 = .ok (.invokespecial 89, 3) := by decide +kernel
theorem dX7_addBlocks_51 : decode cX7_addBlocks 51 = .ok (.athrow, 1) := by decide +kernel
theorem dX7_addBlocks_52 : decode cX7_addBlocks 52 = .ok (.aload_n 0, 1) := by decide +kernel
theorem dX7_addBlocks_53 : decode cX7_addBlocks 53 = .ok (.getfield 51, 3) := by decide +kernel
theorem dX7_addBlocks_56 : decode cX7_addBlocks 56 = .ok (.aload_n 0, 1) := by decide +kernel
theorem dX7_addBlocks_57 : decode cX7_addBlocks 57 = .ok (.getfield 25, 3) := by decide +kernel
theorem dX7_addBlocks_60 : decode cX7_addBlocks 60 = .ok (.arraylength, 1) := by decide +kernel
theorem dX7_addBlocks_61 : decode cX7_addBlocks 61 = .ok (.if_icmp .lt 13, 3) := by decide +kernel
theorem dX7_addBlocks_64 : decode cX7_addBlocks 64 = .ok (.new 111, 3) := by decide +kernel
theorem dX7_addBlocks_67 : decode cX7_addBlocks 67 = .ok (.dup, 1) := by decide +kernel
theorem dX7_addBlocks_68 : decode cX7_addBlocks 68 = .ok (.ldc 208, 2) := by decide +kernel
theorem dX7_addBlocks_70 : decode cX7_addBlocks 70 = .ok (.invokespecial 115, 3) := by decide +kernel
theorem dX7_addBlocks_73 : decode cX7_addBlocks 73 = .ok (.athrow, 1) := by decide +kernel
theorem dX7_addBlocks_74 : decode cX7_addBlocks 74 = .ok (.aload_n 0, 1) := by decide +kernel
theorem dX7_addBlocks_75 : decode cX7_addBlocks 75 = .ok (.getfield 25, 3) := by decide +kernel
theorem dX7_addBlocks_78 : decode cX7_addBlocks 78 = .ok (.aload_n 0, 1) := by decide +kernel
theorem dX7_addBlocks_79 : decode cX7_addBlocks 79 = .ok (.getfield 51, 3) := by decide +kernel
theorem dX7_addBlocks_82 : decode cX7_addBlocks 82 = .ok (.new 23, 3) := by decide +kernel
theorem dX7_addBlocks_85 : decode cX7_addBlocks 85 = .ok (.dup, 1) := by decide +kernel
theorem dX7_addBlocks_86 : decode cX7_addBlocks 86 = .ok (.iload_n 1, 1) := by decide +kernel
theorem dX7_addBlocks_87 : decode cX7_addBlocks 87 = .ok (.iload_n 2, 1) := by decide +kernel
theorem dX7_addBlocks_88 : decode cX7_addBlocks 88 = .ok (.iload_n 3, 1) := by decide +kernel
theorem dX7_addBlocks_89 : decode cX7_addBlocks 89 = .ok (.iload 4, 2) := by decide +kernel
theorem dX7_addBlocks_91 : decode cX7_addBlocks 91 = .ok (.iload 5, 2) := by decide +kernel
theorem dX7_addBlocks_93 : decode cX7_addBlocks 93 = .ok (.invokespecial 210, 3) := by decide +kernel
theorem dX7_addBlocks_96 : decode cX7_addBlocks 96 = .ok (.aastore, 1) := by decide +kernel
theorem dX7_addBlocks_97 : decode cX7_addBlocks 97 = .ok (.aload_n 0, 1) := by decide +kernel
theorem dX7_addBlocks_98 : decode cX7_addBlocks 98 = .ok (.dup, 1) := by decide +kernel
theorem dX7_addBlocks_99 : decode cX7_addBlocks 99 = .ok (.getfield 51, 3) := by decide +kernel
theorem dX7_addBlocks_102 : decode cX7_addBlocks 102 = .ok (.dup_x1, 1) := by decide +kernel
theorem dX7_addBlocks_103 : decode cX7_addBlocks 103 = .ok (.iconst 1, 1) := by decide +kernel
theorem dX7_addBlocks_104 : decode cX7_addBlocks 104 = .ok (.iadd, 1) := by decide +kernel
theorem dX7_addBlocks_105 : decode cX7_addBlocks 105 = .ok (.putfield 51, 3) := by decide +kernel
theorem dX7_addBlocks_108 : decode cX7_addBlocks 108 = .ok (.ireturn, 1) := by decide +kernel
theorem dX7_blocks_0 : decode cX7_blocks 0 = .ok (.aload_n 0, 1) := by decide +kernel
theorem dX7_blocks_1 : decode cX7_blocks 1 = .ok (.iload_n 1, 1) := by decide +kernel
theorem dX7_blocks_2 : decode cX7_blocks 2 = .ok (.invokevirtual 213, 3) := by decide +kernel
theorem dX7_blocks_5 : decode cX7_blocks 5 = .ok (.astore_n 2, 1) := by decide +kernel
theorem dX7_blocks_6 : decode cX7_blocks 6 = .ok (.aload_n 2, 1) := by decide +kernel
theorem dX7_blocks_7 : decode cX7_blocks 7 = .ok (.ifnonnull 13, 3) := by decide +kernel
theorem dX7_blocks_10 : decode cX7_blocks 10 = .ok (.new 123, 3) := by decide +kernel
theorem dX7_blocks_13 : decode cX7_blocks 13 = .ok (.dup, 1) := by decide +kernel
theorem dX7_blocks_14 : decode cX7_blocks 14 = .ok (.ldc 217, 2) := by decide +kernel
theorem dX7_blocks_16 : decode cX7_blocks 16 = .ok (.invokespecial 127, 3) := by decide +kernel
theorem dX7_blocks_19 : decode cX7_blocks 19 = .ok (.athrow, 1) := by decide +kernel
theorem dX7_blocks_20 : decode cX7_blocks 20 = .ok (.aload_n 2, 1) := by decide +kernel
theorem dX7_blocks_21 : decode cX7_blocks 21 = .ok (.getfield 219, 3) := by decide +kernel
theorem dX7_blocks_24 : decode cX7_blocks 24 = .ok (.ireturn, 1) := by decide +kernel
theorem dX7_bestBlock_0 : decode cX7_bestBlock 0 = .ok (.aload_n 0, 1) := by decide +kernel
theorem dX7_bestBlock_1 : decode cX7_bestBlock 1 = .ok (.getfield 10, 3) := by decide +kernel
theorem dX7_bestBlock_4 : decode cX7_bestBlock 4 = .ok (.iload_n 1, 1) := by decide +kernel
theorem dX7_bestBlock_5 : decode cX7_bestBlock 5 = .ok (.invokevirtual 222, 3) := by decide +kernel
theorem dX7_bestBlock_8 : decode cX7_bestBlock 8 = .ok (.astore_n 2, 1) := by decide +kernel
theorem dX7_bestBlock_9 : decode cX7_bestBlock 9 = .ok (.aload_n 2, 1) := by decide +kernel
theorem dX7_bestBlock_10 : decode cX7_bestBlock 10 = .ok (.ifnonnull 13, 3) := by decide +kernel
theorem dX7_bestBlock_13 : decode cX7_bestBlock 13 = .ok (.new 123, 3) := by decide +kernel
theorem dX7_bestBlock_16 : decode cX7_bestBlock 16 = .ok (.dup, 1) := by decide +kernel
theorem dX7_bestBlock_17 : decode cX7_bestBlock 17 = .ok (.ldc 151, 2) := by decide +kernel
theorem dX7_bestBlock_19 : decode cX7_bestBlock 19 = .ok (.invokespecial 127, 3) := by decide +kernel
theorem dX7_bestBlock_22 : decode cX7_bestBlock 22 = .ok (.athrow, 1) := by decide +kernel
theorem dX7_bestBlock_23 : decode cX7_bestBlock 23 = .ok (.iconst (-1), 1) := by decide +kernel
theorem dX7_bestBlock_24 : decode cX7_bestBlock 24 = .ok (.istore_n 3, 1) := by decide +kernel
theorem dX7_bestBlock_25 : decode cX7_bestBlock 25 = .ok (.iconst 0, 1) := by decide +kernel
theorem dX7_bestBlock_26 : decode cX7_bestBlock 26 = .ok (.istore 4, 2) := by decide +kernel
theorem dX7_bestBlock_28 : decode cX7_bestBlock 28 = .ok (.iconst 0, 1) := by decide +kernel
theorem dX7_bestBlock_29 : decode cX7_bestBlock 29 = .ok (.istore 5, 2) := by decide +kernel
theorem dX7_bestBlock_31 : decode cX7_bestBlock 31 = .ok (.iload 5, 2) := by decide +kernel
theorem dX7_bestBlock_33 : decode cX7_bestBlock 33 = .ok (.aload_n 0, 1) := by decide +kernel
theorem dX7_bestBlock_34 : decode cX7_bestBlock 34 = .ok (.getfield 51, 3) := by decide +kernel
theorem dX7_bestBlock_37 : decode cX7_bestBlock 37 = .ok (.if_icmp .ge 56, 3) := by decide +kernel
theorem dX7_bestBlock_40 : decode cX7_bestBlock 40 = .ok (.aload_n 0, 1) := by decide +kernel
theorem dX7_bestBlock_41 : decode cX7_bestBlock 41 = .ok (.iload 5, 2) := by decide +kernel
theorem dX7_bestBlock_43 : decode cX7_bestBlock 43 = .ok (.invokevirtual 213, 3) := by decide +kernel
theorem dX7_bestBlock_46 : decode cX7_bestBlock 46 = .ok (.astore 6, 2) := by decide +kernel
theorem dX7_bestBlock_48 : decode cX7_bestBlock 48 = .ok (.aload 6, 2) := by decide +kernel
theorem dX7_bestBlock_50 : decode cX7_bestBlock 50 = .ok (.ifnull 37, 3) := by decide +kernel
theorem dX7_bestBlock_53 : decode cX7_bestBlock 53 = .ok (.aload 6, 2) := by decide +kernel
theorem dX7_bestBlock_55 : decode cX7_bestBlock 55 = .ok (.aload_n 2, 1) := by decide +kernel
theorem dX7_bestBlock_56 : decode cX7_bestBlock 56 = .ok (.invokevirtual 226, 3) := by decide +kernel
theorem dX7_bestBlock_59 : decode cX7_bestBlock 59 = .ok (.ifCond .eq 28, 3) := by decide +kernel
theorem dX7_bestBlock_62 : decode cX7_bestBlock 62 = .ok (.iload_n 3, 1) := by decide +kernel
theorem dX7_bestBlock_63 : decode cX7_bestBlock 63 = .ok (.iconst (-1), 1) := by decide +kernel
theorem dX7_bestBlock_64 : decode cX7_bestBlock 64 = .ok (.if_icmp .eq 13, 3) := by decide +kernel
theorem dX7_bestBlock_67 : decode cX7_bestBlock 67 = .ok (.aload 6, 2) := by decide +kernel
theorem dX7_bestBlock_69 : decode cX7_bestBlock 69 = .ok (.invokevirtual 230, 3) := by decide +kernel
theorem dX7_bestBlock_72 : decode cX7_bestBlock 72 = .ok (.iload 4, 2) := by decide +kernel
theorem dX7_bestBlock_74 : decode cX7_bestBlock 74 = .ok (.if_icmp .ge 13, 3) := by decide +kernel
theorem dX7_bestBlock_77 : decode cX7_bestBlock 77 = .ok (.iload 5, 2) := by decide +kernel
theorem dX7_bestBlock_79 : decode cX7_bestBlock 79 = .ok (.istore_n 3, 1) := by decide +kernel
theorem dX7_bestBlock_80 : decode cX7_bestBlock 80 = .ok (.aload 6, 2) := by decide +kernel
theorem dX7_bestBlock_82 : decode cX7_bestBlock 82 = .ok (.invokevirtual 230, 3) := by decide +kernel
theorem dX7_bestBlock_85 : decode cX7_bestBlock 85 = .ok (.istore 4, 2) := by decide +kernel
theorem dX7_bestBlock_87 : decode cX7_bestBlock 87 = .ok (.iinc 5 1, 3) := by decide +kernel
theorem dX7_bestBlock_90 : decode cX7_bestBlock 90 = .ok (.goto (-59), 3) := by decide +kernel
theorem dX7_bestBlock_93 : decode cX7_bestBlock 93 = .ok (.iload_n 3, 1) := by decide +kernel
theorem dX7_bestBlock_94 : decode cX7_bestBlock 94 = .ok (.iconst (-1), 1) := by decide +kernel
theorem dX7_bestBlock_95 : decode cX7_bestBlock 95 = .ok (.if_icmp .ne 13, 3) := by decide +kernel
theorem dX7_bestBlock_98 : decode cX7_bestBlock 98 = .ok (.new 165, 3) := by decide +kernel
theorem dX7_bestBlock_101 : decode cX7_bestBlock 101 = .ok (.dup, 1) := by decide +kernel
theorem dX7_bestBlock_102 : decode cX7_bestBlock 102 = .ok (.ldc 233, 2) := by decide +kernel
theorem dX7_bestBlock_104 : decode cX7_bestBlock 104 = .ok (.invokespecial 169, 3) := by decide +kernel
theorem dX7_bestBlock_107 : decode cX7_bestBlock 107 = .ok (.athrow, 1) := by decide +kernel
theorem dX7_bestBlock_108 : decode cX7_bestBlock 108 = .ok (.iload_n 3, 1) := by decide +kernel
theorem dX7_bestBlock_109 : decode cX7_bestBlock 109 = .ok (.ireturn, 1) := by decide +kernel
theorem dX7_addMason_0 : decode cX7_addMason 0 = .ok (.iload_n 1, 1) := by decide +kernel
theorem dX7_addMason_1 : decode cX7_addMason 1 = .ok (.iconst 1, 1) := by decide +kernel
theorem dX7_addMason_2 : decode cX7_addMason 2 = .ok (.bipush 99, 2) := by decide +kernel
theorem dX7_addMason_4 : decode cX7_addMason 4 = .ok (.invokestatic 205, 3) := by decide +kernel
theorem dX7_addMason_7 : decode cX7_addMason 7 = .ok (.ifCond .eq 13, 3) := by decide +kernel
theorem dX7_addMason_10 : decode cX7_addMason 10 = .ok (.iload_n 2, 1) := by decide +kernel
theorem dX7_addMason_11 : decode cX7_addMason 11 = .ok (.iconst 0, 1) := by decide +kernel
theorem dX7_addMason_12 : decode cX7_addMason 12 = .ok (.bipush 9, 2) := by decide +kernel
theorem dX7_addMason_14 : decode cX7_addMason 14 = .ok (.invokestatic 205, 3) := by decide +kernel
theorem dX7_addMason_17 : decode cX7_addMason 17 = .ok (.ifCond .ne 13, 3) := by decide +kernel
theorem dX7_addMason_20 : decode cX7_addMason 20 = .ok (.new 85, 3) := by decide +kernel
theorem dX7_addMason_23 : decode cX7_addMason 23 = .ok (.dup, 1) := by decide +kernel
theorem dX7_addMason_24 : decode cX7_addMason 24 = .ok (.ldc 87, 2) := by decide +kernel
theorem dX7_addMason_26 : decode cX7_addMason 26 = .ok (.invokespecial 89, 3) := by decide +kernel
theorem dX7_addMason_29 : decode cX7_addMason 29 = .ok (.athrow, 1) := by decide +kernel
theorem dX7_addMason_30 : decode cX7_addMason 30 = .ok (.aload_n 0, 1) := by decide +kernel
theorem dX7_addMason_31 : decode cX7_addMason 31 = .ok (.getfield 55, 3) := by decide +kernel
theorem dX7_addMason_34 : decode cX7_addMason 34 = .ok (.aload_n 0, 1) := by decide +kernel
theorem dX7_addMason_35 : decode cX7_addMason 35 = .ok (.getfield 31, 3) := by decide +kernel
theorem dX7_addMason_38 : decode cX7_addMason 38 = .ok (.arraylength, 1) := by decide +kernel
theorem dX7_addMason_39 : decode cX7_addMason 39 = .ok (.if_icmp .lt 13, 3) := by decide +kernel
theorem dX7_addMason_42 : decode cX7_addMason 42 = .ok (.new 111, 3) := by decide +kernel
theorem dX7_addMason_45 : decode cX7_addMason 45 = .ok (.dup, 1) := by decide +kernel
theorem dX7_addMason_46 : decode cX7_addMason 46 = .ok (.ldc 235, 2) := by decide +kernel
theorem dX7_addMason_48 : decode cX7_addMason 48 = .ok (.invokespecial 115, 3) := by decide +kernel
theorem dX7_addMason_51 : decode cX7_addMason 51 = .ok (.athrow, 1) := by decide +kernel
theorem dX7_addMason_52 : decode cX7_addMason 52 = .ok (.aload_n 0, 1) := by decide +kernel
theorem dX7_addMason_53 : decode cX7_addMason 53 = .ok (.getfield 31, 3) := by decide +kernel
theorem dX7_addMason_56 : decode cX7_addMason 56 = .ok (.aload_n 0, 1) := by decide +kernel
theorem dX7_addMason_57 : decode cX7_addMason 57 = .ok (.getfield 55, 3) := by decide +kernel
theorem dX7_addMason_60 : decode cX7_addMason 60 = .ok (.new 29, 3) := by decide +kernel
theorem dX7_addMason_63 : decode cX7_addMason 63 = .ok (.dup, 1) := by decide +kernel
theorem dX7_addMason_64 : decode cX7_addMason 64 = .ok (.bipush 65, 2) := by decide +kernel
theorem dX7_addMason_66 : decode cX7_addMason 66 = .ok (.aload_n 0, 1) := by decide +kernel
theorem dX7_addMason_67 : decode cX7_addMason 67 = .ok (.getfield 55, 3) := by decide +kernel
theorem dX7_addMason_70 : decode cX7_addMason 70 = .ok (.iadd, 1) := by decide +kernel
theorem dX7_addMason_71 : decode cX7_addMason 71 = .ok (.i2c, 1) := by decide +kernel
theorem dX7_addMason_72 : decode cX7_addMason 72 = .ok (.iload_n 1, 1) := by decide +kernel
theorem dX7_addMason_73 : decode cX7_addMason 73 = .ok (.iload_n 2, 1) := by decide +kernel
theorem dX7_addMason_74 : decode cX7_addMason 74 = .ok (.invokespecial 237, 3) := by decide +kernel
theorem dX7_addMason_77 : decode cX7_addMason 77 = .ok (.aastore, 1) := by decide +kernel
theorem dX7_addMason_78 : decode cX7_addMason 78 = .ok (.aload_n 0, 1) := by decide +kernel
theorem dX7_addMason_79 : decode cX7_addMason 79 = .ok (.dup, 1) := by decide +kernel
theorem dX7_addMason_80 : decode cX7_addMason 80 = .ok (.getfield 55, 3) := by decide +kernel
theorem dX7_addMason_83 : decode cX7_addMason 83 = .ok (.dup_x1, 1) := by decide +kernel
theorem dX7_addMason_84 : decode cX7_addMason 84 = .ok (.iconst 1, 1) := by decide +kernel
theorem dX7_addMason_85 : decode cX7_addMason 85 = .ok (.iadd, 1) := by decide +kernel
theorem dX7_addMason_86 : decode cX7_addMason 86 = .ok (.putfield 55, 3) := by decide +kernel
theorem dX7_addMason_89 : decode cX7_addMason 89 = .ok (.ireturn, 1) := by decide +kernel
theorem dX7_cut_0 : decode cX7_cut 0 = .ok (.aload_n 0, 1) := by decide +kernel
theorem dX7_cut_1 : decode cX7_cut 1 = .ok (.getfield 10, 3) := by decide +kernel
theorem dX7_cut_4 : decode cX7_cut 4 = .ok (.iload_n 1, 1) := by decide +kernel
theorem dX7_cut_5 : decode cX7_cut 5 = .ok (.invokevirtual 222, 3) := by decide +kernel
theorem dX7_cut_8 : decode cX7_cut 8 = .ok (.astore 4, 2) := by decide +kernel
theorem dX7_cut_10 : decode cX7_cut 10 = .ok (.aload_n 0, 1) := by decide +kernel
theorem dX7_cut_11 : decode cX7_cut 11 = .ok (.iload_n 2, 1) := by decide +kernel
theorem dX7_cut_12 : decode cX7_cut 12 = .ok (.invokevirtual 213, 3) := by decide +kernel
theorem dX7_cut_15 : decode cX7_cut 15 = .ok (.astore 5, 2) := by decide +kernel
theorem dX7_cut_17 : decode cX7_cut 17 = .ok (.aload_n 0, 1) := by decide +kernel
theorem dX7_cut_18 : decode cX7_cut 18 = .ok (.iload_n 3, 1) := by decide +kernel
theorem dX7_cut_19 : decode cX7_cut 19 = .ok (.invokevirtual 240, 3) := by decide +kernel
theorem dX7_cut_22 : decode cX7_cut 22 = .ok (.astore 6, 2) := by decide +kernel
theorem dX7_cut_24 : decode cX7_cut 24 = .ok (.aload 4, 2) := by decide +kernel
theorem dX7_cut_26 : decode cX7_cut 26 = .ok (.ifnull 13, 3) := by decide +kernel
theorem dX7_cut_29 : decode cX7_cut 29 = .ok (.aload 5, 2) := by decide +kernel
theorem dX7_cut_31 : decode cX7_cut 31 = .ok (.ifnull 8, 3) := by decide +kernel
theorem dX7_cut_34 : decode cX7_cut 34 = .ok (.aload 6, 2) := by decide +kernel
theorem dX7_cut_36 : decode cX7_cut 36 = .ok (.ifnonnull 13, 3) := by decide +kernel
theorem dX7_cut_39 : decode cX7_cut 39 = .ok (.new 123, 3) := by decide +kernel
theorem dX7_cut_42 : decode cX7_cut 42 = .ok (.dup, 1) := by decide +kernel
theorem dX7_cut_43 : decode cX7_cut 43 = .ok (.ldc 244, 2) := by decide +kernel
theorem dX7_cut_45 : decode cX7_cut 45 = .ok (.invokespecial 127, 3) := by decide +kernel
theorem dX7_cut_48 : decode cX7_cut 48 = .ok (.athrow, 1) := by decide +kernel
theorem dX7_cut_49 : decode cX7_cut 49 = .ok (.aload 5, 2) := by decide +kernel
theorem dX7_cut_51 : decode cX7_cut 51 = .ok (.aload 4, 2) := by decide +kernel
theorem dX7_cut_53 : decode cX7_cut 53 = .ok (.invokevirtual 226, 3) := by decide +kernel
theorem dX7_cut_56 : decode cX7_cut 56 = .ok (.ifCond .ne 13, 3) := by decide +kernel
theorem dX7_cut_59 : decode cX7_cut 59 = .ok (.new 106, 3) := by decide +kernel
theorem dX7_cut_62 : decode cX7_cut 62 = .ok (.dup, 1) := by decide +kernel
theorem dX7_cut_63 : decode cX7_cut 63 = .ok (.ldc 246, 2) := by decide +kernel
theorem dX7_cut_65 : decode cX7_cut 65 = .ok (.invokespecial 110, 3) := by decide +kernel
theorem dX7_cut_68 : decode cX7_cut 68 = .ok (.athrow, 1) := by decide +kernel
theorem dX7_cut_69 : decode cX7_cut 69 = .ok (.aload_n 0, 1) := by decide +kernel
theorem dX7_cut_70 : decode cX7_cut 70 = .ok (.getfield 58, 3) := by decide +kernel
theorem dX7_cut_73 : decode cX7_cut 73 = .ok (.aload_n 0, 1) := by decide +kernel
theorem dX7_cut_74 : decode cX7_cut 74 = .ok (.getfield 37, 3) := by decide +kernel
theorem dX7_cut_77 : decode cX7_cut 77 = .ok (.arraylength, 1) := by decide +kernel
theorem dX7_cut_78 : decode cX7_cut 78 = .ok (.if_icmp .lt 13, 3) := by decide +kernel
theorem dX7_cut_81 : decode cX7_cut 81 = .ok (.new 111, 3) := by decide +kernel
theorem dX7_cut_84 : decode cX7_cut 84 = .ok (.dup, 1) := by decide +kernel
theorem dX7_cut_85 : decode cX7_cut 85 = .ok (.ldc 248, 2) := by decide +kernel
theorem dX7_cut_87 : decode cX7_cut 87 = .ok (.invokespecial 115, 3) := by decide +kernel
theorem dX7_cut_90 : decode cX7_cut 90 = .ok (.athrow, 1) := by decide +kernel
theorem dX7_cut_91 : decode cX7_cut 91 = .ok (.aload 4, 2) := by decide +kernel
theorem dX7_cut_93 : decode cX7_cut 93 = .ok (.invokevirtual 250, 3) := by decide +kernel
theorem dX7_cut_96 : decode cX7_cut 96 = .ok (.istore 7, 2) := by decide +kernel
theorem dX7_cut_98 : decode cX7_cut 98 = .ok (.aload 6, 2) := by decide +kernel
theorem dX7_cut_100 : decode cX7_cut 100 = .ok (.iload_n 1, 1) := by decide +kernel
theorem dX7_cut_101 : decode cX7_cut 101 = .ok (.aload_n 0, 1) := by decide +kernel
theorem dX7_cut_102 : decode cX7_cut 102 = .ok (.getfield 10, 3) := by decide +kernel
theorem dX7_cut_105 : decode cX7_cut 105 = .ok (.getfield 137, 3) := by decide +kernel
theorem dX7_cut_108 : decode cX7_cut 108 = .ok (.invokevirtual 253, 3) := by decide +kernel
theorem dX7_cut_111 : decode cX7_cut 111 = .ok (.astore 8, 2) := by decide +kernel
theorem dX7_cut_113 : decode cX7_cut 113 = .ok (.aload_n 0, 1) := by decide +kernel
theorem dX7_cut_114 : decode cX7_cut 114 = .ok (.getfield 37, 3) := by decide +kernel
theorem dX7_cut_117 : decode cX7_cut 117 = .ok (.aload_n 0, 1) := by decide +kernel
theorem dX7_cut_118 : decode cX7_cut 118 = .ok (.getfield 58, 3) := by decide +kernel
theorem dX7_cut_121 : decode cX7_cut 121 = .ok (.new 35, 3) := by decide +kernel
theorem dX7_cut_124 : decode cX7_cut 124 = .ok (.dup, 1) := by decide +kernel
theorem dX7_cut_125 : decode cX7_cut 125 = .ok (.aload 4, 2) := by decide +kernel
theorem dX7_cut_127 : decode cX7_cut 127 = .ok (.aload 5, 2) := by decide +kernel
theorem dX7_cut_129 : decode cX7_cut 129 = .ok (.invokevirtual 230, 3) := by decide +kernel
theorem dX7_cut_132 : decode cX7_cut 132 = .ok (.aload 6, 2) := by decide +kernel
theorem dX7_cut_134 : decode cX7_cut 134 = .ok (.iload 7, 2) := by decide +kernel
theorem dX7_cut_136 : decode cX7_cut 136 = .ok (.aload_n 0, 1) := by decide +kernel
theorem dX7_cut_137 : decode cX7_cut 137 = .ok (.getfield 68, 3) := by decide +kernel
theorem dX7_cut_140 : decode cX7_cut 140 = .ok (.invokevirtual 257, 3) := by decide +kernel
theorem dX7_cut_143 : decode cX7_cut 143 = .ok (.aload 8, 2) := by decide +kernel
theorem dX7_cut_145 : decode cX7_cut 145 = .ok (.invokespecial 260, 3) := by decide +kernel
theorem dX7_cut_148 : decode cX7_cut 148 = .ok (.aastore, 1) := by decide +kernel
theorem dX7_cut_149 : decode cX7_cut 149 = .ok (.aload 5, 2) := by decide +kernel
theorem dX7_cut_151 : decode cX7_cut 151 = .ok (.dup, 1) := by decide +kernel
theorem dX7_cut_152 : decode cX7_cut 152 = .ok (.getfield 219, 3) := by decide +kernel
theorem dX7_cut_155 : decode cX7_cut 155 = .ok (.iconst 1, 1) := by decide +kernel
theorem dX7_cut_156 : decode cX7_cut 156 = .ok (.isub, 1) := by decide +kernel
theorem dX7_cut_157 : decode cX7_cut 157 = .ok (.putfield 219, 3) := by decide +kernel
theorem dX7_cut_160 : decode cX7_cut 160 = .ok (.aload_n 0, 1) := by decide +kernel
theorem dX7_cut_161 : decode cX7_cut 161 = .ok (.dup, 1) := by decide +kernel
theorem dX7_cut_162 : decode cX7_cut 162 = .ok (.getfield 74, 3) := by decide +kernel
theorem dX7_cut_165 : decode cX7_cut 165 = .ok (.aload 5, 2) := by decide +kernel
theorem dX7_cut_167 : decode cX7_cut 167 = .ok (.getfield 263, 3) := by decide +kernel
theorem dX7_cut_170 : decode cX7_cut 170 = .ok (.i2l, 1) := by decide +kernel
theorem dX7_cut_171 : decode cX7_cut 171 = .ok (.aload 6, 2) := by decide +kernel
theorem dX7_cut_173 : decode cX7_cut 173 = .ok (.getfield 266, 3) := by decide +kernel
theorem dX7_cut_176 : decode cX7_cut 176 = .ok (.i2l, 1) := by decide +kernel
theorem dX7_cut_177 : decode cX7_cut 177 = .ok (.iload 7, 2) := by decide +kernel
theorem dX7_cut_179 : decode cX7_cut 179 = .ok (.i2l, 1) := by decide +kernel
theorem dX7_cut_180 : decode cX7_cut 180 = .ok (.lmul, 1) := by decide +kernel
theorem dX7_cut_181 : decode cX7_cut 181 = .ok (.ladd, 1) := by decide +kernel
theorem dX7_cut_182 : decode cX7_cut 182 = .ok (.ladd, 1) := by decide +kernel
theorem dX7_cut_183 : decode cX7_cut 183 = .ok (.putfield 74, 3) := by decide +kernel
theorem dX7_cut_186 : decode cX7_cut 186 = .ok (.aload_n 0, 1) := by decide +kernel
theorem dX7_cut_187 : decode cX7_cut 187 = .ok (.dup, 1) := by decide +kernel
theorem dX7_cut_188 : decode cX7_cut 188 = .ok (.getfield 58, 3) := by decide +kernel
theorem dX7_cut_191 : decode cX7_cut 191 = .ok (.dup_x1, 1) := by decide +kernel
theorem dX7_cut_192 : decode cX7_cut 192 = .ok (.iconst 1, 1) := by decide +kernel
theorem dX7_cut_193 : decode cX7_cut 193 = .ok (.iadd, 1) := by decide +kernel
theorem dX7_cut_194 : decode cX7_cut 194 = .ok (.putfield 58, 3) := by decide +kernel
theorem dX7_cut_197 : decode cX7_cut 197 = .ok (.ireturn, 1) := by decide +kernel
theorem dX7_isBetween_0 : decode cX7_isBetween 0 = .ok (.iload_n 0, 1) := by decide +kernel
theorem dX7_isBetween_1 : decode cX7_isBetween 1 = .ok (.iload_n 1, 1) := by decide +kernel
theorem dX7_isBetween_2 : decode cX7_isBetween 2 = .ok (.if_icmp .lt 12, 3) := by decide +kernel
theorem dX7_isBetween_5 : decode cX7_isBetween 5 = .ok (.iload_n 0, 1) := by decide +kernel
theorem dX7_isBetween_6 : decode cX7_isBetween 6 = .ok (.iload_n 2, 1) := by decide +kernel
theorem dX7_isBetween_7 : decode cX7_isBetween 7 = .ok (.if_icmp .gt 7, 3) := by decide +kernel
theorem dX7_isBetween_10 : decode cX7_isBetween 10 = .ok (.iconst 1, 1) := by decide +kernel
theorem dX7_isBetween_11 : decode cX7_isBetween 11 = .ok (.goto 4, 3) := by decide +kernel
theorem dX7_isBetween_14 : decode cX7_isBetween 14 = .ok (.iconst 0, 1) := by decide +kernel
theorem dX7_isBetween_15 : decode cX7_isBetween 15 = .ok (.ireturn, 1) := by decide +kernel
theorem dX7_kindAt_0 : decode cX7_kindAt 0 = .ok (.iload_n 1, 1) := by decide +kernel
theorem dX7_kindAt_1 : decode cX7_kindAt 1 = .ok (.ifCond .lt 29, 3) := by decide +kernel
theorem dX7_kindAt_4 : decode cX7_kindAt 4 = .ok (.iload_n 1, 1) := by decide +kernel
theorem dX7_kindAt_5 : decode cX7_kindAt 5 = .ok (.aload_n 0, 1) := by decide +kernel
theorem dX7_kindAt_6 : decode cX7_kindAt 6 = .ok (.getfield 51, 3) := by decide +kernel
theorem dX7_kindAt_9 : decode cX7_kindAt 9 = .ok (.if_icmp .ge 21, 3) := by decide +kernel
theorem dX7_kindAt_12 : decode cX7_kindAt 12 = .ok (.iload_n 1, 1) := by decide +kernel
theorem dX7_kindAt_13 : decode cX7_kindAt 13 = .ok (.aload_n 0, 1) := by decide +kernel
theorem dX7_kindAt_14 : decode cX7_kindAt 14 = .ok (.getfield 25, 3) := by decide +kernel
theorem dX7_kindAt_17 : decode cX7_kindAt 17 = .ok (.arraylength, 1) := by decide +kernel
theorem dX7_kindAt_18 : decode cX7_kindAt 18 = .ok (.if_icmp .ge 12, 3) := by decide +kernel
theorem dX7_kindAt_21 : decode cX7_kindAt 21 = .ok (.aload_n 0, 1) := by decide +kernel
theorem dX7_kindAt_22 : decode cX7_kindAt 22 = .ok (.getfield 25, 3) := by decide +kernel
theorem dX7_kindAt_25 : decode cX7_kindAt 25 = .ok (.iload_n 1, 1) := by decide +kernel
theorem dX7_kindAt_26 : decode cX7_kindAt 26 = .ok (.aaload, 1) := by decide +kernel
theorem dX7_kindAt_27 : decode cX7_kindAt 27 = .ok (.goto 4, 3) := by decide +kernel
theorem dX7_kindAt_30 : decode cX7_kindAt 30 = .ok (.aconst_null, 1) := by decide +kernel
theorem dX7_kindAt_31 : decode cX7_kindAt 31 = .ok (.areturn, 1) := by decide +kernel
theorem dX7_masonAt_0 : decode cX7_masonAt 0 = .ok (.iload_n 1, 1) := by decide +kernel
theorem dX7_masonAt_1 : decode cX7_masonAt 1 = .ok (.ifCond .lt 29, 3) := by decide +kernel
theorem dX7_masonAt_4 : decode cX7_masonAt 4 = .ok (.iload_n 1, 1) := by decide +kernel
theorem dX7_masonAt_5 : decode cX7_masonAt 5 = .ok (.aload_n 0, 1) := by decide +kernel
theorem dX7_masonAt_6 : decode cX7_masonAt 6 = .ok (.getfield 55, 3) := by decide +kernel
theorem dX7_masonAt_9 : decode cX7_masonAt 9 = .ok (.if_icmp .ge 21, 3) := by decide +kernel
theorem dX7_masonAt_12 : decode cX7_masonAt 12 = .ok (.iload_n 1, 1) := by decide +kernel
theorem dX7_masonAt_13 : decode cX7_masonAt 13 = .ok (.aload_n 0, 1) := by decide +kernel
theorem dX7_masonAt_14 : decode cX7_masonAt 14 = .ok (.getfield 31, 3) := by decide +kernel
theorem dX7_masonAt_17 : decode cX7_masonAt 17 = .ok (.arraylength, 1) := by decide +kernel
theorem dX7_masonAt_18 : decode cX7_masonAt 18 = .ok (.if_icmp .ge 12, 3) := by decide +kernel
theorem dX7_masonAt_21 : decode cX7_masonAt 21 = .ok (.aload_n 0, 1) := by decide +kernel
theorem dX7_masonAt_22 : decode cX7_masonAt 22 = .ok (.getfield 31, 3) := by decide +kernel
theorem dX7_masonAt_25 : decode cX7_masonAt 25 = .ok (.iload_n 1, 1) := by decide +kernel
theorem dX7_masonAt_26 : decode cX7_masonAt 26 = .ok (.aaload, 1) := by decide +kernel
theorem dX7_masonAt_27 : decode cX7_masonAt 27 = .ok (.goto 4, 3) := by decide +kernel
theorem dX7_masonAt_30 : decode cX7_masonAt 30 = .ok (.aconst_null, 1) := by decide +kernel
theorem dX7_masonAt_31 : decode cX7_masonAt 31 = .ok (.areturn, 1) := by decide +kernel
theorem dX7_readyOn_0 : decode cX7_readyOn 0 = .ok (.aload_n 0, 1) := by decide +kernel
theorem dX7_readyOn_1 : decode cX7_readyOn 1 = .ok (.iload_n 1, 1) := by decide +kernel
theorem dX7_readyOn_2 : decode cX7_readyOn 2 = .ok (.invokevirtual 269, 3) := by decide +kernel
theorem dX7_readyOn_5 : decode cX7_readyOn 5 = .ok (.astore_n 2, 1) := by decide +kernel
theorem dX7_readyOn_6 : decode cX7_readyOn 6 = .ok (.aload_n 2, 1) := by decide +kernel
theorem dX7_readyOn_7 : decode cX7_readyOn 7 = .ok (.ifnonnull 14, 3) := by decide +kernel
theorem dX7_readyOn_10 : decode cX7_readyOn 10 = .ok (.new 123, 3) := by decide +kernel
theorem dX7_readyOn_13 : decode cX7_readyOn 13 = .ok (.dup, 1) := by decide +kernel
theorem dX7_readyOn_14 : decode cX7_readyOn 14 = .ok (.ldc_w 273, 3) := by decide +kernel
theorem dX7_readyOn_17 : decode cX7_readyOn 17 = .ok (.invokespecial 127, 3) := by decide +kernel
theorem dX7_readyOn_20 : decode cX7_readyOn 20 = .ok (.athrow, 1) := by decide +kernel
theorem dX7_readyOn_21 : decode cX7_readyOn 21 = .ok (.aload_n 2, 1) := by decide +kernel
theorem dX7_readyOn_22 : decode cX7_readyOn 22 = .ok (.getfield 275, 3) := by decide +kernel
theorem dX7_readyOn_25 : decode cX7_readyOn 25 = .ok (.ireturn, 1) := by decide +kernel
theorem dX7_stateOf_0 : decode cX7_stateOf 0 = .ok (.aload_n 0, 1) := by decide +kernel
theorem dX7_stateOf_1 : decode cX7_stateOf 1 = .ok (.iload_n 1, 1) := by decide +kernel
theorem dX7_stateOf_2 : decode cX7_stateOf 2 = .ok (.invokevirtual 269, 3) := by decide +kernel
theorem dX7_stateOf_5 : decode cX7_stateOf 5 = .ok (.astore_n 2, 1) := by decide +kernel
theorem dX7_stateOf_6 : decode cX7_stateOf 6 = .ok (.aload_n 2, 1) := by decide +kernel
theorem dX7_stateOf_7 : decode cX7_stateOf 7 = .ok (.ifnonnull 14, 3) := by decide +kernel
theorem dX7_stateOf_10 : decode cX7_stateOf 10 = .ok (.new 123, 3) := by decide +kernel
theorem dX7_stateOf_13 : decode cX7_stateOf 13 = .ok (.dup, 1) := by decide +kernel
theorem dX7_stateOf_14 : decode cX7_stateOf 14 = .ok (.ldc_w 273, 3) := by decide +kernel
theorem dX7_stateOf_17 : decode cX7_stateOf 17 = .ok (.invokespecial 127, 3) := by decide +kernel
theorem dX7_stateOf_20 : decode cX7_stateOf 20 = .ok (.athrow, 1) := by decide +kernel
theorem dX7_stateOf_21 : decode cX7_stateOf 21 = .ok (.aload_n 2, 1) := by decide +kernel
theorem dX7_stateOf_22 : decode cX7_stateOf 22 = .ok (.aload_n 0, 1) := by decide +kernel
theorem dX7_stateOf_23 : decode cX7_stateOf 23 = .ok (.getfield 68, 3) := by decide +kernel
theorem dX7_stateOf_26 : decode cX7_stateOf 26 = .ok (.invokevirtual 278, 3) := by decide +kernel
theorem dX7_stateOf_29 : decode cX7_stateOf 29 = .ok (.ireturn, 1) := by decide +kernel
theorem dX7_mark_0 : decode cX7_mark 0 = .ok (.aload_n 0, 1) := by decide +kernel
theorem dX7_mark_1 : decode cX7_mark 1 = .ok (.iload_n 1, 1) := by decide +kernel
theorem dX7_mark_2 : decode cX7_mark 2 = .ok (.invokevirtual 269, 3) := by decide +kernel
theorem dX7_mark_5 : decode cX7_mark 5 = .ok (.astore_n 2, 1) := by decide +kernel
theorem dX7_mark_6 : decode cX7_mark 6 = .ok (.aload_n 2, 1) := by decide +kernel
theorem dX7_mark_7 : decode cX7_mark 7 = .ok (.ifnonnull 14, 3) := by decide +kernel
theorem dX7_mark_10 : decode cX7_mark 10 = .ok (.new 123, 3) := by decide +kernel
theorem dX7_mark_13 : decode cX7_mark 13 = .ok (.dup, 1) := by decide +kernel
theorem dX7_mark_14 : decode cX7_mark 14 = .ok (.ldc_w 273, 3) := by decide +kernel
theorem dX7_mark_17 : decode cX7_mark 17 = .ok (.invokespecial 127, 3) := by decide +kernel
theorem dX7_mark_20 : decode cX7_mark 20 = .ok (.athrow, 1) := by decide +kernel
theorem dX7_mark_21 : decode cX7_mark 21 = .ok (.aload_n 2, 1) := by decide +kernel
theorem dX7_mark_22 : decode cX7_mark 22 = .ok (.getfield 282, 3) := by decide +kernel
theorem dX7_mark_25 : decode cX7_mark 25 = .ok (.invokevirtual 286, 3) := by decide +kernel
theorem dX7_mark_28 : decode cX7_mark 28 = .ok (.ireturn, 1) := by decide +kernel
theorem dX7_markAt_0 : decode cX7_markAt 0 = .ok (.aload_n 0, 1) := by decide +kernel
theorem dX7_markAt_1 : decode cX7_markAt 1 = .ok (.iload_n 1, 1) := by decide +kernel
theorem dX7_markAt_2 : decode cX7_markAt 2 = .ok (.invokevirtual 269, 3) := by decide +kernel
theorem dX7_markAt_5 : decode cX7_markAt 5 = .ok (.astore_n 3, 1) := by decide +kernel
theorem dX7_markAt_6 : decode cX7_markAt 6 = .ok (.aload_n 3, 1) := by decide +kernel
theorem dX7_markAt_7 : decode cX7_markAt 7 = .ok (.ifnonnull 14, 3) := by decide +kernel
theorem dX7_markAt_10 : decode cX7_markAt 10 = .ok (.new 123, 3) := by decide +kernel
theorem dX7_markAt_13 : decode cX7_markAt 13 = .ok (.dup, 1) := by decide +kernel
theorem dX7_markAt_14 : decode cX7_markAt 14 = .ok (.ldc_w 273, 3) := by decide +kernel
theorem dX7_markAt_17 : decode cX7_markAt 17 = .ok (.invokespecial 127, 3) := by decide +kernel
theorem dX7_markAt_20 : decode cX7_markAt 20 = .ok (.athrow, 1) := by decide +kernel
theorem dX7_markAt_21 : decode cX7_markAt 21 = .ok (.iload_n 2, 1) := by decide +kernel
theorem dX7_markAt_22 : decode cX7_markAt 22 = .ok (.ifCond .lt 14, 3) := by decide +kernel
theorem dX7_markAt_25 : decode cX7_markAt 25 = .ok (.iload_n 2, 1) := by decide +kernel
theorem dX7_markAt_26 : decode cX7_markAt 26 = .ok (.aload_n 3, 1) := by decide +kernel
theorem dX7_markAt_27 : decode cX7_markAt 27 = .ok (.getfield 282, 3) := by decide +kernel
theorem dX7_markAt_30 : decode cX7_markAt 30 = .ok (.invokevirtual 286, 3) := by decide +kernel
theorem dX7_markAt_33 : decode cX7_markAt 33 = .ok (.if_icmp .lt 14, 3) := by decide +kernel
theorem dX7_markAt_36 : decode cX7_markAt 36 = .ok (.new 123, 3) := by decide +kernel
theorem dX7_markAt_39 : decode cX7_markAt 39 = .ok (.dup, 1) := by decide +kernel
theorem dX7_markAt_40 : decode cX7_markAt 40 = .ok (.ldc_w 291, 3) := by decide +kernel
theorem dX7_markAt_43 : decode cX7_markAt 43 = .ok (.invokespecial 127, 3) := by decide +kernel
theorem dX7_markAt_46 : decode cX7_markAt 46 = .ok (.athrow, 1) := by decide +kernel
theorem dX7_markAt_47 : decode cX7_markAt 47 = .ok (.aload_n 3, 1) := by decide +kernel
theorem dX7_markAt_48 : decode cX7_markAt 48 = .ok (.getfield 282, 3) := by decide +kernel
theorem dX7_markAt_51 : decode cX7_markAt 51 = .ok (.iload_n 2, 1) := by decide +kernel
theorem dX7_markAt_52 : decode cX7_markAt 52 = .ok (.invokevirtual 293, 3) := by decide +kernel
theorem dX7_markAt_55 : decode cX7_markAt 55 = .ok (.ireturn, 1) := by decide +kernel
theorem dX7_fits_0 : decode cX7_fits 0 = .ok (.aload_n 0, 1) := by decide +kernel
theorem dX7_fits_1 : decode cX7_fits 1 = .ok (.iload_n 1, 1) := by decide +kernel
theorem dX7_fits_2 : decode cX7_fits 2 = .ok (.invokevirtual 269, 3) := by decide +kernel
theorem dX7_fits_5 : decode cX7_fits 5 = .ok (.astore_n 3, 1) := by decide +kernel
theorem dX7_fits_6 : decode cX7_fits 6 = .ok (.aload_n 0, 1) := by decide +kernel
theorem dX7_fits_7 : decode cX7_fits 7 = .ok (.getfield 10, 3) := by decide +kernel
theorem dX7_fits_10 : decode cX7_fits 10 = .ok (.iload_n 2, 1) := by decide +kernel
theorem dX7_fits_11 : decode cX7_fits 11 = .ok (.invokevirtual 222, 3) := by decide +kernel
theorem dX7_fits_14 : decode cX7_fits 14 = .ok (.astore 4, 2) := by decide +kernel
theorem dX7_fits_16 : decode cX7_fits 16 = .ok (.aload_n 3, 1) := by decide +kernel
theorem dX7_fits_17 : decode cX7_fits 17 = .ok (.ifnull 8, 3) := by decide +kernel
theorem dX7_fits_20 : decode cX7_fits 20 = .ok (.aload 4, 2) := by decide +kernel
theorem dX7_fits_22 : decode cX7_fits 22 = .ok (.ifnonnull 14, 3) := by decide +kernel
theorem dX7_fits_25 : decode cX7_fits 25 = .ok (.new 123, 3) := by decide +kernel
theorem dX7_fits_28 : decode cX7_fits 28 = .ok (.dup, 1) := by decide +kernel
theorem dX7_fits_29 : decode cX7_fits 29 = .ok (.ldc_w 296, 3) := by decide +kernel
theorem dX7_fits_32 : decode cX7_fits 32 = .ok (.invokespecial 127, 3) := by decide +kernel
theorem dX7_fits_35 : decode cX7_fits 35 = .ok (.athrow, 1) := by decide +kernel
theorem dX7_fits_36 : decode cX7_fits 36 = .ok (.aload_n 3, 1) := by decide +kernel
theorem dX7_fits_37 : decode cX7_fits 37 = .ok (.getfield 298, 3) := by decide +kernel
theorem dX7_fits_40 : decode cX7_fits 40 = .ok (.aload 4, 2) := by decide +kernel
theorem dX7_fits_42 : decode cX7_fits 42 = .ok (.invokevirtual 302, 3) := by decide +kernel
theorem dX7_fits_45 : decode cX7_fits 45 = .ok (.ireturn, 1) := by decide +kernel
theorem dX7_setCentre_0 : decode cX7_setCentre 0 = .ok (.iload_n 1, 1) := by decide +kernel
theorem dX7_setCentre_1 : decode cX7_setCentre 1 = .ok (.iconst 1, 1) := by decide +kernel
theorem dX7_setCentre_2 : decode cX7_setCentre 2 = .ok (.ldc_w 305, 3) := by decide +kernel
theorem dX7_setCentre_5 : decode cX7_setCentre 5 = .ok (.invokestatic 205, 3) := by decide +kernel
theorem dX7_setCentre_8 : decode cX7_setCentre 8 = .ok (.ifCond .ne 14, 3) := by decide +kernel
theorem dX7_setCentre_11 : decode cX7_setCentre 11 = .ok (.new 85, 3) := by decide +kernel
theorem dX7_setCentre_14 : decode cX7_setCentre 14 = .ok (.dup, 1) := by decide +kernel
theorem dX7_setCentre_15 : decode cX7_setCentre 15 = .ok (.ldc_w 306, 3) := by decide +kernel
theorem dX7_setCentre_18 : decode cX7_setCentre 18 = .ok (.invokespecial 89, 3) := by decide +kernel
theorem dX7_setCentre_21 : decode cX7_setCentre 21 = .ok (.athrow, 1) := by decide +kernel
theorem dX7_setCentre_22 : decode cX7_setCentre 22 = .ok (.aload_n 0, 1) := by decide +kernel
theorem dX7_setCentre_23 : decode cX7_setCentre 23 = .ok (.getfield 61, 3) := by decide +kernel
theorem dX7_setCentre_26 : decode cX7_setCentre 26 = .ok (.ifCond .ne 10, 3) := by decide +kernel
theorem dX7_setCentre_29 : decode cX7_setCentre 29 = .ok (.aload_n 0, 1) := by decide +kernel
theorem dX7_setCentre_30 : decode cX7_setCentre 30 = .ok (.getfield 64, 3) := by decide +kernel
theorem dX7_setCentre_33 : decode cX7_setCentre 33 = .ok (.ifCond .eq 14, 3) := by decide +kernel
theorem dX7_setCentre_36 : decode cX7_setCentre 36 = .ok (.new 106, 3) := by decide +kernel
theorem dX7_setCentre_39 : decode cX7_setCentre 39 = .ok (.dup, 1) := by decide +kernel
theorem dX7_setCentre_40 : decode cX7_setCentre 40 = .ok (.ldc_w 308, 3) := by decide +kernel
theorem dX7_setCentre_43 : decode cX7_setCentre 43 = .ok (.invokespecial 110, 3) := by decide +kernel
theorem dX7_setCentre_46 : decode cX7_setCentre 46 = .ok (.athrow, 1) := by decide +kernel
theorem dX7_setCentre_47 : decode cX7_setCentre 47 = .ok (.aload_n 0, 1) := by decide +kernel
theorem dX7_setCentre_48 : decode cX7_setCentre 48 = .ok (.iload_n 1, 1) := by decide +kernel
theorem dX7_setCentre_49 : decode cX7_setCentre 49 = .ok (.putfield 61, 3) := by decide +kernel
theorem dX7_setCentre_52 : decode cX7_setCentre 52 = .ok (.aload_n 0, 1) := by decide +kernel
theorem dX7_setCentre_53 : decode cX7_setCentre 53 = .ok (.getfield 10, 3) := by decide +kernel
theorem dX7_setCentre_56 : decode cX7_setCentre 56 = .ok (.invokevirtual 310, 3) := by decide +kernel
theorem dX7_setCentre_59 : decode cX7_setCentre 59 = .ok (.ireturn, 1) := by decide +kernel
theorem dX7_set_0 : decode cX7_set 0 = .ok (.aload_n 0, 1) := by decide +kernel
theorem dX7_set_1 : decode cX7_set 1 = .ok (.iload_n 1, 1) := by decide +kernel
theorem dX7_set_2 : decode cX7_set 2 = .ok (.invokevirtual 269, 3) := by decide +kernel
theorem dX7_set_5 : decode cX7_set 5 = .ok (.astore_n 3, 1) := by decide +kernel
theorem dX7_set_6 : decode cX7_set 6 = .ok (.aload_n 0, 1) := by decide +kernel
theorem dX7_set_7 : decode cX7_set 7 = .ok (.getfield 10, 3) := by decide +kernel
theorem dX7_set_10 : decode cX7_set 10 = .ok (.iload_n 2, 1) := by decide +kernel
theorem dX7_set_11 : decode cX7_set 11 = .ok (.invokevirtual 222, 3) := by decide +kernel
theorem dX7_set_14 : decode cX7_set 14 = .ok (.astore 4, 2) := by decide +kernel
theorem dX7_set_16 : decode cX7_set 16 = .ok (.aload_n 3, 1) := by decide +kernel
theorem dX7_set_17 : decode cX7_set 17 = .ok (.ifnull 8, 3) := by decide +kernel
theorem dX7_set_20 : decode cX7_set 20 = .ok (.aload 4, 2) := by decide +kernel
theorem dX7_set_22 : decode cX7_set 22 = .ok (.ifnonnull 14, 3) := by decide +kernel
theorem dX7_set_25 : decode cX7_set 25 = .ok (.new 123, 3) := by decide +kernel
theorem dX7_set_28 : decode cX7_set 28 = .ok (.dup, 1) := by decide +kernel
theorem dX7_set_29 : decode cX7_set 29 = .ok (.ldc_w 296, 3) := by decide +kernel
theorem dX7_set_32 : decode cX7_set 32 = .ok (.invokespecial 127, 3) := by decide +kernel
theorem dX7_set_35 : decode cX7_set 35 = .ok (.athrow, 1) := by decide +kernel
theorem dX7_set_36 : decode cX7_set 36 = .ok (.aload_n 3, 1) := by decide +kernel
theorem dX7_set_37 : decode cX7_set 37 = .ok (.getfield 298, 3) := by decide +kernel
theorem dX7_set_40 : decode cX7_set 40 = .ok (.aload 4, 2) := by decide +kernel
theorem dX7_set_42 : decode cX7_set 42 = .ok (.invokevirtual 302, 3) := by decide +kernel
theorem dX7_set_45 : decode cX7_set 45 = .ok (.ifCond .ne 14, 3) := by decide +kernel
theorem dX7_set_48 : decode cX7_set 48 = .ok (.new 85, 3) := by decide +kernel
theorem dX7_set_51 : decode cX7_set 51 = .ok (.dup, 1) := by decide +kernel
theorem dX7_set_52 : decode cX7_set 52 = .ok (.ldc_w 313, 3) := by decide +kernel
theorem dX7_set_55 : decode cX7_set 55 = .ok (.invokespecial 89, 3) := by decide +kernel
theorem dX7_set_58 : decode cX7_set 58 = .ok (.athrow, 1) := by decide +kernel
theorem dX7_set_59 : decode cX7_set 59 = .ok (.aload_n 3, 1) := by decide +kernel
theorem dX7_set_60 : decode cX7_set 60 = .ok (.aload_n 0, 1) := by decide +kernel
theorem dX7_set_61 : decode cX7_set 61 = .ok (.getfield 68, 3) := by decide +kernel
theorem dX7_set_64 : decode cX7_set 64 = .ok (.invokevirtual 278, 3) := by decide +kernel
theorem dX7_set_67 : decode cX7_set 67 = .ok (.bipush 121, 2) := by decide +kernel
theorem dX7_set_69 : decode cX7_set 69 = .ok (.if_icmp .ne 19, 3) := by decide +kernel
theorem dX7_set_72 : decode cX7_set 72 = .ok (.aload_n 0, 1) := by decide +kernel
theorem dX7_set_73 : decode cX7_set 73 = .ok (.iload_n 2, 1) := by decide +kernel
theorem dX7_set_74 : decode cX7_set 74 = .ok (.invokevirtual 315, 3) := by decide +kernel
theorem dX7_set_77 : decode cX7_set 77 = .ok (.ifCond .eq 11, 3) := by decide +kernel
theorem dX7_set_80 : decode cX7_set 80 = .ok (.aload_n 0, 1) := by decide +kernel
theorem dX7_set_81 : decode cX7_set 81 = .ok (.iload_n 2, 1) := by decide +kernel
theorem dX7_set_82 : decode cX7_set 82 = .ok (.invokevirtual 318, 3) := by decide +kernel
theorem dX7_set_85 : decode cX7_set 85 = .ok (.ifCond .ne 14, 3) := by decide +kernel
theorem dX7_set_88 : decode cX7_set 88 = .ok (.new 106, 3) := by decide +kernel
theorem dX7_set_91 : decode cX7_set 91 = .ok (.dup, 1) := by decide +kernel
theorem dX7_set_92 : decode cX7_set 92 = .ok (.ldc_w 321, 3) := by decide +kernel
theorem dX7_set_95 : decode cX7_set 95 = .ok (.invokespecial 110, 3) := by decide +kernel
theorem dX7_set_98 : decode cX7_set 98 = .ok (.athrow, 1) := by decide +kernel
theorem dX7_set_99 : decode cX7_set 99 = .ok (.iload_n 2, 1) := by decide +kernel
theorem dX7_set_100 : decode cX7_set 100 = .ok (.ifCond .lt 19, 3) := by decide +kernel
theorem dX7_set_103 : decode cX7_set 103 = .ok (.iload_n 2, 1) := by decide +kernel
theorem dX7_set_104 : decode cX7_set 104 = .ok (.aload_n 0, 1) := by decide +kernel
theorem dX7_set_105 : decode cX7_set 105 = .ok (.getfield 41, 3) := by decide +kernel
theorem dX7_set_108 : decode cX7_set 108 = .ok (.arraylength, 1) := by decide +kernel
theorem dX7_set_109 : decode cX7_set 109 = .ok (.if_icmp .ge 10, 3) := by decide +kernel
theorem dX7_set_112 : decode cX7_set 112 = .ok (.aload_n 0, 1) := by decide +kernel
theorem dX7_set_113 : decode cX7_set 113 = .ok (.getfield 41, 3) := by decide +kernel
theorem dX7_set_116 : decode cX7_set 116 = .ok (.iload_n 2, 1) := by decide +kernel
theorem dX7_set_117 : decode cX7_set 117 = .ok (.iload_n 1, 1) := by decide +kernel
theorem dX7_set_118 : decode cX7_set 118 = .ok (.iastore, 1) := by decide +kernel
theorem dX7_set_119 : decode cX7_set 119 = .ok (.aload_n 3, 1) := by decide +kernel
theorem dX7_set_120 : decode cX7_set 120 = .ok (.bipush 115, 2) := by decide +kernel
theorem dX7_set_122 : decode cX7_set 122 = .ok (.putfield 323, 3) := by decide +kernel
theorem dX7_set_125 : decode cX7_set 125 = .ok (.aload_n 0, 1) := by decide +kernel
theorem dX7_set_126 : decode cX7_set 126 = .ok (.aload_n 0, 1) := by decide +kernel
theorem dX7_set_127 : decode cX7_set 127 = .ok (.getfield 68, 3) := by decide +kernel
theorem dX7_set_130 : decode cX7_set 130 = .ok (.putfield 71, 3) := by decide +kernel
theorem dX7_set_133 : decode cX7_set 133 = .ok (.aload_n 0, 1) := by decide +kernel
theorem dX7_set_134 : decode cX7_set 134 = .ok (.invokevirtual 102, 3) := by decide +kernel
theorem dX7_set_137 : decode cX7_set 137 = .ok (.ireturn, 1) := by decide +kernel
theorem dX7_stoneIn_0 : decode cX7_stoneIn 0 = .ok (.aload_n 0, 1) := by decide +kernel
theorem dX7_stoneIn_1 : decode cX7_stoneIn 1 = .ok (.getfield 10, 3) := by decide +kernel
theorem dX7_stoneIn_4 : decode cX7_stoneIn 4 = .ok (.iload_n 1, 1) := by decide +kernel
theorem dX7_stoneIn_5 : decode cX7_stoneIn 5 = .ok (.invokevirtual 148, 3) := by decide +kernel
theorem dX7_stoneIn_8 : decode cX7_stoneIn 8 = .ok (.ifCond .ne 13, 3) := by decide +kernel
theorem dX7_stoneIn_11 : decode cX7_stoneIn 11 = .ok (.new 123, 3) := by decide +kernel
theorem dX7_stoneIn_14 : decode cX7_stoneIn 14 = .ok (.dup, 1) := by decide +kernel
theorem dX7_stoneIn_15 : decode cX7_stoneIn 15 = .ok (.ldc 151, 2) := by decide +kernel
theorem dX7_stoneIn_17 : decode cX7_stoneIn 17 = .ok (.invokespecial 127, 3) := by decide +kernel
theorem dX7_stoneIn_20 : decode cX7_stoneIn 20 = .ok (.athrow, 1) := by decide +kernel
theorem dX7_stoneIn_21 : decode cX7_stoneIn 21 = .ok (.aload_n 0, 1) := by decide +kernel
theorem dX7_stoneIn_22 : decode cX7_stoneIn 22 = .ok (.iload_n 1, 1) := by decide +kernel
theorem dX7_stoneIn_23 : decode cX7_stoneIn 23 = .ok (.invokevirtual 327, 3) := by decide +kernel
theorem dX7_stoneIn_26 : decode cX7_stoneIn 26 = .ok (.istore_n 2, 1) := by decide +kernel
theorem dX7_stoneIn_27 : decode cX7_stoneIn 27 = .ok (.iload_n 2, 1) := by decide +kernel
theorem dX7_stoneIn_28 : decode cX7_stoneIn 28 = .ok (.iconst (-1), 1) := by decide +kernel
theorem dX7_stoneIn_29 : decode cX7_stoneIn 29 = .ok (.if_icmp .ne 14, 3) := by decide +kernel
theorem dX7_stoneIn_32 : decode cX7_stoneIn 32 = .ok (.new 165, 3) := by decide +kernel
theorem dX7_stoneIn_35 : decode cX7_stoneIn 35 = .ok (.dup, 1) := by decide +kernel
theorem dX7_stoneIn_36 : decode cX7_stoneIn 36 = .ok (.ldc_w 330, 3) := by decide +kernel
theorem dX7_stoneIn_39 : decode cX7_stoneIn 39 = .ok (.invokespecial 169, 3) := by decide +kernel
theorem dX7_stoneIn_42 : decode cX7_stoneIn 42 = .ok (.athrow, 1) := by decide +kernel
theorem dX7_stoneIn_43 : decode cX7_stoneIn 43 = .ok (.iload_n 2, 1) := by decide +kernel
theorem dX7_stoneIn_44 : decode cX7_stoneIn 44 = .ok (.ireturn, 1) := by decide +kernel
theorem dX7_strike_0 : decode cX7_strike 0 = .ok (.aload_n 0, 1) := by decide +kernel
theorem dX7_strike_1 : decode cX7_strike 1 = .ok (.getfield 61, 3) := by decide +kernel
theorem dX7_strike_4 : decode cX7_strike 4 = .ok (.ifCond .eq 21, 3) := by decide +kernel
theorem dX7_strike_7 : decode cX7_strike 7 = .ok (.aload_n 0, 1) := by decide +kernel
theorem dX7_strike_8 : decode cX7_strike 8 = .ok (.invokevirtual 186, 3) := by decide +kernel
theorem dX7_strike_11 : decode cX7_strike 11 = .ok (.ifCond .eq 14, 3) := by decide +kernel
theorem dX7_strike_14 : decode cX7_strike 14 = .ok (.aload_n 0, 1) := by decide +kernel
theorem dX7_strike_15 : decode cX7_strike 15 = .ok (.getfield 10, 3) := by decide +kernel
theorem dX7_strike_18 : decode cX7_strike 18 = .ok (.invokevirtual 145, 3) := by decide +kernel
theorem dX7_strike_21 : decode cX7_strike 21 = .ok (.iconst 2, 1) := by decide +kernel
theorem dX7_strike_22 : decode cX7_strike 22 = .ok (.if_icmp .ge 14, 3) := by decide +kernel
theorem dX7_strike_25 : decode cX7_strike 25 = .ok (.new 106, 3) := by decide +kernel
theorem dX7_strike_28 : decode cX7_strike 28 = .ok (.dup, 1) := by decide +kernel
theorem dX7_strike_29 : decode cX7_strike 29 = .ok (.ldc_w 332, 3) := by decide +kernel
theorem dX7_strike_32 : decode cX7_strike 32 = .ok (.invokespecial 110, 3) := by decide +kernel
theorem dX7_strike_35 : decode cX7_strike 35 = .ok (.athrow, 1) := by decide +kernel
theorem dX7_strike_36 : decode cX7_strike 36 = .ok (.aload_n 0, 1) := by decide +kernel
theorem dX7_strike_37 : decode cX7_strike 37 = .ok (.invokevirtual 334, 3) := by decide +kernel
theorem dX7_strike_40 : decode cX7_strike 40 = .ok (.ifCond .ne 14, 3) := by decide +kernel
theorem dX7_strike_43 : decode cX7_strike 43 = .ok (.new 111, 3) := by decide +kernel
theorem dX7_strike_46 : decode cX7_strike 46 = .ok (.dup, 1) := by decide +kernel
theorem dX7_strike_47 : decode cX7_strike 47 = .ok (.ldc_w 337, 3) := by decide +kernel
theorem dX7_strike_50 : decode cX7_strike 50 = .ok (.invokespecial 115, 3) := by decide +kernel
theorem dX7_strike_53 : decode cX7_strike 53 = .ok (.athrow, 1) := by decide +kernel
theorem dX7_strike_54 : decode cX7_strike 54 = .ok (.aload_n 0, 1) := by decide +kernel
theorem dX7_strike_55 : decode cX7_strike 55 = .ok (.getfield 19, 3) := by decide +kernel
theorem dX7_strike_58 : decode cX7_strike 58 = .ok (.invokevirtual 176, 3) := by decide +kernel
theorem dX7_strike_61 : decode cX7_strike 61 = .ok (.lstore_n 1, 1) := by decide +kernel
theorem dX7_strike_62 : decode cX7_strike 62 = .ok (.aload_n 0, 1) := by decide +kernel
theorem dX7_strike_63 : decode cX7_strike 63 = .ok (.iconst 0, 1) := by decide +kernel
theorem dX7_strike_64 : decode cX7_strike 64 = .ok (.putfield 61, 3) := by decide +kernel
theorem dX7_strike_67 : decode cX7_strike 67 = .ok (.aload_n 0, 1) := by decide +kernel
theorem dX7_strike_68 : decode cX7_strike 68 = .ok (.iconst 1, 1) := by decide +kernel
theorem dX7_strike_69 : decode cX7_strike 69 = .ok (.putfield 64, 3) := by decide +kernel
theorem dX7_strike_72 : decode cX7_strike 72 = .ok (.lload_n 1, 1) := by decide +kernel
theorem dX7_strike_73 : decode cX7_strike 73 = .ok (.lreturn, 1) := by decide +kernel
theorem dX7_load_0 : decode cX7_load 0 = .ok (.aload_n 0, 1) := by decide +kernel
theorem dX7_load_1 : decode cX7_load 1 = .ok (.getfield 10, 3) := by decide +kernel
theorem dX7_load_4 : decode cX7_load 4 = .ok (.iload_n 1, 1) := by decide +kernel
theorem dX7_load_5 : decode cX7_load 5 = .ok (.invokevirtual 148, 3) := by decide +kernel
theorem dX7_load_8 : decode cX7_load 8 = .ok (.ifCond .ne 13, 3) := by decide +kernel
theorem dX7_load_11 : decode cX7_load 11 = .ok (.new 123, 3) := by decide +kernel
theorem dX7_load_14 : decode cX7_load 14 = .ok (.dup, 1) := by decide +kernel
theorem dX7_load_15 : decode cX7_load 15 = .ok (.ldc 151, 2) := by decide +kernel
theorem dX7_load_17 : decode cX7_load 17 = .ok (.invokespecial 127, 3) := by decide +kernel
theorem dX7_load_20 : decode cX7_load 20 = .ok (.athrow, 1) := by decide +kernel
theorem dX7_load_21 : decode cX7_load 21 = .ok (.iload_n 2, 1) := by decide +kernel
theorem dX7_load_22 : decode cX7_load 22 = .ok (.iconst 0, 1) := by decide +kernel
theorem dX7_load_23 : decode cX7_load 23 = .ok (.sipush 20000, 3) := by decide +kernel
theorem dX7_load_26 : decode cX7_load 26 = .ok (.invokestatic 205, 3) := by decide +kernel
theorem dX7_load_29 : decode cX7_load 29 = .ok (.ifCond .ne 14, 3) := by decide +kernel
theorem dX7_load_32 : decode cX7_load 32 = .ok (.new 85, 3) := by decide +kernel
theorem dX7_load_35 : decode cX7_load 35 = .ok (.dup, 1) := by decide +kernel
theorem dX7_load_36 : decode cX7_load 36 = .ok (.ldc_w 339, 3) := by decide +kernel
theorem dX7_load_39 : decode cX7_load 39 = .ok (.invokespecial 89, 3) := by decide +kernel
theorem dX7_load_42 : decode cX7_load 42 = .ok (.athrow, 1) := by decide +kernel
theorem dX7_load_43 : decode cX7_load 43 = .ok (.aload_n 0, 1) := by decide +kernel
theorem dX7_load_44 : decode cX7_load 44 = .ok (.getfield 64, 3) := by decide +kernel
theorem dX7_load_47 : decode cX7_load 47 = .ok (.ifCond .ne 14, 3) := by decide +kernel
theorem dX7_load_50 : decode cX7_load 50 = .ok (.new 106, 3) := by decide +kernel
theorem dX7_load_53 : decode cX7_load 53 = .ok (.dup, 1) := by decide +kernel
theorem dX7_load_54 : decode cX7_load 54 = .ok (.ldc_w 341, 3) := by decide +kernel
theorem dX7_load_57 : decode cX7_load 57 = .ok (.invokespecial 110, 3) := by decide +kernel
theorem dX7_load_60 : decode cX7_load 60 = .ok (.athrow, 1) := by decide +kernel
theorem dX7_load_61 : decode cX7_load 61 = .ok (.iload_n 1, 1) := by decide +kernel
theorem dX7_load_62 : decode cX7_load 62 = .ok (.ifCond .lt 19, 3) := by decide +kernel
theorem dX7_load_65 : decode cX7_load 65 = .ok (.iload_n 1, 1) := by decide +kernel
theorem dX7_load_66 : decode cX7_load 66 = .ok (.aload_n 0, 1) := by decide +kernel
theorem dX7_load_67 : decode cX7_load 67 = .ok (.getfield 45, 3) := by decide +kernel
theorem dX7_load_70 : decode cX7_load 70 = .ok (.arraylength, 1) := by decide +kernel
theorem dX7_load_71 : decode cX7_load 71 = .ok (.if_icmp .ge 10, 3) := by decide +kernel
theorem dX7_load_74 : decode cX7_load 74 = .ok (.aload_n 0, 1) := by decide +kernel
theorem dX7_load_75 : decode cX7_load 75 = .ok (.getfield 45, 3) := by decide +kernel
theorem dX7_load_78 : decode cX7_load 78 = .ok (.iload_n 1, 1) := by decide +kernel
theorem dX7_load_79 : decode cX7_load 79 = .ok (.iload_n 2, 1) := by decide +kernel
theorem dX7_load_80 : decode cX7_load 80 = .ok (.iastore, 1) := by decide +kernel
theorem dX7_load_81 : decode cX7_load 81 = .ok (.aload_n 0, 1) := by decide +kernel
theorem dX7_load_82 : decode cX7_load 82 = .ok (.invokevirtual 334, 3) := by decide +kernel
theorem dX7_load_85 : decode cX7_load 85 = .ok (.ifCond .ne 7, 3) := by decide +kernel
theorem dX7_load_88 : decode cX7_load 88 = .ok (.aload_n 0, 1) := by decide +kernel
theorem dX7_load_89 : decode cX7_load 89 = .ok (.invokevirtual 343, 3) := by decide +kernel
theorem dX7_load_92 : decode cX7_load 92 = .ok (.aload_n 0, 1) := by decide +kernel
theorem dX7_load_93 : decode cX7_load 93 = .ok (.getfield 64, 3) := by decide +kernel
theorem dX7_load_96 : decode cX7_load 96 = .ok (.ireturn, 1) := by decide +kernel
theorem dX7_stands_0 : decode cX7_stands 0 = .ok (.aload_n 0, 1) := by decide +kernel
theorem dX7_stands_1 : decode cX7_stands 1 = .ok (.getfield 64, 3) := by decide +kernel
theorem dX7_stands_4 : decode cX7_stands 4 = .ok (.ireturn, 1) := by decide +kernel
theorem dX7_pass_0 : decode cX7_pass 0 = .ok (.iload_n 1, 1) := by decide +kernel
theorem dX7_pass_1 : decode cX7_pass 1 = .ok (.iconst 1, 1) := by decide +kernel
theorem dX7_pass_2 : decode cX7_pass 2 = .ok (.bipush 99, 2) := by decide +kernel
theorem dX7_pass_4 : decode cX7_pass 4 = .ok (.invokestatic 205, 3) := by decide +kernel
theorem dX7_pass_7 : decode cX7_pass 7 = .ok (.ifCond .ne 14, 3) := by decide +kernel
theorem dX7_pass_10 : decode cX7_pass 10 = .ok (.new 85, 3) := by decide +kernel
theorem dX7_pass_13 : decode cX7_pass 13 = .ok (.dup, 1) := by decide +kernel
theorem dX7_pass_14 : decode cX7_pass 14 = .ok (.ldc_w 346, 3) := by decide +kernel
theorem dX7_pass_17 : decode cX7_pass 17 = .ok (.invokespecial 89, 3) := by decide +kernel
theorem dX7_pass_20 : decode cX7_pass 20 = .ok (.athrow, 1) := by decide +kernel
theorem dX7_pass_21 : decode cX7_pass 21 = .ok (.aload_n 0, 1) := by decide +kernel
theorem dX7_pass_22 : decode cX7_pass 22 = .ok (.dup, 1) := by decide +kernel
theorem dX7_pass_23 : decode cX7_pass 23 = .ok (.getfield 68, 3) := by decide +kernel
theorem dX7_pass_26 : decode cX7_pass 26 = .ok (.iload_n 1, 1) := by decide +kernel
theorem dX7_pass_27 : decode cX7_pass 27 = .ok (.iadd, 1) := by decide +kernel
theorem dX7_pass_28 : decode cX7_pass 28 = .ok (.putfield 68, 3) := by decide +kernel
theorem dX7_pass_31 : decode cX7_pass 31 = .ok (.aload_n 0, 1) := by decide +kernel
theorem dX7_pass_32 : decode cX7_pass 32 = .ok (.getfield 68, 3) := by decide +kernel
theorem dX7_pass_35 : decode cX7_pass 35 = .ok (.ireturn, 1) := by decide +kernel
theorem dX7_stoneAt_0 : decode cX7_stoneAt 0 = .ok (.iload_n 1, 1) := by decide +kernel
theorem dX7_stoneAt_1 : decode cX7_stoneAt 1 = .ok (.ifCond .lt 29, 3) := by decide +kernel
theorem dX7_stoneAt_4 : decode cX7_stoneAt 4 = .ok (.iload_n 1, 1) := by decide +kernel
theorem dX7_stoneAt_5 : decode cX7_stoneAt 5 = .ok (.aload_n 0, 1) := by decide +kernel
theorem dX7_stoneAt_6 : decode cX7_stoneAt 6 = .ok (.getfield 58, 3) := by decide +kernel
theorem dX7_stoneAt_9 : decode cX7_stoneAt 9 = .ok (.if_icmp .ge 21, 3) := by decide +kernel
theorem dX7_stoneAt_12 : decode cX7_stoneAt 12 = .ok (.iload_n 1, 1) := by decide +kernel
theorem dX7_stoneAt_13 : decode cX7_stoneAt 13 = .ok (.aload_n 0, 1) := by decide +kernel
theorem dX7_stoneAt_14 : decode cX7_stoneAt 14 = .ok (.getfield 37, 3) := by decide +kernel
theorem dX7_stoneAt_17 : decode cX7_stoneAt 17 = .ok (.arraylength, 1) := by decide +kernel
theorem dX7_stoneAt_18 : decode cX7_stoneAt 18 = .ok (.if_icmp .ge 12, 3) := by decide +kernel
theorem dX7_stoneAt_21 : decode cX7_stoneAt 21 = .ok (.aload_n 0, 1) := by decide +kernel
theorem dX7_stoneAt_22 : decode cX7_stoneAt 22 = .ok (.getfield 37, 3) := by decide +kernel
theorem dX7_stoneAt_25 : decode cX7_stoneAt 25 = .ok (.iload_n 1, 1) := by decide +kernel
theorem dX7_stoneAt_26 : decode cX7_stoneAt 26 = .ok (.aaload, 1) := by decide +kernel
theorem dX7_stoneAt_27 : decode cX7_stoneAt 27 = .ok (.goto 4, 3) := by decide +kernel
theorem dX7_stoneAt_30 : decode cX7_stoneAt 30 = .ok (.aconst_null, 1) := by decide +kernel
theorem dX7_stoneAt_31 : decode cX7_stoneAt 31 = .ok (.areturn, 1) := by decide +kernel
theorem dX7_filledPlaces_0 : decode cX7_filledPlaces 0 = .ok (.iconst 0, 1) := by decide +kernel
theorem dX7_filledPlaces_1 : decode cX7_filledPlaces 1 = .ok (.istore_n 1, 1) := by decide +kernel
theorem dX7_filledPlaces_2 : decode cX7_filledPlaces 2 = .ok (.iconst 0, 1) := by decide +kernel
theorem dX7_filledPlaces_3 : decode cX7_filledPlaces 3 = .ok (.istore_n 2, 1) := by decide +kernel
theorem dX7_filledPlaces_4 : decode cX7_filledPlaces 4 = .ok (.iload_n 2, 1) := by decide +kernel
theorem dX7_filledPlaces_5 : decode cX7_filledPlaces 5 = .ok (.aload_n 0, 1) := by decide +kernel
theorem dX7_filledPlaces_6 : decode cX7_filledPlaces 6 = .ok (.getfield 41, 3) := by decide +kernel
theorem dX7_filledPlaces_9 : decode cX7_filledPlaces 9 = .ok (.arraylength, 1) := by decide +kernel
theorem dX7_filledPlaces_10 : decode cX7_filledPlaces 10 = .ok (.if_icmp .ge 22, 3) := by decide +kernel
theorem dX7_filledPlaces_13 : decode cX7_filledPlaces 13 = .ok (.aload_n 0, 1) := by decide +kernel
theorem dX7_filledPlaces_14 : decode cX7_filledPlaces 14 = .ok (.getfield 41, 3) := by decide +kernel
theorem dX7_filledPlaces_17 : decode cX7_filledPlaces 17 = .ok (.iload_n 2, 1) := by decide +kernel
theorem dX7_filledPlaces_18 : decode cX7_filledPlaces 18 = .ok (.iaload, 1) := by decide +kernel
theorem dX7_filledPlaces_19 : decode cX7_filledPlaces 19 = .ok (.iconst (-1), 1) := by decide +kernel
theorem dX7_filledPlaces_20 : decode cX7_filledPlaces 20 = .ok (.if_icmp .eq 6, 3) := by decide +kernel
theorem dX7_filledPlaces_23 : decode cX7_filledPlaces 23 = .ok (.iinc 1 1, 3) := by decide +kernel
theorem dX7_filledPlaces_26 : decode cX7_filledPlaces 26 = .ok (.iinc 2 1, 3) := by decide +kernel
theorem dX7_filledPlaces_29 : decode cX7_filledPlaces 29 = .ok (.goto (-25), 3) := by decide +kernel
theorem dX7_filledPlaces_32 : decode cX7_filledPlaces 32 = .ok (.iload_n 1, 1) := by decide +kernel
theorem dX7_filledPlaces_33 : decode cX7_filledPlaces 33 = .ok (.ireturn, 1) := by decide +kernel
theorem dX7_isWholeArchFilled_0 : decode cX7_isWholeArchFilled 0 = .ok (.aload_n 0, 1) := by decide +kernel
theorem dX7_isWholeArchFilled_1 : decode cX7_isWholeArchFilled 1 = .ok (.getfield 10, 3) := by decide +kernel
theorem dX7_isWholeArchFilled_4 : decode cX7_isWholeArchFilled 4 = .ok (.invokevirtual 145, 3) := by decide +kernel
theorem dX7_isWholeArchFilled_7 : decode cX7_isWholeArchFilled 7 = .ok (.ifCond .le 21, 3) := by decide +kernel
theorem dX7_isWholeArchFilled_10 : decode cX7_isWholeArchFilled 10 = .ok (.aload_n 0, 1) := by decide +kernel
theorem dX7_isWholeArchFilled_11 : decode cX7_isWholeArchFilled 11 = .ok (.invokevirtual 102, 3) := by decide +kernel
theorem dX7_isWholeArchFilled_14 : decode cX7_isWholeArchFilled 14 = .ok (.aload_n 0, 1) := by decide +kernel
theorem dX7_isWholeArchFilled_15 : decode cX7_isWholeArchFilled 15 = .ok (.getfield 10, 3) := by decide +kernel
theorem dX7_isWholeArchFilled_18 : decode cX7_isWholeArchFilled 18 = .ok (.invokevirtual 145, 3) := by decide +kernel
theorem dX7_isWholeArchFilled_21 : decode cX7_isWholeArchFilled 21 = .ok (.if_icmp .ne 7, 3) := by decide +kernel
theorem dX7_isWholeArchFilled_24 : decode cX7_isWholeArchFilled 24 = .ok (.iconst 1, 1) := by decide +kernel
theorem dX7_isWholeArchFilled_25 : decode cX7_isWholeArchFilled 25 = .ok (.goto 4, 3) := by decide +kernel
theorem dX7_isWholeArchFilled_28 : decode cX7_isWholeArchFilled 28 = .ok (.iconst 0, 1) := by decide +kernel
theorem dX7_isWholeArchFilled_29 : decode cX7_isWholeArchFilled 29 = .ok (.ireturn, 1) := by decide +kernel
theorem dX7_spent_0 : decode cX7_spent 0 = .ok (.aload_n 0, 1) := by decide +kernel
theorem dX7_spent_1 : decode cX7_spent 1 = .ok (.getfield 74, 3) := by decide +kernel
theorem dX7_spent_4 : decode cX7_spent 4 = .ok (.lreturn, 1) := by decide +kernel
theorem dX7_waste_0 : decode cX7_waste 0 = .ok (.aload_n 0, 1) := by decide +kernel
theorem dX7_waste_1 : decode cX7_waste 1 = .ok (.invokevirtual 351, 3) := by decide +kernel
theorem dX7_waste_4 : decode cX7_waste 4 = .ok (.aload_n 0, 1) := by decide +kernel
theorem dX7_waste_5 : decode cX7_waste 5 = .ok (.invokevirtual 354, 3) := by decide +kernel
theorem dX7_waste_8 : decode cX7_waste 8 = .ok (.isub, 1) := by decide +kernel
theorem dX7_waste_9 : decode cX7_waste 9 = .ok (.ireturn, 1) := by decide +kernel
theorem dX7_usedShare_0 : decode cX7_usedShare 0 = .ok (.aload_n 0, 1) := by decide +kernel
theorem dX7_usedShare_1 : decode cX7_usedShare 1 = .ok (.invokevirtual 351, 3) := by decide +kernel
theorem dX7_usedShare_4 : decode cX7_usedShare 4 = .ok (.istore_n 1, 1) := by decide +kernel
theorem dX7_usedShare_5 : decode cX7_usedShare 5 = .ok (.iload_n 1, 1) := by decide +kernel
theorem dX7_usedShare_6 : decode cX7_usedShare 6 = .ok (.ifCond .gt 14, 3) := by decide +kernel
theorem dX7_usedShare_9 : decode cX7_usedShare 9 = .ok (.new 357, 3) := by decide +kernel
theorem dX7_usedShare_12 : decode cX7_usedShare 12 = .ok (.dup, 1) := by decide +kernel
theorem dX7_usedShare_13 : decode cX7_usedShare 13 = .ok (.ldc_w 359, 3) := by decide +kernel
theorem dX7_usedShare_16 : decode cX7_usedShare 16 = .ok (.invokespecial 361, 3) := by decide +kernel
theorem dX7_usedShare_19 : decode cX7_usedShare 19 = .ok (.athrow, 1) := by decide +kernel
theorem dX7_usedShare_20 : decode cX7_usedShare 20 = .ok (.aload_n 0, 1) := by decide +kernel
theorem dX7_usedShare_21 : decode cX7_usedShare 21 = .ok (.invokevirtual 354, 3) := by decide +kernel
theorem dX7_usedShare_24 : decode cX7_usedShare 24 = .ok (.i2f, 1) := by decide +kernel
theorem dX7_usedShare_25 : decode cX7_usedShare 25 = .ok (.iload_n 1, 1) := by decide +kernel
theorem dX7_usedShare_26 : decode cX7_usedShare 26 = .ok (.i2f, 1) := by decide +kernel
theorem dX7_usedShare_27 : decode cX7_usedShare 27 = .ok (.fdiv, 1) := by decide +kernel
theorem dX7_usedShare_28 : decode cX7_usedShare 28 = .ok (.freturn, 1) := by decide +kernel
theorem dX7_meanArea_0 : decode cX7_meanArea 0 = .ok (.aload_n 0, 1) := by decide +kernel
theorem dX7_meanArea_1 : decode cX7_meanArea 1 = .ok (.getfield 10, 3) := by decide +kernel
theorem dX7_meanArea_4 : decode cX7_meanArea 4 = .ok (.invokevirtual 145, 3) := by decide +kernel
theorem dX7_meanArea_7 : decode cX7_meanArea 7 = .ok (.istore_n 1, 1) := by decide +kernel
theorem dX7_meanArea_8 : decode cX7_meanArea 8 = .ok (.iload_n 1, 1) := by decide +kernel
theorem dX7_meanArea_9 : decode cX7_meanArea 9 = .ok (.ifCond .gt 14, 3) := by decide +kernel
theorem dX7_meanArea_12 : decode cX7_meanArea 12 = .ok (.new 357, 3) := by decide +kernel
theorem dX7_meanArea_15 : decode cX7_meanArea 15 = .ok (.dup, 1) := by decide +kernel
theorem dX7_meanArea_16 : decode cX7_meanArea 16 = .ok (.ldc_w 362, 3) := by decide +kernel
theorem dX7_meanArea_19 : decode cX7_meanArea 19 = .ok (.invokespecial 361, 3) := by decide +kernel
theorem dX7_meanArea_22 : decode cX7_meanArea 22 = .ok (.athrow, 1) := by decide +kernel
theorem dX7_meanArea_23 : decode cX7_meanArea 23 = .ok (.aload_n 0, 1) := by decide +kernel
theorem dX7_meanArea_24 : decode cX7_meanArea 24 = .ok (.getfield 10, 3) := by decide +kernel
theorem dX7_meanArea_27 : decode cX7_meanArea 27 = .ok (.invokevirtual 364, 3) := by decide +kernel
theorem dX7_meanArea_30 : decode cX7_meanArea 30 = .ok (.i2d, 1) := by decide +kernel
theorem dX7_meanArea_31 : decode cX7_meanArea 31 = .ok (.iload_n 1, 1) := by decide +kernel
theorem dX7_meanArea_32 : decode cX7_meanArea 32 = .ok (.i2d, 1) := by decide +kernel
theorem dX7_meanArea_33 : decode cX7_meanArea 33 = .ok (.ddiv, 1) := by decide +kernel
theorem dX7_meanArea_34 : decode cX7_meanArea 34 = .ok (.dreturn, 1) := by decide +kernel
theorem dX7_isSound_0 : decode cX7_isSound 0 = .ok (.aload_n 0, 1) := by decide +kernel
theorem dX7_isSound_1 : decode cX7_isSound 1 = .ok (.getfield 10, 3) := by decide +kernel
theorem dX7_isSound_4 : decode cX7_isSound 4 = .ok (.invokevirtual 364, 3) := by decide +kernel
theorem dX7_isSound_7 : decode cX7_isSound 7 = .ok (.aload_n 0, 1) := by decide +kernel
theorem dX7_isSound_8 : decode cX7_isSound 8 = .ok (.getfield 10, 3) := by decide +kernel
theorem dX7_isSound_11 : decode cX7_isSound 11 = .ok (.invokevirtual 367, 3) := by decide +kernel
theorem dX7_isSound_14 : decode cX7_isSound 14 = .ok (.if_icmp .ne 28, 3) := by decide +kernel
theorem dX7_isSound_17 : decode cX7_isSound 17 = .ok (.aload_n 0, 1) := by decide +kernel
theorem dX7_isSound_18 : decode cX7_isSound 18 = .ok (.invokevirtual 370, 3) := by decide +kernel
theorem dX7_isSound_21 : decode cX7_isSound 21 = .ok (.ifCond .eq 21, 3) := by decide +kernel
theorem dX7_isSound_24 : decode cX7_isSound 24 = .ok (.aload_n 0, 1) := by decide +kernel
theorem dX7_isSound_25 : decode cX7_isSound 25 = .ok (.getfield 64, 3) := by decide +kernel
theorem dX7_isSound_28 : decode cX7_isSound 28 = .ok (.ifCond .eq 10, 3) := by decide +kernel
theorem dX7_isSound_31 : decode cX7_isSound 31 = .ok (.aload_n 0, 1) := by decide +kernel
theorem dX7_isSound_32 : decode cX7_isSound 32 = .ok (.invokevirtual 334, 3) := by decide +kernel
theorem dX7_isSound_35 : decode cX7_isSound 35 = .ok (.ifCond .eq 7, 3) := by decide +kernel
theorem dX7_isSound_38 : decode cX7_isSound 38 = .ok (.iconst 1, 1) := by decide +kernel
theorem dX7_isSound_39 : decode cX7_isSound 39 = .ok (.goto 4, 3) := by decide +kernel
theorem dX7_isSound_42 : decode cX7_isSound 42 = .ok (.iconst 0, 1) := by decide +kernel
theorem dX7_isSound_43 : decode cX7_isSound 43 = .ok (.ireturn, 1) := by decide +kernel
theorem dX7_areaOfUsedBlocks_0 : decode cX7_areaOfUsedBlocks 0 = .ok (.iconst 0, 1) := by decide +kernel
theorem dX7_areaOfUsedBlocks_1 : decode cX7_areaOfUsedBlocks 1 = .ok (.istore_n 1, 1) := by decide +kernel
theorem dX7_areaOfUsedBlocks_2 : decode cX7_areaOfUsedBlocks 2 = .ok (.iconst 0, 1) := by decide +kernel
theorem dX7_areaOfUsedBlocks_3 : decode cX7_areaOfUsedBlocks 3 = .ok (.istore_n 2, 1) := by decide +kernel
theorem dX7_areaOfUsedBlocks_4 : decode cX7_areaOfUsedBlocks 4 = .ok (.iload_n 2, 1) := by decide +kernel
theorem dX7_areaOfUsedBlocks_5 : decode cX7_areaOfUsedBlocks 5 = .ok (.aload_n 0, 1) := by decide +kernel
theorem dX7_areaOfUsedBlocks_6 : decode cX7_areaOfUsedBlocks 6 = .ok (.getfield 58, 3) := by decide +kernel
theorem dX7_areaOfUsedBlocks_9 : decode cX7_areaOfUsedBlocks 9 = .ok (.if_icmp .ge 26, 3) := by decide +kernel
theorem dX7_areaOfUsedBlocks_12 : decode cX7_areaOfUsedBlocks 12 = .ok (.aload_n 0, 1) := by decide +kernel
theorem dX7_areaOfUsedBlocks_13 : decode cX7_areaOfUsedBlocks 13 = .ok (.iload_n 2, 1) := by decide +kernel
theorem dX7_areaOfUsedBlocks_14 : decode cX7_areaOfUsedBlocks 14 = .ok (.invokevirtual 269, 3) := by decide +kernel
theorem dX7_areaOfUsedBlocks_17 : decode cX7_areaOfUsedBlocks 17 = .ok (.astore_n 3, 1) := by decide +kernel
theorem dX7_areaOfUsedBlocks_18 : decode cX7_areaOfUsedBlocks 18 = .ok (.aload_n 3, 1) := by decide +kernel
theorem dX7_areaOfUsedBlocks_19 : decode cX7_areaOfUsedBlocks 19 = .ok (.ifnull 10, 3) := by decide +kernel
theorem dX7_areaOfUsedBlocks_22 : decode cX7_areaOfUsedBlocks 22 = .ok (.iload_n 1, 1) := by decide +kernel
theorem dX7_areaOfUsedBlocks_23 : decode cX7_areaOfUsedBlocks 23 = .ok (.aload_n 3, 1) := by decide +kernel
theorem dX7_areaOfUsedBlocks_24 : decode cX7_areaOfUsedBlocks 24 = .ok (.getfield 373, 3) := by decide +kernel
theorem dX7_areaOfUsedBlocks_27 : decode cX7_areaOfUsedBlocks 27 = .ok (.iadd, 1) := by decide +kernel
theorem dX7_areaOfUsedBlocks_28 : decode cX7_areaOfUsedBlocks 28 = .ok (.istore_n 1, 1) := by decide +kernel
theorem dX7_areaOfUsedBlocks_29 : decode cX7_areaOfUsedBlocks 29 = .ok (.iinc 2 1, 3) := by decide +kernel
theorem dX7_areaOfUsedBlocks_32 : decode cX7_areaOfUsedBlocks 32 = .ok (.goto (-28), 3) := by decide +kernel
theorem dX7_areaOfUsedBlocks_35 : decode cX7_areaOfUsedBlocks 35 = .ok (.iload_n 1, 1) := by decide +kernel
theorem dX7_areaOfUsedBlocks_36 : decode cX7_areaOfUsedBlocks 36 = .ok (.ireturn, 1) := by decide +kernel
theorem dX7_areaOfStones_0 : decode cX7_areaOfStones 0 = .ok (.iconst 0, 1) := by decide +kernel
theorem dX7_areaOfStones_1 : decode cX7_areaOfStones 1 = .ok (.istore_n 1, 1) := by decide +kernel
theorem dX7_areaOfStones_2 : decode cX7_areaOfStones 2 = .ok (.iconst 0, 1) := by decide +kernel
theorem dX7_areaOfStones_3 : decode cX7_areaOfStones 3 = .ok (.istore_n 2, 1) := by decide +kernel
theorem dX7_areaOfStones_4 : decode cX7_areaOfStones 4 = .ok (.iload_n 2, 1) := by decide +kernel
theorem dX7_areaOfStones_5 : decode cX7_areaOfStones 5 = .ok (.aload_n 0, 1) := by decide +kernel
theorem dX7_areaOfStones_6 : decode cX7_areaOfStones 6 = .ok (.getfield 58, 3) := by decide +kernel
theorem dX7_areaOfStones_9 : decode cX7_areaOfStones 9 = .ok (.if_icmp .ge 29, 3) := by decide +kernel
theorem dX7_areaOfStones_12 : decode cX7_areaOfStones 12 = .ok (.aload_n 0, 1) := by decide +kernel
theorem dX7_areaOfStones_13 : decode cX7_areaOfStones 13 = .ok (.iload_n 2, 1) := by decide +kernel
theorem dX7_areaOfStones_14 : decode cX7_areaOfStones 14 = .ok (.invokevirtual 269, 3) := by decide +kernel
theorem dX7_areaOfStones_17 : decode cX7_areaOfStones 17 = .ok (.astore_n 3, 1) := by decide +kernel
theorem dX7_areaOfStones_18 : decode cX7_areaOfStones 18 = .ok (.aload_n 3, 1) := by decide +kernel
theorem dX7_areaOfStones_19 : decode cX7_areaOfStones 19 = .ok (.ifnull 13, 3) := by decide +kernel
theorem dX7_areaOfStones_22 : decode cX7_areaOfStones 22 = .ok (.iload_n 1, 1) := by decide +kernel
theorem dX7_areaOfStones_23 : decode cX7_areaOfStones 23 = .ok (.aload_n 3, 1) := by decide +kernel
theorem dX7_areaOfStones_24 : decode cX7_areaOfStones 24 = .ok (.getfield 298, 3) := by decide +kernel
theorem dX7_areaOfStones_27 : decode cX7_areaOfStones 27 = .ok (.invokevirtual 250, 3) := by decide +kernel
theorem dX7_areaOfStones_30 : decode cX7_areaOfStones 30 = .ok (.iadd, 1) := by decide +kernel
theorem dX7_areaOfStones_31 : decode cX7_areaOfStones 31 = .ok (.istore_n 1, 1) := by decide +kernel
theorem dX7_areaOfStones_32 : decode cX7_areaOfStones 32 = .ok (.iinc 2 1, 3) := by decide +kernel
theorem dX7_areaOfStones_35 : decode cX7_areaOfStones 35 = .ok (.goto (-31), 3) := by decide +kernel
theorem dX7_areaOfStones_38 : decode cX7_areaOfStones 38 = .ok (.iload_n 1, 1) := by decide +kernel
theorem dX7_areaOfStones_39 : decode cX7_areaOfStones 39 = .ok (.ireturn, 1) := by decide +kernel
theorem dX7_areSetStonesFitting_0 : decode cX7_areSetStonesFitting 0 = .ok (.iconst 0, 1) := by decide +kernel
theorem dX7_areSetStonesFitting_1 : decode cX7_areSetStonesFitting 1 = .ok (.istore_n 1, 1) := by decide +kernel
theorem dX7_areSetStonesFitting_2 : decode cX7_areSetStonesFitting 2 = .ok (.iload_n 1, 1) := by decide +kernel
theorem dX7_areSetStonesFitting_3 : decode cX7_areSetStonesFitting 3 = .ok (.aload_n 0, 1) := by decide +kernel
theorem dX7_areSetStonesFitting_4 : decode cX7_areSetStonesFitting 4 = .ok (.getfield 10, 3) := by decide +kernel
theorem dX7_areSetStonesFitting_7 : decode cX7_areSetStonesFitting 7 = .ok (.invokevirtual 145, 3) := by decide +kernel
theorem dX7_areSetStonesFitting_10 : decode cX7_areSetStonesFitting 10 = .ok (.if_icmp .ge 49, 3) := by decide +kernel
theorem dX7_areSetStonesFitting_13 : decode cX7_areSetStonesFitting 13 = .ok (.aload_n 0, 1) := by decide +kernel
theorem dX7_areSetStonesFitting_14 : decode cX7_areSetStonesFitting 14 = .ok (.aload_n 0, 1) := by decide +kernel
theorem dX7_areSetStonesFitting_15 : decode cX7_areSetStonesFitting 15 = .ok (.iload_n 1, 1) := by decide +kernel
theorem dX7_areSetStonesFitting_16 : decode cX7_areSetStonesFitting 16 = .ok (.invokevirtual 327, 3) := by decide +kernel
theorem dX7_areSetStonesFitting_19 : decode cX7_areSetStonesFitting 19 = .ok (.invokevirtual 269, 3) := by decide +kernel
theorem dX7_areSetStonesFitting_22 : decode cX7_areSetStonesFitting 22 = .ok (.astore_n 2, 1) := by decide +kernel
theorem dX7_areSetStonesFitting_23 : decode cX7_areSetStonesFitting 23 = .ok (.aload_n 0, 1) := by decide +kernel
theorem dX7_areSetStonesFitting_24 : decode cX7_areSetStonesFitting 24 = .ok (.getfield 10, 3) := by decide +kernel
theorem dX7_areSetStonesFitting_27 : decode cX7_areSetStonesFitting 27 = .ok (.iload_n 1, 1) := by decide +kernel
theorem dX7_areSetStonesFitting_28 : decode cX7_areSetStonesFitting 28 = .ok (.invokevirtual 222, 3) := by decide +kernel
theorem dX7_areSetStonesFitting_31 : decode cX7_areSetStonesFitting 31 = .ok (.astore_n 3, 1) := by decide +kernel
theorem dX7_areSetStonesFitting_32 : decode cX7_areSetStonesFitting 32 = .ok (.aload_n 2, 1) := by decide +kernel
theorem dX7_areSetStonesFitting_33 : decode cX7_areSetStonesFitting 33 = .ok (.ifnull 20, 3) := by decide +kernel
theorem dX7_areSetStonesFitting_36 : decode cX7_areSetStonesFitting 36 = .ok (.aload_n 3, 1) := by decide +kernel
theorem dX7_areSetStonesFitting_37 : decode cX7_areSetStonesFitting 37 = .ok (.ifnull 16, 3) := by decide +kernel
theorem dX7_areSetStonesFitting_40 : decode cX7_areSetStonesFitting 40 = .ok (.aload_n 2, 1) := by decide +kernel
theorem dX7_areSetStonesFitting_41 : decode cX7_areSetStonesFitting 41 = .ok (.getfield 298, 3) := by decide +kernel
theorem dX7_areSetStonesFitting_44 : decode cX7_areSetStonesFitting 44 = .ok (.aload_n 3, 1) := by decide +kernel
theorem dX7_areSetStonesFitting_45 : decode cX7_areSetStonesFitting 45 = .ok (.invokevirtual 302, 3) := by decide +kernel
theorem dX7_areSetStonesFitting_48 : decode cX7_areSetStonesFitting 48 = .ok (.ifCond .ne 5, 3) := by decide +kernel
theorem dX7_areSetStonesFitting_51 : decode cX7_areSetStonesFitting 51 = .ok (.iconst 0, 1) := by decide +kernel
theorem dX7_areSetStonesFitting_52 : decode cX7_areSetStonesFitting 52 = .ok (.ireturn, 1) := by decide +kernel
theorem dX7_areSetStonesFitting_53 : decode cX7_areSetStonesFitting 53 = .ok (.iinc 1 1, 3) := by decide +kernel
theorem dX7_areSetStonesFitting_56 : decode cX7_areSetStonesFitting 56 = .ok (.goto (-54), 3) := by decide +kernel
theorem dX7_areSetStonesFitting_59 : decode cX7_areSetStonesFitting 59 = .ok (.iconst 1, 1) := by decide +kernel
theorem dX7_areSetStonesFitting_60 : decode cX7_areSetStonesFitting 60 = .ok (.ireturn, 1) := by decide +kernel
theorem dX8_init_0 : decode cX8_init 0 = .ok (.aload_n 0, 1) := by decide +kernel
theorem dX8_init_1 : decode cX8_init 1 = .ok (.invokespecial 1, 3) := by decide +kernel
theorem dX8_init_4 : decode cX8_init 4 = .ok (.aload_n 0, 1) := by decide +kernel
theorem dX8_init_5 : decode cX8_init 5 = .ok (.iload_n 1, 1) := by decide +kernel
theorem dX8_init_6 : decode cX8_init 6 = .ok (.putfield 7, 3) := by decide +kernel
theorem dX8_init_9 : decode cX8_init 9 = .ok (.aload_n 0, 1) := by decide +kernel
theorem dX8_init_10 : decode cX8_init 10 = .ok (.iload_n 2, 1) := by decide +kernel
theorem dX8_init_11 : decode cX8_init 11 = .ok (.putfield 13, 3) := by decide +kernel
theorem dX8_init_14 : decode cX8_init 14 = .ok (.aload_n 0, 1) := by decide +kernel
theorem dX8_init_15 : decode cX8_init 15 = .ok (.iload_n 3, 1) := by decide +kernel
theorem dX8_init_16 : decode cX8_init 16 = .ok (.putfield 16, 3) := by decide +kernel
theorem dX8_init_19 : decode cX8_init 19 = .ok (.aload_n 0, 1) := by decide +kernel
theorem dX8_init_20 : decode cX8_init 20 = .ok (.iload 4, 2) := by decide +kernel
theorem dX8_init_22 : decode cX8_init 22 = .ok (.putfield 19, 3) := by decide +kernel
theorem dX8_init_25 : decode cX8_init 25 = .ok (.aload_n 0, 1) := by decide +kernel
theorem dX8_init_26 : decode cX8_init 26 = .ok (.iload 5, 2) := by decide +kernel
theorem dX8_init_28 : decode cX8_init 28 = .ok (.putfield 22, 3) := by decide +kernel
theorem dX8_init_31 : decode cX8_init 31 = .ok (.return_, 1) := by decide +kernel
theorem dX9_init_0 : decode cX9_init 0 = .ok (.aload_n 0, 1) := by decide +kernel
theorem dX9_init_1 : decode cX9_init 1 = .ok (.invokespecial 1, 3) := by decide +kernel
theorem dX9_init_4 : decode cX9_init 4 = .ok (.aload_n 0, 1) := by decide +kernel
theorem dX9_init_5 : decode cX9_init 5 = .ok (.iconst 0, 1) := by decide +kernel
theorem dX9_init_6 : decode cX9_init 6 = .ok (.putfield 7, 3) := by decide +kernel
theorem dX9_init_9 : decode cX9_init 9 = .ok (.aload_n 0, 1) := by decide +kernel
theorem dX9_init_10 : decode cX9_init 10 = .ok (.iconst 0, 1) := by decide +kernel
theorem dX9_init_11 : decode cX9_init 11 = .ok (.putfield 13, 3) := by decide +kernel
theorem dX9_init_14 : decode cX9_init 14 = .ok (.aload_n 0, 1) := by decide +kernel
theorem dX9_init_15 : decode cX9_init 15 = .ok (.iload_n 1, 1) := by decide +kernel
theorem dX9_init_16 : decode cX9_init 16 = .ok (.putfield 16, 3) := by decide +kernel
theorem dX9_init_19 : decode cX9_init 19 = .ok (.aload_n 0, 1) := by decide +kernel
theorem dX9_init_20 : decode cX9_init 20 = .ok (.iload_n 2, 1) := by decide +kernel
theorem dX9_init_21 : decode cX9_init 21 = .ok (.putfield 19, 3) := by decide +kernel
theorem dX9_init_24 : decode cX9_init 24 = .ok (.return_, 1) := by decide +kernel
theorem dX11_init_0 : decode cX11_init 0 = .ok (.aload_n 0, 1) := by decide +kernel
theorem dX11_init_1 : decode cX11_init 1 = .ok (.invokespecial 1, 3) := by decide +kernel
theorem dX11_init_4 : decode cX11_init 4 = .ok (.aload_n 0, 1) := by decide +kernel
theorem dX11_init_5 : decode cX11_init 5 = .ok (.new 7, 3) := by decide +kernel
theorem dX11_init_8 : decode cX11_init 8 = .ok (.dup, 1) := by decide +kernel
theorem dX11_init_9 : decode cX11_init 9 = .ok (.invokespecial 9, 3) := by decide +kernel
theorem dX11_init_12 : decode cX11_init 12 = .ok (.putfield 10, 3) := by decide +kernel
theorem dX11_init_15 : decode cX11_init 15 = .ok (.aload_n 0, 1) := by decide +kernel
theorem dX11_init_16 : decode cX11_init 16 = .ok (.new 7, 3) := by decide +kernel
theorem dX11_init_19 : decode cX11_init 19 = .ok (.dup, 1) := by decide +kernel
theorem dX11_init_20 : decode cX11_init 20 = .ok (.invokespecial 9, 3) := by decide +kernel
theorem dX11_init_23 : decode cX11_init 23 = .ok (.putfield 16, 3) := by decide +kernel
theorem dX11_init_26 : decode cX11_init 26 = .ok (.aload_n 0, 1) := by decide +kernel
theorem dX11_init_27 : decode cX11_init 27 = .ok (.new 7, 3) := by decide +kernel
theorem dX11_init_30 : decode cX11_init 30 = .ok (.dup, 1) := by decide +kernel
theorem dX11_init_31 : decode cX11_init 31 = .ok (.invokespecial 9, 3) := by decide +kernel
theorem dX11_init_34 : decode cX11_init 34 = .ok (.putfield 19, 3) := by decide +kernel
theorem dX11_init_37 : decode cX11_init 37 = .ok (.aload_n 0, 1) := by decide +kernel
theorem dX11_init_38 : decode cX11_init 38 = .ok (.new 7, 3) := by decide +kernel
theorem dX11_init_41 : decode cX11_init 41 = .ok (.dup, 1) := by decide +kernel
theorem dX11_init_42 : decode cX11_init 42 = .ok (.invokespecial 9, 3) := by decide +kernel
theorem dX11_init_45 : decode cX11_init 45 = .ok (.putfield 22, 3) := by decide +kernel
theorem dX11_init_48 : decode cX11_init 48 = .ok (.aload_n 0, 1) := by decide +kernel
theorem dX11_init_49 : decode cX11_init 49 = .ok (.bipush 7, 2) := by decide +kernel
theorem dX11_init_51 : decode cX11_init 51 = .ok (.newarray .int, 2) := by decide +kernel
theorem dX11_init_53 : decode cX11_init 53 = .ok (.dup, 1) := by decide +kernel
theorem dX11_init_54 : decode cX11_init 54 = .ok (.iconst 0, 1) := by decide +kernel
theorem dX11_init_55 : decode cX11_init 55 = .ok (.iconst (-1), 1) := by decide +kernel
theorem dX11_init_56 : decode cX11_init 56 = .ok (.iastore, 1) := by decide +kernel
theorem dX11_init_57 : decode cX11_init 57 = .ok (.dup, 1) := by decide +kernel
theorem dX11_init_58 : decode cX11_init 58 = .ok (.iconst 1, 1) := by decide +kernel
theorem dX11_init_59 : decode cX11_init 59 = .ok (.iconst (-1), 1) := by decide +kernel
theorem dX11_init_60 : decode cX11_init 60 = .ok (.iastore, 1) := by decide +kernel
theorem dX11_init_61 : decode cX11_init 61 = .ok (.dup, 1) := by decide +kernel
theorem dX11_init_62 : decode cX11_init 62 = .ok (.iconst 2, 1) := by decide +kernel
theorem dX11_init_63 : decode cX11_init 63 = .ok (.iconst (-1), 1) := by decide +kernel
theorem dX11_init_64 : decode cX11_init 64 = .ok (.iastore, 1) := by decide +kernel
theorem dX11_init_65 : decode cX11_init 65 = .ok (.dup, 1) := by decide +kernel
theorem dX11_init_66 : decode cX11_init 66 = .ok (.iconst 3, 1) := by decide +kernel
theorem dX11_init_67 : decode cX11_init 67 = .ok (.iconst (-1), 1) := by decide +kernel
theorem dX11_init_68 : decode cX11_init 68 = .ok (.iastore, 1) := by decide +kernel
theorem dX11_init_69 : decode cX11_init 69 = .ok (.dup, 1) := by decide +kernel
theorem dX11_init_70 : decode cX11_init 70 = .ok (.iconst 4, 1) := by decide +kernel
theorem dX11_init_71 : decode cX11_init 71 = .ok (.iconst (-1), 1) := by decide +kernel
theorem dX11_init_72 : decode cX11_init 72 = .ok (.iastore, 1) := by decide +kernel
theorem dX11_init_73 : decode cX11_init 73 = .ok (.dup, 1) := by decide +kernel
theorem dX11_init_74 : decode cX11_init 74 = .ok (.iconst 5, 1) := by decide +kernel
theorem dX11_init_75 : decode cX11_init 75 = .ok (.iconst (-1), 1) := by decide +kernel
theorem dX11_init_76 : decode cX11_init 76 = .ok (.iastore, 1) := by decide +kernel
theorem dX11_init_77 : decode cX11_init 77 = .ok (.dup, 1) := by decide +kernel
theorem dX11_init_78 : decode cX11_init 78 = .ok (.bipush 6, 2) := by decide +kernel
theorem dX11_init_80 : decode cX11_init 80 = .ok (.iconst (-1), 1) := by decide +kernel
theorem dX11_init_81 : decode cX11_init 81 = .ok (.iastore, 1) := by decide +kernel
theorem dX11_init_82 : decode cX11_init 82 = .ok (.putfield 25, 3) := by decide +kernel
theorem dX11_init_85 : decode cX11_init 85 = .ok (.aload_n 0, 1) := by decide +kernel
theorem dX11_init_86 : decode cX11_init 86 = .ok (.bipush 7, 2) := by decide +kernel
theorem dX11_init_88 : decode cX11_init 88 = .ok (.newarray .int, 2) := by decide +kernel
theorem dX11_init_90 : decode cX11_init 90 = .ok (.putfield 29, 3) := by decide +kernel
theorem dX11_init_93 : decode cX11_init 93 = .ok (.aload_n 0, 1) := by decide +kernel
theorem dX11_init_94 : decode cX11_init 94 = .ok (.iconst 1, 1) := by decide +kernel
theorem dX11_init_95 : decode cX11_init 95 = .ok (.putfield 32, 3) := by decide +kernel
theorem dX11_init_98 : decode cX11_init 98 = .ok (.aload_n 0, 1) := by decide +kernel
theorem dX11_init_99 : decode cX11_init 99 = .ok (.iconst (-1), 1) := by decide +kernel
theorem dX11_init_100 : decode cX11_init 100 = .ok (.putfield 36, 3) := by decide +kernel
theorem dX11_init_103 : decode cX11_init 103 = .ok (.return_, 1) := by decide +kernel
theorem dX11_thrown_0 : decode cX11_thrown 0 = .ok (.aload_n 0, 1) := by decide +kernel
theorem dX11_thrown_1 : decode cX11_thrown 1 = .ok (.getfield 39, 3) := by decide +kernel
theorem dX11_thrown_4 : decode cX11_thrown 4 = .ok (.ireturn, 1) := by decide +kernel
theorem dX11_refuse_0 : decode cX11_refuse 0 = .ok (.aload_n 0, 1) := by decide +kernel
theorem dX11_refuse_1 : decode cX11_refuse 1 = .ok (.iload_n 1, 1) := by decide +kernel
theorem dX11_refuse_2 : decode cX11_refuse 2 = .ok (.putfield 39, 3) := by decide +kernel
theorem dX11_refuse_5 : decode cX11_refuse 5 = .ok (.iconst 0, 1) := by decide +kernel
theorem dX11_refuse_6 : decode cX11_refuse 6 = .ok (.ireturn, 1) := by decide +kernel
theorem dX11_isIn_0 : decode cX11_isIn 0 = .ok (.lload_n 0, 1) := by decide +kernel
theorem dX11_isIn_1 : decode cX11_isIn 1 = .ok (.lload_n 2, 1) := by decide +kernel
theorem dX11_isIn_2 : decode cX11_isIn 2 = .ok (.lcmp, 1) := by decide +kernel
theorem dX11_isIn_3 : decode cX11_isIn 3 = .ok (.ifCond .lt 14, 3) := by decide +kernel
theorem dX11_isIn_6 : decode cX11_isIn 6 = .ok (.lload_n 0, 1) := by decide +kernel
theorem dX11_isIn_7 : decode cX11_isIn 7 = .ok (.lload 4, 2) := by decide +kernel
theorem dX11_isIn_9 : decode cX11_isIn 9 = .ok (.lcmp, 1) := by decide +kernel
theorem dX11_isIn_10 : decode cX11_isIn 10 = .ok (.ifCond .gt 7, 3) := by decide +kernel
theorem dX11_isIn_13 : decode cX11_isIn 13 = .ok (.iconst 1, 1) := by decide +kernel
theorem dX11_isIn_14 : decode cX11_isIn 14 = .ok (.goto 4, 3) := by decide +kernel
theorem dX11_isIn_17 : decode cX11_isIn 17 = .ok (.iconst 0, 1) := by decide +kernel
theorem dX11_isIn_18 : decode cX11_isIn 18 = .ok (.ireturn, 1) := by decide +kernel
theorem dX11_no_0 : decode cX11_no 0 = .ok (.aload_n 0, 1) := by decide +kernel
theorem dX11_no_1 : decode cX11_no 1 = .ok (.iload_n 1, 1) := by decide +kernel
theorem dX11_no_2 : decode cX11_no 2 = .ok (.ifCond .eq 7, 3) := by decide +kernel
theorem dX11_no_5 : decode cX11_no 5 = .ok (.iconst 0, 1) := by decide +kernel
theorem dX11_no_6 : decode cX11_no 6 = .ok (.goto 4, 3) := by decide +kernel
theorem dX11_no_9 : decode cX11_no 9 = .ok (.iload_n 2, 1) := by decide +kernel
theorem dX11_no_10 : decode cX11_no 10 = .ok (.putfield 39, 3) := by decide +kernel
theorem dX11_no_13 : decode cX11_no 13 = .ok (.iload_n 1, 1) := by decide +kernel
theorem dX11_no_14 : decode cX11_no 14 = .ok (.ifCond .ne 7, 3) := by decide +kernel
theorem dX11_no_17 : decode cX11_no 17 = .ok (.iconst 1, 1) := by decide +kernel
theorem dX11_no_18 : decode cX11_no 18 = .ok (.goto 4, 3) := by decide +kernel
theorem dX11_no_21 : decode cX11_no 21 = .ok (.iconst 0, 1) := by decide +kernel
theorem dX11_no_22 : decode cX11_no 22 = .ok (.ireturn, 1) := by decide +kernel
theorem dX11_many_0 : decode cX11_many 0 = .ok (.iconst 0, 1) := by decide +kernel
theorem dX11_many_1 : decode cX11_many 1 = .ok (.aload_n 0, 1) := by decide +kernel
theorem dX11_many_2 : decode cX11_many 2 = .ok (.getfield 10, 3) := by decide +kernel
theorem dX11_many_5 : decode cX11_many 5 = .ok (.invokeinterface 42 1, 5) := by decide +kernel
theorem dX11_many_10 : decode cX11_many 10 = .ok (.iconst 1, 1) := by decide +kernel
theorem dX11_many_11 : decode cX11_many 11 = .ok (.isub, 1) := by decide +kernel
theorem dX11_many_12 : decode cX11_many 12 = .ok (.invokestatic 48, 3) := by decide +kernel
theorem dX11_many_15 : decode cX11_many 15 = .ok (.ireturn, 1) := by decide +kernel
theorem dX11_isPlace_0 : decode cX11_isPlace 0 = .ok (.iload_n 1, 1) := by decide +kernel
theorem dX11_isPlace_1 : decode cX11_isPlace 1 = .ok (.i2l, 1) := by decide +kernel
theorem dX11_isPlace_2 : decode cX11_isPlace 2 = .ok (.lconst 0, 1) := by decide +kernel
theorem dX11_isPlace_3 : decode cX11_isPlace 3 = .ok (.aload_n 0, 1) := by decide +kernel
theorem dX11_isPlace_4 : decode cX11_isPlace 4 = .ok (.invokevirtual 54, 3) := by decide +kernel
theorem dX11_isPlace_7 : decode cX11_isPlace 7 = .ok (.iconst 1, 1) := by decide +kernel
theorem dX11_isPlace_8 : decode cX11_isPlace 8 = .ok (.isub, 1) := by decide +kernel
theorem dX11_isPlace_9 : decode cX11_isPlace 9 = .ok (.i2l, 1) := by decide +kernel
theorem dX11_isPlace_10 : decode cX11_isPlace 10 = .ok (.invokestatic 57, 3) := by decide +kernel
theorem dX11_isPlace_13 : decode cX11_isPlace 13 = .ok (.ireturn, 1) := by decide +kernel
theorem dX11_noPlace_0 : decode cX11_noPlace 0 = .ok (.aload_n 0, 1) := by decide +kernel
theorem dX11_noPlace_1 : decode cX11_noPlace 1 = .ok (.aload_n 0, 1) := by decide +kernel
theorem dX11_noPlace_2 : decode cX11_noPlace 2 = .ok (.iload_n 1, 1) := by decide +kernel
theorem dX11_noPlace_3 : decode cX11_noPlace 3 = .ok (.invokevirtual 61, 3) := by decide +kernel
theorem dX11_noPlace_6 : decode cX11_noPlace 6 = .ok (.iconst 1, 1) := by decide +kernel
theorem dX11_noPlace_7 : decode cX11_noPlace 7 = .ok (.invokevirtual 65, 3) := by decide +kernel
theorem dX11_noPlace_10 : decode cX11_noPlace 10 = .ok (.ireturn, 1) := by decide +kernel
theorem dX11_isJoint_0 : decode cX11_isJoint 0 = .ok (.aload_n 0, 1) := by decide +kernel
theorem dX11_isJoint_1 : decode cX11_isJoint 1 = .ok (.iconst 0, 1) := by decide +kernel
theorem dX11_isJoint_2 : decode cX11_isJoint 2 = .ok (.iaload, 1) := by decide +kernel
theorem dX11_isJoint_3 : decode cX11_isJoint 3 = .ok (.aload_n 0, 1) := by decide +kernel
theorem dX11_isJoint_4 : decode cX11_isJoint 4 = .ok (.iconst 2, 1) := by decide +kernel
theorem dX11_isJoint_5 : decode cX11_isJoint 5 = .ok (.iaload, 1) := by decide +kernel
theorem dX11_isJoint_6 : decode cX11_isJoint 6 = .ok (.if_icmp .ne 12, 3) := by decide +kernel
theorem dX11_isJoint_9 : decode cX11_isJoint 9 = .ok (.aload_n 0, 1) := by decide +kernel
theorem dX11_isJoint_10 : decode cX11_isJoint 10 = .ok (.iconst 1, 1) := by decide +kernel
theorem dX11_isJoint_11 : decode cX11_isJoint 11 = .ok (.iaload, 1) := by decide +kernel
theorem dX11_isJoint_12 : decode cX11_isJoint 12 = .ok (.aload_n 0, 1) := by decide +kernel
theorem dX11_isJoint_13 : decode cX11_isJoint 13 = .ok (.iconst 3, 1) := by decide +kernel
theorem dX11_isJoint_14 : decode cX11_isJoint 14 = .ok (.iaload, 1) := by decide +kernel
theorem dX11_isJoint_15 : decode cX11_isJoint 15 = .ok (.if_icmp .eq 7, 3) := by decide +kernel
theorem dX11_isJoint_18 : decode cX11_isJoint 18 = .ok (.iconst 1, 1) := by decide +kernel
theorem dX11_isJoint_19 : decode cX11_isJoint 19 = .ok (.goto 4, 3) := by decide +kernel
theorem dX11_isJoint_22 : decode cX11_isJoint 22 = .ok (.iconst 0, 1) := by decide +kernel
theorem dX11_isJoint_23 : decode cX11_isJoint 23 = .ok (.istore_n 1, 1) := by decide +kernel
theorem dX11_isJoint_24 : decode cX11_isJoint 24 = .ok (.aload_n 0, 1) := by decide +kernel
theorem dX11_isJoint_25 : decode cX11_isJoint 25 = .ok (.astore_n 2, 1) := by decide +kernel
theorem dX11_isJoint_26 : decode cX11_isJoint 26 = .ok (.aload_n 2, 1) := by decide +kernel
theorem dX11_isJoint_27 : decode cX11_isJoint 27 = .ok (.arraylength, 1) := by decide +kernel
theorem dX11_isJoint_28 : decode cX11_isJoint 28 = .ok (.istore_n 3, 1) := by decide +kernel
theorem dX11_isJoint_29 : decode cX11_isJoint 29 = .ok (.iconst 0, 1) := by decide +kernel
theorem dX11_isJoint_30 : decode cX11_isJoint 30 = .ok (.istore 4, 2) := by decide +kernel
theorem dX11_isJoint_32 : decode cX11_isJoint 32 = .ok (.iload 4, 2) := by decide +kernel
theorem dX11_isJoint_34 : decode cX11_isJoint 34 = .ok (.iload_n 3, 1) := by decide +kernel
theorem dX11_isJoint_35 : decode cX11_isJoint 35 = .ok (.if_icmp .ge 28, 3) := by decide +kernel
theorem dX11_isJoint_38 : decode cX11_isJoint 38 = .ok (.aload_n 2, 1) := by decide +kernel
theorem dX11_isJoint_39 : decode cX11_isJoint 39 = .ok (.iload 4, 2) := by decide +kernel
theorem dX11_isJoint_41 : decode cX11_isJoint 41 = .ok (.iaload, 1) := by decide +kernel
theorem dX11_isJoint_42 : decode cX11_isJoint 42 = .ok (.istore 5, 2) := by decide +kernel
theorem dX11_isJoint_44 : decode cX11_isJoint 44 = .ok (.iload_n 1, 1) := by decide +kernel
theorem dX11_isJoint_45 : decode cX11_isJoint 45 = .ok (.iload 5, 2) := by decide +kernel
theorem dX11_isJoint_47 : decode cX11_isJoint 47 = .ok (.i2l, 1) := by decide +kernel
theorem dX11_isJoint_48 : decode cX11_isJoint 48 = .ok (.lconst 0, 1) := by decide +kernel
theorem dX11_isJoint_49 : decode cX11_isJoint 49 = .ok (.ldc2_w 73, 3) := by decide +kernel
theorem dX11_isJoint_52 : decode cX11_isJoint 52 = .ok (.invokestatic 57, 3) := by decide +kernel
theorem dX11_isJoint_55 : decode cX11_isJoint 55 = .ok (.iand, 1) := by decide +kernel
theorem dX11_isJoint_56 : decode cX11_isJoint 56 = .ok (.istore_n 1, 1) := by decide +kernel
theorem dX11_isJoint_57 : decode cX11_isJoint 57 = .ok (.iinc 4 1, 3) := by decide +kernel
theorem dX11_isJoint_60 : decode cX11_isJoint 60 = .ok (.goto (-28), 3) := by decide +kernel
theorem dX11_isJoint_63 : decode cX11_isJoint 63 = .ok (.iload_n 1, 1) := by decide +kernel
theorem dX11_isJoint_64 : decode cX11_isJoint 64 = .ok (.ireturn, 1) := by decide +kernel
theorem dX11_standing_0 : decode cX11_standing 0 = .ok (.iconst 0, 1) := by decide +kernel
theorem dX11_standing_1 : decode cX11_standing 1 = .ok (.istore_n 1, 1) := by decide +kernel
theorem dX11_standing_2 : decode cX11_standing 2 = .ok (.aload_n 0, 1) := by decide +kernel
theorem dX11_standing_3 : decode cX11_standing 3 = .ok (.getfield 25, 3) := by decide +kernel
theorem dX11_standing_6 : decode cX11_standing 6 = .ok (.astore_n 2, 1) := by decide +kernel
theorem dX11_standing_7 : decode cX11_standing 7 = .ok (.aload_n 2, 1) := by decide +kernel
theorem dX11_standing_8 : decode cX11_standing 8 = .ok (.arraylength, 1) := by decide +kernel
theorem dX11_standing_9 : decode cX11_standing 9 = .ok (.istore_n 3, 1) := by decide +kernel
theorem dX11_standing_10 : decode cX11_standing 10 = .ok (.iconst 0, 1) := by decide +kernel
theorem dX11_standing_11 : decode cX11_standing 11 = .ok (.istore 4, 2) := by decide +kernel
theorem dX11_standing_13 : decode cX11_standing 13 = .ok (.iload 4, 2) := by decide +kernel
theorem dX11_standing_15 : decode cX11_standing 15 = .ok (.iload_n 3, 1) := by decide +kernel
theorem dX11_standing_16 : decode cX11_standing 16 = .ok (.if_icmp .ge 29, 3) := by decide +kernel
theorem dX11_standing_19 : decode cX11_standing 19 = .ok (.aload_n 2, 1) := by decide +kernel
theorem dX11_standing_20 : decode cX11_standing 20 = .ok (.iload 4, 2) := by decide +kernel
theorem dX11_standing_22 : decode cX11_standing 22 = .ok (.iaload, 1) := by decide +kernel
theorem dX11_standing_23 : decode cX11_standing 23 = .ok (.istore 5, 2) := by decide +kernel
theorem dX11_standing_25 : decode cX11_standing 25 = .ok (.iload_n 1, 1) := by decide +kernel
theorem dX11_standing_26 : decode cX11_standing 26 = .ok (.iload 5, 2) := by decide +kernel
theorem dX11_standing_28 : decode cX11_standing 28 = .ok (.iconst (-1), 1) := by decide +kernel
theorem dX11_standing_29 : decode cX11_standing 29 = .ok (.if_icmp .ne 7, 3) := by decide +kernel
theorem dX11_standing_32 : decode cX11_standing 32 = .ok (.iconst 0, 1) := by decide +kernel
theorem dX11_standing_33 : decode cX11_standing 33 = .ok (.goto 4, 3) := by decide +kernel
theorem dX11_standing_36 : decode cX11_standing 36 = .ok (.iconst 1, 1) := by decide +kernel
theorem dX11_standing_37 : decode cX11_standing 37 = .ok (.iadd, 1) := by decide +kernel
theorem dX11_standing_38 : decode cX11_standing 38 = .ok (.istore_n 1, 1) := by decide +kernel
theorem dX11_standing_39 : decode cX11_standing 39 = .ok (.iinc 4 1, 3) := by decide +kernel
theorem dX11_standing_42 : decode cX11_standing 42 = .ok (.goto (-29), 3) := by decide +kernel
theorem dX11_standing_45 : decode cX11_standing 45 = .ok (.iload_n 1, 1) := by decide +kernel
theorem dX11_standing_46 : decode cX11_standing 46 = .ok (.ireturn, 1) := by decide +kernel
theorem dX11_drawJoint_0 : decode cX11_drawJoint 0 = .ok (.iconst 4, 1) := by decide +kernel
theorem dX11_drawJoint_1 : decode cX11_drawJoint 1 = .ok (.newarray .int, 2) := by decide +kernel
theorem dX11_drawJoint_3 : decode cX11_drawJoint 3 = .ok (.dup, 1) := by decide +kernel
theorem dX11_drawJoint_4 : decode cX11_drawJoint 4 = .ok (.iconst 0, 1) := by decide +kernel
theorem dX11_drawJoint_5 : decode cX11_drawJoint 5 = .ok (.iload_n 1, 1) := by decide +kernel
theorem dX11_drawJoint_6 : decode cX11_drawJoint 6 = .ok (.iastore, 1) := by decide +kernel
theorem dX11_drawJoint_7 : decode cX11_drawJoint 7 = .ok (.dup, 1) := by decide +kernel
theorem dX11_drawJoint_8 : decode cX11_drawJoint 8 = .ok (.iconst 1, 1) := by decide +kernel
theorem dX11_drawJoint_9 : decode cX11_drawJoint 9 = .ok (.iload_n 2, 1) := by decide +kernel
theorem dX11_drawJoint_10 : decode cX11_drawJoint 10 = .ok (.iastore, 1) := by decide +kernel
theorem dX11_drawJoint_11 : decode cX11_drawJoint 11 = .ok (.dup, 1) := by decide +kernel
theorem dX11_drawJoint_12 : decode cX11_drawJoint 12 = .ok (.iconst 2, 1) := by decide +kernel
theorem dX11_drawJoint_13 : decode cX11_drawJoint 13 = .ok (.iload_n 3, 1) := by decide +kernel
theorem dX11_drawJoint_14 : decode cX11_drawJoint 14 = .ok (.iastore, 1) := by decide +kernel
theorem dX11_drawJoint_15 : decode cX11_drawJoint 15 = .ok (.dup, 1) := by decide +kernel
theorem dX11_drawJoint_16 : decode cX11_drawJoint 16 = .ok (.iconst 3, 1) := by decide +kernel
theorem dX11_drawJoint_17 : decode cX11_drawJoint 17 = .ok (.iload 4, 2) := by decide +kernel
theorem dX11_drawJoint_19 : decode cX11_drawJoint 19 = .ok (.iastore, 1) := by decide +kernel
theorem dX11_drawJoint_20 : decode cX11_drawJoint 20 = .ok (.astore 5, 2) := by decide +kernel
theorem dX11_drawJoint_22 : decode cX11_drawJoint 22 = .ok (.aload 5, 2) := by decide +kernel
theorem dX11_drawJoint_24 : decode cX11_drawJoint 24 = .ok (.invokestatic 75, 3) := by decide +kernel
theorem dX11_drawJoint_27 : decode cX11_drawJoint 27 = .ok (.ifCond .eq 50, 3) := by decide +kernel
theorem dX11_drawJoint_30 : decode cX11_drawJoint 30 = .ok (.aload_n 0, 1) := by decide +kernel
theorem dX11_drawJoint_31 : decode cX11_drawJoint 31 = .ok (.getfield 10, 3) := by decide +kernel
theorem dX11_drawJoint_34 : decode cX11_drawJoint 34 = .ok (.invokeinterface 79 1, 5) := by decide +kernel
theorem dX11_drawJoint_39 : decode cX11_drawJoint 39 = .ok (.ifCond .ne 34, 3) := by decide +kernel
theorem dX11_drawJoint_42 : decode cX11_drawJoint 42 = .ok (.aload_n 0, 1) := by decide +kernel
theorem dX11_drawJoint_43 : decode cX11_drawJoint 43 = .ok (.getfield 10, 3) := by decide +kernel
theorem dX11_drawJoint_46 : decode cX11_drawJoint 46 = .ok (.aload_n 0, 1) := by decide +kernel
theorem dX11_drawJoint_47 : decode cX11_drawJoint 47 = .ok (.getfield 10, 3) := by decide +kernel
theorem dX11_drawJoint_50 : decode cX11_drawJoint 50 = .ok (.invokeinterface 42 1, 5) := by decide +kernel
theorem dX11_drawJoint_55 : decode cX11_drawJoint 55 = .ok (.iconst 1, 1) := by decide +kernel
theorem dX11_drawJoint_56 : decode cX11_drawJoint 56 = .ok (.isub, 1) := by decide +kernel
theorem dX11_drawJoint_57 : decode cX11_drawJoint 57 = .ok (.invokeinterface 83 2, 5) := by decide +kernel
theorem dX11_drawJoint_62 : decode cX11_drawJoint 62 = .ok (.checkcast 87, 3) := by decide +kernel
theorem dX11_drawJoint_65 : decode cX11_drawJoint 65 = .ok (.aload 5, 2) := by decide +kernel
theorem dX11_drawJoint_67 : decode cX11_drawJoint 67 = .ok (.invokestatic 88, 3) := by decide +kernel
theorem dX11_drawJoint_70 : decode cX11_drawJoint 70 = .ok (.ifCond .eq 7, 3) := by decide +kernel
theorem dX11_drawJoint_73 : decode cX11_drawJoint 73 = .ok (.iconst 1, 1) := by decide +kernel
theorem dX11_drawJoint_74 : decode cX11_drawJoint 74 = .ok (.goto 4, 3) := by decide +kernel
theorem dX11_drawJoint_77 : decode cX11_drawJoint 77 = .ok (.iconst 0, 1) := by decide +kernel
theorem dX11_drawJoint_78 : decode cX11_drawJoint 78 = .ok (.istore 6, 2) := by decide +kernel
theorem dX11_drawJoint_80 : decode cX11_drawJoint 80 = .ok (.aload_n 0, 1) := by decide +kernel
theorem dX11_drawJoint_81 : decode cX11_drawJoint 81 = .ok (.iload 6, 2) := by decide +kernel
theorem dX11_drawJoint_83 : decode cX11_drawJoint 83 = .ok (.iconst 1, 1) := by decide +kernel
theorem dX11_drawJoint_84 : decode cX11_drawJoint 84 = .ok (.invokevirtual 65, 3) := by decide +kernel
theorem dX11_drawJoint_87 : decode cX11_drawJoint 87 = .ok (.ifCond .ne 50, 3) := by decide +kernel
theorem dX11_drawJoint_90 : decode cX11_drawJoint 90 = .ok (.aload_n 0, 1) := by decide +kernel
theorem dX11_drawJoint_91 : decode cX11_drawJoint 91 = .ok (.aload_n 0, 1) := by decide +kernel
theorem dX11_drawJoint_92 : decode cX11_drawJoint 92 = .ok (.invokevirtual 92, 3) := by decide +kernel
theorem dX11_drawJoint_95 : decode cX11_drawJoint 95 = .ok (.ifCond .ne 7, 3) := by decide +kernel
theorem dX11_drawJoint_98 : decode cX11_drawJoint 98 = .ok (.iconst 1, 1) := by decide +kernel
theorem dX11_drawJoint_99 : decode cX11_drawJoint 99 = .ok (.goto 4, 3) := by decide +kernel
theorem dX11_drawJoint_102 : decode cX11_drawJoint 102 = .ok (.iconst 0, 1) := by decide +kernel
theorem dX11_drawJoint_103 : decode cX11_drawJoint 103 = .ok (.iconst 2, 1) := by decide +kernel
theorem dX11_drawJoint_104 : decode cX11_drawJoint 104 = .ok (.invokevirtual 65, 3) := by decide +kernel
theorem dX11_drawJoint_107 : decode cX11_drawJoint 107 = .ok (.ifCond .ne 30, 3) := by decide +kernel
theorem dX11_drawJoint_110 : decode cX11_drawJoint 110 = .ok (.aload_n 0, 1) := by decide +kernel
theorem dX11_drawJoint_111 : decode cX11_drawJoint 111 = .ok (.aload_n 0, 1) := by decide +kernel
theorem dX11_drawJoint_112 : decode cX11_drawJoint 112 = .ok (.getfield 10, 3) := by decide +kernel
theorem dX11_drawJoint_115 : decode cX11_drawJoint 115 = .ok (.invokeinterface 42 1, 5) := by decide +kernel
theorem dX11_drawJoint_120 : decode cX11_drawJoint 120 = .ok (.bipush 8, 2) := by decide +kernel
theorem dX11_drawJoint_122 : decode cX11_drawJoint 122 = .ok (.if_icmp .ge 7, 3) := by decide +kernel
theorem dX11_drawJoint_125 : decode cX11_drawJoint 125 = .ok (.iconst 1, 1) := by decide +kernel
theorem dX11_drawJoint_126 : decode cX11_drawJoint 126 = .ok (.goto 4, 3) := by decide +kernel
theorem dX11_drawJoint_129 : decode cX11_drawJoint 129 = .ok (.iconst 0, 1) := by decide +kernel
theorem dX11_drawJoint_130 : decode cX11_drawJoint 130 = .ok (.iconst 3, 1) := by decide +kernel
theorem dX11_drawJoint_131 : decode cX11_drawJoint 131 = .ok (.invokevirtual 65, 3) := by decide +kernel
theorem dX11_drawJoint_134 : decode cX11_drawJoint 134 = .ok (.ifCond .eq 5, 3) := by decide +kernel
theorem dX11_drawJoint_137 : decode cX11_drawJoint 137 = .ok (.iconst 0, 1) := by decide +kernel
theorem dX11_drawJoint_138 : decode cX11_drawJoint 138 = .ok (.ireturn, 1) := by decide +kernel
theorem dX11_drawJoint_139 : decode cX11_drawJoint 139 = .ok (.aload_n 0, 1) := by decide +kernel
theorem dX11_drawJoint_140 : decode cX11_drawJoint 140 = .ok (.getfield 10, 3) := by decide +kernel
theorem dX11_drawJoint_143 : decode cX11_drawJoint 143 = .ok (.aload 5, 2) := by decide +kernel
theorem dX11_drawJoint_145 : decode cX11_drawJoint 145 = .ok (.invokeinterface 95 2, 5) := by decide +kernel
theorem dX11_drawJoint_150 : decode cX11_drawJoint 150 = .ok (.pop, 1) := by decide +kernel
theorem dX11_drawJoint_151 : decode cX11_drawJoint 151 = .ok (.aload_n 0, 1) := by decide +kernel
theorem dX11_drawJoint_152 : decode cX11_drawJoint 152 = .ok (.dup, 1) := by decide +kernel
theorem dX11_drawJoint_153 : decode cX11_drawJoint 153 = .ok (.getfield 99, 3) := by decide +kernel
theorem dX11_drawJoint_156 : decode cX11_drawJoint 156 = .ok (.iconst 1, 1) := by decide +kernel
theorem dX11_drawJoint_157 : decode cX11_drawJoint 157 = .ok (.iadd, 1) := by decide +kernel
theorem dX11_drawJoint_158 : decode cX11_drawJoint 158 = .ok (.putfield 99, 3) := by decide +kernel
theorem dX11_drawJoint_161 : decode cX11_drawJoint 161 = .ok (.aload_n 0, 1) := by decide +kernel
theorem dX11_drawJoint_162 : decode cX11_drawJoint 162 = .ok (.getfield 10, 3) := by decide +kernel
theorem dX11_drawJoint_165 : decode cX11_drawJoint 165 = .ok (.invokeinterface 42 1, 5) := by decide +kernel
theorem dX11_drawJoint_170 : decode cX11_drawJoint 170 = .ok (.iconst 1, 1) := by decide +kernel
theorem dX11_drawJoint_171 : decode cX11_drawJoint 171 = .ok (.isub, 1) := by decide +kernel
theorem dX11_drawJoint_172 : decode cX11_drawJoint 172 = .ok (.ireturn, 1) := by decide +kernel
theorem dX11_moveJoint_0 : decode cX11_moveJoint 0 = .ok (.aload_n 0, 1) := by decide +kernel
theorem dX11_moveJoint_1 : decode cX11_moveJoint 1 = .ok (.iload_n 1, 1) := by decide +kernel
theorem dX11_moveJoint_2 : decode cX11_moveJoint 2 = .ok (.i2l, 1) := by decide +kernel
theorem dX11_moveJoint_3 : decode cX11_moveJoint 3 = .ok (.lconst 0, 1) := by decide +kernel
theorem dX11_moveJoint_4 : decode cX11_moveJoint 4 = .ok (.aload_n 0, 1) := by decide +kernel
theorem dX11_moveJoint_5 : decode cX11_moveJoint 5 = .ok (.getfield 10, 3) := by decide +kernel
theorem dX11_moveJoint_8 : decode cX11_moveJoint 8 = .ok (.invokeinterface 42 1, 5) := by decide +kernel
theorem dX11_moveJoint_13 : decode cX11_moveJoint 13 = .ok (.iconst 1, 1) := by decide +kernel
theorem dX11_moveJoint_14 : decode cX11_moveJoint 14 = .ok (.isub, 1) := by decide +kernel
theorem dX11_moveJoint_15 : decode cX11_moveJoint 15 = .ok (.i2l, 1) := by decide +kernel
theorem dX11_moveJoint_16 : decode cX11_moveJoint 16 = .ok (.invokestatic 57, 3) := by decide +kernel
theorem dX11_moveJoint_19 : decode cX11_moveJoint 19 = .ok (.iconst 1, 1) := by decide +kernel
theorem dX11_moveJoint_20 : decode cX11_moveJoint 20 = .ok (.invokevirtual 65, 3) := by decide +kernel
theorem dX11_moveJoint_23 : decode cX11_moveJoint 23 = .ok (.ifCond .eq 5, 3) := by decide +kernel
theorem dX11_moveJoint_26 : decode cX11_moveJoint 26 = .ok (.iconst 0, 1) := by decide +kernel
theorem dX11_moveJoint_27 : decode cX11_moveJoint 27 = .ok (.ireturn, 1) := by decide +kernel
theorem dX11_moveJoint_28 : decode cX11_moveJoint 28 = .ok (.iconst 4, 1) := by decide +kernel
theorem dX11_moveJoint_29 : decode cX11_moveJoint 29 = .ok (.newarray .int, 2) := by decide +kernel
theorem dX11_moveJoint_31 : decode cX11_moveJoint 31 = .ok (.dup, 1) := by decide +kernel
theorem dX11_moveJoint_32 : decode cX11_moveJoint 32 = .ok (.iconst 0, 1) := by decide +kernel
theorem dX11_moveJoint_33 : decode cX11_moveJoint 33 = .ok (.iload_n 2, 1) := by decide +kernel
theorem dX11_moveJoint_34 : decode cX11_moveJoint 34 = .ok (.iastore, 1) := by decide +kernel
theorem dX11_moveJoint_35 : decode cX11_moveJoint 35 = .ok (.dup, 1) := by decide +kernel
theorem dX11_moveJoint_36 : decode cX11_moveJoint 36 = .ok (.iconst 1, 1) := by decide +kernel
theorem dX11_moveJoint_37 : decode cX11_moveJoint 37 = .ok (.iload_n 3, 1) := by decide +kernel
theorem dX11_moveJoint_38 : decode cX11_moveJoint 38 = .ok (.iastore, 1) := by decide +kernel
theorem dX11_moveJoint_39 : decode cX11_moveJoint 39 = .ok (.dup, 1) := by decide +kernel
theorem dX11_moveJoint_40 : decode cX11_moveJoint 40 = .ok (.iconst 2, 1) := by decide +kernel
theorem dX11_moveJoint_41 : decode cX11_moveJoint 41 = .ok (.iload 4, 2) := by decide +kernel
theorem dX11_moveJoint_43 : decode cX11_moveJoint 43 = .ok (.iastore, 1) := by decide +kernel
theorem dX11_moveJoint_44 : decode cX11_moveJoint 44 = .ok (.dup, 1) := by decide +kernel
theorem dX11_moveJoint_45 : decode cX11_moveJoint 45 = .ok (.iconst 3, 1) := by decide +kernel
theorem dX11_moveJoint_46 : decode cX11_moveJoint 46 = .ok (.iload 5, 2) := by decide +kernel
theorem dX11_moveJoint_48 : decode cX11_moveJoint 48 = .ok (.iastore, 1) := by decide +kernel
theorem dX11_moveJoint_49 : decode cX11_moveJoint 49 = .ok (.astore 6, 2) := by decide +kernel
theorem dX11_moveJoint_51 : decode cX11_moveJoint 51 = .ok (.aload 6, 2) := by decide +kernel
theorem dX11_moveJoint_53 : decode cX11_moveJoint 53 = .ok (.invokestatic 75, 3) := by decide +kernel
theorem dX11_moveJoint_56 : decode cX11_moveJoint 56 = .ok (.istore 7, 2) := by decide +kernel
theorem dX11_moveJoint_58 : decode cX11_moveJoint 58 = .ok (.iload 7, 2) := by decide +kernel
theorem dX11_moveJoint_60 : decode cX11_moveJoint 60 = .ok (.ifCond .eq 29, 3) := by decide +kernel
theorem dX11_moveJoint_63 : decode cX11_moveJoint 63 = .ok (.iload_n 1, 1) := by decide +kernel
theorem dX11_moveJoint_64 : decode cX11_moveJoint 64 = .ok (.ifCond .le 25, 3) := by decide +kernel
theorem dX11_moveJoint_67 : decode cX11_moveJoint 67 = .ok (.aload_n 0, 1) := by decide +kernel
theorem dX11_moveJoint_68 : decode cX11_moveJoint 68 = .ok (.getfield 10, 3) := by decide +kernel
theorem dX11_moveJoint_71 : decode cX11_moveJoint 71 = .ok (.iload_n 1, 1) := by decide +kernel
theorem dX11_moveJoint_72 : decode cX11_moveJoint 72 = .ok (.iconst 1, 1) := by decide +kernel
theorem dX11_moveJoint_73 : decode cX11_moveJoint 73 = .ok (.isub, 1) := by decide +kernel
theorem dX11_moveJoint_74 : decode cX11_moveJoint 74 = .ok (.invokeinterface 83 2, 5) := by decide +kernel
theorem dX11_moveJoint_79 : decode cX11_moveJoint 79 = .ok (.checkcast 87, 3) := by decide +kernel
theorem dX11_moveJoint_82 : decode cX11_moveJoint 82 = .ok (.aload 6, 2) := by decide +kernel
theorem dX11_moveJoint_84 : decode cX11_moveJoint 84 = .ok (.invokestatic 88, 3) := by decide +kernel
theorem dX11_moveJoint_87 : decode cX11_moveJoint 87 = .ok (.istore 7, 2) := by decide +kernel
theorem dX11_moveJoint_89 : decode cX11_moveJoint 89 = .ok (.iload 7, 2) := by decide +kernel
theorem dX11_moveJoint_91 : decode cX11_moveJoint 91 = .ok (.ifCond .eq 40, 3) := by decide +kernel
theorem dX11_moveJoint_94 : decode cX11_moveJoint 94 = .ok (.iload_n 1, 1) := by decide +kernel
theorem dX11_moveJoint_95 : decode cX11_moveJoint 95 = .ok (.iconst 1, 1) := by decide +kernel
theorem dX11_moveJoint_96 : decode cX11_moveJoint 96 = .ok (.iadd, 1) := by decide +kernel
theorem dX11_moveJoint_97 : decode cX11_moveJoint 97 = .ok (.aload_n 0, 1) := by decide +kernel
theorem dX11_moveJoint_98 : decode cX11_moveJoint 98 = .ok (.getfield 10, 3) := by decide +kernel
theorem dX11_moveJoint_101 : decode cX11_moveJoint 101 = .ok (.invokeinterface 42 1, 5) := by decide +kernel
theorem dX11_moveJoint_106 : decode cX11_moveJoint 106 = .ok (.if_icmp .ge 25, 3) := by decide +kernel
theorem dX11_moveJoint_109 : decode cX11_moveJoint 109 = .ok (.aload 6, 2) := by decide +kernel
theorem dX11_moveJoint_111 : decode cX11_moveJoint 111 = .ok (.aload_n 0, 1) := by decide +kernel
theorem dX11_moveJoint_112 : decode cX11_moveJoint 112 = .ok (.getfield 10, 3) := by decide +kernel
theorem dX11_moveJoint_115 : decode cX11_moveJoint 115 = .ok (.iload_n 1, 1) := by decide +kernel
theorem dX11_moveJoint_116 : decode cX11_moveJoint 116 = .ok (.iconst 1, 1) := by decide +kernel
theorem dX11_moveJoint_117 : decode cX11_moveJoint 117 = .ok (.iadd, 1) := by decide +kernel
theorem dX11_moveJoint_118 : decode cX11_moveJoint 118 = .ok (.invokeinterface 83 2, 5) := by decide +kernel
theorem dX11_moveJoint_123 : decode cX11_moveJoint 123 = .ok (.checkcast 87, 3) := by decide +kernel
theorem dX11_moveJoint_126 : decode cX11_moveJoint 126 = .ok (.invokestatic 88, 3) := by decide +kernel
theorem dX11_moveJoint_129 : decode cX11_moveJoint 129 = .ok (.istore 7, 2) := by decide +kernel
theorem dX11_moveJoint_131 : decode cX11_moveJoint 131 = .ok (.iload_n 1, 1) := by decide +kernel
theorem dX11_moveJoint_132 : decode cX11_moveJoint 132 = .ok (.ifCond .eq 15, 3) := by decide +kernel
theorem dX11_moveJoint_135 : decode cX11_moveJoint 135 = .ok (.aload_n 0, 1) := by decide +kernel
theorem dX11_moveJoint_136 : decode cX11_moveJoint 136 = .ok (.getfield 25, 3) := by decide +kernel
theorem dX11_moveJoint_139 : decode cX11_moveJoint 139 = .ok (.iload_n 1, 1) := by decide +kernel
theorem dX11_moveJoint_140 : decode cX11_moveJoint 140 = .ok (.iconst 1, 1) := by decide +kernel
theorem dX11_moveJoint_141 : decode cX11_moveJoint 141 = .ok (.isub, 1) := by decide +kernel
theorem dX11_moveJoint_142 : decode cX11_moveJoint 142 = .ok (.iaload, 1) := by decide +kernel
theorem dX11_moveJoint_143 : decode cX11_moveJoint 143 = .ok (.iconst (-1), 1) := by decide +kernel
theorem dX11_moveJoint_144 : decode cX11_moveJoint 144 = .ok (.if_icmp .ne 32, 3) := by decide +kernel
theorem dX11_moveJoint_147 : decode cX11_moveJoint 147 = .ok (.iload_n 1, 1) := by decide +kernel
theorem dX11_moveJoint_148 : decode cX11_moveJoint 148 = .ok (.iconst 1, 1) := by decide +kernel
theorem dX11_moveJoint_149 : decode cX11_moveJoint 149 = .ok (.iadd, 1) := by decide +kernel
theorem dX11_moveJoint_150 : decode cX11_moveJoint 150 = .ok (.aload_n 0, 1) := by decide +kernel
theorem dX11_moveJoint_151 : decode cX11_moveJoint 151 = .ok (.getfield 10, 3) := by decide +kernel
theorem dX11_moveJoint_154 : decode cX11_moveJoint 154 = .ok (.invokeinterface 42 1, 5) := by decide +kernel
theorem dX11_moveJoint_159 : decode cX11_moveJoint 159 = .ok (.if_icmp .ge 13, 3) := by decide +kernel
theorem dX11_moveJoint_162 : decode cX11_moveJoint 162 = .ok (.aload_n 0, 1) := by decide +kernel
theorem dX11_moveJoint_163 : decode cX11_moveJoint 163 = .ok (.getfield 25, 3) := by decide +kernel
theorem dX11_moveJoint_166 : decode cX11_moveJoint 166 = .ok (.iload_n 1, 1) := by decide +kernel
theorem dX11_moveJoint_167 : decode cX11_moveJoint 167 = .ok (.iaload, 1) := by decide +kernel
theorem dX11_moveJoint_168 : decode cX11_moveJoint 168 = .ok (.iconst (-1), 1) := by decide +kernel
theorem dX11_moveJoint_169 : decode cX11_moveJoint 169 = .ok (.if_icmp .ne 7, 3) := by decide +kernel
theorem dX11_moveJoint_172 : decode cX11_moveJoint 172 = .ok (.iconst 1, 1) := by decide +kernel
theorem dX11_moveJoint_173 : decode cX11_moveJoint 173 = .ok (.goto 4, 3) := by decide +kernel
theorem dX11_moveJoint_176 : decode cX11_moveJoint 176 = .ok (.iconst 0, 1) := by decide +kernel
theorem dX11_moveJoint_177 : decode cX11_moveJoint 177 = .ok (.istore 8, 2) := by decide +kernel
theorem dX11_moveJoint_179 : decode cX11_moveJoint 179 = .ok (.aload_n 0, 1) := by decide +kernel
theorem dX11_moveJoint_180 : decode cX11_moveJoint 180 = .ok (.iload 7, 2) := by decide +kernel
theorem dX11_moveJoint_182 : decode cX11_moveJoint 182 = .ok (.iconst 2, 1) := by decide +kernel
theorem dX11_moveJoint_183 : decode cX11_moveJoint 183 = .ok (.invokevirtual 65, 3) := by decide +kernel
theorem dX11_moveJoint_186 : decode cX11_moveJoint 186 = .ok (.ifCond .ne 13, 3) := by decide +kernel
theorem dX11_moveJoint_189 : decode cX11_moveJoint 189 = .ok (.aload_n 0, 1) := by decide +kernel
theorem dX11_moveJoint_190 : decode cX11_moveJoint 190 = .ok (.iload 8, 2) := by decide +kernel
theorem dX11_moveJoint_192 : decode cX11_moveJoint 192 = .ok (.iconst 3, 1) := by decide +kernel
theorem dX11_moveJoint_193 : decode cX11_moveJoint 193 = .ok (.invokevirtual 65, 3) := by decide +kernel
theorem dX11_moveJoint_196 : decode cX11_moveJoint 196 = .ok (.ifCond .eq 5, 3) := by decide +kernel
theorem dX11_moveJoint_199 : decode cX11_moveJoint 199 = .ok (.iconst 0, 1) := by decide +kernel
theorem dX11_moveJoint_200 : decode cX11_moveJoint 200 = .ok (.ireturn, 1) := by decide +kernel
theorem dX11_moveJoint_201 : decode cX11_moveJoint 201 = .ok (.aload_n 0, 1) := by decide +kernel
theorem dX11_moveJoint_202 : decode cX11_moveJoint 202 = .ok (.getfield 10, 3) := by decide +kernel
theorem dX11_moveJoint_205 : decode cX11_moveJoint 205 = .ok (.iload_n 1, 1) := by decide +kernel
theorem dX11_moveJoint_206 : decode cX11_moveJoint 206 = .ok (.aload 6, 2) := by decide +kernel
theorem dX11_moveJoint_208 : decode cX11_moveJoint 208 = .ok (.invokeinterface 102 3, 5) := by decide +kernel
theorem dX11_moveJoint_213 : decode cX11_moveJoint 213 = .ok (.pop, 1) := by decide +kernel
theorem dX11_moveJoint_214 : decode cX11_moveJoint 214 = .ok (.aload_n 0, 1) := by decide +kernel
theorem dX11_moveJoint_215 : decode cX11_moveJoint 215 = .ok (.dup, 1) := by decide +kernel
theorem dX11_moveJoint_216 : decode cX11_moveJoint 216 = .ok (.getfield 99, 3) := by decide +kernel
theorem dX11_moveJoint_219 : decode cX11_moveJoint 219 = .ok (.iconst 1, 1) := by decide +kernel
theorem dX11_moveJoint_220 : decode cX11_moveJoint 220 = .ok (.iadd, 1) := by decide +kernel
theorem dX11_moveJoint_221 : decode cX11_moveJoint 221 = .ok (.dup_x1, 1) := by decide +kernel
theorem dX11_moveJoint_222 : decode cX11_moveJoint 222 = .ok (.putfield 99, 3) := by decide +kernel
theorem dX11_moveJoint_225 : decode cX11_moveJoint 225 = .ok (.ireturn, 1) := by decide +kernel
theorem dX11_setDensity_0 : decode cX11_setDensity 0 = .ok (.aload_n 0, 1) := by decide +kernel
theorem dX11_setDensity_1 : decode cX11_setDensity 1 = .ok (.iload_n 1, 1) := by decide +kernel
theorem dX11_setDensity_2 : decode cX11_setDensity 2 = .ok (.i2l, 1) := by decide +kernel
theorem dX11_setDensity_3 : decode cX11_setDensity 3 = .ok (.lconst 1, 1) := by decide +kernel
theorem dX11_setDensity_4 : decode cX11_setDensity 4 = .ok (.ldc2_w 106, 3) := by decide +kernel
theorem dX11_setDensity_7 : decode cX11_setDensity 7 = .ok (.invokestatic 57, 3) := by decide +kernel
theorem dX11_setDensity_10 : decode cX11_setDensity 10 = .ok (.iconst 1, 1) := by decide +kernel
theorem dX11_setDensity_11 : decode cX11_setDensity 11 = .ok (.invokevirtual 65, 3) := by decide +kernel
theorem dX11_setDensity_14 : decode cX11_setDensity 14 = .ok (.ifCond .ne 23, 3) := by decide +kernel
theorem dX11_setDensity_17 : decode cX11_setDensity 17 = .ok (.aload_n 0, 1) := by decide +kernel
theorem dX11_setDensity_18 : decode cX11_setDensity 18 = .ok (.aload_n 0, 1) := by decide +kernel
theorem dX11_setDensity_19 : decode cX11_setDensity 19 = .ok (.invokevirtual 92, 3) := by decide +kernel
theorem dX11_setDensity_22 : decode cX11_setDensity 22 = .ok (.ifCond .ne 7, 3) := by decide +kernel
theorem dX11_setDensity_25 : decode cX11_setDensity 25 = .ok (.iconst 1, 1) := by decide +kernel
theorem dX11_setDensity_26 : decode cX11_setDensity 26 = .ok (.goto 4, 3) := by decide +kernel
theorem dX11_setDensity_29 : decode cX11_setDensity 29 = .ok (.iconst 0, 1) := by decide +kernel
theorem dX11_setDensity_30 : decode cX11_setDensity 30 = .ok (.iconst 2, 1) := by decide +kernel
theorem dX11_setDensity_31 : decode cX11_setDensity 31 = .ok (.invokevirtual 65, 3) := by decide +kernel
theorem dX11_setDensity_34 : decode cX11_setDensity 34 = .ok (.ifCond .eq 5, 3) := by decide +kernel
theorem dX11_setDensity_37 : decode cX11_setDensity 37 = .ok (.iconst 0, 1) := by decide +kernel
theorem dX11_setDensity_38 : decode cX11_setDensity 38 = .ok (.ireturn, 1) := by decide +kernel
theorem dX11_setDensity_39 : decode cX11_setDensity 39 = .ok (.aload_n 0, 1) := by decide +kernel
theorem dX11_setDensity_40 : decode cX11_setDensity 40 = .ok (.getfield 32, 3) := by decide +kernel
theorem dX11_setDensity_43 : decode cX11_setDensity 43 = .ok (.istore_n 2, 1) := by decide +kernel
theorem dX11_setDensity_44 : decode cX11_setDensity 44 = .ok (.aload_n 0, 1) := by decide +kernel
theorem dX11_setDensity_45 : decode cX11_setDensity 45 = .ok (.iload_n 1, 1) := by decide +kernel
theorem dX11_setDensity_46 : decode cX11_setDensity 46 = .ok (.putfield 32, 3) := by decide +kernel
theorem dX11_setDensity_49 : decode cX11_setDensity 49 = .ok (.iload_n 2, 1) := by decide +kernel
theorem dX11_setDensity_50 : decode cX11_setDensity 50 = .ok (.ireturn, 1) := by decide +kernel
theorem dX11_places_0 : decode cX11_places 0 = .ok (.aload_n 0, 1) := by decide +kernel
theorem dX11_places_1 : decode cX11_places 1 = .ok (.invokevirtual 54, 3) := by decide +kernel
theorem dX11_places_4 : decode cX11_places 4 = .ok (.ireturn, 1) := by decide +kernel
theorem dX11_area_0 : decode cX11_area 0 = .ok (.aload_n 0, 1) := by decide +kernel
theorem dX11_area_1 : decode cX11_area 1 = .ok (.iload_n 1, 1) := by decide +kernel
theorem dX11_area_2 : decode cX11_area 2 = .ok (.invokevirtual 116, 3) := by decide +kernel
theorem dX11_area_5 : decode cX11_area 5 = .ok (.ifCond .eq 7, 3) := by decide +kernel
theorem dX11_area_8 : decode cX11_area 8 = .ok (.iconst 0, 1) := by decide +kernel
theorem dX11_area_9 : decode cX11_area 9 = .ok (.goto 8, 3) := by decide +kernel
theorem dX11_area_12 : decode cX11_area 12 = .ok (.aload_n 0, 1) := by decide +kernel
theorem dX11_area_13 : decode cX11_area 13 = .ok (.iload_n 1, 1) := by decide +kernel
theorem dX11_area_14 : decode cX11_area 14 = .ok (.invokevirtual 112, 3) := by decide +kernel
theorem dX11_area_17 : decode cX11_area 17 = .ok (.ireturn, 1) := by decide +kernel
theorem dX11_weight_0 : decode cX11_weight 0 = .ok (.aload_n 0, 1) := by decide +kernel
theorem dX11_weight_1 : decode cX11_weight 1 = .ok (.iload_n 1, 1) := by decide +kernel
theorem dX11_weight_2 : decode cX11_weight 2 = .ok (.invokevirtual 116, 3) := by decide +kernel
theorem dX11_weight_5 : decode cX11_weight 5 = .ok (.ifCond .eq 7, 3) := by decide +kernel
theorem dX11_weight_8 : decode cX11_weight 8 = .ok (.iconst 0, 1) := by decide +kernel
theorem dX11_weight_9 : decode cX11_weight 9 = .ok (.goto 8, 3) := by decide +kernel
theorem dX11_weight_12 : decode cX11_weight 12 = .ok (.aload_n 0, 1) := by decide +kernel
theorem dX11_weight_13 : decode cX11_weight 13 = .ok (.iload_n 1, 1) := by decide +kernel
theorem dX11_weight_14 : decode cX11_weight 14 = .ok (.invokevirtual 119, 3) := by decide +kernel
theorem dX11_weight_17 : decode cX11_weight 17 = .ok (.ireturn, 1) := by decide +kernel
theorem dX11_isGrip_0 : decode cX11_isGrip 0 = .ok (.iload_n 1, 1) := by decide +kernel
theorem dX11_isGrip_1 : decode cX11_isGrip 1 = .ok (.i2l, 1) := by decide +kernel
theorem dX11_isGrip_2 : decode cX11_isGrip 2 = .ok (.lconst 0, 1) := by decide +kernel
theorem dX11_isGrip_3 : decode cX11_isGrip 3 = .ok (.ldc2_w 122, 3) := by decide +kernel
theorem dX11_isGrip_6 : decode cX11_isGrip 6 = .ok (.invokestatic 57, 3) := by decide +kernel
theorem dX11_isGrip_9 : decode cX11_isGrip 9 = .ok (.ireturn, 1) := by decide +kernel
theorem dX11_isSafe_0 : decode cX11_isSafe 0 = .ok (.aload_n 0, 1) := by decide +kernel
theorem dX11_isSafe_1 : decode cX11_isSafe 1 = .ok (.aload_n 0, 1) := by decide +kernel
theorem dX11_isSafe_2 : decode cX11_isSafe 2 = .ok (.iload_n 1, 1) := by decide +kernel
theorem dX11_isSafe_3 : decode cX11_isSafe 3 = .ok (.invokevirtual 161, 3) := by decide +kernel
theorem dX11_isSafe_6 : decode cX11_isSafe 6 = .ok (.iconst 1, 1) := by decide +kernel
theorem dX11_isSafe_7 : decode cX11_isSafe 7 = .ok (.invokevirtual 65, 3) := by decide +kernel
theorem dX11_isSafe_10 : decode cX11_isSafe 10 = .ok (.ifCond .ne 36, 3) := by decide +kernel
theorem dX11_isSafe_13 : decode cX11_isSafe 13 = .ok (.aload_n 0, 1) := by decide +kernel
theorem dX11_isSafe_14 : decode cX11_isSafe 14 = .ok (.aload_n 0, 1) := by decide +kernel
theorem dX11_isSafe_15 : decode cX11_isSafe 15 = .ok (.invokevirtual 54, 3) := by decide +kernel
theorem dX11_isSafe_18 : decode cX11_isSafe 18 = .ok (.iconst 2, 1) := by decide +kernel
theorem dX11_isSafe_19 : decode cX11_isSafe 19 = .ok (.if_icmp .lt 7, 3) := by decide +kernel
theorem dX11_isSafe_22 : decode cX11_isSafe 22 = .ok (.iconst 1, 1) := by decide +kernel
theorem dX11_isSafe_23 : decode cX11_isSafe 23 = .ok (.goto 4, 3) := by decide +kernel
theorem dX11_isSafe_26 : decode cX11_isSafe 26 = .ok (.iconst 0, 1) := by decide +kernel
theorem dX11_isSafe_27 : decode cX11_isSafe 27 = .ok (.iconst 2, 1) := by decide +kernel
theorem dX11_isSafe_28 : decode cX11_isSafe 28 = .ok (.invokevirtual 65, 3) := by decide +kernel
theorem dX11_isSafe_31 : decode cX11_isSafe 31 = .ok (.ifCond .ne 15, 3) := by decide +kernel
theorem dX11_isSafe_34 : decode cX11_isSafe 34 = .ok (.aload_n 0, 1) := by decide +kernel
theorem dX11_isSafe_35 : decode cX11_isSafe 35 = .ok (.iload_n 1, 1) := by decide +kernel
theorem dX11_isSafe_36 : decode cX11_isSafe 36 = .ok (.invokevirtual 164, 3) := by decide +kernel
theorem dX11_isSafe_39 : decode cX11_isSafe 39 = .ok (.ifnull 7, 3) := by decide +kernel
theorem dX11_isSafe_42 : decode cX11_isSafe 42 = .ok (.iconst 1, 1) := by decide +kernel
theorem dX11_isSafe_43 : decode cX11_isSafe 43 = .ok (.goto 4, 3) := by decide +kernel
theorem dX11_isSafe_46 : decode cX11_isSafe 46 = .ok (.iconst 0, 1) := by decide +kernel
theorem dX11_isSafe_47 : decode cX11_isSafe 47 = .ok (.ireturn, 1) := by decide +kernel
theorem dX11_thrust_0 : decode cX11_thrust 0 = .ok (.aload_n 0, 1) := by decide +kernel
theorem dX11_thrust_1 : decode cX11_thrust 1 = .ok (.aload_n 0, 1) := by decide +kernel
theorem dX11_thrust_2 : decode cX11_thrust 2 = .ok (.iload_n 1, 1) := by decide +kernel
theorem dX11_thrust_3 : decode cX11_thrust 3 = .ok (.invokevirtual 161, 3) := by decide +kernel
theorem dX11_thrust_6 : decode cX11_thrust 6 = .ok (.iconst 1, 1) := by decide +kernel
theorem dX11_thrust_7 : decode cX11_thrust 7 = .ok (.invokevirtual 65, 3) := by decide +kernel
theorem dX11_thrust_10 : decode cX11_thrust 10 = .ok (.ifCond .ne 24, 3) := by decide +kernel
theorem dX11_thrust_13 : decode cX11_thrust 13 = .ok (.aload_n 0, 1) := by decide +kernel
theorem dX11_thrust_14 : decode cX11_thrust 14 = .ok (.aload_n 0, 1) := by decide +kernel
theorem dX11_thrust_15 : decode cX11_thrust 15 = .ok (.invokevirtual 54, 3) := by decide +kernel
theorem dX11_thrust_18 : decode cX11_thrust 18 = .ok (.iconst 2, 1) := by decide +kernel
theorem dX11_thrust_19 : decode cX11_thrust 19 = .ok (.if_icmp .lt 7, 3) := by decide +kernel
theorem dX11_thrust_22 : decode cX11_thrust 22 = .ok (.iconst 1, 1) := by decide +kernel
theorem dX11_thrust_23 : decode cX11_thrust 23 = .ok (.goto 4, 3) := by decide +kernel
theorem dX11_thrust_26 : decode cX11_thrust 26 = .ok (.iconst 0, 1) := by decide +kernel
theorem dX11_thrust_27 : decode cX11_thrust 27 = .ok (.iconst 2, 1) := by decide +kernel
theorem dX11_thrust_28 : decode cX11_thrust 28 = .ok (.invokevirtual 65, 3) := by decide +kernel
theorem dX11_thrust_31 : decode cX11_thrust 31 = .ok (.ifCond .eq 5, 3) := by decide +kernel
theorem dX11_thrust_34 : decode cX11_thrust 34 = .ok (.lconst 0, 1) := by decide +kernel
theorem dX11_thrust_35 : decode cX11_thrust 35 = .ok (.lreturn, 1) := by decide +kernel
theorem dX11_thrust_36 : decode cX11_thrust 36 = .ok (.aload_n 0, 1) := by decide +kernel
theorem dX11_thrust_37 : decode cX11_thrust 37 = .ok (.iload_n 1, 1) := by decide +kernel
theorem dX11_thrust_38 : decode cX11_thrust 38 = .ok (.invokevirtual 164, 3) := by decide +kernel
theorem dX11_thrust_41 : decode cX11_thrust 41 = .ok (.astore_n 2, 1) := by decide +kernel
theorem dX11_thrust_42 : decode cX11_thrust 42 = .ok (.aload_n 0, 1) := by decide +kernel
theorem dX11_thrust_43 : decode cX11_thrust 43 = .ok (.aload_n 2, 1) := by decide +kernel
theorem dX11_thrust_44 : decode cX11_thrust 44 = .ok (.ifnull 7, 3) := by decide +kernel
theorem dX11_thrust_47 : decode cX11_thrust 47 = .ok (.iconst 1, 1) := by decide +kernel
theorem dX11_thrust_48 : decode cX11_thrust 48 = .ok (.goto 4, 3) := by decide +kernel
theorem dX11_thrust_51 : decode cX11_thrust 51 = .ok (.iconst 0, 1) := by decide +kernel
theorem dX11_thrust_52 : decode cX11_thrust 52 = .ok (.iconst 2, 1) := by decide +kernel
theorem dX11_thrust_53 : decode cX11_thrust 53 = .ok (.invokevirtual 65, 3) := by decide +kernel
theorem dX11_thrust_56 : decode cX11_thrust 56 = .ok (.ifCond .eq 7, 3) := by decide +kernel
theorem dX11_thrust_59 : decode cX11_thrust 59 = .ok (.lconst 0, 1) := by decide +kernel
theorem dX11_thrust_60 : decode cX11_thrust 60 = .ok (.goto 7, 3) := by decide +kernel
theorem dX11_thrust_63 : decode cX11_thrust 63 = .ok (.aload_n 2, 1) := by decide +kernel
theorem dX11_thrust_64 : decode cX11_thrust 64 = .ok (.invokestatic 172, 3) := by decide +kernel
theorem dX11_thrust_67 : decode cX11_thrust 67 = .ok (.lreturn, 1) := by decide +kernel
theorem dX11_bears_0 : decode cX11_bears 0 = .ok (.aload_n 0, 1) := by decide +kernel
theorem dX11_bears_1 : decode cX11_bears 1 = .ok (.iload_n 1, 1) := by decide +kernel
theorem dX11_bears_2 : decode cX11_bears 2 = .ok (.invokevirtual 116, 3) := by decide +kernel
theorem dX11_bears_5 : decode cX11_bears 5 = .ok (.ifCond .ne 47, 3) := by decide +kernel
theorem dX11_bears_8 : decode cX11_bears 8 = .ok (.aload_n 0, 1) := by decide +kernel
theorem dX11_bears_9 : decode cX11_bears 9 = .ok (.aload_n 0, 1) := by decide +kernel
theorem dX11_bears_10 : decode cX11_bears 10 = .ok (.iload_n 2, 1) := by decide +kernel
theorem dX11_bears_11 : decode cX11_bears 11 = .ok (.invokevirtual 161, 3) := by decide +kernel
theorem dX11_bears_14 : decode cX11_bears 14 = .ok (.iconst 2, 1) := by decide +kernel
theorem dX11_bears_15 : decode cX11_bears 15 = .ok (.invokevirtual 65, 3) := by decide +kernel
theorem dX11_bears_18 : decode cX11_bears 18 = .ok (.ifCond .ne 34, 3) := by decide +kernel
theorem dX11_bears_21 : decode cX11_bears 21 = .ok (.aload_n 0, 1) := by decide +kernel
theorem dX11_bears_22 : decode cX11_bears 22 = .ok (.aload_n 0, 1) := by decide +kernel
theorem dX11_bears_23 : decode cX11_bears 23 = .ok (.invokevirtual 54, 3) := by decide +kernel
theorem dX11_bears_26 : decode cX11_bears 26 = .ok (.iconst 2, 1) := by decide +kernel
theorem dX11_bears_27 : decode cX11_bears 27 = .ok (.if_icmp .lt 17, 3) := by decide +kernel
theorem dX11_bears_30 : decode cX11_bears 30 = .ok (.aload_n 0, 1) := by decide +kernel
theorem dX11_bears_31 : decode cX11_bears 31 = .ok (.iload_n 1, 1) := by decide +kernel
theorem dX11_bears_32 : decode cX11_bears 32 = .ok (.iconst 0, 1) := by decide +kernel
theorem dX11_bears_33 : decode cX11_bears 33 = .ok (.iload_n 2, 1) := by decide +kernel
theorem dX11_bears_34 : decode cX11_bears 34 = .ok (.invokevirtual 176, 3) := by decide +kernel
theorem dX11_bears_37 : decode cX11_bears 37 = .ok (.ifCond .eq 7, 3) := by decide +kernel
theorem dX11_bears_40 : decode cX11_bears 40 = .ok (.iconst 1, 1) := by decide +kernel
theorem dX11_bears_41 : decode cX11_bears 41 = .ok (.goto 4, 3) := by decide +kernel
theorem dX11_bears_44 : decode cX11_bears 44 = .ok (.iconst 0, 1) := by decide +kernel
theorem dX11_bears_45 : decode cX11_bears 45 = .ok (.iconst 3, 1) := by decide +kernel
theorem dX11_bears_46 : decode cX11_bears 46 = .ok (.invokevirtual 65, 3) := by decide +kernel
theorem dX11_bears_49 : decode cX11_bears 49 = .ok (.ifCond .eq 5, 3) := by decide +kernel
theorem dX11_bears_52 : decode cX11_bears 52 = .ok (.iconst 0, 1) := by decide +kernel
theorem dX11_bears_53 : decode cX11_bears 53 = .ok (.ireturn, 1) := by decide +kernel
theorem dX11_bears_54 : decode cX11_bears 54 = .ok (.iconst 0, 1) := by decide +kernel
theorem dX11_bears_55 : decode cX11_bears 55 = .ok (.istore_n 3, 1) := by decide +kernel
theorem dX11_bears_56 : decode cX11_bears 56 = .ok (.sipush 20000, 3) := by decide +kernel
theorem dX11_bears_59 : decode cX11_bears 59 = .ok (.istore 4, 2) := by decide +kernel
theorem dX11_bears_61 : decode cX11_bears 61 = .ok (.iload_n 3, 1) := by decide +kernel
theorem dX11_bears_62 : decode cX11_bears 62 = .ok (.iload 4, 2) := by decide +kernel
theorem dX11_bears_64 : decode cX11_bears 64 = .ok (.if_icmp .ge 39, 3) := by decide +kernel
theorem dX11_bears_67 : decode cX11_bears 67 = .ok (.iload_n 3, 1) := by decide +kernel
theorem dX11_bears_68 : decode cX11_bears 68 = .ok (.iload 4, 2) := by decide +kernel
theorem dX11_bears_70 : decode cX11_bears 70 = .ok (.iadd, 1) := by decide +kernel
theorem dX11_bears_71 : decode cX11_bears 71 = .ok (.iconst 1, 1) := by decide +kernel
theorem dX11_bears_72 : decode cX11_bears 72 = .ok (.iadd, 1) := by decide +kernel
theorem dX11_bears_73 : decode cX11_bears 73 = .ok (.iconst 2, 1) := by decide +kernel
theorem dX11_bears_74 : decode cX11_bears 74 = .ok (.idiv, 1) := by decide +kernel
theorem dX11_bears_75 : decode cX11_bears 75 = .ok (.istore 5, 2) := by decide +kernel
theorem dX11_bears_77 : decode cX11_bears 77 = .ok (.aload_n 0, 1) := by decide +kernel
theorem dX11_bears_78 : decode cX11_bears 78 = .ok (.iload_n 1, 1) := by decide +kernel
theorem dX11_bears_79 : decode cX11_bears 79 = .ok (.iload 5, 2) := by decide +kernel
theorem dX11_bears_81 : decode cX11_bears 81 = .ok (.iload_n 2, 1) := by decide +kernel
theorem dX11_bears_82 : decode cX11_bears 82 = .ok (.invokevirtual 176, 3) := by decide +kernel
theorem dX11_bears_85 : decode cX11_bears 85 = .ok (.ifCond .eq 9, 3) := by decide +kernel
theorem dX11_bears_88 : decode cX11_bears 88 = .ok (.iload 5, 2) := by decide +kernel
theorem dX11_bears_90 : decode cX11_bears 90 = .ok (.istore_n 3, 1) := by decide +kernel
theorem dX11_bears_91 : decode cX11_bears 91 = .ok (.goto 9, 3) := by decide +kernel
theorem dX11_bears_94 : decode cX11_bears 94 = .ok (.iload 5, 2) := by decide +kernel
theorem dX11_bears_96 : decode cX11_bears 96 = .ok (.iconst 1, 1) := by decide +kernel
theorem dX11_bears_97 : decode cX11_bears 97 = .ok (.isub, 1) := by decide +kernel
theorem dX11_bears_98 : decode cX11_bears 98 = .ok (.istore 4, 2) := by decide +kernel
theorem dX11_bears_100 : decode cX11_bears 100 = .ok (.goto (-39), 3) := by decide +kernel
theorem dX11_bears_103 : decode cX11_bears 103 = .ok (.iload_n 3, 1) := by decide +kernel
theorem dX11_bears_104 : decode cX11_bears 104 = .ok (.ireturn, 1) := by decide +kernel
theorem dX11_gripOf_0 : decode cX11_gripOf 0 = .ok (.aload_n 0, 1) := by decide +kernel
theorem dX11_gripOf_1 : decode cX11_gripOf 1 = .ok (.invokevirtual 54, 3) := by decide +kernel
theorem dX11_gripOf_4 : decode cX11_gripOf 4 = .ok (.ifCond .eq 14, 3) := by decide +kernel
theorem dX11_gripOf_7 : decode cX11_gripOf 7 = .ok (.aload_n 0, 1) := by decide +kernel
theorem dX11_gripOf_8 : decode cX11_gripOf 8 = .ok (.invokevirtual 92, 3) := by decide +kernel
theorem dX11_gripOf_11 : decode cX11_gripOf 11 = .ok (.aload_n 0, 1) := by decide +kernel
theorem dX11_gripOf_12 : decode cX11_gripOf 12 = .ok (.invokevirtual 54, 3) := by decide +kernel
theorem dX11_gripOf_15 : decode cX11_gripOf 15 = .ok (.if_icmp .ge 5, 3) := by decide +kernel
theorem dX11_gripOf_18 : decode cX11_gripOf 18 = .ok (.iconst 3, 1) := by decide +kernel
theorem dX11_gripOf_19 : decode cX11_gripOf 19 = .ok (.ireturn, 1) := by decide +kernel
theorem dX11_gripOf_20 : decode cX11_gripOf 20 = .ok (.iconst 0, 1) := by decide +kernel
theorem dX11_gripOf_21 : decode cX11_gripOf 21 = .ok (.istore_n 1, 1) := by decide +kernel
theorem dX11_gripOf_22 : decode cX11_gripOf 22 = .ok (.aload_n 0, 1) := by decide +kernel
theorem dX11_gripOf_23 : decode cX11_gripOf 23 = .ok (.getfield 180, 3) := by decide +kernel
theorem dX11_gripOf_26 : decode cX11_gripOf 26 = .ok (.istore_n 2, 1) := by decide +kernel
theorem dX11_gripOf_27 : decode cX11_gripOf 27 = .ok (.iload_n 2, 1) := by decide +kernel
theorem dX11_gripOf_28 : decode cX11_gripOf 28 = .ok (.aload_n 0, 1) := by decide +kernel
theorem dX11_gripOf_29 : decode cX11_gripOf 29 = .ok (.getfield 182, 3) := by decide +kernel
theorem dX11_gripOf_32 : decode cX11_gripOf 32 = .ok (.if_icmp .ge 24, 3) := by decide +kernel
theorem dX11_gripOf_35 : decode cX11_gripOf 35 = .ok (.iload_n 1, 1) := by decide +kernel
theorem dX11_gripOf_36 : decode cX11_gripOf 36 = .ok (.iload_n 2, 1) := by decide +kernel
theorem dX11_gripOf_37 : decode cX11_gripOf 37 = .ok (.invokestatic 185, 3) := by decide +kernel
theorem dX11_gripOf_40 : decode cX11_gripOf 40 = .ok (.ifCond .eq 7, 3) := by decide +kernel
theorem dX11_gripOf_43 : decode cX11_gripOf 43 = .ok (.iconst 0, 1) := by decide +kernel
theorem dX11_gripOf_44 : decode cX11_gripOf 44 = .ok (.goto 4, 3) := by decide +kernel
theorem dX11_gripOf_47 : decode cX11_gripOf 47 = .ok (.iconst 1, 1) := by decide +kernel
theorem dX11_gripOf_48 : decode cX11_gripOf 48 = .ok (.iadd, 1) := by decide +kernel
theorem dX11_gripOf_49 : decode cX11_gripOf 49 = .ok (.istore_n 1, 1) := by decide +kernel
theorem dX11_gripOf_50 : decode cX11_gripOf 50 = .ok (.iinc 2 1, 3) := by decide +kernel
theorem dX11_gripOf_53 : decode cX11_gripOf 53 = .ok (.goto (-26), 3) := by decide +kernel
theorem dX11_gripOf_56 : decode cX11_gripOf 56 = .ok (.bipush 8, 2) := by decide +kernel
theorem dX11_gripOf_58 : decode cX11_gripOf 58 = .ok (.iconst 3, 1) := by decide +kernel
theorem dX11_gripOf_59 : decode cX11_gripOf 59 = .ok (.iload_n 1, 1) := by decide +kernel
theorem dX11_gripOf_60 : decode cX11_gripOf 60 = .ok (.iconst 5, 1) := by decide +kernel
theorem dX11_gripOf_61 : decode cX11_gripOf 61 = .ok (.idiv, 1) := by decide +kernel
theorem dX11_gripOf_62 : decode cX11_gripOf 62 = .ok (.iadd, 1) := by decide +kernel
theorem dX11_gripOf_63 : decode cX11_gripOf 63 = .ok (.invokestatic 188, 3) := by decide +kernel
theorem dX11_gripOf_66 : decode cX11_gripOf 66 = .ok (.ireturn, 1) := by decide +kernel
theorem dX11_grip_0 : decode cX11_grip 0 = .ok (.aload_n 0, 1) := by decide +kernel
theorem dX11_grip_1 : decode cX11_grip 1 = .ok (.invokevirtual 191, 3) := by decide +kernel
theorem dX11_grip_4 : decode cX11_grip 4 = .ok (.ireturn, 1) := by decide +kernel
theorem dX11_addBlocks_0 : decode cX11_addBlocks 0 = .ok (.iload_n 1, 1) := by decide +kernel
theorem dX11_addBlocks_1 : decode cX11_addBlocks 1 = .ok (.i2l, 1) := by decide +kernel
theorem dX11_addBlocks_2 : decode cX11_addBlocks 2 = .ok (.lconst 1, 1) := by decide +kernel
theorem dX11_addBlocks_3 : decode cX11_addBlocks 3 = .ok (.ldc2_w 73, 3) := by decide +kernel
theorem dX11_addBlocks_6 : decode cX11_addBlocks 6 = .ok (.invokestatic 57, 3) := by decide +kernel
theorem dX11_addBlocks_9 : decode cX11_addBlocks 9 = .ok (.ifCond .eq 44, 3) := by decide +kernel
theorem dX11_addBlocks_12 : decode cX11_addBlocks 12 = .ok (.iload_n 2, 1) := by decide +kernel
theorem dX11_addBlocks_13 : decode cX11_addBlocks 13 = .ok (.i2l, 1) := by decide +kernel
theorem dX11_addBlocks_14 : decode cX11_addBlocks 14 = .ok (.lconst 1, 1) := by decide +kernel
theorem dX11_addBlocks_15 : decode cX11_addBlocks 15 = .ok (.ldc2_w 73, 3) := by decide +kernel
theorem dX11_addBlocks_18 : decode cX11_addBlocks 18 = .ok (.invokestatic 57, 3) := by decide +kernel
theorem dX11_addBlocks_21 : decode cX11_addBlocks 21 = .ok (.ifCond .eq 32, 3) := by decide +kernel
theorem dX11_addBlocks_24 : decode cX11_addBlocks 24 = .ok (.iload_n 3, 1) := by decide +kernel
theorem dX11_addBlocks_25 : decode cX11_addBlocks 25 = .ok (.i2l, 1) := by decide +kernel
theorem dX11_addBlocks_26 : decode cX11_addBlocks 26 = .ok (.lconst 1, 1) := by decide +kernel
theorem dX11_addBlocks_27 : decode cX11_addBlocks 27 = .ok (.ldc2_w 194, 3) := by decide +kernel
theorem dX11_addBlocks_30 : decode cX11_addBlocks 30 = .ok (.invokestatic 57, 3) := by decide +kernel
theorem dX11_addBlocks_33 : decode cX11_addBlocks 33 = .ok (.ifCond .eq 20, 3) := by decide +kernel
theorem dX11_addBlocks_36 : decode cX11_addBlocks 36 = .ok (.iload 4, 2) := by decide +kernel
theorem dX11_addBlocks_38 : decode cX11_addBlocks 38 = .ok (.i2l, 1) := by decide +kernel
theorem dX11_addBlocks_39 : decode cX11_addBlocks 39 = .ok (.lconst 0, 1) := by decide +kernel
theorem dX11_addBlocks_40 : decode cX11_addBlocks 40 = .ok (.ldc2_w 196, 3) := by decide +kernel
theorem dX11_addBlocks_43 : decode cX11_addBlocks 43 = .ok (.invokestatic 57, 3) := by decide +kernel
theorem dX11_addBlocks_46 : decode cX11_addBlocks 46 = .ok (.ifCond .eq 7, 3) := by decide +kernel
theorem dX11_addBlocks_49 : decode cX11_addBlocks 49 = .ok (.iconst 1, 1) := by decide +kernel
theorem dX11_addBlocks_50 : decode cX11_addBlocks 50 = .ok (.goto 4, 3) := by decide +kernel
theorem dX11_addBlocks_53 : decode cX11_addBlocks 53 = .ok (.iconst 0, 1) := by decide +kernel
theorem dX11_addBlocks_54 : decode cX11_addBlocks 54 = .ok (.istore 6, 2) := by decide +kernel
theorem dX11_addBlocks_56 : decode cX11_addBlocks 56 = .ok (.aload_n 0, 1) := by decide +kernel
theorem dX11_addBlocks_57 : decode cX11_addBlocks 57 = .ok (.iload 6, 2) := by decide +kernel
theorem dX11_addBlocks_59 : decode cX11_addBlocks 59 = .ok (.iconst 1, 1) := by decide +kernel
theorem dX11_addBlocks_60 : decode cX11_addBlocks 60 = .ok (.invokevirtual 65, 3) := by decide +kernel
theorem dX11_addBlocks_63 : decode cX11_addBlocks 63 = .ok (.ifCond .ne 30, 3) := by decide +kernel
theorem dX11_addBlocks_66 : decode cX11_addBlocks 66 = .ok (.aload_n 0, 1) := by decide +kernel
theorem dX11_addBlocks_67 : decode cX11_addBlocks 67 = .ok (.aload_n 0, 1) := by decide +kernel
theorem dX11_addBlocks_68 : decode cX11_addBlocks 68 = .ok (.getfield 16, 3) := by decide +kernel
theorem dX11_addBlocks_71 : decode cX11_addBlocks 71 = .ok (.invokeinterface 42 1, 5) := by decide +kernel
theorem dX11_addBlocks_76 : decode cX11_addBlocks 76 = .ok (.bipush 6, 2) := by decide +kernel
theorem dX11_addBlocks_78 : decode cX11_addBlocks 78 = .ok (.if_icmp .ge 7, 3) := by decide +kernel
theorem dX11_addBlocks_81 : decode cX11_addBlocks 81 = .ok (.iconst 1, 1) := by decide +kernel
theorem dX11_addBlocks_82 : decode cX11_addBlocks 82 = .ok (.goto 4, 3) := by decide +kernel
theorem dX11_addBlocks_85 : decode cX11_addBlocks 85 = .ok (.iconst 0, 1) := by decide +kernel
theorem dX11_addBlocks_86 : decode cX11_addBlocks 86 = .ok (.iconst 2, 1) := by decide +kernel
theorem dX11_addBlocks_87 : decode cX11_addBlocks 87 = .ok (.invokevirtual 65, 3) := by decide +kernel
theorem dX11_addBlocks_90 : decode cX11_addBlocks 90 = .ok (.ifCond .eq 5, 3) := by decide +kernel
theorem dX11_addBlocks_93 : decode cX11_addBlocks 93 = .ok (.iconst 0, 1) := by decide +kernel
theorem dX11_addBlocks_94 : decode cX11_addBlocks 94 = .ok (.ireturn, 1) := by decide +kernel
theorem dX11_addBlocks_95 : decode cX11_addBlocks 95 = .ok (.aload_n 0, 1) := by decide +kernel
theorem dX11_addBlocks_96 : decode cX11_addBlocks 96 = .ok (.getfield 16, 3) := by decide +kernel
theorem dX11_addBlocks_99 : decode cX11_addBlocks 99 = .ok (.new 198, 3) := by decide +kernel
theorem dX11_addBlocks_102 : decode cX11_addBlocks 102 = .ok (.dup, 1) := by decide +kernel
theorem dX11_addBlocks_103 : decode cX11_addBlocks 103 = .ok (.iload_n 1, 1) := by decide +kernel
theorem dX11_addBlocks_104 : decode cX11_addBlocks 104 = .ok (.iload_n 2, 1) := by decide +kernel
theorem dX11_addBlocks_105 : decode cX11_addBlocks 105 = .ok (.iload_n 3, 1) := by decide +kernel
theorem dX11_addBlocks_106 : decode cX11_addBlocks 106 = .ok (.iload 4, 2) := by decide +kernel
theorem dX11_addBlocks_108 : decode cX11_addBlocks 108 = .ok (.iload 5, 2) := by decide +kernel
theorem dX11_addBlocks_110 : decode cX11_addBlocks 110 = .ok (.invokespecial 200, 3) := by decide +kernel
theorem dX11_addBlocks_113 : decode cX11_addBlocks 113 = .ok (.invokeinterface 95 2, 5) := by decide +kernel
theorem dX11_addBlocks_118 : decode cX11_addBlocks 118 = .ok (.pop, 1) := by decide +kernel
theorem dX11_addBlocks_119 : decode cX11_addBlocks 119 = .ok (.aload_n 0, 1) := by decide +kernel
theorem dX11_addBlocks_120 : decode cX11_addBlocks 120 = .ok (.getfield 16, 3) := by decide +kernel
theorem dX11_addBlocks_123 : decode cX11_addBlocks 123 = .ok (.invokeinterface 42 1, 5) := by decide +kernel
theorem dX11_addBlocks_128 : decode cX11_addBlocks 128 = .ok (.iconst 1, 1) := by decide +kernel
theorem dX11_addBlocks_129 : decode cX11_addBlocks 129 = .ok (.isub, 1) := by decide +kernel
theorem dX11_addBlocks_130 : decode cX11_addBlocks 130 = .ok (.ireturn, 1) := by decide +kernel
theorem dX11_blocks_0 : decode cX11_blocks 0 = .ok (.aload_n 0, 1) := by decide +kernel
theorem dX11_blocks_1 : decode cX11_blocks 1 = .ok (.iload_n 1, 1) := by decide +kernel
theorem dX11_blocks_2 : decode cX11_blocks 2 = .ok (.i2l, 1) := by decide +kernel
theorem dX11_blocks_3 : decode cX11_blocks 3 = .ok (.lconst 0, 1) := by decide +kernel
theorem dX11_blocks_4 : decode cX11_blocks 4 = .ok (.aload_n 0, 1) := by decide +kernel
theorem dX11_blocks_5 : decode cX11_blocks 5 = .ok (.getfield 16, 3) := by decide +kernel
theorem dX11_blocks_8 : decode cX11_blocks 8 = .ok (.invokeinterface 42 1, 5) := by decide +kernel
theorem dX11_blocks_13 : decode cX11_blocks 13 = .ok (.iconst 1, 1) := by decide +kernel
theorem dX11_blocks_14 : decode cX11_blocks 14 = .ok (.isub, 1) := by decide +kernel
theorem dX11_blocks_15 : decode cX11_blocks 15 = .ok (.i2l, 1) := by decide +kernel
theorem dX11_blocks_16 : decode cX11_blocks 16 = .ok (.invokestatic 57, 3) := by decide +kernel
theorem dX11_blocks_19 : decode cX11_blocks 19 = .ok (.iconst 1, 1) := by decide +kernel
theorem dX11_blocks_20 : decode cX11_blocks 20 = .ok (.invokevirtual 65, 3) := by decide +kernel
theorem dX11_blocks_23 : decode cX11_blocks 23 = .ok (.ifCond .eq 7, 3) := by decide +kernel
theorem dX11_blocks_26 : decode cX11_blocks 26 = .ok (.iconst 0, 1) := by decide +kernel
theorem dX11_blocks_27 : decode cX11_blocks 27 = .ok (.goto 19, 3) := by decide +kernel
theorem dX11_blocks_30 : decode cX11_blocks 30 = .ok (.aload_n 0, 1) := by decide +kernel
theorem dX11_blocks_31 : decode cX11_blocks 31 = .ok (.getfield 16, 3) := by decide +kernel
theorem dX11_blocks_34 : decode cX11_blocks 34 = .ok (.iload_n 1, 1) := by decide +kernel
theorem dX11_blocks_35 : decode cX11_blocks 35 = .ok (.invokeinterface 83 2, 5) := by decide +kernel
theorem dX11_blocks_40 : decode cX11_blocks 40 = .ok (.checkcast 198, 3) := by decide +kernel
theorem dX11_blocks_43 : decode cX11_blocks 43 = .ok (.getfield 203, 3) := by decide +kernel
theorem dX11_blocks_46 : decode cX11_blocks 46 = .ok (.ireturn, 1) := by decide +kernel
theorem dX11_bestBlock_0 : decode cX11_bestBlock 0 = .ok (.aload_n 0, 1) := by decide +kernel
theorem dX11_bestBlock_1 : decode cX11_bestBlock 1 = .ok (.iload_n 1, 1) := by decide +kernel
theorem dX11_bestBlock_2 : decode cX11_bestBlock 2 = .ok (.invokevirtual 116, 3) := by decide +kernel
theorem dX11_bestBlock_5 : decode cX11_bestBlock 5 = .ok (.ifCond .eq 5, 3) := by decide +kernel
theorem dX11_bestBlock_8 : decode cX11_bestBlock 8 = .ok (.iconst 0, 1) := by decide +kernel
theorem dX11_bestBlock_9 : decode cX11_bestBlock 9 = .ok (.ireturn, 1) := by decide +kernel
theorem dX11_bestBlock_10 : decode cX11_bestBlock 10 = .ok (.iconst (-1), 1) := by decide +kernel
theorem dX11_bestBlock_11 : decode cX11_bestBlock 11 = .ok (.istore_n 2, 1) := by decide +kernel
theorem dX11_bestBlock_12 : decode cX11_bestBlock 12 = .ok (.iconst 0, 1) := by decide +kernel
theorem dX11_bestBlock_13 : decode cX11_bestBlock 13 = .ok (.istore_n 3, 1) := by decide +kernel
theorem dX11_bestBlock_14 : decode cX11_bestBlock 14 = .ok (.iload_n 3, 1) := by decide +kernel
theorem dX11_bestBlock_15 : decode cX11_bestBlock 15 = .ok (.aload_n 0, 1) := by decide +kernel
theorem dX11_bestBlock_16 : decode cX11_bestBlock 16 = .ok (.getfield 16, 3) := by decide +kernel
theorem dX11_bestBlock_19 : decode cX11_bestBlock 19 = .ok (.invokeinterface 42 1, 5) := by decide +kernel
theorem dX11_bestBlock_24 : decode cX11_bestBlock 24 = .ok (.if_icmp .ge 100, 3) := by decide +kernel
theorem dX11_bestBlock_27 : decode cX11_bestBlock 27 = .ok (.aload_n 0, 1) := by decide +kernel
theorem dX11_bestBlock_28 : decode cX11_bestBlock 28 = .ok (.getfield 16, 3) := by decide +kernel
theorem dX11_bestBlock_31 : decode cX11_bestBlock 31 = .ok (.iload_n 3, 1) := by decide +kernel
theorem dX11_bestBlock_32 : decode cX11_bestBlock 32 = .ok (.invokeinterface 83 2, 5) := by decide +kernel
theorem dX11_bestBlock_37 : decode cX11_bestBlock 37 = .ok (.checkcast 198, 3) := by decide +kernel
theorem dX11_bestBlock_40 : decode cX11_bestBlock 40 = .ok (.astore 4, 2) := by decide +kernel
theorem dX11_bestBlock_42 : decode cX11_bestBlock 42 = .ok (.iload_n 2, 1) := by decide +kernel
theorem dX11_bestBlock_43 : decode cX11_bestBlock 43 = .ok (.iconst (-1), 1) := by decide +kernel
theorem dX11_bestBlock_44 : decode cX11_bestBlock 44 = .ok (.if_icmp .eq 50, 3) := by decide +kernel
theorem dX11_bestBlock_47 : decode cX11_bestBlock 47 = .ok (.aload 4, 2) := by decide +kernel
theorem dX11_bestBlock_49 : decode cX11_bestBlock 49 = .ok (.getfield 206, 3) := by decide +kernel
theorem dX11_bestBlock_52 : decode cX11_bestBlock 52 = .ok (.aload 4, 2) := by decide +kernel
theorem dX11_bestBlock_54 : decode cX11_bestBlock 54 = .ok (.getfield 209, 3) := by decide +kernel
theorem dX11_bestBlock_57 : decode cX11_bestBlock 57 = .ok (.imul, 1) := by decide +kernel
theorem dX11_bestBlock_58 : decode cX11_bestBlock 58 = .ok (.aload_n 0, 1) := by decide +kernel
theorem dX11_bestBlock_59 : decode cX11_bestBlock 59 = .ok (.getfield 16, 3) := by decide +kernel
theorem dX11_bestBlock_62 : decode cX11_bestBlock 62 = .ok (.iload_n 2, 1) := by decide +kernel
theorem dX11_bestBlock_63 : decode cX11_bestBlock 63 = .ok (.invokeinterface 83 2, 5) := by decide +kernel
theorem dX11_bestBlock_68 : decode cX11_bestBlock 68 = .ok (.checkcast 198, 3) := by decide +kernel
theorem dX11_bestBlock_71 : decode cX11_bestBlock 71 = .ok (.getfield 206, 3) := by decide +kernel
theorem dX11_bestBlock_74 : decode cX11_bestBlock 74 = .ok (.aload_n 0, 1) := by decide +kernel
theorem dX11_bestBlock_75 : decode cX11_bestBlock 75 = .ok (.getfield 16, 3) := by decide +kernel
theorem dX11_bestBlock_78 : decode cX11_bestBlock 78 = .ok (.iload_n 2, 1) := by decide +kernel
theorem dX11_bestBlock_79 : decode cX11_bestBlock 79 = .ok (.invokeinterface 83 2, 5) := by decide +kernel
theorem dX11_bestBlock_84 : decode cX11_bestBlock 84 = .ok (.checkcast 198, 3) := by decide +kernel
theorem dX11_bestBlock_87 : decode cX11_bestBlock 87 = .ok (.getfield 209, 3) := by decide +kernel
theorem dX11_bestBlock_90 : decode cX11_bestBlock 90 = .ok (.imul, 1) := by decide +kernel
theorem dX11_bestBlock_91 : decode cX11_bestBlock 91 = .ok (.if_icmp .ge 7, 3) := by decide +kernel
theorem dX11_bestBlock_94 : decode cX11_bestBlock 94 = .ok (.iconst 1, 1) := by decide +kernel
theorem dX11_bestBlock_95 : decode cX11_bestBlock 95 = .ok (.goto 4, 3) := by decide +kernel
theorem dX11_bestBlock_98 : decode cX11_bestBlock 98 = .ok (.iconst 0, 1) := by decide +kernel
theorem dX11_bestBlock_99 : decode cX11_bestBlock 99 = .ok (.istore 5, 2) := by decide +kernel
theorem dX11_bestBlock_101 : decode cX11_bestBlock 101 = .ok (.iload 5, 2) := by decide +kernel
theorem dX11_bestBlock_103 : decode cX11_bestBlock 103 = .ok (.ifCond .eq 15, 3) := by decide +kernel
theorem dX11_bestBlock_106 : decode cX11_bestBlock 106 = .ok (.aload_n 0, 1) := by decide +kernel
theorem dX11_bestBlock_107 : decode cX11_bestBlock 107 = .ok (.iload_n 1, 1) := by decide +kernel
theorem dX11_bestBlock_108 : decode cX11_bestBlock 108 = .ok (.aload 4, 2) := by decide +kernel
theorem dX11_bestBlock_110 : decode cX11_bestBlock 110 = .ok (.invokevirtual 216, 3) := by decide +kernel
theorem dX11_bestBlock_113 : decode cX11_bestBlock 113 = .ok (.ifCond .eq 5, 3) := by decide +kernel
theorem dX11_bestBlock_116 : decode cX11_bestBlock 116 = .ok (.iload_n 3, 1) := by decide +kernel
theorem dX11_bestBlock_117 : decode cX11_bestBlock 117 = .ok (.istore_n 2, 1) := by decide +kernel
theorem dX11_bestBlock_118 : decode cX11_bestBlock 118 = .ok (.iinc 3 1, 3) := by decide +kernel
theorem dX11_bestBlock_121 : decode cX11_bestBlock 121 = .ok (.goto (-107), 3) := by decide +kernel
theorem dX11_bestBlock_124 : decode cX11_bestBlock 124 = .ok (.aload_n 0, 1) := by decide +kernel
theorem dX11_bestBlock_125 : decode cX11_bestBlock 125 = .ok (.iload_n 2, 1) := by decide +kernel
theorem dX11_bestBlock_126 : decode cX11_bestBlock 126 = .ok (.iconst (-1), 1) := by decide +kernel
theorem dX11_bestBlock_127 : decode cX11_bestBlock 127 = .ok (.if_icmp .eq 7, 3) := by decide +kernel
theorem dX11_bestBlock_130 : decode cX11_bestBlock 130 = .ok (.iconst 1, 1) := by decide +kernel
theorem dX11_bestBlock_131 : decode cX11_bestBlock 131 = .ok (.goto 4, 3) := by decide +kernel
theorem dX11_bestBlock_134 : decode cX11_bestBlock 134 = .ok (.iconst 0, 1) := by decide +kernel
theorem dX11_bestBlock_135 : decode cX11_bestBlock 135 = .ok (.iconst 2, 1) := by decide +kernel
theorem dX11_bestBlock_136 : decode cX11_bestBlock 136 = .ok (.invokevirtual 65, 3) := by decide +kernel
theorem dX11_bestBlock_139 : decode cX11_bestBlock 139 = .ok (.ifCond .eq 7, 3) := by decide +kernel
theorem dX11_bestBlock_142 : decode cX11_bestBlock 142 = .ok (.iconst 0, 1) := by decide +kernel
theorem dX11_bestBlock_143 : decode cX11_bestBlock 143 = .ok (.goto 4, 3) := by decide +kernel
theorem dX11_bestBlock_146 : decode cX11_bestBlock 146 = .ok (.iload_n 2, 1) := by decide +kernel
theorem dX11_bestBlock_147 : decode cX11_bestBlock 147 = .ok (.ireturn, 1) := by decide +kernel
theorem dX11_addMason_0 : decode cX11_addMason 0 = .ok (.aload_n 0, 1) := by decide +kernel
theorem dX11_addMason_1 : decode cX11_addMason 1 = .ok (.iload_n 1, 1) := by decide +kernel
theorem dX11_addMason_2 : decode cX11_addMason 2 = .ok (.i2l, 1) := by decide +kernel
theorem dX11_addMason_3 : decode cX11_addMason 3 = .ok (.lconst 1, 1) := by decide +kernel
theorem dX11_addMason_4 : decode cX11_addMason 4 = .ok (.ldc2_w 194, 3) := by decide +kernel
theorem dX11_addMason_7 : decode cX11_addMason 7 = .ok (.invokestatic 57, 3) := by decide +kernel
theorem dX11_addMason_10 : decode cX11_addMason 10 = .ok (.ifCond .eq 19, 3) := by decide +kernel
theorem dX11_addMason_13 : decode cX11_addMason 13 = .ok (.iload_n 2, 1) := by decide +kernel
theorem dX11_addMason_14 : decode cX11_addMason 14 = .ok (.i2l, 1) := by decide +kernel
theorem dX11_addMason_15 : decode cX11_addMason 15 = .ok (.lconst 0, 1) := by decide +kernel
theorem dX11_addMason_16 : decode cX11_addMason 16 = .ok (.ldc2_w 220, 3) := by decide +kernel
theorem dX11_addMason_19 : decode cX11_addMason 19 = .ok (.invokestatic 57, 3) := by decide +kernel
theorem dX11_addMason_22 : decode cX11_addMason 22 = .ok (.ifCond .eq 7, 3) := by decide +kernel
theorem dX11_addMason_25 : decode cX11_addMason 25 = .ok (.iconst 1, 1) := by decide +kernel
theorem dX11_addMason_26 : decode cX11_addMason 26 = .ok (.goto 4, 3) := by decide +kernel
theorem dX11_addMason_29 : decode cX11_addMason 29 = .ok (.iconst 0, 1) := by decide +kernel
theorem dX11_addMason_30 : decode cX11_addMason 30 = .ok (.iconst 1, 1) := by decide +kernel
theorem dX11_addMason_31 : decode cX11_addMason 31 = .ok (.invokevirtual 65, 3) := by decide +kernel
theorem dX11_addMason_34 : decode cX11_addMason 34 = .ok (.ifCond .ne 29, 3) := by decide +kernel
theorem dX11_addMason_37 : decode cX11_addMason 37 = .ok (.aload_n 0, 1) := by decide +kernel
theorem dX11_addMason_38 : decode cX11_addMason 38 = .ok (.aload_n 0, 1) := by decide +kernel
theorem dX11_addMason_39 : decode cX11_addMason 39 = .ok (.getfield 19, 3) := by decide +kernel
theorem dX11_addMason_42 : decode cX11_addMason 42 = .ok (.invokeinterface 42 1, 5) := by decide +kernel
theorem dX11_addMason_47 : decode cX11_addMason 47 = .ok (.iconst 4, 1) := by decide +kernel
theorem dX11_addMason_48 : decode cX11_addMason 48 = .ok (.if_icmp .ge 7, 3) := by decide +kernel
theorem dX11_addMason_51 : decode cX11_addMason 51 = .ok (.iconst 1, 1) := by decide +kernel
theorem dX11_addMason_52 : decode cX11_addMason 52 = .ok (.goto 4, 3) := by decide +kernel
theorem dX11_addMason_55 : decode cX11_addMason 55 = .ok (.iconst 0, 1) := by decide +kernel
theorem dX11_addMason_56 : decode cX11_addMason 56 = .ok (.iconst 2, 1) := by decide +kernel
theorem dX11_addMason_57 : decode cX11_addMason 57 = .ok (.invokevirtual 65, 3) := by decide +kernel
theorem dX11_addMason_60 : decode cX11_addMason 60 = .ok (.ifCond .eq 5, 3) := by decide +kernel
theorem dX11_addMason_63 : decode cX11_addMason 63 = .ok (.iconst 0, 1) := by decide +kernel
theorem dX11_addMason_64 : decode cX11_addMason 64 = .ok (.ireturn, 1) := by decide +kernel
theorem dX11_addMason_65 : decode cX11_addMason 65 = .ok (.aload_n 0, 1) := by decide +kernel
theorem dX11_addMason_66 : decode cX11_addMason 66 = .ok (.getfield 19, 3) := by decide +kernel
theorem dX11_addMason_69 : decode cX11_addMason 69 = .ok (.new 222, 3) := by decide +kernel
theorem dX11_addMason_72 : decode cX11_addMason 72 = .ok (.dup, 1) := by decide +kernel
theorem dX11_addMason_73 : decode cX11_addMason 73 = .ok (.iload_n 1, 1) := by decide +kernel
theorem dX11_addMason_74 : decode cX11_addMason 74 = .ok (.iload_n 2, 1) := by decide +kernel
theorem dX11_addMason_75 : decode cX11_addMason 75 = .ok (.invokespecial 224, 3) := by decide +kernel
theorem dX11_addMason_78 : decode cX11_addMason 78 = .ok (.invokeinterface 95 2, 5) := by decide +kernel
theorem dX11_addMason_83 : decode cX11_addMason 83 = .ok (.pop, 1) := by decide +kernel
theorem dX11_addMason_84 : decode cX11_addMason 84 = .ok (.aload_n 0, 1) := by decide +kernel
theorem dX11_addMason_85 : decode cX11_addMason 85 = .ok (.getfield 19, 3) := by decide +kernel
theorem dX11_addMason_88 : decode cX11_addMason 88 = .ok (.invokeinterface 42 1, 5) := by decide +kernel
theorem dX11_addMason_93 : decode cX11_addMason 93 = .ok (.iconst 1, 1) := by decide +kernel
theorem dX11_addMason_94 : decode cX11_addMason 94 = .ok (.isub, 1) := by decide +kernel
theorem dX11_addMason_95 : decode cX11_addMason 95 = .ok (.ireturn, 1) := by decide +kernel
theorem dX11_cut_0 : decode cX11_cut 0 = .ok (.aload_n 0, 1) := by decide +kernel
theorem dX11_cut_1 : decode cX11_cut 1 = .ok (.aload_n 0, 1) := by decide +kernel
theorem dX11_cut_2 : decode cX11_cut 2 = .ok (.iload_n 1, 1) := by decide +kernel
theorem dX11_cut_3 : decode cX11_cut 3 = .ok (.invokevirtual 61, 3) := by decide +kernel
theorem dX11_cut_6 : decode cX11_cut 6 = .ok (.ifCond .eq 49, 3) := by decide +kernel
theorem dX11_cut_9 : decode cX11_cut 9 = .ok (.iload_n 2, 1) := by decide +kernel
theorem dX11_cut_10 : decode cX11_cut 10 = .ok (.i2l, 1) := by decide +kernel
theorem dX11_cut_11 : decode cX11_cut 11 = .ok (.lconst 0, 1) := by decide +kernel
theorem dX11_cut_12 : decode cX11_cut 12 = .ok (.aload_n 0, 1) := by decide +kernel
theorem dX11_cut_13 : decode cX11_cut 13 = .ok (.getfield 16, 3) := by decide +kernel
theorem dX11_cut_16 : decode cX11_cut 16 = .ok (.invokeinterface 42 1, 5) := by decide +kernel
theorem dX11_cut_21 : decode cX11_cut 21 = .ok (.iconst 1, 1) := by decide +kernel
theorem dX11_cut_22 : decode cX11_cut 22 = .ok (.isub, 1) := by decide +kernel
theorem dX11_cut_23 : decode cX11_cut 23 = .ok (.i2l, 1) := by decide +kernel
theorem dX11_cut_24 : decode cX11_cut 24 = .ok (.invokestatic 57, 3) := by decide +kernel
theorem dX11_cut_27 : decode cX11_cut 27 = .ok (.ifCond .eq 28, 3) := by decide +kernel
theorem dX11_cut_30 : decode cX11_cut 30 = .ok (.iload_n 3, 1) := by decide +kernel
theorem dX11_cut_31 : decode cX11_cut 31 = .ok (.i2l, 1) := by decide +kernel
theorem dX11_cut_32 : decode cX11_cut 32 = .ok (.lconst 0, 1) := by decide +kernel
theorem dX11_cut_33 : decode cX11_cut 33 = .ok (.aload_n 0, 1) := by decide +kernel
theorem dX11_cut_34 : decode cX11_cut 34 = .ok (.getfield 19, 3) := by decide +kernel
theorem dX11_cut_37 : decode cX11_cut 37 = .ok (.invokeinterface 42 1, 5) := by decide +kernel
theorem dX11_cut_42 : decode cX11_cut 42 = .ok (.iconst 1, 1) := by decide +kernel
theorem dX11_cut_43 : decode cX11_cut 43 = .ok (.isub, 1) := by decide +kernel
theorem dX11_cut_44 : decode cX11_cut 44 = .ok (.i2l, 1) := by decide +kernel
theorem dX11_cut_45 : decode cX11_cut 45 = .ok (.invokestatic 57, 3) := by decide +kernel
theorem dX11_cut_48 : decode cX11_cut 48 = .ok (.ifCond .eq 7, 3) := by decide +kernel
theorem dX11_cut_51 : decode cX11_cut 51 = .ok (.iconst 1, 1) := by decide +kernel
theorem dX11_cut_52 : decode cX11_cut 52 = .ok (.goto 4, 3) := by decide +kernel
theorem dX11_cut_55 : decode cX11_cut 55 = .ok (.iconst 0, 1) := by decide +kernel
theorem dX11_cut_56 : decode cX11_cut 56 = .ok (.iconst 1, 1) := by decide +kernel
theorem dX11_cut_57 : decode cX11_cut 57 = .ok (.invokevirtual 65, 3) := by decide +kernel
theorem dX11_cut_60 : decode cX11_cut 60 = .ok (.ifCond .eq 5, 3) := by decide +kernel
theorem dX11_cut_63 : decode cX11_cut 63 = .ok (.iconst 0, 1) := by decide +kernel
theorem dX11_cut_64 : decode cX11_cut 64 = .ok (.ireturn, 1) := by decide +kernel
theorem dX11_cut_65 : decode cX11_cut 65 = .ok (.aload_n 0, 1) := by decide +kernel
theorem dX11_cut_66 : decode cX11_cut 66 = .ok (.getfield 16, 3) := by decide +kernel
theorem dX11_cut_69 : decode cX11_cut 69 = .ok (.iload_n 2, 1) := by decide +kernel
theorem dX11_cut_70 : decode cX11_cut 70 = .ok (.invokeinterface 83 2, 5) := by decide +kernel
theorem dX11_cut_75 : decode cX11_cut 75 = .ok (.checkcast 198, 3) := by decide +kernel
theorem dX11_cut_78 : decode cX11_cut 78 = .ok (.astore 4, 2) := by decide +kernel
theorem dX11_cut_80 : decode cX11_cut 80 = .ok (.aload_n 0, 1) := by decide +kernel
theorem dX11_cut_81 : decode cX11_cut 81 = .ok (.getfield 19, 3) := by decide +kernel
theorem dX11_cut_84 : decode cX11_cut 84 = .ok (.iload_n 3, 1) := by decide +kernel
theorem dX11_cut_85 : decode cX11_cut 85 = .ok (.invokeinterface 83 2, 5) := by decide +kernel
theorem dX11_cut_90 : decode cX11_cut 90 = .ok (.checkcast 222, 3) := by decide +kernel
theorem dX11_cut_93 : decode cX11_cut 93 = .ok (.astore 5, 2) := by decide +kernel
theorem dX11_cut_95 : decode cX11_cut 95 = .ok (.aload_n 0, 1) := by decide +kernel
theorem dX11_cut_96 : decode cX11_cut 96 = .ok (.aload_n 0, 1) := by decide +kernel
theorem dX11_cut_97 : decode cX11_cut 97 = .ok (.iload_n 1, 1) := by decide +kernel
theorem dX11_cut_98 : decode cX11_cut 98 = .ok (.aload 4, 2) := by decide +kernel
theorem dX11_cut_100 : decode cX11_cut 100 = .ok (.invokevirtual 216, 3) := by decide +kernel
theorem dX11_cut_103 : decode cX11_cut 103 = .ok (.iconst 2, 1) := by decide +kernel
theorem dX11_cut_104 : decode cX11_cut 104 = .ok (.invokevirtual 65, 3) := by decide +kernel
theorem dX11_cut_107 : decode cX11_cut 107 = .ok (.ifCond .ne 30, 3) := by decide +kernel
theorem dX11_cut_110 : decode cX11_cut 110 = .ok (.aload_n 0, 1) := by decide +kernel
theorem dX11_cut_111 : decode cX11_cut 111 = .ok (.aload_n 0, 1) := by decide +kernel
theorem dX11_cut_112 : decode cX11_cut 112 = .ok (.getfield 22, 3) := by decide +kernel
theorem dX11_cut_115 : decode cX11_cut 115 = .ok (.invokeinterface 42 1, 5) := by decide +kernel
theorem dX11_cut_120 : decode cX11_cut 120 = .ok (.bipush 40, 2) := by decide +kernel
theorem dX11_cut_122 : decode cX11_cut 122 = .ok (.if_icmp .ge 7, 3) := by decide +kernel
theorem dX11_cut_125 : decode cX11_cut 125 = .ok (.iconst 1, 1) := by decide +kernel
theorem dX11_cut_126 : decode cX11_cut 126 = .ok (.goto 4, 3) := by decide +kernel
theorem dX11_cut_129 : decode cX11_cut 129 = .ok (.iconst 0, 1) := by decide +kernel
theorem dX11_cut_130 : decode cX11_cut 130 = .ok (.iconst 3, 1) := by decide +kernel
theorem dX11_cut_131 : decode cX11_cut 131 = .ok (.invokevirtual 65, 3) := by decide +kernel
theorem dX11_cut_134 : decode cX11_cut 134 = .ok (.ifCond .eq 5, 3) := by decide +kernel
theorem dX11_cut_137 : decode cX11_cut 137 = .ok (.iconst 0, 1) := by decide +kernel
theorem dX11_cut_138 : decode cX11_cut 138 = .ok (.ireturn, 1) := by decide +kernel
theorem dX11_cut_139 : decode cX11_cut 139 = .ok (.aload_n 0, 1) := by decide +kernel
theorem dX11_cut_140 : decode cX11_cut 140 = .ok (.iload_n 1, 1) := by decide +kernel
theorem dX11_cut_141 : decode cX11_cut 141 = .ok (.invokevirtual 112, 3) := by decide +kernel
theorem dX11_cut_144 : decode cX11_cut 144 = .ok (.istore 6, 2) := by decide +kernel
theorem dX11_cut_146 : decode cX11_cut 146 = .ok (.iload 6, 2) := by decide +kernel
theorem dX11_cut_148 : decode cX11_cut 148 = .ok (.aload 5, 2) := by decide +kernel
theorem dX11_cut_150 : decode cX11_cut 150 = .ok (.getfield 227, 3) := by decide +kernel
theorem dX11_cut_153 : decode cX11_cut 153 = .ok (.iadd, 1) := by decide +kernel
theorem dX11_cut_154 : decode cX11_cut 154 = .ok (.iconst 1, 1) := by decide +kernel
theorem dX11_cut_155 : decode cX11_cut 155 = .ok (.isub, 1) := by decide +kernel
theorem dX11_cut_156 : decode cX11_cut 156 = .ok (.aload 5, 2) := by decide +kernel
theorem dX11_cut_158 : decode cX11_cut 158 = .ok (.getfield 227, 3) := by decide +kernel
theorem dX11_cut_161 : decode cX11_cut 161 = .ok (.idiv, 1) := by decide +kernel
theorem dX11_cut_162 : decode cX11_cut 162 = .ok (.istore 7, 2) := by decide +kernel
theorem dX11_cut_164 : decode cX11_cut 164 = .ok (.aload_n 0, 1) := by decide +kernel
theorem dX11_cut_165 : decode cX11_cut 165 = .ok (.getfield 182, 3) := by decide +kernel
theorem dX11_cut_168 : decode cX11_cut 168 = .ok (.aload 5, 2) := by decide +kernel
theorem dX11_cut_170 : decode cX11_cut 170 = .ok (.getfield 230, 3) := by decide +kernel
theorem dX11_cut_173 : decode cX11_cut 173 = .ok (.invokestatic 48, 3) := by decide +kernel
theorem dX11_cut_176 : decode cX11_cut 176 = .ok (.istore 8, 2) := by decide +kernel
theorem dX11_cut_178 : decode cX11_cut 178 = .ok (.iload 7, 2) := by decide +kernel
theorem dX11_cut_180 : decode cX11_cut 180 = .ok (.ifCond .le 27, 3) := by decide +kernel
theorem dX11_cut_183 : decode cX11_cut 183 = .ok (.iload 7, 2) := by decide +kernel
theorem dX11_cut_185 : decode cX11_cut 185 = .ok (.iload 8, 2) := by decide +kernel
theorem dX11_cut_187 : decode cX11_cut 187 = .ok (.invokestatic 185, 3) := by decide +kernel
theorem dX11_cut_190 : decode cX11_cut 190 = .ok (.ifCond .eq 7, 3) := by decide +kernel
theorem dX11_cut_193 : decode cX11_cut 193 = .ok (.iconst 0, 1) := by decide +kernel
theorem dX11_cut_194 : decode cX11_cut 194 = .ok (.goto 4, 3) := by decide +kernel
theorem dX11_cut_197 : decode cX11_cut 197 = .ok (.iconst 1, 1) := by decide +kernel
theorem dX11_cut_198 : decode cX11_cut 198 = .ok (.isub, 1) := by decide +kernel
theorem dX11_cut_199 : decode cX11_cut 199 = .ok (.istore 7, 2) := by decide +kernel
theorem dX11_cut_201 : decode cX11_cut 201 = .ok (.iinc 8 1, 3) := by decide +kernel
theorem dX11_cut_204 : decode cX11_cut 204 = .ok (.goto (-26), 3) := by decide +kernel
theorem dX11_cut_207 : decode cX11_cut 207 = .ok (.aload_n 0, 1) := by decide +kernel
theorem dX11_cut_208 : decode cX11_cut 208 = .ok (.getfield 22, 3) := by decide +kernel
theorem dX11_cut_211 : decode cX11_cut 211 = .ok (.new 233, 3) := by decide +kernel
theorem dX11_cut_214 : decode cX11_cut 214 = .ok (.dup, 1) := by decide +kernel
theorem dX11_cut_215 : decode cX11_cut 215 = .ok (.aload_n 0, 1) := by decide +kernel
theorem dX11_cut_216 : decode cX11_cut 216 = .ok (.iload_n 1, 1) := by decide +kernel
theorem dX11_cut_217 : decode cX11_cut 217 = .ok (.invokevirtual 108, 3) := by decide +kernel
theorem dX11_cut_220 : decode cX11_cut 220 = .ok (.invokestatic 235, 3) := by decide +kernel
theorem dX11_cut_223 : decode cX11_cut 223 = .ok (.iload 8, 2) := by decide +kernel
theorem dX11_cut_225 : decode cX11_cut 225 = .ok (.new 239, 3) := by decide +kernel
theorem dX11_cut_228 : decode cX11_cut 228 = .ok (.dup, 1) := by decide +kernel
theorem dX11_cut_229 : decode cX11_cut 229 = .ok (.invokespecial 241, 3) := by decide +kernel
theorem dX11_cut_232 : decode cX11_cut 232 = .ok (.ldc 242, 2) := by decide +kernel
theorem dX11_cut_234 : decode cX11_cut 234 = .ok (.invokevirtual 244, 3) := by decide +kernel
theorem dX11_cut_237 : decode cX11_cut 237 = .ok (.bipush 65, 2) := by decide +kernel
theorem dX11_cut_239 : decode cX11_cut 239 = .ok (.iload_n 3, 1) := by decide +kernel
theorem dX11_cut_240 : decode cX11_cut 240 = .ok (.iadd, 1) := by decide +kernel
theorem dX11_cut_241 : decode cX11_cut 241 = .ok (.i2c, 1) := by decide +kernel
theorem dX11_cut_242 : decode cX11_cut 242 = .ok (.invokevirtual 248, 3) := by decide +kernel
theorem dX11_cut_245 : decode cX11_cut 245 = .ok (.iload_n 1, 1) := by decide +kernel
theorem dX11_cut_246 : decode cX11_cut 246 = .ok (.invokevirtual 251, 3) := by decide +kernel
theorem dX11_cut_249 : decode cX11_cut 249 = .ok (.ldc 254, 2) := by decide +kernel
theorem dX11_cut_251 : decode cX11_cut 251 = .ok (.invokevirtual 244, 3) := by decide +kernel
theorem dX11_cut_254 : decode cX11_cut 254 = .ok (.aload_n 0, 1) := by decide +kernel
theorem dX11_cut_255 : decode cX11_cut 255 = .ok (.getfield 99, 3) := by decide +kernel
theorem dX11_cut_258 : decode cX11_cut 258 = .ok (.invokevirtual 251, 3) := by decide +kernel
theorem dX11_cut_261 : decode cX11_cut 261 = .ok (.ldc_w 256, 3) := by decide +kernel
theorem dX11_cut_264 : decode cX11_cut 264 = .ok (.invokevirtual 244, 3) := by decide +kernel
theorem dX11_cut_267 : decode cX11_cut 267 = .ok (.aload 5, 2) := by decide +kernel
theorem dX11_cut_269 : decode cX11_cut 269 = .ok (.getfield 258, 3) := by decide +kernel
theorem dX11_cut_272 : decode cX11_cut 272 = .ok (.invokevirtual 251, 3) := by decide +kernel
theorem dX11_cut_275 : decode cX11_cut 275 = .ok (.invokevirtual 261, 3) := by decide +kernel
theorem dX11_cut_278 : decode cX11_cut 278 = .ok (.invokespecial 265, 3) := by decide +kernel
theorem dX11_cut_281 : decode cX11_cut 281 = .ok (.invokeinterface 95 2, 5) := by decide +kernel
theorem dX11_cut_286 : decode cX11_cut 286 = .ok (.pop, 1) := by decide +kernel
theorem dX11_cut_287 : decode cX11_cut 287 = .ok (.aload 4, 2) := by decide +kernel
theorem dX11_cut_289 : decode cX11_cut 289 = .ok (.dup, 1) := by decide +kernel
theorem dX11_cut_290 : decode cX11_cut 290 = .ok (.getfield 203, 3) := by decide +kernel
theorem dX11_cut_293 : decode cX11_cut 293 = .ok (.iconst 1, 1) := by decide +kernel
theorem dX11_cut_294 : decode cX11_cut 294 = .ok (.isub, 1) := by decide +kernel
theorem dX11_cut_295 : decode cX11_cut 295 = .ok (.putfield 203, 3) := by decide +kernel
theorem dX11_cut_298 : decode cX11_cut 298 = .ok (.aload 5, 2) := by decide +kernel
theorem dX11_cut_300 : decode cX11_cut 300 = .ok (.dup, 1) := by decide +kernel
theorem dX11_cut_301 : decode cX11_cut 301 = .ok (.getfield 258, 3) := by decide +kernel
theorem dX11_cut_304 : decode cX11_cut 304 = .ok (.iconst 1, 1) := by decide +kernel
theorem dX11_cut_305 : decode cX11_cut 305 = .ok (.iadd, 1) := by decide +kernel
theorem dX11_cut_306 : decode cX11_cut 306 = .ok (.putfield 258, 3) := by decide +kernel
theorem dX11_cut_309 : decode cX11_cut 309 = .ok (.aload 5, 2) := by decide +kernel
theorem dX11_cut_311 : decode cX11_cut 311 = .ok (.iload 8, 2) := by decide +kernel
theorem dX11_cut_313 : decode cX11_cut 313 = .ok (.putfield 230, 3) := by decide +kernel
theorem dX11_cut_316 : decode cX11_cut 316 = .ok (.aload_n 0, 1) := by decide +kernel
theorem dX11_cut_317 : decode cX11_cut 317 = .ok (.dup, 1) := by decide +kernel
theorem dX11_cut_318 : decode cX11_cut 318 = .ok (.getfield 268, 3) := by decide +kernel
theorem dX11_cut_321 : decode cX11_cut 321 = .ok (.aload 4, 2) := by decide +kernel
theorem dX11_cut_323 : decode cX11_cut 323 = .ok (.getfield 272, 3) := by decide +kernel
theorem dX11_cut_326 : decode cX11_cut 326 = .ok (.i2l, 1) := by decide +kernel
theorem dX11_cut_327 : decode cX11_cut 327 = .ok (.aload 5, 2) := by decide +kernel
theorem dX11_cut_329 : decode cX11_cut 329 = .ok (.getfield 275, 3) := by decide +kernel
theorem dX11_cut_332 : decode cX11_cut 332 = .ok (.i2l, 1) := by decide +kernel
theorem dX11_cut_333 : decode cX11_cut 333 = .ok (.iload 6, 2) := by decide +kernel
theorem dX11_cut_335 : decode cX11_cut 335 = .ok (.i2l, 1) := by decide +kernel
theorem dX11_cut_336 : decode cX11_cut 336 = .ok (.lmul, 1) := by decide +kernel
theorem dX11_cut_337 : decode cX11_cut 337 = .ok (.ladd, 1) := by decide +kernel
theorem dX11_cut_338 : decode cX11_cut 338 = .ok (.ladd, 1) := by decide +kernel
theorem dX11_cut_339 : decode cX11_cut 339 = .ok (.putfield 268, 3) := by decide +kernel
theorem dX11_cut_342 : decode cX11_cut 342 = .ok (.aload_n 0, 1) := by decide +kernel
theorem dX11_cut_343 : decode cX11_cut 343 = .ok (.dup, 1) := by decide +kernel
theorem dX11_cut_344 : decode cX11_cut 344 = .ok (.getfield 278, 3) := by decide +kernel
theorem dX11_cut_347 : decode cX11_cut 347 = .ok (.iload 6, 2) := by decide +kernel
theorem dX11_cut_349 : decode cX11_cut 349 = .ok (.iadd, 1) := by decide +kernel
theorem dX11_cut_350 : decode cX11_cut 350 = .ok (.putfield 278, 3) := by decide +kernel
theorem dX11_cut_353 : decode cX11_cut 353 = .ok (.aload_n 0, 1) := by decide +kernel
theorem dX11_cut_354 : decode cX11_cut 354 = .ok (.dup, 1) := by decide +kernel
theorem dX11_cut_355 : decode cX11_cut 355 = .ok (.getfield 281, 3) := by decide +kernel
theorem dX11_cut_358 : decode cX11_cut 358 = .ok (.iconst 2, 1) := by decide +kernel
theorem dX11_cut_359 : decode cX11_cut 359 = .ok (.aload 4, 2) := by decide +kernel
theorem dX11_cut_361 : decode cX11_cut 361 = .ok (.getfield 206, 3) := by decide +kernel
theorem dX11_cut_364 : decode cX11_cut 364 = .ok (.imul, 1) := by decide +kernel
theorem dX11_cut_365 : decode cX11_cut 365 = .ok (.aload 4, 2) := by decide +kernel
theorem dX11_cut_367 : decode cX11_cut 367 = .ok (.getfield 209, 3) := by decide +kernel
theorem dX11_cut_370 : decode cX11_cut 370 = .ok (.imul, 1) := by decide +kernel
theorem dX11_cut_371 : decode cX11_cut 371 = .ok (.iadd, 1) := by decide +kernel
theorem dX11_cut_372 : decode cX11_cut 372 = .ok (.putfield 281, 3) := by decide +kernel
theorem dX11_cut_375 : decode cX11_cut 375 = .ok (.aload_n 0, 1) := by decide +kernel
theorem dX11_cut_376 : decode cX11_cut 376 = .ok (.dup, 1) := by decide +kernel
theorem dX11_cut_377 : decode cX11_cut 377 = .ok (.getfield 284, 3) := by decide +kernel
theorem dX11_cut_380 : decode cX11_cut 380 = .ok (.iconst 2, 1) := by decide +kernel
theorem dX11_cut_381 : decode cX11_cut 381 = .ok (.aload 4, 2) := by decide +kernel
theorem dX11_cut_383 : decode cX11_cut 383 = .ok (.getfield 206, 3) := by decide +kernel
theorem dX11_cut_386 : decode cX11_cut 386 = .ok (.imul, 1) := by decide +kernel
theorem dX11_cut_387 : decode cX11_cut 387 = .ok (.aload 4, 2) := by decide +kernel
theorem dX11_cut_389 : decode cX11_cut 389 = .ok (.getfield 209, 3) := by decide +kernel
theorem dX11_cut_392 : decode cX11_cut 392 = .ok (.imul, 1) := by decide +kernel
theorem dX11_cut_393 : decode cX11_cut 393 = .ok (.iload 6, 2) := by decide +kernel
theorem dX11_cut_395 : decode cX11_cut 395 = .ok (.isub, 1) := by decide +kernel
theorem dX11_cut_396 : decode cX11_cut 396 = .ok (.iadd, 1) := by decide +kernel
theorem dX11_cut_397 : decode cX11_cut 397 = .ok (.putfield 284, 3) := by decide +kernel
theorem dX11_cut_400 : decode cX11_cut 400 = .ok (.aload_n 0, 1) := by decide +kernel
theorem dX11_cut_401 : decode cX11_cut 401 = .ok (.getfield 22, 3) := by decide +kernel
theorem dX11_cut_404 : decode cX11_cut 404 = .ok (.invokeinterface 42 1, 5) := by decide +kernel
theorem dX11_cut_409 : decode cX11_cut 409 = .ok (.iconst 1, 1) := by decide +kernel
theorem dX11_cut_410 : decode cX11_cut 410 = .ok (.isub, 1) := by decide +kernel
theorem dX11_cut_411 : decode cX11_cut 411 = .ok (.ireturn, 1) := by decide +kernel
theorem dX11_isStone_0 : decode cX11_isStone 0 = .ok (.iload_n 1, 1) := by decide +kernel
theorem dX11_isStone_1 : decode cX11_isStone 1 = .ok (.i2l, 1) := by decide +kernel
theorem dX11_isStone_2 : decode cX11_isStone 2 = .ok (.lconst 0, 1) := by decide +kernel
theorem dX11_isStone_3 : decode cX11_isStone 3 = .ok (.aload_n 0, 1) := by decide +kernel
theorem dX11_isStone_4 : decode cX11_isStone 4 = .ok (.getfield 22, 3) := by decide +kernel
theorem dX11_isStone_7 : decode cX11_isStone 7 = .ok (.invokeinterface 42 1, 5) := by decide +kernel
theorem dX11_isStone_12 : decode cX11_isStone 12 = .ok (.iconst 1, 1) := by decide +kernel
theorem dX11_isStone_13 : decode cX11_isStone 13 = .ok (.isub, 1) := by decide +kernel
theorem dX11_isStone_14 : decode cX11_isStone 14 = .ok (.i2l, 1) := by decide +kernel
theorem dX11_isStone_15 : decode cX11_isStone 15 = .ok (.invokestatic 57, 3) := by decide +kernel
theorem dX11_isStone_18 : decode cX11_isStone 18 = .ok (.ireturn, 1) := by decide +kernel
theorem dX11_noStone_0 : decode cX11_noStone 0 = .ok (.aload_n 0, 1) := by decide +kernel
theorem dX11_noStone_1 : decode cX11_noStone 1 = .ok (.aload_n 0, 1) := by decide +kernel
theorem dX11_noStone_2 : decode cX11_noStone 2 = .ok (.iload_n 1, 1) := by decide +kernel
theorem dX11_noStone_3 : decode cX11_noStone 3 = .ok (.invokevirtual 287, 3) := by decide +kernel
theorem dX11_noStone_6 : decode cX11_noStone 6 = .ok (.iconst 1, 1) := by decide +kernel
theorem dX11_noStone_7 : decode cX11_noStone 7 = .ok (.invokevirtual 65, 3) := by decide +kernel
theorem dX11_noStone_10 : decode cX11_noStone 10 = .ok (.ireturn, 1) := by decide +kernel
theorem dX11_readyOn_0 : decode cX11_readyOn 0 = .ok (.aload_n 0, 1) := by decide +kernel
theorem dX11_readyOn_1 : decode cX11_readyOn 1 = .ok (.iload_n 1, 1) := by decide +kernel
theorem dX11_readyOn_2 : decode cX11_readyOn 2 = .ok (.invokevirtual 290, 3) := by decide +kernel
theorem dX11_readyOn_5 : decode cX11_readyOn 5 = .ok (.ifCond .eq 7, 3) := by decide +kernel
theorem dX11_readyOn_8 : decode cX11_readyOn 8 = .ok (.iconst 0, 1) := by decide +kernel
theorem dX11_readyOn_9 : decode cX11_readyOn 9 = .ok (.goto 19, 3) := by decide +kernel
theorem dX11_readyOn_12 : decode cX11_readyOn 12 = .ok (.aload_n 0, 1) := by decide +kernel
theorem dX11_readyOn_13 : decode cX11_readyOn 13 = .ok (.getfield 22, 3) := by decide +kernel
theorem dX11_readyOn_16 : decode cX11_readyOn 16 = .ok (.iload_n 1, 1) := by decide +kernel
theorem dX11_readyOn_17 : decode cX11_readyOn 17 = .ok (.invokeinterface 83 2, 5) := by decide +kernel
theorem dX11_readyOn_22 : decode cX11_readyOn 22 = .ok (.checkcast 233, 3) := by decide +kernel
theorem dX11_readyOn_25 : decode cX11_readyOn 25 = .ok (.getfield 293, 3) := by decide +kernel
theorem dX11_readyOn_28 : decode cX11_readyOn 28 = .ok (.ireturn, 1) := by decide +kernel
theorem dX11_stateOf_0 : decode cX11_stateOf 0 = .ok (.aload_n 0, 1) := by decide +kernel
theorem dX11_stateOf_1 : decode cX11_stateOf 1 = .ok (.iload_n 1, 1) := by decide +kernel
theorem dX11_stateOf_2 : decode cX11_stateOf 2 = .ok (.invokevirtual 290, 3) := by decide +kernel
theorem dX11_stateOf_5 : decode cX11_stateOf 5 = .ok (.ifCond .eq 8, 3) := by decide +kernel
theorem dX11_stateOf_8 : decode cX11_stateOf 8 = .ok (.bipush 99, 2) := by decide +kernel
theorem dX11_stateOf_10 : decode cX11_stateOf 10 = .ok (.goto 8, 3) := by decide +kernel
theorem dX11_stateOf_13 : decode cX11_stateOf 13 = .ok (.aload_n 0, 1) := by decide +kernel
theorem dX11_stateOf_14 : decode cX11_stateOf 14 = .ok (.iload_n 1, 1) := by decide +kernel
theorem dX11_stateOf_15 : decode cX11_stateOf 15 = .ok (.invokevirtual 300, 3) := by decide +kernel
theorem dX11_stateOf_18 : decode cX11_stateOf 18 = .ok (.ireturn, 1) := by decide +kernel
theorem dX11_mark_0 : decode cX11_mark 0 = .ok (.aload_n 0, 1) := by decide +kernel
theorem dX11_mark_1 : decode cX11_mark 1 = .ok (.iload_n 1, 1) := by decide +kernel
theorem dX11_mark_2 : decode cX11_mark 2 = .ok (.invokevirtual 290, 3) := by decide +kernel
theorem dX11_mark_5 : decode cX11_mark 5 = .ok (.ifCond .eq 7, 3) := by decide +kernel
theorem dX11_mark_8 : decode cX11_mark 8 = .ok (.iconst 0, 1) := by decide +kernel
theorem dX11_mark_9 : decode cX11_mark 9 = .ok (.goto 22, 3) := by decide +kernel
theorem dX11_mark_12 : decode cX11_mark 12 = .ok (.aload_n 0, 1) := by decide +kernel
theorem dX11_mark_13 : decode cX11_mark 13 = .ok (.getfield 22, 3) := by decide +kernel
theorem dX11_mark_16 : decode cX11_mark 16 = .ok (.iload_n 1, 1) := by decide +kernel
theorem dX11_mark_17 : decode cX11_mark 17 = .ok (.invokeinterface 83 2, 5) := by decide +kernel
theorem dX11_mark_22 : decode cX11_mark 22 = .ok (.checkcast 233, 3) := by decide +kernel
theorem dX11_mark_25 : decode cX11_mark 25 = .ok (.getfield 304, 3) := by decide +kernel
theorem dX11_mark_28 : decode cX11_mark 28 = .ok (.invokevirtual 308, 3) := by decide +kernel
theorem dX11_mark_31 : decode cX11_mark 31 = .ok (.ireturn, 1) := by decide +kernel
theorem dX11_markAt_0 : decode cX11_markAt 0 = .ok (.aload_n 0, 1) := by decide +kernel
theorem dX11_markAt_1 : decode cX11_markAt 1 = .ok (.aload_n 0, 1) := by decide +kernel
theorem dX11_markAt_2 : decode cX11_markAt 2 = .ok (.iload_n 1, 1) := by decide +kernel
theorem dX11_markAt_3 : decode cX11_markAt 3 = .ok (.invokevirtual 287, 3) := by decide +kernel
theorem dX11_markAt_6 : decode cX11_markAt 6 = .ok (.ifCond .eq 38, 3) := by decide +kernel
theorem dX11_markAt_9 : decode cX11_markAt 9 = .ok (.iload_n 2, 1) := by decide +kernel
theorem dX11_markAt_10 : decode cX11_markAt 10 = .ok (.i2l, 1) := by decide +kernel
theorem dX11_markAt_11 : decode cX11_markAt 11 = .ok (.lconst 0, 1) := by decide +kernel
theorem dX11_markAt_12 : decode cX11_markAt 12 = .ok (.aload_n 0, 1) := by decide +kernel
theorem dX11_markAt_13 : decode cX11_markAt 13 = .ok (.getfield 22, 3) := by decide +kernel
theorem dX11_markAt_16 : decode cX11_markAt 16 = .ok (.iload_n 1, 1) := by decide +kernel
theorem dX11_markAt_17 : decode cX11_markAt 17 = .ok (.invokeinterface 83 2, 5) := by decide +kernel
theorem dX11_markAt_22 : decode cX11_markAt 22 = .ok (.checkcast 233, 3) := by decide +kernel
theorem dX11_markAt_25 : decode cX11_markAt 25 = .ok (.getfield 304, 3) := by decide +kernel
theorem dX11_markAt_28 : decode cX11_markAt 28 = .ok (.invokevirtual 308, 3) := by decide +kernel
theorem dX11_markAt_31 : decode cX11_markAt 31 = .ok (.iconst 1, 1) := by decide +kernel
theorem dX11_markAt_32 : decode cX11_markAt 32 = .ok (.isub, 1) := by decide +kernel
theorem dX11_markAt_33 : decode cX11_markAt 33 = .ok (.i2l, 1) := by decide +kernel
theorem dX11_markAt_34 : decode cX11_markAt 34 = .ok (.invokestatic 57, 3) := by decide +kernel
theorem dX11_markAt_37 : decode cX11_markAt 37 = .ok (.ifCond .eq 7, 3) := by decide +kernel
theorem dX11_markAt_40 : decode cX11_markAt 40 = .ok (.iconst 1, 1) := by decide +kernel
theorem dX11_markAt_41 : decode cX11_markAt 41 = .ok (.goto 4, 3) := by decide +kernel
theorem dX11_markAt_44 : decode cX11_markAt 44 = .ok (.iconst 0, 1) := by decide +kernel
theorem dX11_markAt_45 : decode cX11_markAt 45 = .ok (.iconst 1, 1) := by decide +kernel
theorem dX11_markAt_46 : decode cX11_markAt 46 = .ok (.invokevirtual 65, 3) := by decide +kernel
theorem dX11_markAt_49 : decode cX11_markAt 49 = .ok (.ifCond .eq 8, 3) := by decide +kernel
theorem dX11_markAt_52 : decode cX11_markAt 52 = .ok (.bipush 65, 2) := by decide +kernel
theorem dX11_markAt_54 : decode cX11_markAt 54 = .ok (.goto 23, 3) := by decide +kernel
theorem dX11_markAt_57 : decode cX11_markAt 57 = .ok (.aload_n 0, 1) := by decide +kernel
theorem dX11_markAt_58 : decode cX11_markAt 58 = .ok (.getfield 22, 3) := by decide +kernel
theorem dX11_markAt_61 : decode cX11_markAt 61 = .ok (.iload_n 1, 1) := by decide +kernel
theorem dX11_markAt_62 : decode cX11_markAt 62 = .ok (.invokeinterface 83 2, 5) := by decide +kernel
theorem dX11_markAt_67 : decode cX11_markAt 67 = .ok (.checkcast 233, 3) := by decide +kernel
theorem dX11_markAt_70 : decode cX11_markAt 70 = .ok (.getfield 304, 3) := by decide +kernel
theorem dX11_markAt_73 : decode cX11_markAt 73 = .ok (.iload_n 2, 1) := by decide +kernel
theorem dX11_markAt_74 : decode cX11_markAt 74 = .ok (.invokevirtual 313, 3) := by decide +kernel
theorem dX11_markAt_77 : decode cX11_markAt 77 = .ok (.ireturn, 1) := by decide +kernel
theorem dX11_fits_0 : decode cX11_fits 0 = .ok (.aload_n 0, 1) := by decide +kernel
theorem dX11_fits_1 : decode cX11_fits 1 = .ok (.aload_n 0, 1) := by decide +kernel
theorem dX11_fits_2 : decode cX11_fits 2 = .ok (.iload_n 1, 1) := by decide +kernel
theorem dX11_fits_3 : decode cX11_fits 3 = .ok (.invokevirtual 287, 3) := by decide +kernel
theorem dX11_fits_6 : decode cX11_fits 6 = .ok (.ifCond .eq 15, 3) := by decide +kernel
theorem dX11_fits_9 : decode cX11_fits 9 = .ok (.aload_n 0, 1) := by decide +kernel
theorem dX11_fits_10 : decode cX11_fits 10 = .ok (.iload_n 2, 1) := by decide +kernel
theorem dX11_fits_11 : decode cX11_fits 11 = .ok (.invokevirtual 61, 3) := by decide +kernel
theorem dX11_fits_14 : decode cX11_fits 14 = .ok (.ifCond .eq 7, 3) := by decide +kernel
theorem dX11_fits_17 : decode cX11_fits 17 = .ok (.iconst 1, 1) := by decide +kernel
theorem dX11_fits_18 : decode cX11_fits 18 = .ok (.goto 4, 3) := by decide +kernel
theorem dX11_fits_21 : decode cX11_fits 21 = .ok (.iconst 0, 1) := by decide +kernel
theorem dX11_fits_22 : decode cX11_fits 22 = .ok (.iconst 1, 1) := by decide +kernel
theorem dX11_fits_23 : decode cX11_fits 23 = .ok (.invokevirtual 65, 3) := by decide +kernel
theorem dX11_fits_26 : decode cX11_fits 26 = .ok (.ifCond .ne 16, 3) := by decide +kernel
theorem dX11_fits_29 : decode cX11_fits 29 = .ok (.aload_n 0, 1) := by decide +kernel
theorem dX11_fits_30 : decode cX11_fits 30 = .ok (.iload_n 1, 1) := by decide +kernel
theorem dX11_fits_31 : decode cX11_fits 31 = .ok (.iload_n 2, 1) := by decide +kernel
theorem dX11_fits_32 : decode cX11_fits 32 = .ok (.invokevirtual 319, 3) := by decide +kernel
theorem dX11_fits_35 : decode cX11_fits 35 = .ok (.ifCond .eq 7, 3) := by decide +kernel
theorem dX11_fits_38 : decode cX11_fits 38 = .ok (.iconst 1, 1) := by decide +kernel
theorem dX11_fits_39 : decode cX11_fits 39 = .ok (.goto 4, 3) := by decide +kernel
theorem dX11_fits_42 : decode cX11_fits 42 = .ok (.iconst 0, 1) := by decide +kernel
theorem dX11_fits_43 : decode cX11_fits 43 = .ok (.ireturn, 1) := by decide +kernel
theorem dX11_setCentre_0 : decode cX11_setCentre 0 = .ok (.aload_n 0, 1) := by decide +kernel
theorem dX11_setCentre_1 : decode cX11_setCentre 1 = .ok (.iload_n 1, 1) := by decide +kernel
theorem dX11_setCentre_2 : decode cX11_setCentre 2 = .ok (.i2l, 1) := by decide +kernel
theorem dX11_setCentre_3 : decode cX11_setCentre 3 = .ok (.lconst 1, 1) := by decide +kernel
theorem dX11_setCentre_4 : decode cX11_setCentre 4 = .ok (.ldc2_w 323, 3) := by decide +kernel
theorem dX11_setCentre_7 : decode cX11_setCentre 7 = .ok (.invokestatic 57, 3) := by decide +kernel
theorem dX11_setCentre_10 : decode cX11_setCentre 10 = .ok (.iconst 1, 1) := by decide +kernel
theorem dX11_setCentre_11 : decode cX11_setCentre 11 = .ok (.invokevirtual 65, 3) := by decide +kernel
theorem dX11_setCentre_14 : decode cX11_setCentre 14 = .ok (.ifCond .ne 31, 3) := by decide +kernel
theorem dX11_setCentre_17 : decode cX11_setCentre 17 = .ok (.aload_n 0, 1) := by decide +kernel
theorem dX11_setCentre_18 : decode cX11_setCentre 18 = .ok (.aload_n 0, 1) := by decide +kernel
theorem dX11_setCentre_19 : decode cX11_setCentre 19 = .ok (.getfield 36, 3) := by decide +kernel
theorem dX11_setCentre_22 : decode cX11_setCentre 22 = .ok (.iconst (-1), 1) := by decide +kernel
theorem dX11_setCentre_23 : decode cX11_setCentre 23 = .ok (.if_icmp .ne 14, 3) := by decide +kernel
theorem dX11_setCentre_26 : decode cX11_setCentre 26 = .ok (.aload_n 0, 1) := by decide +kernel
theorem dX11_setCentre_27 : decode cX11_setCentre 27 = .ok (.getfield 325, 3) := by decide +kernel
theorem dX11_setCentre_30 : decode cX11_setCentre 30 = .ok (.ifCond .ne 7, 3) := by decide +kernel
theorem dX11_setCentre_33 : decode cX11_setCentre 33 = .ok (.iconst 1, 1) := by decide +kernel
theorem dX11_setCentre_34 : decode cX11_setCentre 34 = .ok (.goto 4, 3) := by decide +kernel
theorem dX11_setCentre_37 : decode cX11_setCentre 37 = .ok (.iconst 0, 1) := by decide +kernel
theorem dX11_setCentre_38 : decode cX11_setCentre 38 = .ok (.iconst 2, 1) := by decide +kernel
theorem dX11_setCentre_39 : decode cX11_setCentre 39 = .ok (.invokevirtual 65, 3) := by decide +kernel
theorem dX11_setCentre_42 : decode cX11_setCentre 42 = .ok (.ifCond .eq 5, 3) := by decide +kernel
theorem dX11_setCentre_45 : decode cX11_setCentre 45 = .ok (.iconst 0, 1) := by decide +kernel
theorem dX11_setCentre_46 : decode cX11_setCentre 46 = .ok (.ireturn, 1) := by decide +kernel
theorem dX11_setCentre_47 : decode cX11_setCentre 47 = .ok (.aload_n 0, 1) := by decide +kernel
theorem dX11_setCentre_48 : decode cX11_setCentre 48 = .ok (.iload_n 1, 1) := by decide +kernel
theorem dX11_setCentre_49 : decode cX11_setCentre 49 = .ok (.putfield 36, 3) := by decide +kernel
theorem dX11_setCentre_52 : decode cX11_setCentre 52 = .ok (.iconst 0, 1) := by decide +kernel
theorem dX11_setCentre_53 : decode cX11_setCentre 53 = .ok (.istore_n 2, 1) := by decide +kernel
theorem dX11_setCentre_54 : decode cX11_setCentre 54 = .ok (.iconst 0, 1) := by decide +kernel
theorem dX11_setCentre_55 : decode cX11_setCentre 55 = .ok (.istore_n 3, 1) := by decide +kernel
theorem dX11_setCentre_56 : decode cX11_setCentre 56 = .ok (.iload_n 3, 1) := by decide +kernel
theorem dX11_setCentre_57 : decode cX11_setCentre 57 = .ok (.aload_n 0, 1) := by decide +kernel
theorem dX11_setCentre_58 : decode cX11_setCentre 58 = .ok (.invokevirtual 54, 3) := by decide +kernel
theorem dX11_setCentre_61 : decode cX11_setCentre 61 = .ok (.if_icmp .ge 17, 3) := by decide +kernel
theorem dX11_setCentre_64 : decode cX11_setCentre 64 = .ok (.iload_n 2, 1) := by decide +kernel
theorem dX11_setCentre_65 : decode cX11_setCentre 65 = .ok (.aload_n 0, 1) := by decide +kernel
theorem dX11_setCentre_66 : decode cX11_setCentre 66 = .ok (.iload_n 3, 1) := by decide +kernel
theorem dX11_setCentre_67 : decode cX11_setCentre 67 = .ok (.invokevirtual 119, 3) := by decide +kernel
theorem dX11_setCentre_70 : decode cX11_setCentre 70 = .ok (.iadd, 1) := by decide +kernel
theorem dX11_setCentre_71 : decode cX11_setCentre 71 = .ok (.istore_n 2, 1) := by decide +kernel
theorem dX11_setCentre_72 : decode cX11_setCentre 72 = .ok (.iinc 3 1, 3) := by decide +kernel
theorem dX11_setCentre_75 : decode cX11_setCentre 75 = .ok (.goto (-19), 3) := by decide +kernel
theorem dX11_setCentre_78 : decode cX11_setCentre 78 = .ok (.iload_n 2, 1) := by decide +kernel
theorem dX11_setCentre_79 : decode cX11_setCentre 79 = .ok (.ireturn, 1) := by decide +kernel
theorem dX11_set_0 : decode cX11_set 0 = .ok (.aload_n 0, 1) := by decide +kernel
theorem dX11_set_1 : decode cX11_set 1 = .ok (.aload_n 0, 1) := by decide +kernel
theorem dX11_set_2 : decode cX11_set 2 = .ok (.iload_n 1, 1) := by decide +kernel
theorem dX11_set_3 : decode cX11_set 3 = .ok (.invokevirtual 287, 3) := by decide +kernel
theorem dX11_set_6 : decode cX11_set 6 = .ok (.ifCond .eq 15, 3) := by decide +kernel
theorem dX11_set_9 : decode cX11_set 9 = .ok (.aload_n 0, 1) := by decide +kernel
theorem dX11_set_10 : decode cX11_set 10 = .ok (.iload_n 2, 1) := by decide +kernel
theorem dX11_set_11 : decode cX11_set 11 = .ok (.invokevirtual 61, 3) := by decide +kernel
theorem dX11_set_14 : decode cX11_set 14 = .ok (.ifCond .eq 7, 3) := by decide +kernel
theorem dX11_set_17 : decode cX11_set 17 = .ok (.iconst 1, 1) := by decide +kernel
theorem dX11_set_18 : decode cX11_set 18 = .ok (.goto 4, 3) := by decide +kernel
theorem dX11_set_21 : decode cX11_set 21 = .ok (.iconst 0, 1) := by decide +kernel
theorem dX11_set_22 : decode cX11_set 22 = .ok (.iconst 1, 1) := by decide +kernel
theorem dX11_set_23 : decode cX11_set 23 = .ok (.invokevirtual 65, 3) := by decide +kernel
theorem dX11_set_26 : decode cX11_set 26 = .ok (.ifCond .ne 17, 3) := by decide +kernel
theorem dX11_set_29 : decode cX11_set 29 = .ok (.aload_n 0, 1) := by decide +kernel
theorem dX11_set_30 : decode cX11_set 30 = .ok (.aload_n 0, 1) := by decide +kernel
theorem dX11_set_31 : decode cX11_set 31 = .ok (.iload_n 1, 1) := by decide +kernel
theorem dX11_set_32 : decode cX11_set 32 = .ok (.iload_n 2, 1) := by decide +kernel
theorem dX11_set_33 : decode cX11_set 33 = .ok (.invokevirtual 319, 3) := by decide +kernel
theorem dX11_set_36 : decode cX11_set 36 = .ok (.iconst 2, 1) := by decide +kernel
theorem dX11_set_37 : decode cX11_set 37 = .ok (.invokevirtual 65, 3) := by decide +kernel
theorem dX11_set_40 : decode cX11_set 40 = .ok (.ifCond .eq 5, 3) := by decide +kernel
theorem dX11_set_43 : decode cX11_set 43 = .ok (.iconst 0, 1) := by decide +kernel
theorem dX11_set_44 : decode cX11_set 44 = .ok (.ireturn, 1) := by decide +kernel
theorem dX11_set_45 : decode cX11_set 45 = .ok (.iload_n 2, 1) := by decide +kernel
theorem dX11_set_46 : decode cX11_set 46 = .ok (.ifCond .eq 37, 3) := by decide +kernel
theorem dX11_set_49 : decode cX11_set 49 = .ok (.iload_n 2, 1) := by decide +kernel
theorem dX11_set_50 : decode cX11_set 50 = .ok (.aload_n 0, 1) := by decide +kernel
theorem dX11_set_51 : decode cX11_set 51 = .ok (.invokevirtual 54, 3) := by decide +kernel
theorem dX11_set_54 : decode cX11_set 54 = .ok (.iconst 1, 1) := by decide +kernel
theorem dX11_set_55 : decode cX11_set 55 = .ok (.isub, 1) := by decide +kernel
theorem dX11_set_56 : decode cX11_set 56 = .ok (.if_icmp .eq 27, 3) := by decide +kernel
theorem dX11_set_59 : decode cX11_set 59 = .ok (.aload_n 0, 1) := by decide +kernel
theorem dX11_set_60 : decode cX11_set 60 = .ok (.getfield 25, 3) := by decide +kernel
theorem dX11_set_63 : decode cX11_set 63 = .ok (.iload_n 2, 1) := by decide +kernel
theorem dX11_set_64 : decode cX11_set 64 = .ok (.iconst 1, 1) := by decide +kernel
theorem dX11_set_65 : decode cX11_set 65 = .ok (.isub, 1) := by decide +kernel
theorem dX11_set_66 : decode cX11_set 66 = .ok (.iaload, 1) := by decide +kernel
theorem dX11_set_67 : decode cX11_set 67 = .ok (.iconst (-1), 1) := by decide +kernel
theorem dX11_set_68 : decode cX11_set 68 = .ok (.if_icmp .ne 15, 3) := by decide +kernel
theorem dX11_set_71 : decode cX11_set 71 = .ok (.aload_n 0, 1) := by decide +kernel
theorem dX11_set_72 : decode cX11_set 72 = .ok (.getfield 25, 3) := by decide +kernel
theorem dX11_set_75 : decode cX11_set 75 = .ok (.iload_n 2, 1) := by decide +kernel
theorem dX11_set_76 : decode cX11_set 76 = .ok (.iconst 1, 1) := by decide +kernel
theorem dX11_set_77 : decode cX11_set 77 = .ok (.iadd, 1) := by decide +kernel
theorem dX11_set_78 : decode cX11_set 78 = .ok (.iaload, 1) := by decide +kernel
theorem dX11_set_79 : decode cX11_set 79 = .ok (.iconst (-1), 1) := by decide +kernel
theorem dX11_set_80 : decode cX11_set 80 = .ok (.if_icmp .eq 7, 3) := by decide +kernel
theorem dX11_set_83 : decode cX11_set 83 = .ok (.iconst 1, 1) := by decide +kernel
theorem dX11_set_84 : decode cX11_set 84 = .ok (.goto 4, 3) := by decide +kernel
theorem dX11_set_87 : decode cX11_set 87 = .ok (.iconst 0, 1) := by decide +kernel
theorem dX11_set_88 : decode cX11_set 88 = .ok (.istore_n 3, 1) := by decide +kernel
theorem dX11_set_89 : decode cX11_set 89 = .ok (.aload_n 0, 1) := by decide +kernel
theorem dX11_set_90 : decode cX11_set 90 = .ok (.iload_n 2, 1) := by decide +kernel
theorem dX11_set_91 : decode cX11_set 91 = .ok (.invokevirtual 119, 3) := by decide +kernel
theorem dX11_set_94 : decode cX11_set 94 = .ok (.istore 4, 2) := by decide +kernel
theorem dX11_set_96 : decode cX11_set 96 = .ok (.iconst 0, 1) := by decide +kernel
theorem dX11_set_97 : decode cX11_set 97 = .ok (.istore 5, 2) := by decide +kernel
theorem dX11_set_99 : decode cX11_set 99 = .ok (.iload 5, 2) := by decide +kernel
theorem dX11_set_101 : decode cX11_set 101 = .ok (.aload_n 0, 1) := by decide +kernel
theorem dX11_set_102 : decode cX11_set 102 = .ok (.invokevirtual 54, 3) := by decide +kernel
theorem dX11_set_105 : decode cX11_set 105 = .ok (.if_icmp .ge 35, 3) := by decide +kernel
theorem dX11_set_108 : decode cX11_set 108 = .ok (.iload 4, 2) := by decide +kernel
theorem dX11_set_110 : decode cX11_set 110 = .ok (.aload_n 0, 1) := by decide +kernel
theorem dX11_set_111 : decode cX11_set 111 = .ok (.getfield 25, 3) := by decide +kernel
theorem dX11_set_114 : decode cX11_set 114 = .ok (.iload 5, 2) := by decide +kernel
theorem dX11_set_116 : decode cX11_set 116 = .ok (.iaload, 1) := by decide +kernel
theorem dX11_set_117 : decode cX11_set 117 = .ok (.iconst (-1), 1) := by decide +kernel
theorem dX11_set_118 : decode cX11_set 118 = .ok (.if_icmp .ne 7, 3) := by decide +kernel
theorem dX11_set_121 : decode cX11_set 121 = .ok (.iconst 0, 1) := by decide +kernel
theorem dX11_set_122 : decode cX11_set 122 = .ok (.goto 9, 3) := by decide +kernel
theorem dX11_set_125 : decode cX11_set 125 = .ok (.aload_n 0, 1) := by decide +kernel
theorem dX11_set_126 : decode cX11_set 126 = .ok (.iload 5, 2) := by decide +kernel
theorem dX11_set_128 : decode cX11_set 128 = .ok (.invokevirtual 119, 3) := by decide +kernel
theorem dX11_set_131 : decode cX11_set 131 = .ok (.iadd, 1) := by decide +kernel
theorem dX11_set_132 : decode cX11_set 132 = .ok (.istore 4, 2) := by decide +kernel
theorem dX11_set_134 : decode cX11_set 134 = .ok (.iinc 5 1, 3) := by decide +kernel
theorem dX11_set_137 : decode cX11_set 137 = .ok (.goto (-38), 3) := by decide +kernel
theorem dX11_set_140 : decode cX11_set 140 = .ok (.aload_n 0, 1) := by decide +kernel
theorem dX11_set_141 : decode cX11_set 141 = .ok (.aload_n 0, 1) := by decide +kernel
theorem dX11_set_142 : decode cX11_set 142 = .ok (.iload_n 1, 1) := by decide +kernel
theorem dX11_set_143 : decode cX11_set 143 = .ok (.invokevirtual 300, 3) := by decide +kernel
theorem dX11_set_146 : decode cX11_set 146 = .ok (.bipush 121, 2) := by decide +kernel
theorem dX11_set_148 : decode cX11_set 148 = .ok (.if_icmp .ne 38, 3) := by decide +kernel
theorem dX11_set_151 : decode cX11_set 151 = .ok (.aload_n 0, 1) := by decide +kernel
theorem dX11_set_152 : decode cX11_set 152 = .ok (.getfield 25, 3) := by decide +kernel
theorem dX11_set_155 : decode cX11_set 155 = .ok (.iload_n 2, 1) := by decide +kernel
theorem dX11_set_156 : decode cX11_set 156 = .ok (.iaload, 1) := by decide +kernel
theorem dX11_set_157 : decode cX11_set 157 = .ok (.iconst (-1), 1) := by decide +kernel
theorem dX11_set_158 : decode cX11_set 158 = .ok (.if_icmp .ne 28, 3) := by decide +kernel
theorem dX11_set_161 : decode cX11_set 161 = .ok (.iload_n 3, 1) := by decide +kernel
theorem dX11_set_162 : decode cX11_set 162 = .ok (.ifCond .eq 24, 3) := by decide +kernel
theorem dX11_set_165 : decode cX11_set 165 = .ok (.aload_n 0, 1) := by decide +kernel
theorem dX11_set_166 : decode cX11_set 166 = .ok (.getfield 36, 3) := by decide +kernel
theorem dX11_set_169 : decode cX11_set 169 = .ok (.iconst (-1), 1) := by decide +kernel
theorem dX11_set_170 : decode cX11_set 170 = .ok (.if_icmp .eq 16, 3) := by decide +kernel
theorem dX11_set_173 : decode cX11_set 173 = .ok (.iload 4, 2) := by decide +kernel
theorem dX11_set_175 : decode cX11_set 175 = .ok (.aload_n 0, 1) := by decide +kernel
theorem dX11_set_176 : decode cX11_set 176 = .ok (.getfield 36, 3) := by decide +kernel
theorem dX11_set_179 : decode cX11_set 179 = .ok (.if_icmp .gt 7, 3) := by decide +kernel
theorem dX11_set_182 : decode cX11_set 182 = .ok (.iconst 1, 1) := by decide +kernel
theorem dX11_set_183 : decode cX11_set 183 = .ok (.goto 4, 3) := by decide +kernel
theorem dX11_set_186 : decode cX11_set 186 = .ok (.iconst 0, 1) := by decide +kernel
theorem dX11_set_187 : decode cX11_set 187 = .ok (.iconst 3, 1) := by decide +kernel
theorem dX11_set_188 : decode cX11_set 188 = .ok (.invokevirtual 65, 3) := by decide +kernel
theorem dX11_set_191 : decode cX11_set 191 = .ok (.ifCond .eq 5, 3) := by decide +kernel
theorem dX11_set_194 : decode cX11_set 194 = .ok (.iconst 0, 1) := by decide +kernel
theorem dX11_set_195 : decode cX11_set 195 = .ok (.ireturn, 1) := by decide +kernel
theorem dX11_set_196 : decode cX11_set 196 = .ok (.aload_n 0, 1) := by decide +kernel
theorem dX11_set_197 : decode cX11_set 197 = .ok (.getfield 25, 3) := by decide +kernel
theorem dX11_set_200 : decode cX11_set 200 = .ok (.iload_n 2, 1) := by decide +kernel
theorem dX11_set_201 : decode cX11_set 201 = .ok (.iload_n 1, 1) := by decide +kernel
theorem dX11_set_202 : decode cX11_set 202 = .ok (.iastore, 1) := by decide +kernel
theorem dX11_set_203 : decode cX11_set 203 = .ok (.aload_n 0, 1) := by decide +kernel
theorem dX11_set_204 : decode cX11_set 204 = .ok (.getfield 22, 3) := by decide +kernel
theorem dX11_set_207 : decode cX11_set 207 = .ok (.iload_n 1, 1) := by decide +kernel
theorem dX11_set_208 : decode cX11_set 208 = .ok (.invokeinterface 83 2, 5) := by decide +kernel
theorem dX11_set_213 : decode cX11_set 213 = .ok (.checkcast 233, 3) := by decide +kernel
theorem dX11_set_216 : decode cX11_set 216 = .ok (.bipush 115, 2) := by decide +kernel
theorem dX11_set_218 : decode cX11_set 218 = .ok (.putfield 296, 3) := by decide +kernel
theorem dX11_set_221 : decode cX11_set 221 = .ok (.aload_n 0, 1) := by decide +kernel
theorem dX11_set_222 : decode cX11_set 222 = .ok (.aload_n 0, 1) := by decide +kernel
theorem dX11_set_223 : decode cX11_set 223 = .ok (.getfield 182, 3) := by decide +kernel
theorem dX11_set_226 : decode cX11_set 226 = .ok (.putfield 180, 3) := by decide +kernel
theorem dX11_set_229 : decode cX11_set 229 = .ok (.aload_n 0, 1) := by decide +kernel
theorem dX11_set_230 : decode cX11_set 230 = .ok (.invokevirtual 92, 3) := by decide +kernel
theorem dX11_set_233 : decode cX11_set 233 = .ok (.ireturn, 1) := by decide +kernel
theorem dX11_stoneIn_0 : decode cX11_stoneIn 0 = .ok (.aload_n 0, 1) := by decide +kernel
theorem dX11_stoneIn_1 : decode cX11_stoneIn 1 = .ok (.iload_n 1, 1) := by decide +kernel
theorem dX11_stoneIn_2 : decode cX11_stoneIn 2 = .ok (.invokevirtual 116, 3) := by decide +kernel
theorem dX11_stoneIn_5 : decode cX11_stoneIn 5 = .ok (.ifCond .ne 26, 3) := by decide +kernel
theorem dX11_stoneIn_8 : decode cX11_stoneIn 8 = .ok (.aload_n 0, 1) := by decide +kernel
theorem dX11_stoneIn_9 : decode cX11_stoneIn 9 = .ok (.aload_n 0, 1) := by decide +kernel
theorem dX11_stoneIn_10 : decode cX11_stoneIn 10 = .ok (.getfield 25, 3) := by decide +kernel
theorem dX11_stoneIn_13 : decode cX11_stoneIn 13 = .ok (.iload_n 1, 1) := by decide +kernel
theorem dX11_stoneIn_14 : decode cX11_stoneIn 14 = .ok (.iaload, 1) := by decide +kernel
theorem dX11_stoneIn_15 : decode cX11_stoneIn 15 = .ok (.iconst (-1), 1) := by decide +kernel
theorem dX11_stoneIn_16 : decode cX11_stoneIn 16 = .ok (.if_icmp .eq 7, 3) := by decide +kernel
theorem dX11_stoneIn_19 : decode cX11_stoneIn 19 = .ok (.iconst 1, 1) := by decide +kernel
theorem dX11_stoneIn_20 : decode cX11_stoneIn 20 = .ok (.goto 4, 3) := by decide +kernel
theorem dX11_stoneIn_23 : decode cX11_stoneIn 23 = .ok (.iconst 0, 1) := by decide +kernel
theorem dX11_stoneIn_24 : decode cX11_stoneIn 24 = .ok (.iconst 2, 1) := by decide +kernel
theorem dX11_stoneIn_25 : decode cX11_stoneIn 25 = .ok (.invokevirtual 65, 3) := by decide +kernel
theorem dX11_stoneIn_28 : decode cX11_stoneIn 28 = .ok (.ifCond .eq 7, 3) := by decide +kernel
theorem dX11_stoneIn_31 : decode cX11_stoneIn 31 = .ok (.iconst 0, 1) := by decide +kernel
theorem dX11_stoneIn_32 : decode cX11_stoneIn 32 = .ok (.goto 9, 3) := by decide +kernel
theorem dX11_stoneIn_35 : decode cX11_stoneIn 35 = .ok (.aload_n 0, 1) := by decide +kernel
theorem dX11_stoneIn_36 : decode cX11_stoneIn 36 = .ok (.getfield 25, 3) := by decide +kernel
theorem dX11_stoneIn_39 : decode cX11_stoneIn 39 = .ok (.iload_n 1, 1) := by decide +kernel
theorem dX11_stoneIn_40 : decode cX11_stoneIn 40 = .ok (.iaload, 1) := by decide +kernel
theorem dX11_stoneIn_41 : decode cX11_stoneIn 41 = .ok (.ireturn, 1) := by decide +kernel
theorem dX11_strike_0 : decode cX11_strike 0 = .ok (.aload_n 0, 1) := by decide +kernel
theorem dX11_strike_1 : decode cX11_strike 1 = .ok (.aload_n 0, 1) := by decide +kernel
theorem dX11_strike_2 : decode cX11_strike 2 = .ok (.getfield 36, 3) := by decide +kernel
theorem dX11_strike_5 : decode cX11_strike 5 = .ok (.iconst (-1), 1) := by decide +kernel
theorem dX11_strike_6 : decode cX11_strike 6 = .ok (.if_icmp .eq 26, 3) := by decide +kernel
theorem dX11_strike_9 : decode cX11_strike 9 = .ok (.aload_n 0, 1) := by decide +kernel
theorem dX11_strike_10 : decode cX11_strike 10 = .ok (.invokevirtual 54, 3) := by decide +kernel
theorem dX11_strike_13 : decode cX11_strike 13 = .ok (.iconst 2, 1) := by decide +kernel
theorem dX11_strike_14 : decode cX11_strike 14 = .ok (.if_icmp .lt 18, 3) := by decide +kernel
theorem dX11_strike_17 : decode cX11_strike 17 = .ok (.aload_n 0, 1) := by decide +kernel
theorem dX11_strike_18 : decode cX11_strike 18 = .ok (.invokevirtual 92, 3) := by decide +kernel
theorem dX11_strike_21 : decode cX11_strike 21 = .ok (.aload_n 0, 1) := by decide +kernel
theorem dX11_strike_22 : decode cX11_strike 22 = .ok (.invokevirtual 54, 3) := by decide +kernel
theorem dX11_strike_25 : decode cX11_strike 25 = .ok (.if_icmp .ne 7, 3) := by decide +kernel
theorem dX11_strike_28 : decode cX11_strike 28 = .ok (.iconst 1, 1) := by decide +kernel
theorem dX11_strike_29 : decode cX11_strike 29 = .ok (.goto 4, 3) := by decide +kernel
theorem dX11_strike_32 : decode cX11_strike 32 = .ok (.iconst 0, 1) := by decide +kernel
theorem dX11_strike_33 : decode cX11_strike 33 = .ok (.iconst 1, 1) := by decide +kernel
theorem dX11_strike_34 : decode cX11_strike 34 = .ok (.invokevirtual 65, 3) := by decide +kernel
theorem dX11_strike_37 : decode cX11_strike 37 = .ok (.ifCond .eq 5, 3) := by decide +kernel
theorem dX11_strike_40 : decode cX11_strike 40 = .ok (.lconst 0, 1) := by decide +kernel
theorem dX11_strike_41 : decode cX11_strike 41 = .ok (.lreturn, 1) := by decide +kernel
theorem dX11_strike_42 : decode cX11_strike 42 = .ok (.aload_n 0, 1) := by decide +kernel
theorem dX11_strike_43 : decode cX11_strike 43 = .ok (.aload_n 0, 1) := by decide +kernel
theorem dX11_strike_44 : decode cX11_strike 44 = .ok (.invokevirtual 191, 3) := by decide +kernel
theorem dX11_strike_47 : decode cX11_strike 47 = .ok (.invokevirtual 164, 3) := by decide +kernel
theorem dX11_strike_50 : decode cX11_strike 50 = .ok (.astore_n 1, 1) := by decide +kernel
theorem dX11_strike_51 : decode cX11_strike 51 = .ok (.aload_n 0, 1) := by decide +kernel
theorem dX11_strike_52 : decode cX11_strike 52 = .ok (.aload_n 1, 1) := by decide +kernel
theorem dX11_strike_53 : decode cX11_strike 53 = .ok (.ifnull 7, 3) := by decide +kernel
theorem dX11_strike_56 : decode cX11_strike 56 = .ok (.iconst 1, 1) := by decide +kernel
theorem dX11_strike_57 : decode cX11_strike 57 = .ok (.goto 4, 3) := by decide +kernel
theorem dX11_strike_60 : decode cX11_strike 60 = .ok (.iconst 0, 1) := by decide +kernel
theorem dX11_strike_61 : decode cX11_strike 61 = .ok (.iconst 2, 1) := by decide +kernel
theorem dX11_strike_62 : decode cX11_strike 62 = .ok (.invokevirtual 65, 3) := by decide +kernel
theorem dX11_strike_65 : decode cX11_strike 65 = .ok (.ifCond .eq 5, 3) := by decide +kernel
theorem dX11_strike_68 : decode cX11_strike 68 = .ok (.lconst 0, 1) := by decide +kernel
theorem dX11_strike_69 : decode cX11_strike 69 = .ok (.lreturn, 1) := by decide +kernel
theorem dX11_strike_70 : decode cX11_strike 70 = .ok (.aload_n 0, 1) := by decide +kernel
theorem dX11_strike_71 : decode cX11_strike 71 = .ok (.iconst (-1), 1) := by decide +kernel
theorem dX11_strike_72 : decode cX11_strike 72 = .ok (.putfield 36, 3) := by decide +kernel
theorem dX11_strike_75 : decode cX11_strike 75 = .ok (.aload_n 0, 1) := by decide +kernel
theorem dX11_strike_76 : decode cX11_strike 76 = .ok (.iconst 1, 1) := by decide +kernel
theorem dX11_strike_77 : decode cX11_strike 77 = .ok (.putfield 325, 3) := by decide +kernel
theorem dX11_strike_80 : decode cX11_strike 80 = .ok (.aload_n 1, 1) := by decide +kernel
theorem dX11_strike_81 : decode cX11_strike 81 = .ok (.invokestatic 172, 3) := by decide +kernel
theorem dX11_strike_84 : decode cX11_strike 84 = .ok (.lreturn, 1) := by decide +kernel
theorem dX11_load_0 : decode cX11_load 0 = .ok (.aload_n 0, 1) := by decide +kernel
theorem dX11_load_1 : decode cX11_load 1 = .ok (.iload_n 1, 1) := by decide +kernel
theorem dX11_load_2 : decode cX11_load 2 = .ok (.invokevirtual 116, 3) := by decide +kernel
theorem dX11_load_5 : decode cX11_load 5 = .ok (.ifCond .ne 32, 3) := by decide +kernel
theorem dX11_load_8 : decode cX11_load 8 = .ok (.aload_n 0, 1) := by decide +kernel
theorem dX11_load_9 : decode cX11_load 9 = .ok (.iload_n 2, 1) := by decide +kernel
theorem dX11_load_10 : decode cX11_load 10 = .ok (.i2l, 1) := by decide +kernel
theorem dX11_load_11 : decode cX11_load 11 = .ok (.lconst 0, 1) := by decide +kernel
theorem dX11_load_12 : decode cX11_load 12 = .ok (.ldc2_w 328, 3) := by decide +kernel
theorem dX11_load_15 : decode cX11_load 15 = .ok (.invokestatic 57, 3) := by decide +kernel
theorem dX11_load_18 : decode cX11_load 18 = .ok (.iconst 2, 1) := by decide +kernel
theorem dX11_load_19 : decode cX11_load 19 = .ok (.invokevirtual 65, 3) := by decide +kernel
theorem dX11_load_22 : decode cX11_load 22 = .ok (.ifCond .ne 15, 3) := by decide +kernel
theorem dX11_load_25 : decode cX11_load 25 = .ok (.aload_n 0, 1) := by decide +kernel
theorem dX11_load_26 : decode cX11_load 26 = .ok (.aload_n 0, 1) := by decide +kernel
theorem dX11_load_27 : decode cX11_load 27 = .ok (.getfield 325, 3) := by decide +kernel
theorem dX11_load_30 : decode cX11_load 30 = .ok (.iconst 3, 1) := by decide +kernel
theorem dX11_load_31 : decode cX11_load 31 = .ok (.invokevirtual 65, 3) := by decide +kernel
theorem dX11_load_34 : decode cX11_load 34 = .ok (.ifCond .eq 5, 3) := by decide +kernel
theorem dX11_load_37 : decode cX11_load 37 = .ok (.iconst 0, 1) := by decide +kernel
theorem dX11_load_38 : decode cX11_load 38 = .ok (.ireturn, 1) := by decide +kernel
theorem dX11_load_39 : decode cX11_load 39 = .ok (.aload_n 0, 1) := by decide +kernel
theorem dX11_load_40 : decode cX11_load 40 = .ok (.getfield 29, 3) := by decide +kernel
theorem dX11_load_43 : decode cX11_load 43 = .ok (.iload_n 1, 1) := by decide +kernel
theorem dX11_load_44 : decode cX11_load 44 = .ok (.iload_n 2, 1) := by decide +kernel
theorem dX11_load_45 : decode cX11_load 45 = .ok (.iastore, 1) := by decide +kernel
theorem dX11_load_46 : decode cX11_load 46 = .ok (.aload_n 0, 1) := by decide +kernel
theorem dX11_load_47 : decode cX11_load 47 = .ok (.aload_n 0, 1) := by decide +kernel
theorem dX11_load_48 : decode cX11_load 48 = .ok (.invokevirtual 191, 3) := by decide +kernel
theorem dX11_load_51 : decode cX11_load 51 = .ok (.invokevirtual 164, 3) := by decide +kernel
theorem dX11_load_54 : decode cX11_load 54 = .ok (.ifnull 5, 3) := by decide +kernel
theorem dX11_load_57 : decode cX11_load 57 = .ok (.iconst 1, 1) := by decide +kernel
theorem dX11_load_58 : decode cX11_load 58 = .ok (.ireturn, 1) := by decide +kernel
theorem dX11_load_59 : decode cX11_load 59 = .ok (.aload_n 0, 1) := by decide +kernel
theorem dX11_load_60 : decode cX11_load 60 = .ok (.iconst 0, 1) := by decide +kernel
theorem dX11_load_61 : decode cX11_load 61 = .ok (.putfield 325, 3) := by decide +kernel
theorem dX11_load_64 : decode cX11_load 64 = .ok (.iconst 0, 1) := by decide +kernel
theorem dX11_load_65 : decode cX11_load 65 = .ok (.istore_n 3, 1) := by decide +kernel
theorem dX11_load_66 : decode cX11_load 66 = .ok (.iload_n 3, 1) := by decide +kernel
theorem dX11_load_67 : decode cX11_load 67 = .ok (.bipush 7, 2) := by decide +kernel
theorem dX11_load_69 : decode cX11_load 69 = .ok (.if_icmp .ge 56, 3) := by decide +kernel
theorem dX11_load_72 : decode cX11_load 72 = .ok (.aload_n 0, 1) := by decide +kernel
theorem dX11_load_73 : decode cX11_load 73 = .ok (.getfield 25, 3) := by decide +kernel
theorem dX11_load_76 : decode cX11_load 76 = .ok (.iload_n 3, 1) := by decide +kernel
theorem dX11_load_77 : decode cX11_load 77 = .ok (.iaload, 1) := by decide +kernel
theorem dX11_load_78 : decode cX11_load 78 = .ok (.iconst (-1), 1) := by decide +kernel
theorem dX11_load_79 : decode cX11_load 79 = .ok (.if_icmp .eq 26, 3) := by decide +kernel
theorem dX11_load_82 : decode cX11_load 82 = .ok (.aload_n 0, 1) := by decide +kernel
theorem dX11_load_83 : decode cX11_load 83 = .ok (.getfield 22, 3) := by decide +kernel
theorem dX11_load_86 : decode cX11_load 86 = .ok (.aload_n 0, 1) := by decide +kernel
theorem dX11_load_87 : decode cX11_load 87 = .ok (.getfield 25, 3) := by decide +kernel
theorem dX11_load_90 : decode cX11_load 90 = .ok (.iload_n 3, 1) := by decide +kernel
theorem dX11_load_91 : decode cX11_load 91 = .ok (.iaload, 1) := by decide +kernel
theorem dX11_load_92 : decode cX11_load 92 = .ok (.invokeinterface 83 2, 5) := by decide +kernel
theorem dX11_load_97 : decode cX11_load 97 = .ok (.checkcast 233, 3) := by decide +kernel
theorem dX11_load_100 : decode cX11_load 100 = .ok (.bipush 98, 2) := by decide +kernel
theorem dX11_load_102 : decode cX11_load 102 = .ok (.putfield 296, 3) := by decide +kernel
theorem dX11_load_105 : decode cX11_load 105 = .ok (.aload_n 0, 1) := by decide +kernel
theorem dX11_load_106 : decode cX11_load 106 = .ok (.getfield 25, 3) := by decide +kernel
theorem dX11_load_109 : decode cX11_load 109 = .ok (.iload_n 3, 1) := by decide +kernel
theorem dX11_load_110 : decode cX11_load 110 = .ok (.iconst (-1), 1) := by decide +kernel
theorem dX11_load_111 : decode cX11_load 111 = .ok (.iastore, 1) := by decide +kernel
theorem dX11_load_112 : decode cX11_load 112 = .ok (.aload_n 0, 1) := by decide +kernel
theorem dX11_load_113 : decode cX11_load 113 = .ok (.getfield 29, 3) := by decide +kernel
theorem dX11_load_116 : decode cX11_load 116 = .ok (.iload_n 3, 1) := by decide +kernel
theorem dX11_load_117 : decode cX11_load 117 = .ok (.iconst 0, 1) := by decide +kernel
theorem dX11_load_118 : decode cX11_load 118 = .ok (.iastore, 1) := by decide +kernel
theorem dX11_load_119 : decode cX11_load 119 = .ok (.iinc 3 1, 3) := by decide +kernel
theorem dX11_load_122 : decode cX11_load 122 = .ok (.goto (-56), 3) := by decide +kernel
theorem dX11_load_125 : decode cX11_load 125 = .ok (.iconst 0, 1) := by decide +kernel
theorem dX11_load_126 : decode cX11_load 126 = .ok (.ireturn, 1) := by decide +kernel
theorem dX11_stands_0 : decode cX11_stands 0 = .ok (.aload_n 0, 1) := by decide +kernel
theorem dX11_stands_1 : decode cX11_stands 1 = .ok (.getfield 325, 3) := by decide +kernel
theorem dX11_stands_4 : decode cX11_stands 4 = .ok (.ireturn, 1) := by decide +kernel
theorem dX11_pass_0 : decode cX11_pass 0 = .ok (.iload_n 1, 1) := by decide +kernel
theorem dX11_pass_1 : decode cX11_pass 1 = .ok (.i2l, 1) := by decide +kernel
theorem dX11_pass_2 : decode cX11_pass 2 = .ok (.lconst 1, 1) := by decide +kernel
theorem dX11_pass_3 : decode cX11_pass 3 = .ok (.ldc2_w 194, 3) := by decide +kernel
theorem dX11_pass_6 : decode cX11_pass 6 = .ok (.invokestatic 57, 3) := by decide +kernel
theorem dX11_pass_9 : decode cX11_pass 9 = .ok (.ifCond .ne 9, 3) := by decide +kernel
theorem dX11_pass_12 : decode cX11_pass 12 = .ok (.aload_n 0, 1) := by decide +kernel
theorem dX11_pass_13 : decode cX11_pass 13 = .ok (.iconst 1, 1) := by decide +kernel
theorem dX11_pass_14 : decode cX11_pass 14 = .ok (.invokevirtual 330, 3) := by decide +kernel
theorem dX11_pass_17 : decode cX11_pass 17 = .ok (.ireturn, 1) := by decide +kernel
theorem dX11_pass_18 : decode cX11_pass 18 = .ok (.aload_n 0, 1) := by decide +kernel
theorem dX11_pass_19 : decode cX11_pass 19 = .ok (.iconst 0, 1) := by decide +kernel
theorem dX11_pass_20 : decode cX11_pass 20 = .ok (.putfield 39, 3) := by decide +kernel
theorem dX11_pass_23 : decode cX11_pass 23 = .ok (.aload_n 0, 1) := by decide +kernel
theorem dX11_pass_24 : decode cX11_pass 24 = .ok (.dup, 1) := by decide +kernel
theorem dX11_pass_25 : decode cX11_pass 25 = .ok (.getfield 182, 3) := by decide +kernel
theorem dX11_pass_28 : decode cX11_pass 28 = .ok (.iload_n 1, 1) := by decide +kernel
theorem dX11_pass_29 : decode cX11_pass 29 = .ok (.iadd, 1) := by decide +kernel
theorem dX11_pass_30 : decode cX11_pass 30 = .ok (.putfield 182, 3) := by decide +kernel
theorem dX11_pass_33 : decode cX11_pass 33 = .ok (.aload_n 0, 1) := by decide +kernel
theorem dX11_pass_34 : decode cX11_pass 34 = .ok (.getfield 182, 3) := by decide +kernel
theorem dX11_pass_37 : decode cX11_pass 37 = .ok (.ireturn, 1) := by decide +kernel
theorem dX11_spent_0 : decode cX11_spent 0 = .ok (.aload_n 0, 1) := by decide +kernel
theorem dX11_spent_1 : decode cX11_spent 1 = .ok (.getfield 268, 3) := by decide +kernel
theorem dX11_spent_4 : decode cX11_spent 4 = .ok (.lreturn, 1) := by decide +kernel
theorem dX11_waste_0 : decode cX11_waste 0 = .ok (.aload_n 0, 1) := by decide +kernel
theorem dX11_waste_1 : decode cX11_waste 1 = .ok (.getfield 284, 3) := by decide +kernel
theorem dX11_waste_4 : decode cX11_waste 4 = .ok (.ireturn, 1) := by decide +kernel
theorem dX11_usedShare_0 : decode cX11_usedShare 0 = .ok (.aload_n 0, 1) := by decide +kernel
theorem dX11_usedShare_1 : decode cX11_usedShare 1 = .ok (.aload_n 0, 1) := by decide +kernel
theorem dX11_usedShare_2 : decode cX11_usedShare 2 = .ok (.getfield 281, 3) := by decide +kernel
theorem dX11_usedShare_5 : decode cX11_usedShare 5 = .ok (.ifCond .le 7, 3) := by decide +kernel
theorem dX11_usedShare_8 : decode cX11_usedShare 8 = .ok (.iconst 1, 1) := by decide +kernel
theorem dX11_usedShare_9 : decode cX11_usedShare 9 = .ok (.goto 4, 3) := by decide +kernel
theorem dX11_usedShare_12 : decode cX11_usedShare 12 = .ok (.iconst 0, 1) := by decide +kernel
theorem dX11_usedShare_13 : decode cX11_usedShare 13 = .ok (.iconst 1, 1) := by decide +kernel
theorem dX11_usedShare_14 : decode cX11_usedShare 14 = .ok (.invokevirtual 65, 3) := by decide +kernel
theorem dX11_usedShare_17 : decode cX11_usedShare 17 = .ok (.ifCond .eq 7, 3) := by decide +kernel
theorem dX11_usedShare_20 : decode cX11_usedShare 20 = .ok (.fconst 0, 1) := by decide +kernel
theorem dX11_usedShare_21 : decode cX11_usedShare 21 = .ok (.goto 14, 3) := by decide +kernel
theorem dX11_usedShare_24 : decode cX11_usedShare 24 = .ok (.aload_n 0, 1) := by decide +kernel
theorem dX11_usedShare_25 : decode cX11_usedShare 25 = .ok (.getfield 278, 3) := by decide +kernel
theorem dX11_usedShare_28 : decode cX11_usedShare 28 = .ok (.i2f, 1) := by decide +kernel
theorem dX11_usedShare_29 : decode cX11_usedShare 29 = .ok (.aload_n 0, 1) := by decide +kernel
theorem dX11_usedShare_30 : decode cX11_usedShare 30 = .ok (.getfield 281, 3) := by decide +kernel
theorem dX11_usedShare_33 : decode cX11_usedShare 33 = .ok (.i2f, 1) := by decide +kernel
theorem dX11_usedShare_34 : decode cX11_usedShare 34 = .ok (.fdiv, 1) := by decide +kernel
theorem dX11_usedShare_35 : decode cX11_usedShare 35 = .ok (.freturn, 1) := by decide +kernel
theorem dX11_meanArea_0 : decode cX11_meanArea 0 = .ok (.aload_n 0, 1) := by decide +kernel
theorem dX11_meanArea_1 : decode cX11_meanArea 1 = .ok (.aload_n 0, 1) := by decide +kernel
theorem dX11_meanArea_2 : decode cX11_meanArea 2 = .ok (.invokevirtual 54, 3) := by decide +kernel
theorem dX11_meanArea_5 : decode cX11_meanArea 5 = .ok (.ifCond .le 7, 3) := by decide +kernel
theorem dX11_meanArea_8 : decode cX11_meanArea 8 = .ok (.iconst 1, 1) := by decide +kernel
theorem dX11_meanArea_9 : decode cX11_meanArea 9 = .ok (.goto 4, 3) := by decide +kernel
theorem dX11_meanArea_12 : decode cX11_meanArea 12 = .ok (.iconst 0, 1) := by decide +kernel
theorem dX11_meanArea_13 : decode cX11_meanArea 13 = .ok (.iconst 1, 1) := by decide +kernel
theorem dX11_meanArea_14 : decode cX11_meanArea 14 = .ok (.invokevirtual 65, 3) := by decide +kernel
theorem dX11_meanArea_17 : decode cX11_meanArea 17 = .ok (.ifCond .eq 5, 3) := by decide +kernel
theorem dX11_meanArea_20 : decode cX11_meanArea 20 = .ok (.dconst 0, 1) := by decide +kernel
theorem dX11_meanArea_21 : decode cX11_meanArea 21 = .ok (.dreturn, 1) := by decide +kernel
theorem dX11_meanArea_22 : decode cX11_meanArea 22 = .ok (.iconst 0, 1) := by decide +kernel
theorem dX11_meanArea_23 : decode cX11_meanArea 23 = .ok (.istore_n 1, 1) := by decide +kernel
theorem dX11_meanArea_24 : decode cX11_meanArea 24 = .ok (.iconst 0, 1) := by decide +kernel
theorem dX11_meanArea_25 : decode cX11_meanArea 25 = .ok (.istore_n 2, 1) := by decide +kernel
theorem dX11_meanArea_26 : decode cX11_meanArea 26 = .ok (.iload_n 2, 1) := by decide +kernel
theorem dX11_meanArea_27 : decode cX11_meanArea 27 = .ok (.aload_n 0, 1) := by decide +kernel
theorem dX11_meanArea_28 : decode cX11_meanArea 28 = .ok (.invokevirtual 54, 3) := by decide +kernel
theorem dX11_meanArea_31 : decode cX11_meanArea 31 = .ok (.if_icmp .ge 17, 3) := by decide +kernel
theorem dX11_meanArea_34 : decode cX11_meanArea 34 = .ok (.iload_n 1, 1) := by decide +kernel
theorem dX11_meanArea_35 : decode cX11_meanArea 35 = .ok (.aload_n 0, 1) := by decide +kernel
theorem dX11_meanArea_36 : decode cX11_meanArea 36 = .ok (.iload_n 2, 1) := by decide +kernel
theorem dX11_meanArea_37 : decode cX11_meanArea 37 = .ok (.invokevirtual 112, 3) := by decide +kernel
theorem dX11_meanArea_40 : decode cX11_meanArea 40 = .ok (.iadd, 1) := by decide +kernel
theorem dX11_meanArea_41 : decode cX11_meanArea 41 = .ok (.istore_n 1, 1) := by decide +kernel
theorem dX11_meanArea_42 : decode cX11_meanArea 42 = .ok (.iinc 2 1, 3) := by decide +kernel
theorem dX11_meanArea_45 : decode cX11_meanArea 45 = .ok (.goto (-19), 3) := by decide +kernel
theorem dX11_meanArea_48 : decode cX11_meanArea 48 = .ok (.iload_n 1, 1) := by decide +kernel
theorem dX11_meanArea_49 : decode cX11_meanArea 49 = .ok (.i2d, 1) := by decide +kernel
theorem dX11_meanArea_50 : decode cX11_meanArea 50 = .ok (.aload_n 0, 1) := by decide +kernel
theorem dX11_meanArea_51 : decode cX11_meanArea 51 = .ok (.invokevirtual 54, 3) := by decide +kernel
theorem dX11_meanArea_54 : decode cX11_meanArea 54 = .ok (.i2d, 1) := by decide +kernel
theorem dX11_meanArea_55 : decode cX11_meanArea 55 = .ok (.ddiv, 1) := by decide +kernel
theorem dX11_meanArea_56 : decode cX11_meanArea 56 = .ok (.dreturn, 1) := by decide +kernel
theorem dX11_isSound_0 : decode cX11_isSound 0 = .ok (.iconst 1, 1) := by decide +kernel
theorem dX11_isSound_1 : decode cX11_isSound 1 = .ok (.ireturn, 1) := by decide +kernel
theorem dJxa1e45_init_da8c8_0 : decode cJxa1e45_init_da8c8 0 = .ok (.aload_n 0, 1) := by decide +kernel
theorem dJxa1e45_init_da8c8_1 : decode cJxa1e45_init_da8c8 1 = .ok (.invokespecial 1, 3) := by decide +kernel
theorem dJxa1e45_init_da8c8_4 : decode cJxa1e45_init_da8c8 4 = .ok (.return_, 1) := by decide +kernel
theorem dJxc12de_init_da8c8_0 : decode cJxc12de_init_da8c8 0 = .ok (.aload_n 0, 1) := by decide +kernel
theorem dJxc12de_init_da8c8_1 : decode cJxc12de_init_da8c8 1 = .ok (.invokespecial 1, 3) := by decide +kernel
theorem dJxc12de_init_da8c8_4 : decode cJxc12de_init_da8c8 4 = .ok (.aload_n 0, 1) := by decide +kernel
theorem dJxc12de_init_da8c8_5 : decode cJxc12de_init_da8c8 5 = .ok (.iconst 0, 1) := by decide +kernel
theorem dJxc12de_init_da8c8_6 : decode cJxc12de_init_da8c8 6 = .ok (.putfield 7, 3) := by decide +kernel
theorem dJxc12de_init_da8c8_9 : decode cJxc12de_init_da8c8 9 = .ok (.return_, 1) := by decide +kernel
theorem dJx4a65c_init_da8c8_0 : decode cJx4a65c_init_da8c8 0 = .ok (.aload_n 0, 1) := by decide +kernel
theorem dJx4a65c_init_da8c8_1 : decode cJx4a65c_init_da8c8 1 = .ok (.invokespecial 1, 3) := by decide +kernel
theorem dJx4a65c_init_da8c8_4 : decode cJx4a65c_init_da8c8 4 = .ok (.aload_n 0, 1) := by decide +kernel
theorem dJx4a65c_init_da8c8_5 : decode cJx4a65c_init_da8c8 5 = .ok (.getstatic 39, 3) := by decide +kernel
theorem dJx4a65c_init_da8c8_8 : decode cJx4a65c_init_da8c8 8 = .ok (.putfield 9, 3) := by decide +kernel
theorem dJx4a65c_init_da8c8_11 : decode cJx4a65c_init_da8c8 11 = .ok (.return_, 1) := by decide +kernel
theorem dJx4a65c_grow_92f84_0 : decode cJx4a65c_grow_92f84 0 = .ok (.aload_n 0, 1) := by decide +kernel
theorem dJx4a65c_grow_92f84_1 : decode cJx4a65c_grow_92f84 1 = .ok (.getfield 9, 3) := by decide +kernel
theorem dJx4a65c_grow_92f84_4 : decode cJx4a65c_grow_92f84 4 = .ok (.arraylength, 1) := by decide +kernel
theorem dJx4a65c_grow_92f84_5 : decode cJx4a65c_grow_92f84 5 = .ok (.istore_n 2, 1) := by decide +kernel
theorem dJx4a65c_grow_92f84_6 : decode cJx4a65c_grow_92f84 6 = .ok (.iload_n 2, 1) := by decide +kernel
theorem dJx4a65c_grow_92f84_7 : decode cJx4a65c_grow_92f84 7 = .ok (.ifCond .gt 13, 3) := by decide +kernel
theorem dJx4a65c_grow_92f84_10 : decode cJx4a65c_grow_92f84 10 = .ok (.aload_n 0, 1) := by decide +kernel
theorem dJx4a65c_grow_92f84_11 : decode cJx4a65c_grow_92f84 11 = .ok (.getfield 9, 3) := by decide +kernel
theorem dJx4a65c_grow_92f84_14 : decode cJx4a65c_grow_92f84 14 = .ok (.getstatic 39, 3) := by decide +kernel
theorem dJx4a65c_grow_92f84_17 : decode cJx4a65c_grow_92f84 17 = .ok (.if_acmp .eq 28, 3) := by decide +kernel
theorem dJx4a65c_grow_92f84_20 : decode cJx4a65c_grow_92f84 20 = .ok (.iload_n 2, 1) := by decide +kernel
theorem dJx4a65c_grow_92f84_21 : decode cJx4a65c_grow_92f84 21 = .ok (.iload_n 1, 1) := by decide +kernel
theorem dJx4a65c_grow_92f84_22 : decode cJx4a65c_grow_92f84 22 = .ok (.iload_n 2, 1) := by decide +kernel
theorem dJx4a65c_grow_92f84_23 : decode cJx4a65c_grow_92f84 23 = .ok (.isub, 1) := by decide +kernel
theorem dJx4a65c_grow_92f84_24 : decode cJx4a65c_grow_92f84 24 = .ok (.iload_n 2, 1) := by decide +kernel
theorem dJx4a65c_grow_92f84_25 : decode cJx4a65c_grow_92f84 25 = .ok (.iconst 1, 1) := by decide +kernel
theorem dJx4a65c_grow_92f84_26 : decode cJx4a65c_grow_92f84 26 = .ok (.ishr, 1) := by decide +kernel
theorem dJx4a65c_grow_92f84_27 : decode cJx4a65c_grow_92f84 27 = .ok (.invokestatic 73, 3) := by decide +kernel
theorem dJx4a65c_grow_92f84_30 : decode cJx4a65c_grow_92f84 30 = .ok (.istore_n 3, 1) := by decide +kernel
theorem dJx4a65c_grow_92f84_31 : decode cJx4a65c_grow_92f84 31 = .ok (.aload_n 0, 1) := by decide +kernel
theorem dJx4a65c_grow_92f84_32 : decode cJx4a65c_grow_92f84 32 = .ok (.aload_n 0, 1) := by decide +kernel
theorem dJx4a65c_grow_92f84_33 : decode cJx4a65c_grow_92f84 33 = .ok (.getfield 9, 3) := by decide +kernel
theorem dJx4a65c_grow_92f84_36 : decode cJx4a65c_grow_92f84 36 = .ok (.iload_n 3, 1) := by decide +kernel
theorem dJx4a65c_grow_92f84_37 : decode cJx4a65c_grow_92f84 37 = .ok (.invokestatic 66, 3) := by decide +kernel
theorem dJx4a65c_grow_92f84_40 : decode cJx4a65c_grow_92f84 40 = .ok (.dup_x1, 1) := by decide +kernel
theorem dJx4a65c_grow_92f84_41 : decode cJx4a65c_grow_92f84 41 = .ok (.putfield 9, 3) := by decide +kernel
theorem dJx4a65c_grow_92f84_44 : decode cJx4a65c_grow_92f84 44 = .ok (.areturn, 1) := by decide +kernel
theorem dJx4a65c_grow_92f84_45 : decode cJx4a65c_grow_92f84 45 = .ok (.aload_n 0, 1) := by decide +kernel
theorem dJx4a65c_grow_92f84_46 : decode cJx4a65c_grow_92f84 46 = .ok (.bipush 10, 2) := by decide +kernel
theorem dJx4a65c_grow_92f84_48 : decode cJx4a65c_grow_92f84 48 = .ok (.iload_n 1, 1) := by decide +kernel
theorem dJx4a65c_grow_92f84_49 : decode cJx4a65c_grow_92f84 49 = .ok (.invokestatic 79, 3) := by decide +kernel
theorem dJx4a65c_grow_92f84_52 : decode cJx4a65c_grow_92f84 52 = .ok (.anewarray 7, 3) := by decide +kernel
theorem dJx4a65c_grow_92f84_55 : decode cJx4a65c_grow_92f84 55 = .ok (.dup_x1, 1) := by decide +kernel
theorem dJx4a65c_grow_92f84_56 : decode cJx4a65c_grow_92f84 56 = .ok (.putfield 9, 3) := by decide +kernel
theorem dJx4a65c_grow_92f84_59 : decode cJx4a65c_grow_92f84 59 = .ok (.areturn, 1) := by decide +kernel
theorem dJx4a65c_grow_d5877_0 : decode cJx4a65c_grow_d5877 0 = .ok (.aload_n 0, 1) := by decide +kernel
theorem dJx4a65c_grow_d5877_1 : decode cJx4a65c_grow_d5877 1 = .ok (.aload_n 0, 1) := by decide +kernel
theorem dJx4a65c_grow_d5877_2 : decode cJx4a65c_grow_d5877 2 = .ok (.getfield 48, 3) := by decide +kernel
theorem dJx4a65c_grow_d5877_5 : decode cJx4a65c_grow_d5877 5 = .ok (.iconst 1, 1) := by decide +kernel
theorem dJx4a65c_grow_d5877_6 : decode cJx4a65c_grow_d5877 6 = .ok (.iadd, 1) := by decide +kernel
theorem dJx4a65c_grow_d5877_7 : decode cJx4a65c_grow_d5877 7 = .ok (.invokevirtual 69, 3) := by decide +kernel
theorem dJx4a65c_grow_d5877_10 : decode cJx4a65c_grow_d5877 10 = .ok (.areturn, 1) := by decide +kernel
theorem dJx4a65c_size_8abf5_0 : decode cJx4a65c_size_8abf5 0 = .ok (.aload_n 0, 1) := by decide +kernel
theorem dJx4a65c_size_8abf5_1 : decode cJx4a65c_size_8abf5 1 = .ok (.getfield 48, 3) := by decide +kernel
theorem dJx4a65c_size_8abf5_4 : decode cJx4a65c_size_8abf5 4 = .ok (.ireturn, 1) := by decide +kernel
theorem dJx4a65c_isEmpty_aae02_0 : decode cJx4a65c_isEmpty_aae02 0 = .ok (.aload_n 0, 1) := by decide +kernel
theorem dJx4a65c_isEmpty_aae02_1 : decode cJx4a65c_isEmpty_aae02 1 = .ok (.getfield 48, 3) := by decide +kernel
theorem dJx4a65c_isEmpty_aae02_4 : decode cJx4a65c_isEmpty_aae02 4 = .ok (.ifCond .ne 7, 3) := by decide +kernel
theorem dJx4a65c_isEmpty_aae02_7 : decode cJx4a65c_isEmpty_aae02 7 = .ok (.iconst 1, 1) := by decide +kernel
theorem dJx4a65c_isEmpty_aae02_8 : decode cJx4a65c_isEmpty_aae02 8 = .ok (.goto 4, 3) := by decide +kernel
theorem dJx4a65c_isEmpty_aae02_11 : decode cJx4a65c_isEmpty_aae02 11 = .ok (.iconst 0, 1) := by decide +kernel
theorem dJx4a65c_isEmpty_aae02_12 : decode cJx4a65c_isEmpty_aae02 12 = .ok (.ireturn, 1) := by decide +kernel
theorem dJx4a65c_add_72be8_0 : decode cJx4a65c_add_72be8 0 = .ok (.iload_n 3, 1) := by decide +kernel
theorem dJx4a65c_add_72be8_1 : decode cJx4a65c_add_72be8 1 = .ok (.aload_n 2, 1) := by decide +kernel
theorem dJx4a65c_add_72be8_2 : decode cJx4a65c_add_72be8 2 = .ok (.arraylength, 1) := by decide +kernel
theorem dJx4a65c_add_72be8_3 : decode cJx4a65c_add_72be8 3 = .ok (.if_icmp .ne 8, 3) := by decide +kernel
theorem dJx4a65c_add_72be8_6 : decode cJx4a65c_add_72be8 6 = .ok (.aload_n 0, 1) := by decide +kernel
theorem dJx4a65c_add_72be8_7 : decode cJx4a65c_add_72be8 7 = .ok (.invokevirtual 129, 3) := by decide +kernel
theorem dJx4a65c_add_72be8_10 : decode cJx4a65c_add_72be8 10 = .ok (.astore_n 2, 1) := by decide +kernel
theorem dJx4a65c_add_72be8_11 : decode cJx4a65c_add_72be8 11 = .ok (.aload_n 2, 1) := by decide +kernel
theorem dJx4a65c_add_72be8_12 : decode cJx4a65c_add_72be8 12 = .ok (.iload_n 3, 1) := by decide +kernel
theorem dJx4a65c_add_72be8_13 : decode cJx4a65c_add_72be8 13 = .ok (.aload_n 1, 1) := by decide +kernel
theorem dJx4a65c_add_72be8_14 : decode cJx4a65c_add_72be8 14 = .ok (.aastore, 1) := by decide +kernel
theorem dJx4a65c_add_72be8_15 : decode cJx4a65c_add_72be8 15 = .ok (.aload_n 0, 1) := by decide +kernel
theorem dJx4a65c_add_72be8_16 : decode cJx4a65c_add_72be8 16 = .ok (.iload_n 3, 1) := by decide +kernel
theorem dJx4a65c_add_72be8_17 : decode cJx4a65c_add_72be8 17 = .ok (.iconst 1, 1) := by decide +kernel
theorem dJx4a65c_add_72be8_18 : decode cJx4a65c_add_72be8 18 = .ok (.iadd, 1) := by decide +kernel
theorem dJx4a65c_add_72be8_19 : decode cJx4a65c_add_72be8 19 = .ok (.putfield 48, 3) := by decide +kernel
theorem dJx4a65c_add_72be8_22 : decode cJx4a65c_add_72be8 22 = .ok (.return_, 1) := by decide +kernel
theorem dJx4a65c_add_9ea2d_0 : decode cJx4a65c_add_9ea2d 0 = .ok (.aload_n 0, 1) := by decide +kernel
theorem dJx4a65c_add_9ea2d_1 : decode cJx4a65c_add_9ea2d 1 = .ok (.dup, 1) := by decide +kernel
theorem dJx4a65c_add_9ea2d_2 : decode cJx4a65c_add_9ea2d 2 = .ok (.getfield 63, 3) := by decide +kernel
theorem dJx4a65c_add_9ea2d_5 : decode cJx4a65c_add_9ea2d 5 = .ok (.iconst 1, 1) := by decide +kernel
theorem dJx4a65c_add_9ea2d_6 : decode cJx4a65c_add_9ea2d 6 = .ok (.iadd, 1) := by decide +kernel
theorem dJx4a65c_add_9ea2d_7 : decode cJx4a65c_add_9ea2d 7 = .ok (.putfield 63, 3) := by decide +kernel
theorem dJx4a65c_add_9ea2d_10 : decode cJx4a65c_add_9ea2d 10 = .ok (.aload_n 0, 1) := by decide +kernel
theorem dJx4a65c_add_9ea2d_11 : decode cJx4a65c_add_9ea2d 11 = .ok (.aload_n 1, 1) := by decide +kernel
theorem dJx4a65c_add_9ea2d_12 : decode cJx4a65c_add_9ea2d 12 = .ok (.aload_n 0, 1) := by decide +kernel
theorem dJx4a65c_add_9ea2d_13 : decode cJx4a65c_add_9ea2d 13 = .ok (.getfield 9, 3) := by decide +kernel
theorem dJx4a65c_add_9ea2d_16 : decode cJx4a65c_add_9ea2d 16 = .ok (.aload_n 0, 1) := by decide +kernel
theorem dJx4a65c_add_9ea2d_17 : decode cJx4a65c_add_9ea2d 17 = .ok (.getfield 48, 3) := by decide +kernel
theorem dJx4a65c_add_9ea2d_20 : decode cJx4a65c_add_9ea2d 20 = .ok (.invokevirtual 131, 3) := by decide +kernel
theorem dJx4a65c_add_9ea2d_23 : decode cJx4a65c_add_9ea2d 23 = .ok (.iconst 1, 1) := by decide +kernel
theorem dJx4a65c_add_9ea2d_24 : decode cJx4a65c_add_9ea2d 24 = .ok (.ireturn, 1) := by decide +kernel
theorem dL_drawJoint_0 : decode cL_drawJoint 0 = .ok (.aload 5, 2) := by decide +kernel
theorem dL_drawJoint_2 : decode cL_drawJoint 2 = .ok (.iconst 0, 1) := by decide +kernel
theorem dL_drawJoint_3 : decode cL_drawJoint 3 = .ok (.aload_n 0, 1) := by decide +kernel
theorem dL_drawJoint_4 : decode cL_drawJoint 4 = .ok (.iload_n 1, 1) := by decide +kernel
theorem dL_drawJoint_5 : decode cL_drawJoint 5 = .ok (.iload_n 2, 1) := by decide +kernel
theorem dL_drawJoint_6 : decode cL_drawJoint 6 = .ok (.iload_n 3, 1) := by decide +kernel
theorem dL_drawJoint_7 : decode cL_drawJoint 7 = .ok (.iload 4, 2) := by decide +kernel
theorem dL_drawJoint_9 : decode cL_drawJoint 9 = .ok (.invokevirtual 7, 3) := by decide +kernel
theorem dL_drawJoint_12 : decode cL_drawJoint 12 = .ok (.i2l, 1) := by decide +kernel
theorem dL_drawJoint_13 : decode cL_drawJoint 13 = .ok (.lastore, 1) := by decide +kernel
theorem dL_drawJoint_14 : decode cL_drawJoint 14 = .ok (.goto 15, 3) := by decide +kernel
theorem dL_drawJoint_17 : decode cL_drawJoint 17 = .ok (.astore 6, 2) := by decide +kernel
theorem dL_drawJoint_19 : decode cL_drawJoint 19 = .ok (.iconst 1, 1) := by decide +kernel
theorem dL_drawJoint_20 : decode cL_drawJoint 20 = .ok (.ireturn, 1) := by decide +kernel
theorem dL_drawJoint_21 : decode cL_drawJoint 21 = .ok (.astore 6, 2) := by decide +kernel
theorem dL_drawJoint_23 : decode cL_drawJoint 23 = .ok (.iconst 2, 1) := by decide +kernel
theorem dL_drawJoint_24 : decode cL_drawJoint 24 = .ok (.ireturn, 1) := by decide +kernel
theorem dL_drawJoint_25 : decode cL_drawJoint 25 = .ok (.astore 6, 2) := by decide +kernel
theorem dL_drawJoint_27 : decode cL_drawJoint 27 = .ok (.iconst 3, 1) := by decide +kernel
theorem dL_drawJoint_28 : decode cL_drawJoint 28 = .ok (.ireturn, 1) := by decide +kernel
theorem dL_drawJoint_29 : decode cL_drawJoint 29 = .ok (.iconst 0, 1) := by decide +kernel
theorem dL_drawJoint_30 : decode cL_drawJoint 30 = .ok (.ireturn, 1) := by decide +kernel
theorem dL_moveJoint_0 : decode cL_moveJoint 0 = .ok (.aload 6, 2) := by decide +kernel
theorem dL_moveJoint_2 : decode cL_moveJoint 2 = .ok (.iconst 0, 1) := by decide +kernel
theorem dL_moveJoint_3 : decode cL_moveJoint 3 = .ok (.aload_n 0, 1) := by decide +kernel
theorem dL_moveJoint_4 : decode cL_moveJoint 4 = .ok (.iload_n 1, 1) := by decide +kernel
theorem dL_moveJoint_5 : decode cL_moveJoint 5 = .ok (.iload_n 2, 1) := by decide +kernel
theorem dL_moveJoint_6 : decode cL_moveJoint 6 = .ok (.iload_n 3, 1) := by decide +kernel
theorem dL_moveJoint_7 : decode cL_moveJoint 7 = .ok (.iload 4, 2) := by decide +kernel
theorem dL_moveJoint_9 : decode cL_moveJoint 9 = .ok (.iload 5, 2) := by decide +kernel
theorem dL_moveJoint_11 : decode cL_moveJoint 11 = .ok (.invokevirtual 19, 3) := by decide +kernel
theorem dL_moveJoint_14 : decode cL_moveJoint 14 = .ok (.i2l, 1) := by decide +kernel
theorem dL_moveJoint_15 : decode cL_moveJoint 15 = .ok (.lastore, 1) := by decide +kernel
theorem dL_moveJoint_16 : decode cL_moveJoint 16 = .ok (.goto 15, 3) := by decide +kernel
theorem dL_moveJoint_19 : decode cL_moveJoint 19 = .ok (.astore 7, 2) := by decide +kernel
theorem dL_moveJoint_21 : decode cL_moveJoint 21 = .ok (.iconst 1, 1) := by decide +kernel
theorem dL_moveJoint_22 : decode cL_moveJoint 22 = .ok (.ireturn, 1) := by decide +kernel
theorem dL_moveJoint_23 : decode cL_moveJoint 23 = .ok (.astore 7, 2) := by decide +kernel
theorem dL_moveJoint_25 : decode cL_moveJoint 25 = .ok (.iconst 2, 1) := by decide +kernel
theorem dL_moveJoint_26 : decode cL_moveJoint 26 = .ok (.ireturn, 1) := by decide +kernel
theorem dL_moveJoint_27 : decode cL_moveJoint 27 = .ok (.astore 7, 2) := by decide +kernel
theorem dL_moveJoint_29 : decode cL_moveJoint 29 = .ok (.iconst 3, 1) := by decide +kernel
theorem dL_moveJoint_30 : decode cL_moveJoint 30 = .ok (.ireturn, 1) := by decide +kernel
theorem dL_moveJoint_31 : decode cL_moveJoint 31 = .ok (.iconst 0, 1) := by decide +kernel
theorem dL_moveJoint_32 : decode cL_moveJoint 32 = .ok (.ireturn, 1) := by decide +kernel
theorem dL_setDensity_0 : decode cL_setDensity 0 = .ok (.aload_n 2, 1) := by decide +kernel
theorem dL_setDensity_1 : decode cL_setDensity 1 = .ok (.iconst 0, 1) := by decide +kernel
theorem dL_setDensity_2 : decode cL_setDensity 2 = .ok (.aload_n 0, 1) := by decide +kernel
theorem dL_setDensity_3 : decode cL_setDensity 3 = .ok (.iload_n 1, 1) := by decide +kernel
theorem dL_setDensity_4 : decode cL_setDensity 4 = .ok (.invokevirtual 25, 3) := by decide +kernel
theorem dL_setDensity_7 : decode cL_setDensity 7 = .ok (.i2l, 1) := by decide +kernel
theorem dL_setDensity_8 : decode cL_setDensity 8 = .ok (.lastore, 1) := by decide +kernel
theorem dL_setDensity_9 : decode cL_setDensity 9 = .ok (.goto 9, 3) := by decide +kernel
theorem dL_setDensity_12 : decode cL_setDensity 12 = .ok (.astore_n 3, 1) := by decide +kernel
theorem dL_setDensity_13 : decode cL_setDensity 13 = .ok (.iconst 1, 1) := by decide +kernel
theorem dL_setDensity_14 : decode cL_setDensity 14 = .ok (.ireturn, 1) := by decide +kernel
theorem dL_setDensity_15 : decode cL_setDensity 15 = .ok (.astore_n 3, 1) := by decide +kernel
theorem dL_setDensity_16 : decode cL_setDensity 16 = .ok (.iconst 2, 1) := by decide +kernel
theorem dL_setDensity_17 : decode cL_setDensity 17 = .ok (.ireturn, 1) := by decide +kernel
theorem dL_setDensity_18 : decode cL_setDensity 18 = .ok (.iconst 0, 1) := by decide +kernel
theorem dL_setDensity_19 : decode cL_setDensity 19 = .ok (.ireturn, 1) := by decide +kernel
theorem dL_area_0 : decode cL_area 0 = .ok (.aload_n 2, 1) := by decide +kernel
theorem dL_area_1 : decode cL_area 1 = .ok (.iconst 0, 1) := by decide +kernel
theorem dL_area_2 : decode cL_area 2 = .ok (.aload_n 0, 1) := by decide +kernel
theorem dL_area_3 : decode cL_area 3 = .ok (.iload_n 1, 1) := by decide +kernel
theorem dL_area_4 : decode cL_area 4 = .ok (.invokevirtual 29, 3) := by decide +kernel
theorem dL_area_7 : decode cL_area 7 = .ok (.i2l, 1) := by decide +kernel
theorem dL_area_8 : decode cL_area 8 = .ok (.lastore, 1) := by decide +kernel
theorem dL_area_9 : decode cL_area 9 = .ok (.goto 6, 3) := by decide +kernel
theorem dL_area_12 : decode cL_area 12 = .ok (.astore_n 3, 1) := by decide +kernel
theorem dL_area_13 : decode cL_area 13 = .ok (.iconst 1, 1) := by decide +kernel
theorem dL_area_14 : decode cL_area 14 = .ok (.ireturn, 1) := by decide +kernel
theorem dL_area_15 : decode cL_area 15 = .ok (.iconst 0, 1) := by decide +kernel
theorem dL_area_16 : decode cL_area 16 = .ok (.ireturn, 1) := by decide +kernel
theorem dL_weight_0 : decode cL_weight 0 = .ok (.aload_n 2, 1) := by decide +kernel
theorem dL_weight_1 : decode cL_weight 1 = .ok (.iconst 0, 1) := by decide +kernel
theorem dL_weight_2 : decode cL_weight 2 = .ok (.aload_n 0, 1) := by decide +kernel
theorem dL_weight_3 : decode cL_weight 3 = .ok (.iload_n 1, 1) := by decide +kernel
theorem dL_weight_4 : decode cL_weight 4 = .ok (.invokevirtual 32, 3) := by decide +kernel
theorem dL_weight_7 : decode cL_weight 7 = .ok (.i2l, 1) := by decide +kernel
theorem dL_weight_8 : decode cL_weight 8 = .ok (.lastore, 1) := by decide +kernel
theorem dL_weight_9 : decode cL_weight 9 = .ok (.goto 6, 3) := by decide +kernel
theorem dL_weight_12 : decode cL_weight 12 = .ok (.astore_n 3, 1) := by decide +kernel
theorem dL_weight_13 : decode cL_weight 13 = .ok (.iconst 1, 1) := by decide +kernel
theorem dL_weight_14 : decode cL_weight 14 = .ok (.ireturn, 1) := by decide +kernel
theorem dL_weight_15 : decode cL_weight 15 = .ok (.iconst 0, 1) := by decide +kernel
theorem dL_weight_16 : decode cL_weight 16 = .ok (.ireturn, 1) := by decide +kernel
theorem dL_isSafe_0 : decode cL_isSafe 0 = .ok (.aload_n 2, 1) := by decide +kernel
theorem dL_isSafe_1 : decode cL_isSafe 1 = .ok (.iconst 0, 1) := by decide +kernel
theorem dL_isSafe_2 : decode cL_isSafe 2 = .ok (.aload_n 0, 1) := by decide +kernel
theorem dL_isSafe_3 : decode cL_isSafe 3 = .ok (.iload_n 1, 1) := by decide +kernel
theorem dL_isSafe_4 : decode cL_isSafe 4 = .ok (.invokevirtual 35, 3) := by decide +kernel
theorem dL_isSafe_7 : decode cL_isSafe 7 = .ok (.ifCond .eq 7, 3) := by decide +kernel
theorem dL_isSafe_10 : decode cL_isSafe 10 = .ok (.lconst 1, 1) := by decide +kernel
theorem dL_isSafe_11 : decode cL_isSafe 11 = .ok (.goto 4, 3) := by decide +kernel
theorem dL_isSafe_14 : decode cL_isSafe 14 = .ok (.lconst 0, 1) := by decide +kernel
theorem dL_isSafe_15 : decode cL_isSafe 15 = .ok (.lastore, 1) := by decide +kernel
theorem dL_isSafe_16 : decode cL_isSafe 16 = .ok (.goto 9, 3) := by decide +kernel
theorem dL_isSafe_19 : decode cL_isSafe 19 = .ok (.astore_n 3, 1) := by decide +kernel
theorem dL_isSafe_20 : decode cL_isSafe 20 = .ok (.iconst 1, 1) := by decide +kernel
theorem dL_isSafe_21 : decode cL_isSafe 21 = .ok (.ireturn, 1) := by decide +kernel
theorem dL_isSafe_22 : decode cL_isSafe 22 = .ok (.astore_n 3, 1) := by decide +kernel
theorem dL_isSafe_23 : decode cL_isSafe 23 = .ok (.iconst 2, 1) := by decide +kernel
theorem dL_isSafe_24 : decode cL_isSafe 24 = .ok (.ireturn, 1) := by decide +kernel
theorem dL_isSafe_25 : decode cL_isSafe 25 = .ok (.iconst 0, 1) := by decide +kernel
theorem dL_isSafe_26 : decode cL_isSafe 26 = .ok (.ireturn, 1) := by decide +kernel
theorem dL_thrust_0 : decode cL_thrust 0 = .ok (.aload_n 2, 1) := by decide +kernel
theorem dL_thrust_1 : decode cL_thrust 1 = .ok (.iconst 0, 1) := by decide +kernel
theorem dL_thrust_2 : decode cL_thrust 2 = .ok (.aload_n 0, 1) := by decide +kernel
theorem dL_thrust_3 : decode cL_thrust 3 = .ok (.iload_n 1, 1) := by decide +kernel
theorem dL_thrust_4 : decode cL_thrust 4 = .ok (.invokevirtual 41, 3) := by decide +kernel
theorem dL_thrust_7 : decode cL_thrust 7 = .ok (.lastore, 1) := by decide +kernel
theorem dL_thrust_8 : decode cL_thrust 8 = .ok (.goto 9, 3) := by decide +kernel
theorem dL_thrust_11 : decode cL_thrust 11 = .ok (.astore_n 3, 1) := by decide +kernel
theorem dL_thrust_12 : decode cL_thrust 12 = .ok (.iconst 1, 1) := by decide +kernel
theorem dL_thrust_13 : decode cL_thrust 13 = .ok (.ireturn, 1) := by decide +kernel
theorem dL_thrust_14 : decode cL_thrust 14 = .ok (.astore_n 3, 1) := by decide +kernel
theorem dL_thrust_15 : decode cL_thrust 15 = .ok (.iconst 2, 1) := by decide +kernel
theorem dL_thrust_16 : decode cL_thrust 16 = .ok (.ireturn, 1) := by decide +kernel
theorem dL_thrust_17 : decode cL_thrust 17 = .ok (.iconst 0, 1) := by decide +kernel
theorem dL_thrust_18 : decode cL_thrust 18 = .ok (.ireturn, 1) := by decide +kernel
theorem dL_bears_0 : decode cL_bears 0 = .ok (.aload_n 3, 1) := by decide +kernel
theorem dL_bears_1 : decode cL_bears 1 = .ok (.iconst 0, 1) := by decide +kernel
theorem dL_bears_2 : decode cL_bears 2 = .ok (.aload_n 0, 1) := by decide +kernel
theorem dL_bears_3 : decode cL_bears 3 = .ok (.iload_n 1, 1) := by decide +kernel
theorem dL_bears_4 : decode cL_bears 4 = .ok (.iload_n 2, 1) := by decide +kernel
theorem dL_bears_5 : decode cL_bears 5 = .ok (.invokevirtual 45, 3) := by decide +kernel
theorem dL_bears_8 : decode cL_bears 8 = .ok (.i2l, 1) := by decide +kernel
theorem dL_bears_9 : decode cL_bears 9 = .ok (.lastore, 1) := by decide +kernel
theorem dL_bears_10 : decode cL_bears 10 = .ok (.goto 15, 3) := by decide +kernel
theorem dL_bears_13 : decode cL_bears 13 = .ok (.astore 4, 2) := by decide +kernel
theorem dL_bears_15 : decode cL_bears 15 = .ok (.iconst 1, 1) := by decide +kernel
theorem dL_bears_16 : decode cL_bears 16 = .ok (.ireturn, 1) := by decide +kernel
theorem dL_bears_17 : decode cL_bears 17 = .ok (.astore 4, 2) := by decide +kernel
theorem dL_bears_19 : decode cL_bears 19 = .ok (.iconst 2, 1) := by decide +kernel
theorem dL_bears_20 : decode cL_bears 20 = .ok (.ireturn, 1) := by decide +kernel
theorem dL_bears_21 : decode cL_bears 21 = .ok (.astore 4, 2) := by decide +kernel
theorem dL_bears_23 : decode cL_bears 23 = .ok (.iconst 3, 1) := by decide +kernel
theorem dL_bears_24 : decode cL_bears 24 = .ok (.ireturn, 1) := by decide +kernel
theorem dL_bears_25 : decode cL_bears 25 = .ok (.iconst 0, 1) := by decide +kernel
theorem dL_bears_26 : decode cL_bears 26 = .ok (.ireturn, 1) := by decide +kernel
theorem dL_addBlocks_0 : decode cL_addBlocks 0 = .ok (.aload 6, 2) := by decide +kernel
theorem dL_addBlocks_2 : decode cL_addBlocks 2 = .ok (.iconst 0, 1) := by decide +kernel
theorem dL_addBlocks_3 : decode cL_addBlocks 3 = .ok (.aload_n 0, 1) := by decide +kernel
theorem dL_addBlocks_4 : decode cL_addBlocks 4 = .ok (.iload_n 1, 1) := by decide +kernel
theorem dL_addBlocks_5 : decode cL_addBlocks 5 = .ok (.iload_n 2, 1) := by decide +kernel
theorem dL_addBlocks_6 : decode cL_addBlocks 6 = .ok (.iload_n 3, 1) := by decide +kernel
theorem dL_addBlocks_7 : decode cL_addBlocks 7 = .ok (.iload 4, 2) := by decide +kernel
theorem dL_addBlocks_9 : decode cL_addBlocks 9 = .ok (.iload 5, 2) := by decide +kernel
theorem dL_addBlocks_11 : decode cL_addBlocks 11 = .ok (.invokevirtual 49, 3) := by decide +kernel
theorem dL_addBlocks_14 : decode cL_addBlocks 14 = .ok (.i2l, 1) := by decide +kernel
theorem dL_addBlocks_15 : decode cL_addBlocks 15 = .ok (.lastore, 1) := by decide +kernel
theorem dL_addBlocks_16 : decode cL_addBlocks 16 = .ok (.goto 11, 3) := by decide +kernel
theorem dL_addBlocks_19 : decode cL_addBlocks 19 = .ok (.astore 7, 2) := by decide +kernel
theorem dL_addBlocks_21 : decode cL_addBlocks 21 = .ok (.iconst 1, 1) := by decide +kernel
theorem dL_addBlocks_22 : decode cL_addBlocks 22 = .ok (.ireturn, 1) := by decide +kernel
theorem dL_addBlocks_23 : decode cL_addBlocks 23 = .ok (.astore 7, 2) := by decide +kernel
theorem dL_addBlocks_25 : decode cL_addBlocks 25 = .ok (.iconst 2, 1) := by decide +kernel
theorem dL_addBlocks_26 : decode cL_addBlocks 26 = .ok (.ireturn, 1) := by decide +kernel
theorem dL_addBlocks_27 : decode cL_addBlocks 27 = .ok (.iconst 0, 1) := by decide +kernel
theorem dL_addBlocks_28 : decode cL_addBlocks 28 = .ok (.ireturn, 1) := by decide +kernel
theorem dL_blocks_0 : decode cL_blocks 0 = .ok (.aload_n 2, 1) := by decide +kernel
theorem dL_blocks_1 : decode cL_blocks 1 = .ok (.iconst 0, 1) := by decide +kernel
theorem dL_blocks_2 : decode cL_blocks 2 = .ok (.aload_n 0, 1) := by decide +kernel
theorem dL_blocks_3 : decode cL_blocks 3 = .ok (.iload_n 1, 1) := by decide +kernel
theorem dL_blocks_4 : decode cL_blocks 4 = .ok (.invokevirtual 53, 3) := by decide +kernel
theorem dL_blocks_7 : decode cL_blocks 7 = .ok (.i2l, 1) := by decide +kernel
theorem dL_blocks_8 : decode cL_blocks 8 = .ok (.lastore, 1) := by decide +kernel
theorem dL_blocks_9 : decode cL_blocks 9 = .ok (.goto 6, 3) := by decide +kernel
theorem dL_blocks_12 : decode cL_blocks 12 = .ok (.astore_n 3, 1) := by decide +kernel
theorem dL_blocks_13 : decode cL_blocks 13 = .ok (.iconst 1, 1) := by decide +kernel
theorem dL_blocks_14 : decode cL_blocks 14 = .ok (.ireturn, 1) := by decide +kernel
theorem dL_blocks_15 : decode cL_blocks 15 = .ok (.iconst 0, 1) := by decide +kernel
theorem dL_blocks_16 : decode cL_blocks 16 = .ok (.ireturn, 1) := by decide +kernel
theorem dL_bestBlock_0 : decode cL_bestBlock 0 = .ok (.aload_n 2, 1) := by decide +kernel
theorem dL_bestBlock_1 : decode cL_bestBlock 1 = .ok (.iconst 0, 1) := by decide +kernel
theorem dL_bestBlock_2 : decode cL_bestBlock 2 = .ok (.aload_n 0, 1) := by decide +kernel
theorem dL_bestBlock_3 : decode cL_bestBlock 3 = .ok (.iload_n 1, 1) := by decide +kernel
theorem dL_bestBlock_4 : decode cL_bestBlock 4 = .ok (.invokevirtual 56, 3) := by decide +kernel
theorem dL_bestBlock_7 : decode cL_bestBlock 7 = .ok (.i2l, 1) := by decide +kernel
theorem dL_bestBlock_8 : decode cL_bestBlock 8 = .ok (.lastore, 1) := by decide +kernel
theorem dL_bestBlock_9 : decode cL_bestBlock 9 = .ok (.goto 9, 3) := by decide +kernel
theorem dL_bestBlock_12 : decode cL_bestBlock 12 = .ok (.astore_n 3, 1) := by decide +kernel
theorem dL_bestBlock_13 : decode cL_bestBlock 13 = .ok (.iconst 1, 1) := by decide +kernel
theorem dL_bestBlock_14 : decode cL_bestBlock 14 = .ok (.ireturn, 1) := by decide +kernel
theorem dL_bestBlock_15 : decode cL_bestBlock 15 = .ok (.astore_n 3, 1) := by decide +kernel
theorem dL_bestBlock_16 : decode cL_bestBlock 16 = .ok (.iconst 2, 1) := by decide +kernel
theorem dL_bestBlock_17 : decode cL_bestBlock 17 = .ok (.ireturn, 1) := by decide +kernel
theorem dL_bestBlock_18 : decode cL_bestBlock 18 = .ok (.iconst 0, 1) := by decide +kernel
theorem dL_bestBlock_19 : decode cL_bestBlock 19 = .ok (.ireturn, 1) := by decide +kernel
theorem dL_addMason_0 : decode cL_addMason 0 = .ok (.aload_n 3, 1) := by decide +kernel
theorem dL_addMason_1 : decode cL_addMason 1 = .ok (.iconst 0, 1) := by decide +kernel
theorem dL_addMason_2 : decode cL_addMason 2 = .ok (.aload_n 0, 1) := by decide +kernel
theorem dL_addMason_3 : decode cL_addMason 3 = .ok (.iload_n 1, 1) := by decide +kernel
theorem dL_addMason_4 : decode cL_addMason 4 = .ok (.iload_n 2, 1) := by decide +kernel
theorem dL_addMason_5 : decode cL_addMason 5 = .ok (.invokevirtual 59, 3) := by decide +kernel
theorem dL_addMason_8 : decode cL_addMason 8 = .ok (.i2l, 1) := by decide +kernel
theorem dL_addMason_9 : decode cL_addMason 9 = .ok (.lastore, 1) := by decide +kernel
theorem dL_addMason_10 : decode cL_addMason 10 = .ok (.goto 11, 3) := by decide +kernel
theorem dL_addMason_13 : decode cL_addMason 13 = .ok (.astore 4, 2) := by decide +kernel
theorem dL_addMason_15 : decode cL_addMason 15 = .ok (.iconst 1, 1) := by decide +kernel
theorem dL_addMason_16 : decode cL_addMason 16 = .ok (.ireturn, 1) := by decide +kernel
theorem dL_addMason_17 : decode cL_addMason 17 = .ok (.astore 4, 2) := by decide +kernel
theorem dL_addMason_19 : decode cL_addMason 19 = .ok (.iconst 2, 1) := by decide +kernel
theorem dL_addMason_20 : decode cL_addMason 20 = .ok (.ireturn, 1) := by decide +kernel
theorem dL_addMason_21 : decode cL_addMason 21 = .ok (.iconst 0, 1) := by decide +kernel
theorem dL_addMason_22 : decode cL_addMason 22 = .ok (.ireturn, 1) := by decide +kernel
theorem dL_cut_0 : decode cL_cut 0 = .ok (.aload 4, 2) := by decide +kernel
theorem dL_cut_2 : decode cL_cut 2 = .ok (.iconst 0, 1) := by decide +kernel
theorem dL_cut_3 : decode cL_cut 3 = .ok (.aload_n 0, 1) := by decide +kernel
theorem dL_cut_4 : decode cL_cut 4 = .ok (.iload_n 1, 1) := by decide +kernel
theorem dL_cut_5 : decode cL_cut 5 = .ok (.iload_n 2, 1) := by decide +kernel
theorem dL_cut_6 : decode cL_cut 6 = .ok (.iload_n 3, 1) := by decide +kernel
theorem dL_cut_7 : decode cL_cut 7 = .ok (.invokevirtual 62, 3) := by decide +kernel
theorem dL_cut_10 : decode cL_cut 10 = .ok (.i2l, 1) := by decide +kernel
theorem dL_cut_11 : decode cL_cut 11 = .ok (.lastore, 1) := by decide +kernel
theorem dL_cut_12 : decode cL_cut 12 = .ok (.goto 15, 3) := by decide +kernel
theorem dL_cut_15 : decode cL_cut 15 = .ok (.astore 5, 2) := by decide +kernel
theorem dL_cut_17 : decode cL_cut 17 = .ok (.iconst 1, 1) := by decide +kernel
theorem dL_cut_18 : decode cL_cut 18 = .ok (.ireturn, 1) := by decide +kernel
theorem dL_cut_19 : decode cL_cut 19 = .ok (.astore 5, 2) := by decide +kernel
theorem dL_cut_21 : decode cL_cut 21 = .ok (.iconst 2, 1) := by decide +kernel
theorem dL_cut_22 : decode cL_cut 22 = .ok (.ireturn, 1) := by decide +kernel
theorem dL_cut_23 : decode cL_cut 23 = .ok (.astore 5, 2) := by decide +kernel
theorem dL_cut_25 : decode cL_cut 25 = .ok (.iconst 3, 1) := by decide +kernel
theorem dL_cut_26 : decode cL_cut 26 = .ok (.ireturn, 1) := by decide +kernel
theorem dL_cut_27 : decode cL_cut 27 = .ok (.iconst 0, 1) := by decide +kernel
theorem dL_cut_28 : decode cL_cut 28 = .ok (.ireturn, 1) := by decide +kernel
theorem dL_readyOn_0 : decode cL_readyOn 0 = .ok (.aload_n 2, 1) := by decide +kernel
theorem dL_readyOn_1 : decode cL_readyOn 1 = .ok (.iconst 0, 1) := by decide +kernel
theorem dL_readyOn_2 : decode cL_readyOn 2 = .ok (.aload_n 0, 1) := by decide +kernel
theorem dL_readyOn_3 : decode cL_readyOn 3 = .ok (.iload_n 1, 1) := by decide +kernel
theorem dL_readyOn_4 : decode cL_readyOn 4 = .ok (.invokevirtual 66, 3) := by decide +kernel
theorem dL_readyOn_7 : decode cL_readyOn 7 = .ok (.i2l, 1) := by decide +kernel
theorem dL_readyOn_8 : decode cL_readyOn 8 = .ok (.lastore, 1) := by decide +kernel
theorem dL_readyOn_9 : decode cL_readyOn 9 = .ok (.goto 6, 3) := by decide +kernel
theorem dL_readyOn_12 : decode cL_readyOn 12 = .ok (.astore_n 3, 1) := by decide +kernel
theorem dL_readyOn_13 : decode cL_readyOn 13 = .ok (.iconst 1, 1) := by decide +kernel
theorem dL_readyOn_14 : decode cL_readyOn 14 = .ok (.ireturn, 1) := by decide +kernel
theorem dL_readyOn_15 : decode cL_readyOn 15 = .ok (.iconst 0, 1) := by decide +kernel
theorem dL_readyOn_16 : decode cL_readyOn 16 = .ok (.ireturn, 1) := by decide +kernel
theorem dL_stateOf_0 : decode cL_stateOf 0 = .ok (.aload_n 2, 1) := by decide +kernel
theorem dL_stateOf_1 : decode cL_stateOf 1 = .ok (.iconst 0, 1) := by decide +kernel
theorem dL_stateOf_2 : decode cL_stateOf 2 = .ok (.aload_n 0, 1) := by decide +kernel
theorem dL_stateOf_3 : decode cL_stateOf 3 = .ok (.iload_n 1, 1) := by decide +kernel
theorem dL_stateOf_4 : decode cL_stateOf 4 = .ok (.invokevirtual 69, 3) := by decide +kernel
theorem dL_stateOf_7 : decode cL_stateOf 7 = .ok (.i2l, 1) := by decide +kernel
theorem dL_stateOf_8 : decode cL_stateOf 8 = .ok (.lastore, 1) := by decide +kernel
theorem dL_stateOf_9 : decode cL_stateOf 9 = .ok (.goto 6, 3) := by decide +kernel
theorem dL_stateOf_12 : decode cL_stateOf 12 = .ok (.astore_n 3, 1) := by decide +kernel
theorem dL_stateOf_13 : decode cL_stateOf 13 = .ok (.iconst 1, 1) := by decide +kernel
theorem dL_stateOf_14 : decode cL_stateOf 14 = .ok (.ireturn, 1) := by decide +kernel
theorem dL_stateOf_15 : decode cL_stateOf 15 = .ok (.iconst 0, 1) := by decide +kernel
theorem dL_stateOf_16 : decode cL_stateOf 16 = .ok (.ireturn, 1) := by decide +kernel
theorem dL_mark_0 : decode cL_mark 0 = .ok (.aload_n 2, 1) := by decide +kernel
theorem dL_mark_1 : decode cL_mark 1 = .ok (.iconst 0, 1) := by decide +kernel
theorem dL_mark_2 : decode cL_mark 2 = .ok (.aload_n 0, 1) := by decide +kernel
theorem dL_mark_3 : decode cL_mark 3 = .ok (.iload_n 1, 1) := by decide +kernel
theorem dL_mark_4 : decode cL_mark 4 = .ok (.invokevirtual 73, 3) := by decide +kernel
theorem dL_mark_7 : decode cL_mark 7 = .ok (.i2l, 1) := by decide +kernel
theorem dL_mark_8 : decode cL_mark 8 = .ok (.lastore, 1) := by decide +kernel
theorem dL_mark_9 : decode cL_mark 9 = .ok (.goto 6, 3) := by decide +kernel
theorem dL_mark_12 : decode cL_mark 12 = .ok (.astore_n 3, 1) := by decide +kernel
theorem dL_mark_13 : decode cL_mark 13 = .ok (.iconst 1, 1) := by decide +kernel
theorem dL_mark_14 : decode cL_mark 14 = .ok (.ireturn, 1) := by decide +kernel
theorem dL_mark_15 : decode cL_mark 15 = .ok (.iconst 0, 1) := by decide +kernel
theorem dL_mark_16 : decode cL_mark 16 = .ok (.ireturn, 1) := by decide +kernel
theorem dL_markAt_0 : decode cL_markAt 0 = .ok (.aload_n 3, 1) := by decide +kernel
theorem dL_markAt_1 : decode cL_markAt 1 = .ok (.iconst 0, 1) := by decide +kernel
theorem dL_markAt_2 : decode cL_markAt 2 = .ok (.aload_n 0, 1) := by decide +kernel
theorem dL_markAt_3 : decode cL_markAt 3 = .ok (.iload_n 1, 1) := by decide +kernel
theorem dL_markAt_4 : decode cL_markAt 4 = .ok (.iload_n 2, 1) := by decide +kernel
theorem dL_markAt_5 : decode cL_markAt 5 = .ok (.invokevirtual 76, 3) := by decide +kernel
theorem dL_markAt_8 : decode cL_markAt 8 = .ok (.i2l, 1) := by decide +kernel
theorem dL_markAt_9 : decode cL_markAt 9 = .ok (.lastore, 1) := by decide +kernel
theorem dL_markAt_10 : decode cL_markAt 10 = .ok (.goto 7, 3) := by decide +kernel
theorem dL_markAt_13 : decode cL_markAt 13 = .ok (.astore 4, 2) := by decide +kernel
theorem dL_markAt_15 : decode cL_markAt 15 = .ok (.iconst 1, 1) := by decide +kernel
theorem dL_markAt_16 : decode cL_markAt 16 = .ok (.ireturn, 1) := by decide +kernel
theorem dL_markAt_17 : decode cL_markAt 17 = .ok (.iconst 0, 1) := by decide +kernel
theorem dL_markAt_18 : decode cL_markAt 18 = .ok (.ireturn, 1) := by decide +kernel
theorem dL_fits_0 : decode cL_fits 0 = .ok (.aload_n 3, 1) := by decide +kernel
theorem dL_fits_1 : decode cL_fits 1 = .ok (.iconst 0, 1) := by decide +kernel
theorem dL_fits_2 : decode cL_fits 2 = .ok (.aload_n 0, 1) := by decide +kernel
theorem dL_fits_3 : decode cL_fits 3 = .ok (.iload_n 1, 1) := by decide +kernel
theorem dL_fits_4 : decode cL_fits 4 = .ok (.iload_n 2, 1) := by decide +kernel
theorem dL_fits_5 : decode cL_fits 5 = .ok (.invokevirtual 80, 3) := by decide +kernel
theorem dL_fits_8 : decode cL_fits 8 = .ok (.ifCond .eq 7, 3) := by decide +kernel
theorem dL_fits_11 : decode cL_fits 11 = .ok (.lconst 1, 1) := by decide +kernel
theorem dL_fits_12 : decode cL_fits 12 = .ok (.goto 4, 3) := by decide +kernel
theorem dL_fits_15 : decode cL_fits 15 = .ok (.lconst 0, 1) := by decide +kernel
theorem dL_fits_16 : decode cL_fits 16 = .ok (.lastore, 1) := by decide +kernel
theorem dL_fits_17 : decode cL_fits 17 = .ok (.goto 7, 3) := by decide +kernel
theorem dL_fits_20 : decode cL_fits 20 = .ok (.astore 4, 2) := by decide +kernel
theorem dL_fits_22 : decode cL_fits 22 = .ok (.iconst 1, 1) := by decide +kernel
theorem dL_fits_23 : decode cL_fits 23 = .ok (.ireturn, 1) := by decide +kernel
theorem dL_fits_24 : decode cL_fits 24 = .ok (.iconst 0, 1) := by decide +kernel
theorem dL_fits_25 : decode cL_fits 25 = .ok (.ireturn, 1) := by decide +kernel
theorem dL_setCentre_0 : decode cL_setCentre 0 = .ok (.aload_n 2, 1) := by decide +kernel
theorem dL_setCentre_1 : decode cL_setCentre 1 = .ok (.iconst 0, 1) := by decide +kernel
theorem dL_setCentre_2 : decode cL_setCentre 2 = .ok (.aload_n 0, 1) := by decide +kernel
theorem dL_setCentre_3 : decode cL_setCentre 3 = .ok (.iload_n 1, 1) := by decide +kernel
theorem dL_setCentre_4 : decode cL_setCentre 4 = .ok (.invokevirtual 84, 3) := by decide +kernel
theorem dL_setCentre_7 : decode cL_setCentre 7 = .ok (.i2l, 1) := by decide +kernel
theorem dL_setCentre_8 : decode cL_setCentre 8 = .ok (.lastore, 1) := by decide +kernel
theorem dL_setCentre_9 : decode cL_setCentre 9 = .ok (.goto 9, 3) := by decide +kernel
theorem dL_setCentre_12 : decode cL_setCentre 12 = .ok (.astore_n 3, 1) := by decide +kernel
theorem dL_setCentre_13 : decode cL_setCentre 13 = .ok (.iconst 1, 1) := by decide +kernel
theorem dL_setCentre_14 : decode cL_setCentre 14 = .ok (.ireturn, 1) := by decide +kernel
theorem dL_setCentre_15 : decode cL_setCentre 15 = .ok (.astore_n 3, 1) := by decide +kernel
theorem dL_setCentre_16 : decode cL_setCentre 16 = .ok (.iconst 2, 1) := by decide +kernel
theorem dL_setCentre_17 : decode cL_setCentre 17 = .ok (.ireturn, 1) := by decide +kernel
theorem dL_setCentre_18 : decode cL_setCentre 18 = .ok (.iconst 0, 1) := by decide +kernel
theorem dL_setCentre_19 : decode cL_setCentre 19 = .ok (.ireturn, 1) := by decide +kernel
theorem dL_set_0 : decode cL_set 0 = .ok (.aload_n 3, 1) := by decide +kernel
theorem dL_set_1 : decode cL_set 1 = .ok (.iconst 0, 1) := by decide +kernel
theorem dL_set_2 : decode cL_set 2 = .ok (.aload_n 0, 1) := by decide +kernel
theorem dL_set_3 : decode cL_set 3 = .ok (.iload_n 1, 1) := by decide +kernel
theorem dL_set_4 : decode cL_set 4 = .ok (.iload_n 2, 1) := by decide +kernel
theorem dL_set_5 : decode cL_set 5 = .ok (.invokevirtual 87, 3) := by decide +kernel
theorem dL_set_8 : decode cL_set 8 = .ok (.i2l, 1) := by decide +kernel
theorem dL_set_9 : decode cL_set 9 = .ok (.lastore, 1) := by decide +kernel
theorem dL_set_10 : decode cL_set 10 = .ok (.goto 15, 3) := by decide +kernel
theorem dL_set_13 : decode cL_set 13 = .ok (.astore 4, 2) := by decide +kernel
theorem dL_set_15 : decode cL_set 15 = .ok (.iconst 1, 1) := by decide +kernel
theorem dL_set_16 : decode cL_set 16 = .ok (.ireturn, 1) := by decide +kernel
theorem dL_set_17 : decode cL_set 17 = .ok (.astore 4, 2) := by decide +kernel
theorem dL_set_19 : decode cL_set 19 = .ok (.iconst 2, 1) := by decide +kernel
theorem dL_set_20 : decode cL_set 20 = .ok (.ireturn, 1) := by decide +kernel
theorem dL_set_21 : decode cL_set 21 = .ok (.astore 4, 2) := by decide +kernel
theorem dL_set_23 : decode cL_set 23 = .ok (.iconst 3, 1) := by decide +kernel
theorem dL_set_24 : decode cL_set 24 = .ok (.ireturn, 1) := by decide +kernel
theorem dL_set_25 : decode cL_set 25 = .ok (.iconst 0, 1) := by decide +kernel
theorem dL_set_26 : decode cL_set 26 = .ok (.ireturn, 1) := by decide +kernel
theorem dL_stoneIn_0 : decode cL_stoneIn 0 = .ok (.aload_n 2, 1) := by decide +kernel
theorem dL_stoneIn_1 : decode cL_stoneIn 1 = .ok (.iconst 0, 1) := by decide +kernel
theorem dL_stoneIn_2 : decode cL_stoneIn 2 = .ok (.aload_n 0, 1) := by decide +kernel
theorem dL_stoneIn_3 : decode cL_stoneIn 3 = .ok (.iload_n 1, 1) := by decide +kernel
theorem dL_stoneIn_4 : decode cL_stoneIn 4 = .ok (.invokevirtual 90, 3) := by decide +kernel
theorem dL_stoneIn_7 : decode cL_stoneIn 7 = .ok (.i2l, 1) := by decide +kernel
theorem dL_stoneIn_8 : decode cL_stoneIn 8 = .ok (.lastore, 1) := by decide +kernel
theorem dL_stoneIn_9 : decode cL_stoneIn 9 = .ok (.goto 9, 3) := by decide +kernel
theorem dL_stoneIn_12 : decode cL_stoneIn 12 = .ok (.astore_n 3, 1) := by decide +kernel
theorem dL_stoneIn_13 : decode cL_stoneIn 13 = .ok (.iconst 1, 1) := by decide +kernel
theorem dL_stoneIn_14 : decode cL_stoneIn 14 = .ok (.ireturn, 1) := by decide +kernel
theorem dL_stoneIn_15 : decode cL_stoneIn 15 = .ok (.astore_n 3, 1) := by decide +kernel
theorem dL_stoneIn_16 : decode cL_stoneIn 16 = .ok (.iconst 2, 1) := by decide +kernel
theorem dL_stoneIn_17 : decode cL_stoneIn 17 = .ok (.ireturn, 1) := by decide +kernel
theorem dL_stoneIn_18 : decode cL_stoneIn 18 = .ok (.iconst 0, 1) := by decide +kernel
theorem dL_stoneIn_19 : decode cL_stoneIn 19 = .ok (.ireturn, 1) := by decide +kernel
theorem dL_strike_0 : decode cL_strike 0 = .ok (.aload_n 1, 1) := by decide +kernel
theorem dL_strike_1 : decode cL_strike 1 = .ok (.iconst 0, 1) := by decide +kernel
theorem dL_strike_2 : decode cL_strike 2 = .ok (.aload_n 0, 1) := by decide +kernel
theorem dL_strike_3 : decode cL_strike 3 = .ok (.invokevirtual 93, 3) := by decide +kernel
theorem dL_strike_6 : decode cL_strike 6 = .ok (.lastore, 1) := by decide +kernel
theorem dL_strike_7 : decode cL_strike 7 = .ok (.goto 9, 3) := by decide +kernel
theorem dL_strike_10 : decode cL_strike 10 = .ok (.astore_n 2, 1) := by decide +kernel
theorem dL_strike_11 : decode cL_strike 11 = .ok (.iconst 1, 1) := by decide +kernel
theorem dL_strike_12 : decode cL_strike 12 = .ok (.ireturn, 1) := by decide +kernel
theorem dL_strike_13 : decode cL_strike 13 = .ok (.astore_n 2, 1) := by decide +kernel
theorem dL_strike_14 : decode cL_strike 14 = .ok (.iconst 2, 1) := by decide +kernel
theorem dL_strike_15 : decode cL_strike 15 = .ok (.ireturn, 1) := by decide +kernel
theorem dL_strike_16 : decode cL_strike 16 = .ok (.iconst 0, 1) := by decide +kernel
theorem dL_strike_17 : decode cL_strike 17 = .ok (.ireturn, 1) := by decide +kernel
theorem dL_load_0 : decode cL_load 0 = .ok (.aload_n 3, 1) := by decide +kernel
theorem dL_load_1 : decode cL_load 1 = .ok (.iconst 0, 1) := by decide +kernel
theorem dL_load_2 : decode cL_load 2 = .ok (.aload_n 0, 1) := by decide +kernel
theorem dL_load_3 : decode cL_load 3 = .ok (.iload_n 1, 1) := by decide +kernel
theorem dL_load_4 : decode cL_load 4 = .ok (.iload_n 2, 1) := by decide +kernel
theorem dL_load_5 : decode cL_load 5 = .ok (.invokevirtual 97, 3) := by decide +kernel
theorem dL_load_8 : decode cL_load 8 = .ok (.ifCond .eq 7, 3) := by decide +kernel
theorem dL_load_11 : decode cL_load 11 = .ok (.lconst 1, 1) := by decide +kernel
theorem dL_load_12 : decode cL_load 12 = .ok (.goto 4, 3) := by decide +kernel
theorem dL_load_15 : decode cL_load 15 = .ok (.lconst 0, 1) := by decide +kernel
theorem dL_load_16 : decode cL_load 16 = .ok (.lastore, 1) := by decide +kernel
theorem dL_load_17 : decode cL_load 17 = .ok (.goto 15, 3) := by decide +kernel
theorem dL_load_20 : decode cL_load 20 = .ok (.astore 4, 2) := by decide +kernel
theorem dL_load_22 : decode cL_load 22 = .ok (.iconst 1, 1) := by decide +kernel
theorem dL_load_23 : decode cL_load 23 = .ok (.ireturn, 1) := by decide +kernel
theorem dL_load_24 : decode cL_load 24 = .ok (.astore 4, 2) := by decide +kernel
theorem dL_load_26 : decode cL_load 26 = .ok (.iconst 2, 1) := by decide +kernel
theorem dL_load_27 : decode cL_load 27 = .ok (.ireturn, 1) := by decide +kernel
theorem dL_load_28 : decode cL_load 28 = .ok (.astore 4, 2) := by decide +kernel
theorem dL_load_30 : decode cL_load 30 = .ok (.iconst 3, 1) := by decide +kernel
theorem dL_load_31 : decode cL_load 31 = .ok (.ireturn, 1) := by decide +kernel
theorem dL_load_32 : decode cL_load 32 = .ok (.iconst 0, 1) := by decide +kernel
theorem dL_load_33 : decode cL_load 33 = .ok (.ireturn, 1) := by decide +kernel
theorem dL_pass_0 : decode cL_pass 0 = .ok (.aload_n 2, 1) := by decide +kernel
theorem dL_pass_1 : decode cL_pass 1 = .ok (.iconst 0, 1) := by decide +kernel
theorem dL_pass_2 : decode cL_pass 2 = .ok (.aload_n 0, 1) := by decide +kernel
theorem dL_pass_3 : decode cL_pass 3 = .ok (.iload_n 1, 1) := by decide +kernel
theorem dL_pass_4 : decode cL_pass 4 = .ok (.invokevirtual 100, 3) := by decide +kernel
theorem dL_pass_7 : decode cL_pass 7 = .ok (.i2l, 1) := by decide +kernel
theorem dL_pass_8 : decode cL_pass 8 = .ok (.lastore, 1) := by decide +kernel
theorem dL_pass_9 : decode cL_pass 9 = .ok (.goto 6, 3) := by decide +kernel
theorem dL_pass_12 : decode cL_pass 12 = .ok (.astore_n 3, 1) := by decide +kernel
theorem dL_pass_13 : decode cL_pass 13 = .ok (.iconst 1, 1) := by decide +kernel
theorem dL_pass_14 : decode cL_pass 14 = .ok (.ireturn, 1) := by decide +kernel
theorem dL_pass_15 : decode cL_pass 15 = .ok (.iconst 0, 1) := by decide +kernel
theorem dL_pass_16 : decode cL_pass 16 = .ok (.ireturn, 1) := by decide +kernel
theorem dL_usedShare_0 : decode cL_usedShare 0 = .ok (.aload_n 1, 1) := by decide +kernel
theorem dL_usedShare_1 : decode cL_usedShare 1 = .ok (.iconst 0, 1) := by decide +kernel
theorem dL_usedShare_2 : decode cL_usedShare 2 = .ok (.aload_n 0, 1) := by decide +kernel
theorem dL_usedShare_3 : decode cL_usedShare 3 = .ok (.invokevirtual 103, 3) := by decide +kernel
theorem dL_usedShare_6 : decode cL_usedShare 6 = .ok (.f2d, 1) := by decide +kernel
theorem dL_usedShare_7 : decode cL_usedShare 7 = .ok (.dastore, 1) := by decide +kernel
theorem dL_usedShare_8 : decode cL_usedShare 8 = .ok (.goto 6, 3) := by decide +kernel
theorem dL_usedShare_11 : decode cL_usedShare 11 = .ok (.astore_n 2, 1) := by decide +kernel
theorem dL_usedShare_12 : decode cL_usedShare 12 = .ok (.iconst 1, 1) := by decide +kernel
theorem dL_usedShare_13 : decode cL_usedShare 13 = .ok (.ireturn, 1) := by decide +kernel
theorem dL_usedShare_14 : decode cL_usedShare 14 = .ok (.iconst 0, 1) := by decide +kernel
theorem dL_usedShare_15 : decode cL_usedShare 15 = .ok (.ireturn, 1) := by decide +kernel
theorem dL_meanArea_0 : decode cL_meanArea 0 = .ok (.aload_n 1, 1) := by decide +kernel
theorem dL_meanArea_1 : decode cL_meanArea 1 = .ok (.iconst 0, 1) := by decide +kernel
theorem dL_meanArea_2 : decode cL_meanArea 2 = .ok (.aload_n 0, 1) := by decide +kernel
theorem dL_meanArea_3 : decode cL_meanArea 3 = .ok (.invokevirtual 109, 3) := by decide +kernel
theorem dL_meanArea_6 : decode cL_meanArea 6 = .ok (.dastore, 1) := by decide +kernel
theorem dL_meanArea_7 : decode cL_meanArea 7 = .ok (.goto 6, 3) := by decide +kernel
theorem dL_meanArea_10 : decode cL_meanArea 10 = .ok (.astore_n 2, 1) := by decide +kernel
theorem dL_meanArea_11 : decode cL_meanArea 11 = .ok (.iconst 1, 1) := by decide +kernel
theorem dL_meanArea_12 : decode cL_meanArea 12 = .ok (.ireturn, 1) := by decide +kernel
theorem dL_meanArea_13 : decode cL_meanArea 13 = .ok (.iconst 0, 1) := by decide +kernel
theorem dL_meanArea_14 : decode cL_meanArea 14 = .ok (.ireturn, 1) := by decide +kernel
end
section
theorem dL_law_0 : decode cL_law 0 = .ok (.new 8, 3) := by decide +kernel
theorem dL_law_3 : decode cL_law 3 = .ok (.dup, 1) := by decide +kernel
theorem dL_law_4 : decode cL_law 4 = .ok (.invokespecial 113, 3) := by decide +kernel
theorem dL_law_7 : decode cL_law 7 = .ok (.astore_n 1, 1) := by decide +kernel
theorem dL_law_8 : decode cL_law 8 = .ok (.new 114, 3) := by decide +kernel
theorem dL_law_11 : decode cL_law 11 = .ok (.dup, 1) := by decide +kernel
theorem dL_law_12 : decode cL_law 12 = .ok (.invokespecial 116, 3) := by decide +kernel
theorem dL_law_15 : decode cL_law 15 = .ok (.astore_n 2, 1) := by decide +kernel
theorem dL_law_16 : decode cL_law 16 = .ok (.iconst 1, 1) := by decide +kernel
theorem dL_law_17 : decode cL_law 17 = .ok (.newarray .long, 2) := by decide +kernel
theorem dL_law_19 : decode cL_law 19 = .ok (.astore_n 3, 1) := by decide +kernel
theorem dL_law_20 : decode cL_law 20 = .ok (.iconst 1, 1) := by decide +kernel
theorem dL_law_21 : decode cL_law 21 = .ok (.newarray .double, 2) := by decide +kernel
theorem dL_law_23 : decode cL_law 23 = .ok (.astore 4, 2) := by decide +kernel
theorem dL_law_25 : decode cL_law 25 = .ok (.iconst 0, 1) := by decide +kernel
theorem dL_law_26 : decode cL_law 26 = .ok (.istore 5, 2) := by decide +kernel
theorem dL_law_28 : decode cL_law 28 = .ok (.iload 5, 2) := by decide +kernel
theorem dL_law_30 : decode cL_law 30 = .ok (.aload_n 0, 1) := by decide +kernel
theorem dL_law_31 : decode cL_law 31 = .ok (.arraylength, 1) := by decide +kernel
theorem dL_law_32 : decode cL_law 32 = .ok (.bipush 6, 2) := by decide +kernel
theorem dL_law_34 : decode cL_law 34 = .ok (.isub, 1) := by decide +kernel
theorem dL_law_35 : decode cL_law 35 = .ok (.if_icmp .gt 1964, 3) := by decide +kernel
theorem dL_law_38 : decode cL_law 38 = .ok (.aload_n 0, 1) := by decide +kernel
theorem dL_law_39 : decode cL_law 39 = .ok (.iload 5, 2) := by decide +kernel
theorem dL_law_41 : decode cL_law 41 = .ok (.iaload, 1) := by decide +kernel
theorem dL_law_42 : decode cL_law 42 = .ok (.bipush 31, 2) := by decide +kernel
theorem dL_law_44 : decode cL_law 44 = .ok (.iand, 1) := by decide +kernel
theorem dL_law_45 : decode cL_law 45 = .ok (.tableswitch 1948 0 31 #[143, 235, 339, 395, 408, 464, 520, 583, 638, 706, 719, 839, 895, 951, 1019, 1099, 1155, 1211, 1267, 1335, 1410, 1466, 1534, 1590, 1633, 1708, 1721, 1777, 1791, 1804, 1870, 1935], 143) := by decide +kernel
theorem dL_law_188 : decode cL_law 188 = .ok (.aload_n 1, 1) := by decide +kernel
theorem dL_law_189 : decode cL_law 189 = .ok (.aload_n 0, 1) := by decide +kernel
theorem dL_law_190 : decode cL_law 190 = .ok (.iload 5, 2) := by decide +kernel
theorem dL_law_192 : decode cL_law 192 = .ok (.iconst 1, 1) := by decide +kernel
theorem dL_law_193 : decode cL_law 193 = .ok (.iadd, 1) := by decide +kernel
theorem dL_law_194 : decode cL_law 194 = .ok (.iaload, 1) := by decide +kernel
theorem dL_law_195 : decode cL_law 195 = .ok (.aload_n 0, 1) := by decide +kernel
theorem dL_law_196 : decode cL_law 196 = .ok (.iload 5, 2) := by decide +kernel
theorem dL_law_198 : decode cL_law 198 = .ok (.iconst 2, 1) := by decide +kernel
theorem dL_law_199 : decode cL_law 199 = .ok (.iadd, 1) := by decide +kernel
theorem dL_law_200 : decode cL_law 200 = .ok (.iaload, 1) := by decide +kernel
theorem dL_law_201 : decode cL_law 201 = .ok (.aload_n 0, 1) := by decide +kernel
theorem dL_law_202 : decode cL_law 202 = .ok (.iload 5, 2) := by decide +kernel
theorem dL_law_204 : decode cL_law 204 = .ok (.iconst 3, 1) := by decide +kernel
theorem dL_law_205 : decode cL_law 205 = .ok (.iadd, 1) := by decide +kernel
theorem dL_law_206 : decode cL_law 206 = .ok (.iaload, 1) := by decide +kernel
theorem dL_law_207 : decode cL_law 207 = .ok (.aload_n 0, 1) := by decide +kernel
theorem dL_law_208 : decode cL_law 208 = .ok (.iload 5, 2) := by decide +kernel
theorem dL_law_210 : decode cL_law 210 = .ok (.iconst 4, 1) := by decide +kernel
theorem dL_law_211 : decode cL_law 211 = .ok (.iadd, 1) := by decide +kernel
theorem dL_law_212 : decode cL_law 212 = .ok (.iaload, 1) := by decide +kernel
theorem dL_law_213 : decode cL_law 213 = .ok (.aload_n 3, 1) := by decide +kernel
theorem dL_law_214 : decode cL_law 214 = .ok (.invokestatic 117, 3) := by decide +kernel
theorem dL_law_217 : decode cL_law 217 = .ok (.istore 6, 2) := by decide +kernel
theorem dL_law_219 : decode cL_law 219 = .ok (.aload_n 2, 1) := by decide +kernel
theorem dL_law_220 : decode cL_law 220 = .ok (.aload_n 0, 1) := by decide +kernel
theorem dL_law_221 : decode cL_law 221 = .ok (.iload 5, 2) := by decide +kernel
theorem dL_law_223 : decode cL_law 223 = .ok (.iconst 1, 1) := by decide +kernel
theorem dL_law_224 : decode cL_law 224 = .ok (.iadd, 1) := by decide +kernel
theorem dL_law_225 : decode cL_law 225 = .ok (.iaload, 1) := by decide +kernel
theorem dL_law_226 : decode cL_law 226 = .ok (.aload_n 0, 1) := by decide +kernel
theorem dL_law_227 : decode cL_law 227 = .ok (.iload 5, 2) := by decide +kernel
theorem dL_law_229 : decode cL_law 229 = .ok (.iconst 2, 1) := by decide +kernel
theorem dL_law_230 : decode cL_law 230 = .ok (.iadd, 1) := by decide +kernel
theorem dL_law_231 : decode cL_law 231 = .ok (.iaload, 1) := by decide +kernel
theorem dL_law_232 : decode cL_law 232 = .ok (.aload_n 0, 1) := by decide +kernel
theorem dL_law_233 : decode cL_law 233 = .ok (.iload 5, 2) := by decide +kernel
theorem dL_law_235 : decode cL_law 235 = .ok (.iconst 3, 1) := by decide +kernel
theorem dL_law_236 : decode cL_law 236 = .ok (.iadd, 1) := by decide +kernel
theorem dL_law_237 : decode cL_law 237 = .ok (.iaload, 1) := by decide +kernel
theorem dL_law_238 : decode cL_law 238 = .ok (.aload_n 0, 1) := by decide +kernel
theorem dL_law_239 : decode cL_law 239 = .ok (.iload 5, 2) := by decide +kernel
theorem dL_law_241 : decode cL_law 241 = .ok (.iconst 4, 1) := by decide +kernel
theorem dL_law_242 : decode cL_law 242 = .ok (.iadd, 1) := by decide +kernel
theorem dL_law_243 : decode cL_law 243 = .ok (.iaload, 1) := by decide +kernel
theorem dL_law_244 : decode cL_law 244 = .ok (.invokevirtual 122, 3) := by decide +kernel
theorem dL_law_247 : decode cL_law 247 = .ok (.istore 7, 2) := by decide +kernel
theorem dL_law_249 : decode cL_law 249 = .ok (.aload_n 2, 1) := by decide +kernel
theorem dL_law_250 : decode cL_law 250 = .ok (.invokevirtual 123, 3) := by decide +kernel
theorem dL_law_253 : decode cL_law 253 = .ok (.iload 6, 2) := by decide +kernel
theorem dL_law_255 : decode cL_law 255 = .ok (.if_icmp .eq 5, 3) := by decide +kernel
theorem dL_law_258 : decode cL_law 258 = .ok (.iconst 0, 1) := by decide +kernel
theorem dL_law_259 : decode cL_law 259 = .ok (.ireturn, 1) := by decide +kernel
theorem dL_law_260 : decode cL_law 260 = .ok (.iload 6, 2) := by decide +kernel
theorem dL_law_262 : decode cL_law 262 = .ok (.ifCond .ne 15, 3) := by decide +kernel
theorem dL_law_265 : decode cL_law 265 = .ok (.aload_n 3, 1) := by decide +kernel
theorem dL_law_266 : decode cL_law 266 = .ok (.iconst 0, 1) := by decide +kernel
theorem dL_law_267 : decode cL_law 267 = .ok (.laload, 1) := by decide +kernel
theorem dL_law_268 : decode cL_law 268 = .ok (.iload 7, 2) := by decide +kernel
theorem dL_law_270 : decode cL_law 270 = .ok (.i2l, 1) := by decide +kernel
theorem dL_law_271 : decode cL_law 271 = .ok (.lcmp, 1) := by decide +kernel
theorem dL_law_272 : decode cL_law 272 = .ok (.ifCond .eq 5, 3) := by decide +kernel
theorem dL_law_275 : decode cL_law 275 = .ok (.iconst 0, 1) := by decide +kernel
theorem dL_law_276 : decode cL_law 276 = .ok (.ireturn, 1) := by decide +kernel
theorem dL_law_277 : decode cL_law 277 = .ok (.goto 1716, 3) := by decide +kernel
theorem dL_law_280 : decode cL_law 280 = .ok (.aload_n 1, 1) := by decide +kernel
theorem dL_law_281 : decode cL_law 281 = .ok (.aload_n 0, 1) := by decide +kernel
theorem dL_law_282 : decode cL_law 282 = .ok (.iload 5, 2) := by decide +kernel
theorem dL_law_284 : decode cL_law 284 = .ok (.iconst 1, 1) := by decide +kernel
theorem dL_law_285 : decode cL_law 285 = .ok (.iadd, 1) := by decide +kernel
theorem dL_law_286 : decode cL_law 286 = .ok (.iaload, 1) := by decide +kernel
theorem dL_law_287 : decode cL_law 287 = .ok (.aload_n 0, 1) := by decide +kernel
theorem dL_law_288 : decode cL_law 288 = .ok (.iload 5, 2) := by decide +kernel
theorem dL_law_290 : decode cL_law 290 = .ok (.iconst 2, 1) := by decide +kernel
theorem dL_law_291 : decode cL_law 291 = .ok (.iadd, 1) := by decide +kernel
theorem dL_law_292 : decode cL_law 292 = .ok (.iaload, 1) := by decide +kernel
theorem dL_law_293 : decode cL_law 293 = .ok (.aload_n 0, 1) := by decide +kernel
theorem dL_law_294 : decode cL_law 294 = .ok (.iload 5, 2) := by decide +kernel
theorem dL_law_296 : decode cL_law 296 = .ok (.iconst 3, 1) := by decide +kernel
theorem dL_law_297 : decode cL_law 297 = .ok (.iadd, 1) := by decide +kernel
theorem dL_law_298 : decode cL_law 298 = .ok (.iaload, 1) := by decide +kernel
theorem dL_law_299 : decode cL_law 299 = .ok (.aload_n 0, 1) := by decide +kernel
theorem dL_law_300 : decode cL_law 300 = .ok (.iload 5, 2) := by decide +kernel
theorem dL_law_302 : decode cL_law 302 = .ok (.iconst 4, 1) := by decide +kernel
theorem dL_law_303 : decode cL_law 303 = .ok (.iadd, 1) := by decide +kernel
theorem dL_law_304 : decode cL_law 304 = .ok (.iaload, 1) := by decide +kernel
theorem dL_law_305 : decode cL_law 305 = .ok (.aload_n 0, 1) := by decide +kernel
theorem dL_law_306 : decode cL_law 306 = .ok (.iload 5, 2) := by decide +kernel
theorem dL_law_308 : decode cL_law 308 = .ok (.iconst 5, 1) := by decide +kernel
theorem dL_law_309 : decode cL_law 309 = .ok (.iadd, 1) := by decide +kernel
theorem dL_law_310 : decode cL_law 310 = .ok (.iaload, 1) := by decide +kernel
theorem dL_law_311 : decode cL_law 311 = .ok (.aload_n 3, 1) := by decide +kernel
theorem dL_law_312 : decode cL_law 312 = .ok (.invokestatic 127, 3) := by decide +kernel
theorem dL_law_315 : decode cL_law 315 = .ok (.istore 6, 2) := by decide +kernel
theorem dL_law_317 : decode cL_law 317 = .ok (.aload_n 2, 1) := by decide +kernel
theorem dL_law_318 : decode cL_law 318 = .ok (.aload_n 0, 1) := by decide +kernel
theorem dL_law_319 : decode cL_law 319 = .ok (.iload 5, 2) := by decide +kernel
theorem dL_law_321 : decode cL_law 321 = .ok (.iconst 1, 1) := by decide +kernel
theorem dL_law_322 : decode cL_law 322 = .ok (.iadd, 1) := by decide +kernel
theorem dL_law_323 : decode cL_law 323 = .ok (.iaload, 1) := by decide +kernel
theorem dL_law_324 : decode cL_law 324 = .ok (.aload_n 0, 1) := by decide +kernel
theorem dL_law_325 : decode cL_law 325 = .ok (.iload 5, 2) := by decide +kernel
theorem dL_law_327 : decode cL_law 327 = .ok (.iconst 2, 1) := by decide +kernel
theorem dL_law_328 : decode cL_law 328 = .ok (.iadd, 1) := by decide +kernel
theorem dL_law_329 : decode cL_law 329 = .ok (.iaload, 1) := by decide +kernel
theorem dL_law_330 : decode cL_law 330 = .ok (.aload_n 0, 1) := by decide +kernel
theorem dL_law_331 : decode cL_law 331 = .ok (.iload 5, 2) := by decide +kernel
theorem dL_law_333 : decode cL_law 333 = .ok (.iconst 3, 1) := by decide +kernel
theorem dL_law_334 : decode cL_law 334 = .ok (.iadd, 1) := by decide +kernel
theorem dL_law_335 : decode cL_law 335 = .ok (.iaload, 1) := by decide +kernel
theorem dL_law_336 : decode cL_law 336 = .ok (.aload_n 0, 1) := by decide +kernel
theorem dL_law_337 : decode cL_law 337 = .ok (.iload 5, 2) := by decide +kernel
theorem dL_law_339 : decode cL_law 339 = .ok (.iconst 4, 1) := by decide +kernel
theorem dL_law_340 : decode cL_law 340 = .ok (.iadd, 1) := by decide +kernel
theorem dL_law_341 : decode cL_law 341 = .ok (.iaload, 1) := by decide +kernel
theorem dL_law_342 : decode cL_law 342 = .ok (.aload_n 0, 1) := by decide +kernel
theorem dL_law_343 : decode cL_law 343 = .ok (.iload 5, 2) := by decide +kernel
theorem dL_law_345 : decode cL_law 345 = .ok (.iconst 5, 1) := by decide +kernel
theorem dL_law_346 : decode cL_law 346 = .ok (.iadd, 1) := by decide +kernel
theorem dL_law_347 : decode cL_law 347 = .ok (.iaload, 1) := by decide +kernel
theorem dL_law_348 : decode cL_law 348 = .ok (.invokevirtual 130, 3) := by decide +kernel
theorem dL_law_351 : decode cL_law 351 = .ok (.istore 7, 2) := by decide +kernel
theorem dL_law_353 : decode cL_law 353 = .ok (.aload_n 2, 1) := by decide +kernel
theorem dL_law_354 : decode cL_law 354 = .ok (.invokevirtual 123, 3) := by decide +kernel
theorem dL_law_357 : decode cL_law 357 = .ok (.iload 6, 2) := by decide +kernel
theorem dL_law_359 : decode cL_law 359 = .ok (.if_icmp .eq 5, 3) := by decide +kernel
theorem dL_law_362 : decode cL_law 362 = .ok (.iconst 0, 1) := by decide +kernel
theorem dL_law_363 : decode cL_law 363 = .ok (.ireturn, 1) := by decide +kernel
theorem dL_law_364 : decode cL_law 364 = .ok (.iload 6, 2) := by decide +kernel
theorem dL_law_366 : decode cL_law 366 = .ok (.ifCond .ne 15, 3) := by decide +kernel
theorem dL_law_369 : decode cL_law 369 = .ok (.aload_n 3, 1) := by decide +kernel
theorem dL_law_370 : decode cL_law 370 = .ok (.iconst 0, 1) := by decide +kernel
theorem dL_law_371 : decode cL_law 371 = .ok (.laload, 1) := by decide +kernel
theorem dL_law_372 : decode cL_law 372 = .ok (.iload 7, 2) := by decide +kernel
theorem dL_law_374 : decode cL_law 374 = .ok (.i2l, 1) := by decide +kernel
theorem dL_law_375 : decode cL_law 375 = .ok (.lcmp, 1) := by decide +kernel
theorem dL_law_376 : decode cL_law 376 = .ok (.ifCond .eq 5, 3) := by decide +kernel
theorem dL_law_379 : decode cL_law 379 = .ok (.iconst 0, 1) := by decide +kernel
theorem dL_law_380 : decode cL_law 380 = .ok (.ireturn, 1) := by decide +kernel
theorem dL_law_381 : decode cL_law 381 = .ok (.goto 1612, 3) := by decide +kernel
theorem dL_law_384 : decode cL_law 384 = .ok (.aload_n 1, 1) := by decide +kernel
theorem dL_law_385 : decode cL_law 385 = .ok (.aload_n 0, 1) := by decide +kernel
theorem dL_law_386 : decode cL_law 386 = .ok (.iload 5, 2) := by decide +kernel
theorem dL_law_388 : decode cL_law 388 = .ok (.iconst 1, 1) := by decide +kernel
theorem dL_law_389 : decode cL_law 389 = .ok (.iadd, 1) := by decide +kernel
theorem dL_law_390 : decode cL_law 390 = .ok (.iaload, 1) := by decide +kernel
theorem dL_law_391 : decode cL_law 391 = .ok (.aload_n 3, 1) := by decide +kernel
theorem dL_law_392 : decode cL_law 392 = .ok (.invokestatic 131, 3) := by decide +kernel
theorem dL_law_395 : decode cL_law 395 = .ok (.istore 6, 2) := by decide +kernel
theorem dL_law_397 : decode cL_law 397 = .ok (.aload_n 2, 1) := by decide +kernel
theorem dL_law_398 : decode cL_law 398 = .ok (.aload_n 0, 1) := by decide +kernel
theorem dL_law_399 : decode cL_law 399 = .ok (.iload 5, 2) := by decide +kernel
theorem dL_law_401 : decode cL_law 401 = .ok (.iconst 1, 1) := by decide +kernel
theorem dL_law_402 : decode cL_law 402 = .ok (.iadd, 1) := by decide +kernel
theorem dL_law_403 : decode cL_law 403 = .ok (.iaload, 1) := by decide +kernel
theorem dL_law_404 : decode cL_law 404 = .ok (.invokevirtual 134, 3) := by decide +kernel
theorem dL_law_407 : decode cL_law 407 = .ok (.istore 7, 2) := by decide +kernel
theorem dL_law_409 : decode cL_law 409 = .ok (.aload_n 2, 1) := by decide +kernel
theorem dL_law_410 : decode cL_law 410 = .ok (.invokevirtual 123, 3) := by decide +kernel
theorem dL_law_413 : decode cL_law 413 = .ok (.iload 6, 2) := by decide +kernel
theorem dL_law_415 : decode cL_law 415 = .ok (.if_icmp .eq 5, 3) := by decide +kernel
theorem dL_law_418 : decode cL_law 418 = .ok (.iconst 0, 1) := by decide +kernel
theorem dL_law_419 : decode cL_law 419 = .ok (.ireturn, 1) := by decide +kernel
theorem dL_law_420 : decode cL_law 420 = .ok (.iload 6, 2) := by decide +kernel
theorem dL_law_422 : decode cL_law 422 = .ok (.ifCond .ne 15, 3) := by decide +kernel
theorem dL_law_425 : decode cL_law 425 = .ok (.aload_n 3, 1) := by decide +kernel
theorem dL_law_426 : decode cL_law 426 = .ok (.iconst 0, 1) := by decide +kernel
theorem dL_law_427 : decode cL_law 427 = .ok (.laload, 1) := by decide +kernel
theorem dL_law_428 : decode cL_law 428 = .ok (.iload 7, 2) := by decide +kernel
theorem dL_law_430 : decode cL_law 430 = .ok (.i2l, 1) := by decide +kernel
theorem dL_law_431 : decode cL_law 431 = .ok (.lcmp, 1) := by decide +kernel
theorem dL_law_432 : decode cL_law 432 = .ok (.ifCond .eq 5, 3) := by decide +kernel
theorem dL_law_435 : decode cL_law 435 = .ok (.iconst 0, 1) := by decide +kernel
theorem dL_law_436 : decode cL_law 436 = .ok (.ireturn, 1) := by decide +kernel
theorem dL_law_437 : decode cL_law 437 = .ok (.goto 1556, 3) := by decide +kernel
theorem dL_law_440 : decode cL_law 440 = .ok (.aload_n 1, 1) := by decide +kernel
theorem dL_law_441 : decode cL_law 441 = .ok (.invokevirtual 135, 3) := by decide +kernel
theorem dL_law_444 : decode cL_law 444 = .ok (.aload_n 2, 1) := by decide +kernel
theorem dL_law_445 : decode cL_law 445 = .ok (.invokevirtual 138, 3) := by decide +kernel
theorem dL_law_448 : decode cL_law 448 = .ok (.if_icmp .eq 1545, 3) := by decide +kernel
theorem dL_law_451 : decode cL_law 451 = .ok (.iconst 0, 1) := by decide +kernel
theorem dL_law_452 : decode cL_law 452 = .ok (.ireturn, 1) := by decide +kernel
theorem dL_law_453 : decode cL_law 453 = .ok (.aload_n 1, 1) := by decide +kernel
theorem dL_law_454 : decode cL_law 454 = .ok (.aload_n 0, 1) := by decide +kernel
theorem dL_law_455 : decode cL_law 455 = .ok (.iload 5, 2) := by decide +kernel
theorem dL_law_457 : decode cL_law 457 = .ok (.iconst 1, 1) := by decide +kernel
theorem dL_law_458 : decode cL_law 458 = .ok (.iadd, 1) := by decide +kernel
theorem dL_law_459 : decode cL_law 459 = .ok (.iaload, 1) := by decide +kernel
theorem dL_law_460 : decode cL_law 460 = .ok (.aload_n 3, 1) := by decide +kernel
theorem dL_law_461 : decode cL_law 461 = .ok (.invokestatic 139, 3) := by decide +kernel
theorem dL_law_464 : decode cL_law 464 = .ok (.istore 6, 2) := by decide +kernel
theorem dL_law_466 : decode cL_law 466 = .ok (.aload_n 2, 1) := by decide +kernel
theorem dL_law_467 : decode cL_law 467 = .ok (.aload_n 0, 1) := by decide +kernel
theorem dL_law_468 : decode cL_law 468 = .ok (.iload 5, 2) := by decide +kernel
theorem dL_law_470 : decode cL_law 470 = .ok (.iconst 1, 1) := by decide +kernel
theorem dL_law_471 : decode cL_law 471 = .ok (.iadd, 1) := by decide +kernel
theorem dL_law_472 : decode cL_law 472 = .ok (.iaload, 1) := by decide +kernel
theorem dL_law_473 : decode cL_law 473 = .ok (.invokevirtual 141, 3) := by decide +kernel
theorem dL_law_476 : decode cL_law 476 = .ok (.istore 7, 2) := by decide +kernel
theorem dL_law_478 : decode cL_law 478 = .ok (.aload_n 2, 1) := by decide +kernel
theorem dL_law_479 : decode cL_law 479 = .ok (.invokevirtual 123, 3) := by decide +kernel
theorem dL_law_482 : decode cL_law 482 = .ok (.iload 6, 2) := by decide +kernel
theorem dL_law_484 : decode cL_law 484 = .ok (.if_icmp .eq 5, 3) := by decide +kernel
theorem dL_law_487 : decode cL_law 487 = .ok (.iconst 0, 1) := by decide +kernel
theorem dL_law_488 : decode cL_law 488 = .ok (.ireturn, 1) := by decide +kernel
theorem dL_law_489 : decode cL_law 489 = .ok (.iload 6, 2) := by decide +kernel
theorem dL_law_491 : decode cL_law 491 = .ok (.ifCond .ne 15, 3) := by decide +kernel
theorem dL_law_494 : decode cL_law 494 = .ok (.aload_n 3, 1) := by decide +kernel
theorem dL_law_495 : decode cL_law 495 = .ok (.iconst 0, 1) := by decide +kernel
theorem dL_law_496 : decode cL_law 496 = .ok (.laload, 1) := by decide +kernel
theorem dL_law_497 : decode cL_law 497 = .ok (.iload 7, 2) := by decide +kernel
theorem dL_law_499 : decode cL_law 499 = .ok (.i2l, 1) := by decide +kernel
theorem dL_law_500 : decode cL_law 500 = .ok (.lcmp, 1) := by decide +kernel
theorem dL_law_501 : decode cL_law 501 = .ok (.ifCond .eq 5, 3) := by decide +kernel
theorem dL_law_504 : decode cL_law 504 = .ok (.iconst 0, 1) := by decide +kernel
theorem dL_law_505 : decode cL_law 505 = .ok (.ireturn, 1) := by decide +kernel
theorem dL_law_506 : decode cL_law 506 = .ok (.goto 1487, 3) := by decide +kernel
theorem dL_law_509 : decode cL_law 509 = .ok (.aload_n 1, 1) := by decide +kernel
theorem dL_law_510 : decode cL_law 510 = .ok (.aload_n 0, 1) := by decide +kernel
theorem dL_law_511 : decode cL_law 511 = .ok (.iload 5, 2) := by decide +kernel
theorem dL_law_513 : decode cL_law 513 = .ok (.iconst 1, 1) := by decide +kernel
theorem dL_law_514 : decode cL_law 514 = .ok (.iadd, 1) := by decide +kernel
theorem dL_law_515 : decode cL_law 515 = .ok (.iaload, 1) := by decide +kernel
theorem dL_law_516 : decode cL_law 516 = .ok (.aload_n 3, 1) := by decide +kernel
theorem dL_law_517 : decode cL_law 517 = .ok (.invokestatic 142, 3) := by decide +kernel
theorem dL_law_520 : decode cL_law 520 = .ok (.istore 6, 2) := by decide +kernel
theorem dL_law_522 : decode cL_law 522 = .ok (.aload_n 2, 1) := by decide +kernel
theorem dL_law_523 : decode cL_law 523 = .ok (.aload_n 0, 1) := by decide +kernel
theorem dL_law_524 : decode cL_law 524 = .ok (.iload 5, 2) := by decide +kernel
theorem dL_law_526 : decode cL_law 526 = .ok (.iconst 1, 1) := by decide +kernel
theorem dL_law_527 : decode cL_law 527 = .ok (.iadd, 1) := by decide +kernel
theorem dL_law_528 : decode cL_law 528 = .ok (.iaload, 1) := by decide +kernel
theorem dL_law_529 : decode cL_law 529 = .ok (.invokevirtual 144, 3) := by decide +kernel
theorem dL_law_532 : decode cL_law 532 = .ok (.istore 7, 2) := by decide +kernel
theorem dL_law_534 : decode cL_law 534 = .ok (.aload_n 2, 1) := by decide +kernel
theorem dL_law_535 : decode cL_law 535 = .ok (.invokevirtual 123, 3) := by decide +kernel
theorem dL_law_538 : decode cL_law 538 = .ok (.iload 6, 2) := by decide +kernel
theorem dL_law_540 : decode cL_law 540 = .ok (.if_icmp .eq 5, 3) := by decide +kernel
theorem dL_law_543 : decode cL_law 543 = .ok (.iconst 0, 1) := by decide +kernel
theorem dL_law_544 : decode cL_law 544 = .ok (.ireturn, 1) := by decide +kernel
theorem dL_law_545 : decode cL_law 545 = .ok (.iload 6, 2) := by decide +kernel
theorem dL_law_547 : decode cL_law 547 = .ok (.ifCond .ne 15, 3) := by decide +kernel
theorem dL_law_550 : decode cL_law 550 = .ok (.aload_n 3, 1) := by decide +kernel
theorem dL_law_551 : decode cL_law 551 = .ok (.iconst 0, 1) := by decide +kernel
theorem dL_law_552 : decode cL_law 552 = .ok (.laload, 1) := by decide +kernel
theorem dL_law_553 : decode cL_law 553 = .ok (.iload 7, 2) := by decide +kernel
theorem dL_law_555 : decode cL_law 555 = .ok (.i2l, 1) := by decide +kernel
theorem dL_law_556 : decode cL_law 556 = .ok (.lcmp, 1) := by decide +kernel
theorem dL_law_557 : decode cL_law 557 = .ok (.ifCond .eq 5, 3) := by decide +kernel
theorem dL_law_560 : decode cL_law 560 = .ok (.iconst 0, 1) := by decide +kernel
theorem dL_law_561 : decode cL_law 561 = .ok (.ireturn, 1) := by decide +kernel
theorem dL_law_562 : decode cL_law 562 = .ok (.goto 1431, 3) := by decide +kernel
theorem dL_law_565 : decode cL_law 565 = .ok (.aload_n 1, 1) := by decide +kernel
theorem dL_law_566 : decode cL_law 566 = .ok (.aload_n 0, 1) := by decide +kernel
theorem dL_law_567 : decode cL_law 567 = .ok (.iload 5, 2) := by decide +kernel
theorem dL_law_569 : decode cL_law 569 = .ok (.iconst 1, 1) := by decide +kernel
theorem dL_law_570 : decode cL_law 570 = .ok (.iadd, 1) := by decide +kernel
theorem dL_law_571 : decode cL_law 571 = .ok (.iaload, 1) := by decide +kernel
theorem dL_law_572 : decode cL_law 572 = .ok (.aload_n 3, 1) := by decide +kernel
theorem dL_law_573 : decode cL_law 573 = .ok (.invokestatic 145, 3) := by decide +kernel
theorem dL_law_576 : decode cL_law 576 = .ok (.istore 6, 2) := by decide +kernel
theorem dL_law_578 : decode cL_law 578 = .ok (.aload_n 2, 1) := by decide +kernel
theorem dL_law_579 : decode cL_law 579 = .ok (.aload_n 0, 1) := by decide +kernel
theorem dL_law_580 : decode cL_law 580 = .ok (.iload 5, 2) := by decide +kernel
theorem dL_law_582 : decode cL_law 582 = .ok (.iconst 1, 1) := by decide +kernel
theorem dL_law_583 : decode cL_law 583 = .ok (.iadd, 1) := by decide +kernel
theorem dL_law_584 : decode cL_law 584 = .ok (.iaload, 1) := by decide +kernel
theorem dL_law_585 : decode cL_law 585 = .ok (.invokevirtual 147, 3) := by decide +kernel
theorem dL_law_588 : decode cL_law 588 = .ok (.istore 7, 2) := by decide +kernel
theorem dL_law_590 : decode cL_law 590 = .ok (.aload_n 2, 1) := by decide +kernel
theorem dL_law_591 : decode cL_law 591 = .ok (.invokevirtual 123, 3) := by decide +kernel
theorem dL_law_594 : decode cL_law 594 = .ok (.iload 6, 2) := by decide +kernel
theorem dL_law_596 : decode cL_law 596 = .ok (.if_icmp .eq 5, 3) := by decide +kernel
theorem dL_law_599 : decode cL_law 599 = .ok (.iconst 0, 1) := by decide +kernel
theorem dL_law_600 : decode cL_law 600 = .ok (.ireturn, 1) := by decide +kernel
theorem dL_law_601 : decode cL_law 601 = .ok (.iload 6, 2) := by decide +kernel
theorem dL_law_603 : decode cL_law 603 = .ok (.ifCond .ne 22, 3) := by decide +kernel
theorem dL_law_606 : decode cL_law 606 = .ok (.aload_n 3, 1) := by decide +kernel
theorem dL_law_607 : decode cL_law 607 = .ok (.iconst 0, 1) := by decide +kernel
theorem dL_law_608 : decode cL_law 608 = .ok (.laload, 1) := by decide +kernel
theorem dL_law_609 : decode cL_law 609 = .ok (.iload 7, 2) := by decide +kernel
theorem dL_law_611 : decode cL_law 611 = .ok (.ifCond .eq 7, 3) := by decide +kernel
theorem dL_law_614 : decode cL_law 614 = .ok (.lconst 1, 1) := by decide +kernel
theorem dL_law_615 : decode cL_law 615 = .ok (.goto 4, 3) := by decide +kernel
theorem dL_law_618 : decode cL_law 618 = .ok (.lconst 0, 1) := by decide +kernel
theorem dL_law_619 : decode cL_law 619 = .ok (.lcmp, 1) := by decide +kernel
theorem dL_law_620 : decode cL_law 620 = .ok (.ifCond .eq 5, 3) := by decide +kernel
theorem dL_law_623 : decode cL_law 623 = .ok (.iconst 0, 1) := by decide +kernel
theorem dL_law_624 : decode cL_law 624 = .ok (.ireturn, 1) := by decide +kernel
theorem dL_law_625 : decode cL_law 625 = .ok (.goto 1368, 3) := by decide +kernel
theorem dL_law_628 : decode cL_law 628 = .ok (.aload_n 1, 1) := by decide +kernel
theorem dL_law_629 : decode cL_law 629 = .ok (.aload_n 0, 1) := by decide +kernel
theorem dL_law_630 : decode cL_law 630 = .ok (.iload 5, 2) := by decide +kernel
theorem dL_law_632 : decode cL_law 632 = .ok (.iconst 1, 1) := by decide +kernel
theorem dL_law_633 : decode cL_law 633 = .ok (.iadd, 1) := by decide +kernel
theorem dL_law_634 : decode cL_law 634 = .ok (.iaload, 1) := by decide +kernel
theorem dL_law_635 : decode cL_law 635 = .ok (.aload_n 3, 1) := by decide +kernel
theorem dL_law_636 : decode cL_law 636 = .ok (.invokestatic 148, 3) := by decide +kernel
theorem dL_law_639 : decode cL_law 639 = .ok (.istore 6, 2) := by decide +kernel
theorem dL_law_641 : decode cL_law 641 = .ok (.aload_n 2, 1) := by decide +kernel
theorem dL_law_642 : decode cL_law 642 = .ok (.aload_n 0, 1) := by decide +kernel
theorem dL_law_643 : decode cL_law 643 = .ok (.iload 5, 2) := by decide +kernel
theorem dL_law_645 : decode cL_law 645 = .ok (.iconst 1, 1) := by decide +kernel
theorem dL_law_646 : decode cL_law 646 = .ok (.iadd, 1) := by decide +kernel
theorem dL_law_647 : decode cL_law 647 = .ok (.iaload, 1) := by decide +kernel
theorem dL_law_648 : decode cL_law 648 = .ok (.invokevirtual 150, 3) := by decide +kernel
theorem dL_law_651 : decode cL_law 651 = .ok (.lstore 7, 2) := by decide +kernel
theorem dL_law_653 : decode cL_law 653 = .ok (.aload_n 2, 1) := by decide +kernel
theorem dL_law_654 : decode cL_law 654 = .ok (.invokevirtual 123, 3) := by decide +kernel
theorem dL_law_657 : decode cL_law 657 = .ok (.iload 6, 2) := by decide +kernel
theorem dL_law_659 : decode cL_law 659 = .ok (.if_icmp .eq 5, 3) := by decide +kernel
theorem dL_law_662 : decode cL_law 662 = .ok (.iconst 0, 1) := by decide +kernel
theorem dL_law_663 : decode cL_law 663 = .ok (.ireturn, 1) := by decide +kernel
theorem dL_law_664 : decode cL_law 664 = .ok (.iload 6, 2) := by decide +kernel
theorem dL_law_666 : decode cL_law 666 = .ok (.ifCond .ne 14, 3) := by decide +kernel
theorem dL_law_669 : decode cL_law 669 = .ok (.aload_n 3, 1) := by decide +kernel
theorem dL_law_670 : decode cL_law 670 = .ok (.iconst 0, 1) := by decide +kernel
theorem dL_law_671 : decode cL_law 671 = .ok (.laload, 1) := by decide +kernel
theorem dL_law_672 : decode cL_law 672 = .ok (.lload 7, 2) := by decide +kernel
theorem dL_law_674 : decode cL_law 674 = .ok (.lcmp, 1) := by decide +kernel
theorem dL_law_675 : decode cL_law 675 = .ok (.ifCond .eq 5, 3) := by decide +kernel
theorem dL_law_678 : decode cL_law 678 = .ok (.iconst 0, 1) := by decide +kernel
theorem dL_law_679 : decode cL_law 679 = .ok (.ireturn, 1) := by decide +kernel
theorem dL_law_680 : decode cL_law 680 = .ok (.goto 1313, 3) := by decide +kernel
theorem dL_law_683 : decode cL_law 683 = .ok (.aload_n 1, 1) := by decide +kernel
theorem dL_law_684 : decode cL_law 684 = .ok (.aload_n 0, 1) := by decide +kernel
theorem dL_law_685 : decode cL_law 685 = .ok (.iload 5, 2) := by decide +kernel
theorem dL_law_687 : decode cL_law 687 = .ok (.iconst 1, 1) := by decide +kernel
theorem dL_law_688 : decode cL_law 688 = .ok (.iadd, 1) := by decide +kernel
theorem dL_law_689 : decode cL_law 689 = .ok (.iaload, 1) := by decide +kernel
theorem dL_law_690 : decode cL_law 690 = .ok (.aload_n 0, 1) := by decide +kernel
theorem dL_law_691 : decode cL_law 691 = .ok (.iload 5, 2) := by decide +kernel
theorem dL_law_693 : decode cL_law 693 = .ok (.iconst 2, 1) := by decide +kernel
theorem dL_law_694 : decode cL_law 694 = .ok (.iadd, 1) := by decide +kernel
theorem dL_law_695 : decode cL_law 695 = .ok (.iaload, 1) := by decide +kernel
theorem dL_law_696 : decode cL_law 696 = .ok (.aload_n 3, 1) := by decide +kernel
theorem dL_law_697 : decode cL_law 697 = .ok (.invokestatic 151, 3) := by decide +kernel
theorem dL_law_700 : decode cL_law 700 = .ok (.istore 6, 2) := by decide +kernel
theorem dL_law_702 : decode cL_law 702 = .ok (.aload_n 2, 1) := by decide +kernel
theorem dL_law_703 : decode cL_law 703 = .ok (.aload_n 0, 1) := by decide +kernel
theorem dL_law_704 : decode cL_law 704 = .ok (.iload 5, 2) := by decide +kernel
theorem dL_law_706 : decode cL_law 706 = .ok (.iconst 1, 1) := by decide +kernel
theorem dL_law_707 : decode cL_law 707 = .ok (.iadd, 1) := by decide +kernel
theorem dL_law_708 : decode cL_law 708 = .ok (.iaload, 1) := by decide +kernel
theorem dL_law_709 : decode cL_law 709 = .ok (.aload_n 0, 1) := by decide +kernel
theorem dL_law_710 : decode cL_law 710 = .ok (.iload 5, 2) := by decide +kernel
theorem dL_law_712 : decode cL_law 712 = .ok (.iconst 2, 1) := by decide +kernel
theorem dL_law_713 : decode cL_law 713 = .ok (.iadd, 1) := by decide +kernel
theorem dL_law_714 : decode cL_law 714 = .ok (.iaload, 1) := by decide +kernel
theorem dL_law_715 : decode cL_law 715 = .ok (.invokevirtual 154, 3) := by decide +kernel
theorem dL_law_718 : decode cL_law 718 = .ok (.istore 7, 2) := by decide +kernel
theorem dL_law_720 : decode cL_law 720 = .ok (.aload_n 2, 1) := by decide +kernel
theorem dL_law_721 : decode cL_law 721 = .ok (.invokevirtual 123, 3) := by decide +kernel
theorem dL_law_724 : decode cL_law 724 = .ok (.iload 6, 2) := by decide +kernel
theorem dL_law_726 : decode cL_law 726 = .ok (.if_icmp .eq 5, 3) := by decide +kernel
theorem dL_law_729 : decode cL_law 729 = .ok (.iconst 0, 1) := by decide +kernel
theorem dL_law_730 : decode cL_law 730 = .ok (.ireturn, 1) := by decide +kernel
theorem dL_law_731 : decode cL_law 731 = .ok (.iload 6, 2) := by decide +kernel
theorem dL_law_733 : decode cL_law 733 = .ok (.ifCond .ne 15, 3) := by decide +kernel
theorem dL_law_736 : decode cL_law 736 = .ok (.aload_n 3, 1) := by decide +kernel
theorem dL_law_737 : decode cL_law 737 = .ok (.iconst 0, 1) := by decide +kernel
theorem dL_law_738 : decode cL_law 738 = .ok (.laload, 1) := by decide +kernel
theorem dL_law_739 : decode cL_law 739 = .ok (.iload 7, 2) := by decide +kernel
theorem dL_law_741 : decode cL_law 741 = .ok (.i2l, 1) := by decide +kernel
theorem dL_law_742 : decode cL_law 742 = .ok (.lcmp, 1) := by decide +kernel
theorem dL_law_743 : decode cL_law 743 = .ok (.ifCond .eq 5, 3) := by decide +kernel
theorem dL_law_746 : decode cL_law 746 = .ok (.iconst 0, 1) := by decide +kernel
theorem dL_law_747 : decode cL_law 747 = .ok (.ireturn, 1) := by decide +kernel
theorem dL_law_748 : decode cL_law 748 = .ok (.goto 1245, 3) := by decide +kernel
theorem dL_law_751 : decode cL_law 751 = .ok (.aload_n 1, 1) := by decide +kernel
theorem dL_law_752 : decode cL_law 752 = .ok (.invokevirtual 155, 3) := by decide +kernel
theorem dL_law_755 : decode cL_law 755 = .ok (.aload_n 2, 1) := by decide +kernel
theorem dL_law_756 : decode cL_law 756 = .ok (.invokevirtual 158, 3) := by decide +kernel
theorem dL_law_759 : decode cL_law 759 = .ok (.if_icmp .eq 1234, 3) := by decide +kernel
theorem dL_law_762 : decode cL_law 762 = .ok (.iconst 0, 1) := by decide +kernel
theorem dL_law_763 : decode cL_law 763 = .ok (.ireturn, 1) := by decide +kernel
theorem dL_law_764 : decode cL_law 764 = .ok (.aload_n 1, 1) := by decide +kernel
theorem dL_law_765 : decode cL_law 765 = .ok (.aload_n 0, 1) := by decide +kernel
theorem dL_law_766 : decode cL_law 766 = .ok (.iload 5, 2) := by decide +kernel
theorem dL_law_768 : decode cL_law 768 = .ok (.iconst 1, 1) := by decide +kernel
theorem dL_law_769 : decode cL_law 769 = .ok (.iadd, 1) := by decide +kernel
theorem dL_law_770 : decode cL_law 770 = .ok (.iaload, 1) := by decide +kernel
theorem dL_law_771 : decode cL_law 771 = .ok (.aload_n 0, 1) := by decide +kernel
theorem dL_law_772 : decode cL_law 772 = .ok (.iload 5, 2) := by decide +kernel
theorem dL_law_774 : decode cL_law 774 = .ok (.iconst 2, 1) := by decide +kernel
theorem dL_law_775 : decode cL_law 775 = .ok (.iadd, 1) := by decide +kernel
theorem dL_law_776 : decode cL_law 776 = .ok (.iaload, 1) := by decide +kernel
theorem dL_law_777 : decode cL_law 777 = .ok (.aload_n 0, 1) := by decide +kernel
theorem dL_law_778 : decode cL_law 778 = .ok (.iload 5, 2) := by decide +kernel
theorem dL_law_780 : decode cL_law 780 = .ok (.iconst 3, 1) := by decide +kernel
theorem dL_law_781 : decode cL_law 781 = .ok (.iadd, 1) := by decide +kernel
theorem dL_law_782 : decode cL_law 782 = .ok (.iaload, 1) := by decide +kernel
theorem dL_law_783 : decode cL_law 783 = .ok (.aload_n 0, 1) := by decide +kernel
theorem dL_law_784 : decode cL_law 784 = .ok (.iload 5, 2) := by decide +kernel
theorem dL_law_786 : decode cL_law 786 = .ok (.iconst 4, 1) := by decide +kernel
theorem dL_law_787 : decode cL_law 787 = .ok (.iadd, 1) := by decide +kernel
theorem dL_law_788 : decode cL_law 788 = .ok (.iaload, 1) := by decide +kernel
theorem dL_law_789 : decode cL_law 789 = .ok (.aload_n 0, 1) := by decide +kernel
theorem dL_law_790 : decode cL_law 790 = .ok (.iload 5, 2) := by decide +kernel
theorem dL_law_792 : decode cL_law 792 = .ok (.iconst 5, 1) := by decide +kernel
theorem dL_law_793 : decode cL_law 793 = .ok (.iadd, 1) := by decide +kernel
theorem dL_law_794 : decode cL_law 794 = .ok (.iaload, 1) := by decide +kernel
theorem dL_law_795 : decode cL_law 795 = .ok (.ifCond .eq 7, 3) := by decide +kernel
theorem dL_law_798 : decode cL_law 798 = .ok (.iconst 1, 1) := by decide +kernel
theorem dL_law_799 : decode cL_law 799 = .ok (.goto 4, 3) := by decide +kernel
theorem dL_law_802 : decode cL_law 802 = .ok (.iconst 0, 1) := by decide +kernel
theorem dL_law_803 : decode cL_law 803 = .ok (.aload_n 3, 1) := by decide +kernel
theorem dL_law_804 : decode cL_law 804 = .ok (.invokestatic 159, 3) := by decide +kernel
theorem dL_law_807 : decode cL_law 807 = .ok (.istore 6, 2) := by decide +kernel
theorem dL_law_809 : decode cL_law 809 = .ok (.aload_n 2, 1) := by decide +kernel
theorem dL_law_810 : decode cL_law 810 = .ok (.aload_n 0, 1) := by decide +kernel
theorem dL_law_811 : decode cL_law 811 = .ok (.iload 5, 2) := by decide +kernel
theorem dL_law_813 : decode cL_law 813 = .ok (.iconst 1, 1) := by decide +kernel
theorem dL_law_814 : decode cL_law 814 = .ok (.iadd, 1) := by decide +kernel
theorem dL_law_815 : decode cL_law 815 = .ok (.iaload, 1) := by decide +kernel
theorem dL_law_816 : decode cL_law 816 = .ok (.aload_n 0, 1) := by decide +kernel
theorem dL_law_817 : decode cL_law 817 = .ok (.iload 5, 2) := by decide +kernel
theorem dL_law_819 : decode cL_law 819 = .ok (.iconst 2, 1) := by decide +kernel
theorem dL_law_820 : decode cL_law 820 = .ok (.iadd, 1) := by decide +kernel
theorem dL_law_821 : decode cL_law 821 = .ok (.iaload, 1) := by decide +kernel
theorem dL_law_822 : decode cL_law 822 = .ok (.aload_n 0, 1) := by decide +kernel
theorem dL_law_823 : decode cL_law 823 = .ok (.iload 5, 2) := by decide +kernel
theorem dL_law_825 : decode cL_law 825 = .ok (.iconst 3, 1) := by decide +kernel
theorem dL_law_826 : decode cL_law 826 = .ok (.iadd, 1) := by decide +kernel
theorem dL_law_827 : decode cL_law 827 = .ok (.iaload, 1) := by decide +kernel
theorem dL_law_828 : decode cL_law 828 = .ok (.aload_n 0, 1) := by decide +kernel
theorem dL_law_829 : decode cL_law 829 = .ok (.iload 5, 2) := by decide +kernel
theorem dL_law_831 : decode cL_law 831 = .ok (.iconst 4, 1) := by decide +kernel
theorem dL_law_832 : decode cL_law 832 = .ok (.iadd, 1) := by decide +kernel
theorem dL_law_833 : decode cL_law 833 = .ok (.iaload, 1) := by decide +kernel
theorem dL_law_834 : decode cL_law 834 = .ok (.aload_n 0, 1) := by decide +kernel
theorem dL_law_835 : decode cL_law 835 = .ok (.iload 5, 2) := by decide +kernel
theorem dL_law_837 : decode cL_law 837 = .ok (.iconst 5, 1) := by decide +kernel
theorem dL_law_838 : decode cL_law 838 = .ok (.iadd, 1) := by decide +kernel
theorem dL_law_839 : decode cL_law 839 = .ok (.iaload, 1) := by decide +kernel
theorem dL_law_840 : decode cL_law 840 = .ok (.ifCond .eq 7, 3) := by decide +kernel
theorem dL_law_843 : decode cL_law 843 = .ok (.iconst 1, 1) := by decide +kernel
theorem dL_law_844 : decode cL_law 844 = .ok (.goto 4, 3) := by decide +kernel
theorem dL_law_847 : decode cL_law 847 = .ok (.iconst 0, 1) := by decide +kernel
theorem dL_law_848 : decode cL_law 848 = .ok (.invokevirtual 162, 3) := by decide +kernel
theorem dL_law_851 : decode cL_law 851 = .ok (.istore 7, 2) := by decide +kernel
theorem dL_law_853 : decode cL_law 853 = .ok (.aload_n 2, 1) := by decide +kernel
theorem dL_law_854 : decode cL_law 854 = .ok (.invokevirtual 123, 3) := by decide +kernel
theorem dL_law_857 : decode cL_law 857 = .ok (.iload 6, 2) := by decide +kernel
theorem dL_law_859 : decode cL_law 859 = .ok (.if_icmp .eq 5, 3) := by decide +kernel
theorem dL_law_862 : decode cL_law 862 = .ok (.iconst 0, 1) := by decide +kernel
theorem dL_law_863 : decode cL_law 863 = .ok (.ireturn, 1) := by decide +kernel
theorem dL_law_864 : decode cL_law 864 = .ok (.iload 6, 2) := by decide +kernel
theorem dL_law_866 : decode cL_law 866 = .ok (.ifCond .ne 15, 3) := by decide +kernel
theorem dL_law_869 : decode cL_law 869 = .ok (.aload_n 3, 1) := by decide +kernel
theorem dL_law_870 : decode cL_law 870 = .ok (.iconst 0, 1) := by decide +kernel
theorem dL_law_871 : decode cL_law 871 = .ok (.laload, 1) := by decide +kernel
theorem dL_law_872 : decode cL_law 872 = .ok (.iload 7, 2) := by decide +kernel
theorem dL_law_874 : decode cL_law 874 = .ok (.i2l, 1) := by decide +kernel
theorem dL_law_875 : decode cL_law 875 = .ok (.lcmp, 1) := by decide +kernel
theorem dL_law_876 : decode cL_law 876 = .ok (.ifCond .eq 5, 3) := by decide +kernel
theorem dL_law_879 : decode cL_law 879 = .ok (.iconst 0, 1) := by decide +kernel
theorem dL_law_880 : decode cL_law 880 = .ok (.ireturn, 1) := by decide +kernel
theorem dL_law_881 : decode cL_law 881 = .ok (.goto 1112, 3) := by decide +kernel
theorem dL_law_884 : decode cL_law 884 = .ok (.aload_n 1, 1) := by decide +kernel
theorem dL_law_885 : decode cL_law 885 = .ok (.aload_n 0, 1) := by decide +kernel
theorem dL_law_886 : decode cL_law 886 = .ok (.iload 5, 2) := by decide +kernel
theorem dL_law_888 : decode cL_law 888 = .ok (.iconst 1, 1) := by decide +kernel
theorem dL_law_889 : decode cL_law 889 = .ok (.iadd, 1) := by decide +kernel
theorem dL_law_890 : decode cL_law 890 = .ok (.iaload, 1) := by decide +kernel
theorem dL_law_891 : decode cL_law 891 = .ok (.aload_n 3, 1) := by decide +kernel
theorem dL_law_892 : decode cL_law 892 = .ok (.invokestatic 163, 3) := by decide +kernel
theorem dL_law_895 : decode cL_law 895 = .ok (.istore 6, 2) := by decide +kernel
theorem dL_law_897 : decode cL_law 897 = .ok (.aload_n 2, 1) := by decide +kernel
theorem dL_law_898 : decode cL_law 898 = .ok (.aload_n 0, 1) := by decide +kernel
theorem dL_law_899 : decode cL_law 899 = .ok (.iload 5, 2) := by decide +kernel
theorem dL_law_901 : decode cL_law 901 = .ok (.iconst 1, 1) := by decide +kernel
theorem dL_law_902 : decode cL_law 902 = .ok (.iadd, 1) := by decide +kernel
theorem dL_law_903 : decode cL_law 903 = .ok (.iaload, 1) := by decide +kernel
theorem dL_law_904 : decode cL_law 904 = .ok (.invokevirtual 165, 3) := by decide +kernel
theorem dL_law_907 : decode cL_law 907 = .ok (.istore 7, 2) := by decide +kernel
theorem dL_law_909 : decode cL_law 909 = .ok (.aload_n 2, 1) := by decide +kernel
theorem dL_law_910 : decode cL_law 910 = .ok (.invokevirtual 123, 3) := by decide +kernel
theorem dL_law_913 : decode cL_law 913 = .ok (.iload 6, 2) := by decide +kernel
theorem dL_law_915 : decode cL_law 915 = .ok (.if_icmp .eq 5, 3) := by decide +kernel
theorem dL_law_918 : decode cL_law 918 = .ok (.iconst 0, 1) := by decide +kernel
theorem dL_law_919 : decode cL_law 919 = .ok (.ireturn, 1) := by decide +kernel
theorem dL_law_920 : decode cL_law 920 = .ok (.iload 6, 2) := by decide +kernel
theorem dL_law_922 : decode cL_law 922 = .ok (.ifCond .ne 15, 3) := by decide +kernel
theorem dL_law_925 : decode cL_law 925 = .ok (.aload_n 3, 1) := by decide +kernel
theorem dL_law_926 : decode cL_law 926 = .ok (.iconst 0, 1) := by decide +kernel
theorem dL_law_927 : decode cL_law 927 = .ok (.laload, 1) := by decide +kernel
theorem dL_law_928 : decode cL_law 928 = .ok (.iload 7, 2) := by decide +kernel
theorem dL_law_930 : decode cL_law 930 = .ok (.i2l, 1) := by decide +kernel
theorem dL_law_931 : decode cL_law 931 = .ok (.lcmp, 1) := by decide +kernel
theorem dL_law_932 : decode cL_law 932 = .ok (.ifCond .eq 5, 3) := by decide +kernel
theorem dL_law_935 : decode cL_law 935 = .ok (.iconst 0, 1) := by decide +kernel
theorem dL_law_936 : decode cL_law 936 = .ok (.ireturn, 1) := by decide +kernel
theorem dL_law_937 : decode cL_law 937 = .ok (.goto 1056, 3) := by decide +kernel
theorem dL_law_940 : decode cL_law 940 = .ok (.aload_n 1, 1) := by decide +kernel
theorem dL_law_941 : decode cL_law 941 = .ok (.aload_n 0, 1) := by decide +kernel
theorem dL_law_942 : decode cL_law 942 = .ok (.iload 5, 2) := by decide +kernel
theorem dL_law_944 : decode cL_law 944 = .ok (.iconst 1, 1) := by decide +kernel
theorem dL_law_945 : decode cL_law 945 = .ok (.iadd, 1) := by decide +kernel
theorem dL_law_946 : decode cL_law 946 = .ok (.iaload, 1) := by decide +kernel
theorem dL_law_947 : decode cL_law 947 = .ok (.aload_n 3, 1) := by decide +kernel
theorem dL_law_948 : decode cL_law 948 = .ok (.invokestatic 166, 3) := by decide +kernel
theorem dL_law_951 : decode cL_law 951 = .ok (.istore 6, 2) := by decide +kernel
theorem dL_law_953 : decode cL_law 953 = .ok (.aload_n 2, 1) := by decide +kernel
theorem dL_law_954 : decode cL_law 954 = .ok (.aload_n 0, 1) := by decide +kernel
theorem dL_law_955 : decode cL_law 955 = .ok (.iload 5, 2) := by decide +kernel
theorem dL_law_957 : decode cL_law 957 = .ok (.iconst 1, 1) := by decide +kernel
theorem dL_law_958 : decode cL_law 958 = .ok (.iadd, 1) := by decide +kernel
theorem dL_law_959 : decode cL_law 959 = .ok (.iaload, 1) := by decide +kernel
theorem dL_law_960 : decode cL_law 960 = .ok (.invokevirtual 168, 3) := by decide +kernel
theorem dL_law_963 : decode cL_law 963 = .ok (.istore 7, 2) := by decide +kernel
theorem dL_law_965 : decode cL_law 965 = .ok (.aload_n 2, 1) := by decide +kernel
theorem dL_law_966 : decode cL_law 966 = .ok (.invokevirtual 123, 3) := by decide +kernel
theorem dL_law_969 : decode cL_law 969 = .ok (.iload 6, 2) := by decide +kernel
theorem dL_law_971 : decode cL_law 971 = .ok (.if_icmp .eq 5, 3) := by decide +kernel
theorem dL_law_974 : decode cL_law 974 = .ok (.iconst 0, 1) := by decide +kernel
theorem dL_law_975 : decode cL_law 975 = .ok (.ireturn, 1) := by decide +kernel
theorem dL_law_976 : decode cL_law 976 = .ok (.iload 6, 2) := by decide +kernel
theorem dL_law_978 : decode cL_law 978 = .ok (.ifCond .ne 15, 3) := by decide +kernel
theorem dL_law_981 : decode cL_law 981 = .ok (.aload_n 3, 1) := by decide +kernel
theorem dL_law_982 : decode cL_law 982 = .ok (.iconst 0, 1) := by decide +kernel
theorem dL_law_983 : decode cL_law 983 = .ok (.laload, 1) := by decide +kernel
theorem dL_law_984 : decode cL_law 984 = .ok (.iload 7, 2) := by decide +kernel
theorem dL_law_986 : decode cL_law 986 = .ok (.i2l, 1) := by decide +kernel
theorem dL_law_987 : decode cL_law 987 = .ok (.lcmp, 1) := by decide +kernel
theorem dL_law_988 : decode cL_law 988 = .ok (.ifCond .eq 5, 3) := by decide +kernel
theorem dL_law_991 : decode cL_law 991 = .ok (.iconst 0, 1) := by decide +kernel
theorem dL_law_992 : decode cL_law 992 = .ok (.ireturn, 1) := by decide +kernel
theorem dL_law_993 : decode cL_law 993 = .ok (.goto 1000, 3) := by decide +kernel
theorem dL_law_996 : decode cL_law 996 = .ok (.aload_n 1, 1) := by decide +kernel
theorem dL_law_997 : decode cL_law 997 = .ok (.aload_n 0, 1) := by decide +kernel
theorem dL_law_998 : decode cL_law 998 = .ok (.iload 5, 2) := by decide +kernel
theorem dL_law_1000 : decode cL_law 1000 = .ok (.iconst 1, 1) := by decide +kernel
theorem dL_law_1001 : decode cL_law 1001 = .ok (.iadd, 1) := by decide +kernel
theorem dL_law_1002 : decode cL_law 1002 = .ok (.iaload, 1) := by decide +kernel
theorem dL_law_1003 : decode cL_law 1003 = .ok (.aload_n 0, 1) := by decide +kernel
theorem dL_law_1004 : decode cL_law 1004 = .ok (.iload 5, 2) := by decide +kernel
theorem dL_law_1006 : decode cL_law 1006 = .ok (.iconst 2, 1) := by decide +kernel
theorem dL_law_1007 : decode cL_law 1007 = .ok (.iadd, 1) := by decide +kernel
theorem dL_law_1008 : decode cL_law 1008 = .ok (.iaload, 1) := by decide +kernel
theorem dL_law_1009 : decode cL_law 1009 = .ok (.aload_n 3, 1) := by decide +kernel
theorem dL_law_1010 : decode cL_law 1010 = .ok (.invokestatic 169, 3) := by decide +kernel
theorem dL_law_1013 : decode cL_law 1013 = .ok (.istore 6, 2) := by decide +kernel
theorem dL_law_1015 : decode cL_law 1015 = .ok (.aload_n 2, 1) := by decide +kernel
theorem dL_law_1016 : decode cL_law 1016 = .ok (.aload_n 0, 1) := by decide +kernel
theorem dL_law_1017 : decode cL_law 1017 = .ok (.iload 5, 2) := by decide +kernel
theorem dL_law_1019 : decode cL_law 1019 = .ok (.iconst 1, 1) := by decide +kernel
theorem dL_law_1020 : decode cL_law 1020 = .ok (.iadd, 1) := by decide +kernel
theorem dL_law_1021 : decode cL_law 1021 = .ok (.iaload, 1) := by decide +kernel
theorem dL_law_1022 : decode cL_law 1022 = .ok (.aload_n 0, 1) := by decide +kernel
theorem dL_law_1023 : decode cL_law 1023 = .ok (.iload 5, 2) := by decide +kernel
theorem dL_law_1025 : decode cL_law 1025 = .ok (.iconst 2, 1) := by decide +kernel
theorem dL_law_1026 : decode cL_law 1026 = .ok (.iadd, 1) := by decide +kernel
theorem dL_law_1027 : decode cL_law 1027 = .ok (.iaload, 1) := by decide +kernel
theorem dL_law_1028 : decode cL_law 1028 = .ok (.invokevirtual 171, 3) := by decide +kernel
theorem dL_law_1031 : decode cL_law 1031 = .ok (.istore 7, 2) := by decide +kernel
theorem dL_law_1033 : decode cL_law 1033 = .ok (.aload_n 2, 1) := by decide +kernel
theorem dL_law_1034 : decode cL_law 1034 = .ok (.invokevirtual 123, 3) := by decide +kernel
theorem dL_law_1037 : decode cL_law 1037 = .ok (.iload 6, 2) := by decide +kernel
theorem dL_law_1039 : decode cL_law 1039 = .ok (.if_icmp .eq 5, 3) := by decide +kernel
theorem dL_law_1042 : decode cL_law 1042 = .ok (.iconst 0, 1) := by decide +kernel
theorem dL_law_1043 : decode cL_law 1043 = .ok (.ireturn, 1) := by decide +kernel
theorem dL_law_1044 : decode cL_law 1044 = .ok (.iload 6, 2) := by decide +kernel
theorem dL_law_1046 : decode cL_law 1046 = .ok (.ifCond .ne 15, 3) := by decide +kernel
theorem dL_law_1049 : decode cL_law 1049 = .ok (.aload_n 3, 1) := by decide +kernel
theorem dL_law_1050 : decode cL_law 1050 = .ok (.iconst 0, 1) := by decide +kernel
theorem dL_law_1051 : decode cL_law 1051 = .ok (.laload, 1) := by decide +kernel
theorem dL_law_1052 : decode cL_law 1052 = .ok (.iload 7, 2) := by decide +kernel
theorem dL_law_1054 : decode cL_law 1054 = .ok (.i2l, 1) := by decide +kernel
theorem dL_law_1055 : decode cL_law 1055 = .ok (.lcmp, 1) := by decide +kernel
theorem dL_law_1056 : decode cL_law 1056 = .ok (.ifCond .eq 5, 3) := by decide +kernel
theorem dL_law_1059 : decode cL_law 1059 = .ok (.iconst 0, 1) := by decide +kernel
theorem dL_law_1060 : decode cL_law 1060 = .ok (.ireturn, 1) := by decide +kernel
theorem dL_law_1061 : decode cL_law 1061 = .ok (.goto 932, 3) := by decide +kernel
theorem dL_law_1064 : decode cL_law 1064 = .ok (.aload_n 1, 1) := by decide +kernel
theorem dL_law_1065 : decode cL_law 1065 = .ok (.aload_n 0, 1) := by decide +kernel
theorem dL_law_1066 : decode cL_law 1066 = .ok (.iload 5, 2) := by decide +kernel
theorem dL_law_1068 : decode cL_law 1068 = .ok (.iconst 1, 1) := by decide +kernel
theorem dL_law_1069 : decode cL_law 1069 = .ok (.iadd, 1) := by decide +kernel
theorem dL_law_1070 : decode cL_law 1070 = .ok (.iaload, 1) := by decide +kernel
theorem dL_law_1071 : decode cL_law 1071 = .ok (.aload_n 0, 1) := by decide +kernel
theorem dL_law_1072 : decode cL_law 1072 = .ok (.iload 5, 2) := by decide +kernel
theorem dL_law_1074 : decode cL_law 1074 = .ok (.iconst 2, 1) := by decide +kernel
theorem dL_law_1075 : decode cL_law 1075 = .ok (.iadd, 1) := by decide +kernel
theorem dL_law_1076 : decode cL_law 1076 = .ok (.iaload, 1) := by decide +kernel
theorem dL_law_1077 : decode cL_law 1077 = .ok (.aload_n 0, 1) := by decide +kernel
theorem dL_law_1078 : decode cL_law 1078 = .ok (.iload 5, 2) := by decide +kernel
theorem dL_law_1080 : decode cL_law 1080 = .ok (.iconst 3, 1) := by decide +kernel
theorem dL_law_1081 : decode cL_law 1081 = .ok (.iadd, 1) := by decide +kernel
theorem dL_law_1082 : decode cL_law 1082 = .ok (.iaload, 1) := by decide +kernel
theorem dL_law_1083 : decode cL_law 1083 = .ok (.aload_n 3, 1) := by decide +kernel
theorem dL_law_1084 : decode cL_law 1084 = .ok (.invokestatic 172, 3) := by decide +kernel
theorem dL_law_1087 : decode cL_law 1087 = .ok (.istore 6, 2) := by decide +kernel
theorem dL_law_1089 : decode cL_law 1089 = .ok (.aload_n 2, 1) := by decide +kernel
theorem dL_law_1090 : decode cL_law 1090 = .ok (.aload_n 0, 1) := by decide +kernel
theorem dL_law_1091 : decode cL_law 1091 = .ok (.iload 5, 2) := by decide +kernel
theorem dL_law_1093 : decode cL_law 1093 = .ok (.iconst 1, 1) := by decide +kernel
theorem dL_law_1094 : decode cL_law 1094 = .ok (.iadd, 1) := by decide +kernel
theorem dL_law_1095 : decode cL_law 1095 = .ok (.iaload, 1) := by decide +kernel
theorem dL_law_1096 : decode cL_law 1096 = .ok (.aload_n 0, 1) := by decide +kernel
theorem dL_law_1097 : decode cL_law 1097 = .ok (.iload 5, 2) := by decide +kernel
theorem dL_law_1099 : decode cL_law 1099 = .ok (.iconst 2, 1) := by decide +kernel
theorem dL_law_1100 : decode cL_law 1100 = .ok (.iadd, 1) := by decide +kernel
theorem dL_law_1101 : decode cL_law 1101 = .ok (.iaload, 1) := by decide +kernel
theorem dL_law_1102 : decode cL_law 1102 = .ok (.aload_n 0, 1) := by decide +kernel
theorem dL_law_1103 : decode cL_law 1103 = .ok (.iload 5, 2) := by decide +kernel
theorem dL_law_1105 : decode cL_law 1105 = .ok (.iconst 3, 1) := by decide +kernel
theorem dL_law_1106 : decode cL_law 1106 = .ok (.iadd, 1) := by decide +kernel
theorem dL_law_1107 : decode cL_law 1107 = .ok (.iaload, 1) := by decide +kernel
theorem dL_law_1108 : decode cL_law 1108 = .ok (.invokevirtual 175, 3) := by decide +kernel
theorem dL_law_1111 : decode cL_law 1111 = .ok (.istore 7, 2) := by decide +kernel
theorem dL_law_1113 : decode cL_law 1113 = .ok (.aload_n 2, 1) := by decide +kernel
theorem dL_law_1114 : decode cL_law 1114 = .ok (.invokevirtual 123, 3) := by decide +kernel
theorem dL_law_1117 : decode cL_law 1117 = .ok (.iload 6, 2) := by decide +kernel
theorem dL_law_1119 : decode cL_law 1119 = .ok (.if_icmp .eq 5, 3) := by decide +kernel
theorem dL_law_1122 : decode cL_law 1122 = .ok (.iconst 0, 1) := by decide +kernel
theorem dL_law_1123 : decode cL_law 1123 = .ok (.ireturn, 1) := by decide +kernel
theorem dL_law_1124 : decode cL_law 1124 = .ok (.iload 6, 2) := by decide +kernel
theorem dL_law_1126 : decode cL_law 1126 = .ok (.ifCond .ne 15, 3) := by decide +kernel
theorem dL_law_1129 : decode cL_law 1129 = .ok (.aload_n 3, 1) := by decide +kernel
theorem dL_law_1130 : decode cL_law 1130 = .ok (.iconst 0, 1) := by decide +kernel
theorem dL_law_1131 : decode cL_law 1131 = .ok (.laload, 1) := by decide +kernel
theorem dL_law_1132 : decode cL_law 1132 = .ok (.iload 7, 2) := by decide +kernel
theorem dL_law_1134 : decode cL_law 1134 = .ok (.i2l, 1) := by decide +kernel
theorem dL_law_1135 : decode cL_law 1135 = .ok (.lcmp, 1) := by decide +kernel
theorem dL_law_1136 : decode cL_law 1136 = .ok (.ifCond .eq 5, 3) := by decide +kernel
theorem dL_law_1139 : decode cL_law 1139 = .ok (.iconst 0, 1) := by decide +kernel
theorem dL_law_1140 : decode cL_law 1140 = .ok (.ireturn, 1) := by decide +kernel
theorem dL_law_1141 : decode cL_law 1141 = .ok (.goto 852, 3) := by decide +kernel
theorem dL_law_1144 : decode cL_law 1144 = .ok (.aload_n 1, 1) := by decide +kernel
theorem dL_law_1145 : decode cL_law 1145 = .ok (.aload_n 0, 1) := by decide +kernel
theorem dL_law_1146 : decode cL_law 1146 = .ok (.iload 5, 2) := by decide +kernel
theorem dL_law_1148 : decode cL_law 1148 = .ok (.iconst 1, 1) := by decide +kernel
theorem dL_law_1149 : decode cL_law 1149 = .ok (.iadd, 1) := by decide +kernel
theorem dL_law_1150 : decode cL_law 1150 = .ok (.iaload, 1) := by decide +kernel
theorem dL_law_1151 : decode cL_law 1151 = .ok (.aload_n 3, 1) := by decide +kernel
theorem dL_law_1152 : decode cL_law 1152 = .ok (.invokestatic 176, 3) := by decide +kernel
theorem dL_law_1155 : decode cL_law 1155 = .ok (.istore 6, 2) := by decide +kernel
theorem dL_law_1157 : decode cL_law 1157 = .ok (.aload_n 2, 1) := by decide +kernel
theorem dL_law_1158 : decode cL_law 1158 = .ok (.aload_n 0, 1) := by decide +kernel
theorem dL_law_1159 : decode cL_law 1159 = .ok (.iload 5, 2) := by decide +kernel
theorem dL_law_1161 : decode cL_law 1161 = .ok (.iconst 1, 1) := by decide +kernel
theorem dL_law_1162 : decode cL_law 1162 = .ok (.iadd, 1) := by decide +kernel
theorem dL_law_1163 : decode cL_law 1163 = .ok (.iaload, 1) := by decide +kernel
theorem dL_law_1164 : decode cL_law 1164 = .ok (.invokevirtual 178, 3) := by decide +kernel
theorem dL_law_1167 : decode cL_law 1167 = .ok (.istore 7, 2) := by decide +kernel
theorem dL_law_1169 : decode cL_law 1169 = .ok (.aload_n 2, 1) := by decide +kernel
theorem dL_law_1170 : decode cL_law 1170 = .ok (.invokevirtual 123, 3) := by decide +kernel
theorem dL_law_1173 : decode cL_law 1173 = .ok (.iload 6, 2) := by decide +kernel
theorem dL_law_1175 : decode cL_law 1175 = .ok (.if_icmp .eq 5, 3) := by decide +kernel
theorem dL_law_1178 : decode cL_law 1178 = .ok (.iconst 0, 1) := by decide +kernel
theorem dL_law_1179 : decode cL_law 1179 = .ok (.ireturn, 1) := by decide +kernel
theorem dL_law_1180 : decode cL_law 1180 = .ok (.iload 6, 2) := by decide +kernel
theorem dL_law_1182 : decode cL_law 1182 = .ok (.ifCond .ne 15, 3) := by decide +kernel
theorem dL_law_1185 : decode cL_law 1185 = .ok (.aload_n 3, 1) := by decide +kernel
theorem dL_law_1186 : decode cL_law 1186 = .ok (.iconst 0, 1) := by decide +kernel
theorem dL_law_1187 : decode cL_law 1187 = .ok (.laload, 1) := by decide +kernel
theorem dL_law_1188 : decode cL_law 1188 = .ok (.iload 7, 2) := by decide +kernel
theorem dL_law_1190 : decode cL_law 1190 = .ok (.i2l, 1) := by decide +kernel
theorem dL_law_1191 : decode cL_law 1191 = .ok (.lcmp, 1) := by decide +kernel
theorem dL_law_1192 : decode cL_law 1192 = .ok (.ifCond .eq 5, 3) := by decide +kernel
theorem dL_law_1195 : decode cL_law 1195 = .ok (.iconst 0, 1) := by decide +kernel
theorem dL_law_1196 : decode cL_law 1196 = .ok (.ireturn, 1) := by decide +kernel
theorem dL_law_1197 : decode cL_law 1197 = .ok (.goto 796, 3) := by decide +kernel
theorem dL_law_1200 : decode cL_law 1200 = .ok (.aload_n 1, 1) := by decide +kernel
theorem dL_law_1201 : decode cL_law 1201 = .ok (.aload_n 0, 1) := by decide +kernel
theorem dL_law_1202 : decode cL_law 1202 = .ok (.iload 5, 2) := by decide +kernel
theorem dL_law_1204 : decode cL_law 1204 = .ok (.iconst 1, 1) := by decide +kernel
theorem dL_law_1205 : decode cL_law 1205 = .ok (.iadd, 1) := by decide +kernel
theorem dL_law_1206 : decode cL_law 1206 = .ok (.iaload, 1) := by decide +kernel
theorem dL_law_1207 : decode cL_law 1207 = .ok (.aload_n 3, 1) := by decide +kernel
theorem dL_law_1208 : decode cL_law 1208 = .ok (.invokestatic 179, 3) := by decide +kernel
theorem dL_law_1211 : decode cL_law 1211 = .ok (.istore 6, 2) := by decide +kernel
theorem dL_law_1213 : decode cL_law 1213 = .ok (.aload_n 2, 1) := by decide +kernel
theorem dL_law_1214 : decode cL_law 1214 = .ok (.aload_n 0, 1) := by decide +kernel
theorem dL_law_1215 : decode cL_law 1215 = .ok (.iload 5, 2) := by decide +kernel
theorem dL_law_1217 : decode cL_law 1217 = .ok (.iconst 1, 1) := by decide +kernel
theorem dL_law_1218 : decode cL_law 1218 = .ok (.iadd, 1) := by decide +kernel
theorem dL_law_1219 : decode cL_law 1219 = .ok (.iaload, 1) := by decide +kernel
theorem dL_law_1220 : decode cL_law 1220 = .ok (.invokevirtual 181, 3) := by decide +kernel
theorem dL_law_1223 : decode cL_law 1223 = .ok (.istore 7, 2) := by decide +kernel
theorem dL_law_1225 : decode cL_law 1225 = .ok (.aload_n 2, 1) := by decide +kernel
theorem dL_law_1226 : decode cL_law 1226 = .ok (.invokevirtual 123, 3) := by decide +kernel
theorem dL_law_1229 : decode cL_law 1229 = .ok (.iload 6, 2) := by decide +kernel
theorem dL_law_1231 : decode cL_law 1231 = .ok (.if_icmp .eq 5, 3) := by decide +kernel
theorem dL_law_1234 : decode cL_law 1234 = .ok (.iconst 0, 1) := by decide +kernel
theorem dL_law_1235 : decode cL_law 1235 = .ok (.ireturn, 1) := by decide +kernel
theorem dL_law_1236 : decode cL_law 1236 = .ok (.iload 6, 2) := by decide +kernel
theorem dL_law_1238 : decode cL_law 1238 = .ok (.ifCond .ne 15, 3) := by decide +kernel
theorem dL_law_1241 : decode cL_law 1241 = .ok (.aload_n 3, 1) := by decide +kernel
theorem dL_law_1242 : decode cL_law 1242 = .ok (.iconst 0, 1) := by decide +kernel
theorem dL_law_1243 : decode cL_law 1243 = .ok (.laload, 1) := by decide +kernel
theorem dL_law_1244 : decode cL_law 1244 = .ok (.iload 7, 2) := by decide +kernel
theorem dL_law_1246 : decode cL_law 1246 = .ok (.i2l, 1) := by decide +kernel
theorem dL_law_1247 : decode cL_law 1247 = .ok (.lcmp, 1) := by decide +kernel
theorem dL_law_1248 : decode cL_law 1248 = .ok (.ifCond .eq 5, 3) := by decide +kernel
theorem dL_law_1251 : decode cL_law 1251 = .ok (.iconst 0, 1) := by decide +kernel
theorem dL_law_1252 : decode cL_law 1252 = .ok (.ireturn, 1) := by decide +kernel
theorem dL_law_1253 : decode cL_law 1253 = .ok (.goto 740, 3) := by decide +kernel
theorem dL_law_1256 : decode cL_law 1256 = .ok (.aload_n 1, 1) := by decide +kernel
theorem dL_law_1257 : decode cL_law 1257 = .ok (.aload_n 0, 1) := by decide +kernel
theorem dL_law_1258 : decode cL_law 1258 = .ok (.iload 5, 2) := by decide +kernel
theorem dL_law_1260 : decode cL_law 1260 = .ok (.iconst 1, 1) := by decide +kernel
theorem dL_law_1261 : decode cL_law 1261 = .ok (.iadd, 1) := by decide +kernel
theorem dL_law_1262 : decode cL_law 1262 = .ok (.iaload, 1) := by decide +kernel
theorem dL_law_1263 : decode cL_law 1263 = .ok (.aload_n 3, 1) := by decide +kernel
theorem dL_law_1264 : decode cL_law 1264 = .ok (.invokestatic 182, 3) := by decide +kernel
theorem dL_law_1267 : decode cL_law 1267 = .ok (.istore 6, 2) := by decide +kernel
theorem dL_law_1269 : decode cL_law 1269 = .ok (.aload_n 2, 1) := by decide +kernel
theorem dL_law_1270 : decode cL_law 1270 = .ok (.aload_n 0, 1) := by decide +kernel
theorem dL_law_1271 : decode cL_law 1271 = .ok (.iload 5, 2) := by decide +kernel
theorem dL_law_1273 : decode cL_law 1273 = .ok (.iconst 1, 1) := by decide +kernel
theorem dL_law_1274 : decode cL_law 1274 = .ok (.iadd, 1) := by decide +kernel
theorem dL_law_1275 : decode cL_law 1275 = .ok (.iaload, 1) := by decide +kernel
theorem dL_law_1276 : decode cL_law 1276 = .ok (.invokevirtual 184, 3) := by decide +kernel
theorem dL_law_1279 : decode cL_law 1279 = .ok (.istore 7, 2) := by decide +kernel
theorem dL_law_1281 : decode cL_law 1281 = .ok (.aload_n 2, 1) := by decide +kernel
theorem dL_law_1282 : decode cL_law 1282 = .ok (.invokevirtual 123, 3) := by decide +kernel
theorem dL_law_1285 : decode cL_law 1285 = .ok (.iload 6, 2) := by decide +kernel
theorem dL_law_1287 : decode cL_law 1287 = .ok (.if_icmp .eq 5, 3) := by decide +kernel
theorem dL_law_1290 : decode cL_law 1290 = .ok (.iconst 0, 1) := by decide +kernel
theorem dL_law_1291 : decode cL_law 1291 = .ok (.ireturn, 1) := by decide +kernel
theorem dL_law_1292 : decode cL_law 1292 = .ok (.iload 6, 2) := by decide +kernel
theorem dL_law_1294 : decode cL_law 1294 = .ok (.ifCond .ne 15, 3) := by decide +kernel
theorem dL_law_1297 : decode cL_law 1297 = .ok (.aload_n 3, 1) := by decide +kernel
theorem dL_law_1298 : decode cL_law 1298 = .ok (.iconst 0, 1) := by decide +kernel
theorem dL_law_1299 : decode cL_law 1299 = .ok (.laload, 1) := by decide +kernel
theorem dL_law_1300 : decode cL_law 1300 = .ok (.iload 7, 2) := by decide +kernel
theorem dL_law_1302 : decode cL_law 1302 = .ok (.i2l, 1) := by decide +kernel
theorem dL_law_1303 : decode cL_law 1303 = .ok (.lcmp, 1) := by decide +kernel
theorem dL_law_1304 : decode cL_law 1304 = .ok (.ifCond .eq 5, 3) := by decide +kernel
theorem dL_law_1307 : decode cL_law 1307 = .ok (.iconst 0, 1) := by decide +kernel
theorem dL_law_1308 : decode cL_law 1308 = .ok (.ireturn, 1) := by decide +kernel
theorem dL_law_1309 : decode cL_law 1309 = .ok (.goto 684, 3) := by decide +kernel
theorem dL_law_1312 : decode cL_law 1312 = .ok (.aload_n 1, 1) := by decide +kernel
theorem dL_law_1313 : decode cL_law 1313 = .ok (.aload_n 0, 1) := by decide +kernel
theorem dL_law_1314 : decode cL_law 1314 = .ok (.iload 5, 2) := by decide +kernel
theorem dL_law_1316 : decode cL_law 1316 = .ok (.iconst 1, 1) := by decide +kernel
theorem dL_law_1317 : decode cL_law 1317 = .ok (.iadd, 1) := by decide +kernel
theorem dL_law_1318 : decode cL_law 1318 = .ok (.iaload, 1) := by decide +kernel
theorem dL_law_1319 : decode cL_law 1319 = .ok (.aload_n 0, 1) := by decide +kernel
theorem dL_law_1320 : decode cL_law 1320 = .ok (.iload 5, 2) := by decide +kernel
theorem dL_law_1322 : decode cL_law 1322 = .ok (.iconst 2, 1) := by decide +kernel
theorem dL_law_1323 : decode cL_law 1323 = .ok (.iadd, 1) := by decide +kernel
theorem dL_law_1324 : decode cL_law 1324 = .ok (.iaload, 1) := by decide +kernel
theorem dL_law_1325 : decode cL_law 1325 = .ok (.aload_n 3, 1) := by decide +kernel
theorem dL_law_1326 : decode cL_law 1326 = .ok (.invokestatic 185, 3) := by decide +kernel
theorem dL_law_1329 : decode cL_law 1329 = .ok (.istore 6, 2) := by decide +kernel
theorem dL_law_1331 : decode cL_law 1331 = .ok (.aload_n 2, 1) := by decide +kernel
theorem dL_law_1332 : decode cL_law 1332 = .ok (.aload_n 0, 1) := by decide +kernel
theorem dL_law_1333 : decode cL_law 1333 = .ok (.iload 5, 2) := by decide +kernel
theorem dL_law_1335 : decode cL_law 1335 = .ok (.iconst 1, 1) := by decide +kernel
theorem dL_law_1336 : decode cL_law 1336 = .ok (.iadd, 1) := by decide +kernel
theorem dL_law_1337 : decode cL_law 1337 = .ok (.iaload, 1) := by decide +kernel
theorem dL_law_1338 : decode cL_law 1338 = .ok (.aload_n 0, 1) := by decide +kernel
theorem dL_law_1339 : decode cL_law 1339 = .ok (.iload 5, 2) := by decide +kernel
theorem dL_law_1341 : decode cL_law 1341 = .ok (.iconst 2, 1) := by decide +kernel
theorem dL_law_1342 : decode cL_law 1342 = .ok (.iadd, 1) := by decide +kernel
theorem dL_law_1343 : decode cL_law 1343 = .ok (.iaload, 1) := by decide +kernel
theorem dL_law_1344 : decode cL_law 1344 = .ok (.invokevirtual 187, 3) := by decide +kernel
theorem dL_law_1347 : decode cL_law 1347 = .ok (.istore 7, 2) := by decide +kernel
theorem dL_law_1349 : decode cL_law 1349 = .ok (.aload_n 2, 1) := by decide +kernel
theorem dL_law_1350 : decode cL_law 1350 = .ok (.invokevirtual 123, 3) := by decide +kernel
theorem dL_law_1353 : decode cL_law 1353 = .ok (.iload 6, 2) := by decide +kernel
theorem dL_law_1355 : decode cL_law 1355 = .ok (.if_icmp .eq 5, 3) := by decide +kernel
theorem dL_law_1358 : decode cL_law 1358 = .ok (.iconst 0, 1) := by decide +kernel
theorem dL_law_1359 : decode cL_law 1359 = .ok (.ireturn, 1) := by decide +kernel
theorem dL_law_1360 : decode cL_law 1360 = .ok (.iload 6, 2) := by decide +kernel
theorem dL_law_1362 : decode cL_law 1362 = .ok (.ifCond .ne 15, 3) := by decide +kernel
theorem dL_law_1365 : decode cL_law 1365 = .ok (.aload_n 3, 1) := by decide +kernel
theorem dL_law_1366 : decode cL_law 1366 = .ok (.iconst 0, 1) := by decide +kernel
theorem dL_law_1367 : decode cL_law 1367 = .ok (.laload, 1) := by decide +kernel
theorem dL_law_1368 : decode cL_law 1368 = .ok (.iload 7, 2) := by decide +kernel
theorem dL_law_1370 : decode cL_law 1370 = .ok (.i2l, 1) := by decide +kernel
theorem dL_law_1371 : decode cL_law 1371 = .ok (.lcmp, 1) := by decide +kernel
theorem dL_law_1372 : decode cL_law 1372 = .ok (.ifCond .eq 5, 3) := by decide +kernel
theorem dL_law_1375 : decode cL_law 1375 = .ok (.iconst 0, 1) := by decide +kernel
theorem dL_law_1376 : decode cL_law 1376 = .ok (.ireturn, 1) := by decide +kernel
theorem dL_law_1377 : decode cL_law 1377 = .ok (.goto 616, 3) := by decide +kernel
theorem dL_law_1380 : decode cL_law 1380 = .ok (.aload_n 1, 1) := by decide +kernel
theorem dL_law_1381 : decode cL_law 1381 = .ok (.aload_n 0, 1) := by decide +kernel
theorem dL_law_1382 : decode cL_law 1382 = .ok (.iload 5, 2) := by decide +kernel
theorem dL_law_1384 : decode cL_law 1384 = .ok (.iconst 1, 1) := by decide +kernel
theorem dL_law_1385 : decode cL_law 1385 = .ok (.iadd, 1) := by decide +kernel
theorem dL_law_1386 : decode cL_law 1386 = .ok (.iaload, 1) := by decide +kernel
theorem dL_law_1387 : decode cL_law 1387 = .ok (.aload_n 0, 1) := by decide +kernel
theorem dL_law_1388 : decode cL_law 1388 = .ok (.iload 5, 2) := by decide +kernel
theorem dL_law_1390 : decode cL_law 1390 = .ok (.iconst 2, 1) := by decide +kernel
theorem dL_law_1391 : decode cL_law 1391 = .ok (.iadd, 1) := by decide +kernel
theorem dL_law_1392 : decode cL_law 1392 = .ok (.iaload, 1) := by decide +kernel
theorem dL_law_1393 : decode cL_law 1393 = .ok (.aload_n 3, 1) := by decide +kernel
theorem dL_law_1394 : decode cL_law 1394 = .ok (.invokestatic 188, 3) := by decide +kernel
theorem dL_law_1397 : decode cL_law 1397 = .ok (.istore 6, 2) := by decide +kernel
theorem dL_law_1399 : decode cL_law 1399 = .ok (.aload_n 2, 1) := by decide +kernel
theorem dL_law_1400 : decode cL_law 1400 = .ok (.aload_n 0, 1) := by decide +kernel
theorem dL_law_1401 : decode cL_law 1401 = .ok (.iload 5, 2) := by decide +kernel
theorem dL_law_1403 : decode cL_law 1403 = .ok (.iconst 1, 1) := by decide +kernel
theorem dL_law_1404 : decode cL_law 1404 = .ok (.iadd, 1) := by decide +kernel
theorem dL_law_1405 : decode cL_law 1405 = .ok (.iaload, 1) := by decide +kernel
theorem dL_law_1406 : decode cL_law 1406 = .ok (.aload_n 0, 1) := by decide +kernel
theorem dL_law_1407 : decode cL_law 1407 = .ok (.iload 5, 2) := by decide +kernel
theorem dL_law_1409 : decode cL_law 1409 = .ok (.iconst 2, 1) := by decide +kernel
theorem dL_law_1410 : decode cL_law 1410 = .ok (.iadd, 1) := by decide +kernel
theorem dL_law_1411 : decode cL_law 1411 = .ok (.iaload, 1) := by decide +kernel
theorem dL_law_1412 : decode cL_law 1412 = .ok (.invokevirtual 190, 3) := by decide +kernel
theorem dL_law_1415 : decode cL_law 1415 = .ok (.istore 7, 2) := by decide +kernel
theorem dL_law_1417 : decode cL_law 1417 = .ok (.aload_n 2, 1) := by decide +kernel
theorem dL_law_1418 : decode cL_law 1418 = .ok (.invokevirtual 123, 3) := by decide +kernel
theorem dL_law_1421 : decode cL_law 1421 = .ok (.iload 6, 2) := by decide +kernel
theorem dL_law_1423 : decode cL_law 1423 = .ok (.if_icmp .eq 5, 3) := by decide +kernel
theorem dL_law_1426 : decode cL_law 1426 = .ok (.iconst 0, 1) := by decide +kernel
theorem dL_law_1427 : decode cL_law 1427 = .ok (.ireturn, 1) := by decide +kernel
theorem dL_law_1428 : decode cL_law 1428 = .ok (.iload 6, 2) := by decide +kernel
theorem dL_law_1430 : decode cL_law 1430 = .ok (.ifCond .ne 22, 3) := by decide +kernel
theorem dL_law_1433 : decode cL_law 1433 = .ok (.aload_n 3, 1) := by decide +kernel
theorem dL_law_1434 : decode cL_law 1434 = .ok (.iconst 0, 1) := by decide +kernel
theorem dL_law_1435 : decode cL_law 1435 = .ok (.laload, 1) := by decide +kernel
theorem dL_law_1436 : decode cL_law 1436 = .ok (.iload 7, 2) := by decide +kernel
theorem dL_law_1438 : decode cL_law 1438 = .ok (.ifCond .eq 7, 3) := by decide +kernel
theorem dL_law_1441 : decode cL_law 1441 = .ok (.lconst 1, 1) := by decide +kernel
theorem dL_law_1442 : decode cL_law 1442 = .ok (.goto 4, 3) := by decide +kernel
theorem dL_law_1445 : decode cL_law 1445 = .ok (.lconst 0, 1) := by decide +kernel
theorem dL_law_1446 : decode cL_law 1446 = .ok (.lcmp, 1) := by decide +kernel
theorem dL_law_1447 : decode cL_law 1447 = .ok (.ifCond .eq 5, 3) := by decide +kernel
theorem dL_law_1450 : decode cL_law 1450 = .ok (.iconst 0, 1) := by decide +kernel
theorem dL_law_1451 : decode cL_law 1451 = .ok (.ireturn, 1) := by decide +kernel
theorem dL_law_1452 : decode cL_law 1452 = .ok (.goto 541, 3) := by decide +kernel
theorem dL_law_1455 : decode cL_law 1455 = .ok (.aload_n 1, 1) := by decide +kernel
theorem dL_law_1456 : decode cL_law 1456 = .ok (.aload_n 0, 1) := by decide +kernel
theorem dL_law_1457 : decode cL_law 1457 = .ok (.iload 5, 2) := by decide +kernel
theorem dL_law_1459 : decode cL_law 1459 = .ok (.iconst 1, 1) := by decide +kernel
theorem dL_law_1460 : decode cL_law 1460 = .ok (.iadd, 1) := by decide +kernel
theorem dL_law_1461 : decode cL_law 1461 = .ok (.iaload, 1) := by decide +kernel
theorem dL_law_1462 : decode cL_law 1462 = .ok (.aload_n 3, 1) := by decide +kernel
theorem dL_law_1463 : decode cL_law 1463 = .ok (.invokestatic 191, 3) := by decide +kernel
theorem dL_law_1466 : decode cL_law 1466 = .ok (.istore 6, 2) := by decide +kernel
theorem dL_law_1468 : decode cL_law 1468 = .ok (.aload_n 2, 1) := by decide +kernel
theorem dL_law_1469 : decode cL_law 1469 = .ok (.aload_n 0, 1) := by decide +kernel
theorem dL_law_1470 : decode cL_law 1470 = .ok (.iload 5, 2) := by decide +kernel
theorem dL_law_1472 : decode cL_law 1472 = .ok (.iconst 1, 1) := by decide +kernel
theorem dL_law_1473 : decode cL_law 1473 = .ok (.iadd, 1) := by decide +kernel
theorem dL_law_1474 : decode cL_law 1474 = .ok (.iaload, 1) := by decide +kernel
theorem dL_law_1475 : decode cL_law 1475 = .ok (.invokevirtual 193, 3) := by decide +kernel
theorem dL_law_1478 : decode cL_law 1478 = .ok (.istore 7, 2) := by decide +kernel
theorem dL_law_1480 : decode cL_law 1480 = .ok (.aload_n 2, 1) := by decide +kernel
theorem dL_law_1481 : decode cL_law 1481 = .ok (.invokevirtual 123, 3) := by decide +kernel
theorem dL_law_1484 : decode cL_law 1484 = .ok (.iload 6, 2) := by decide +kernel
theorem dL_law_1486 : decode cL_law 1486 = .ok (.if_icmp .eq 5, 3) := by decide +kernel
theorem dL_law_1489 : decode cL_law 1489 = .ok (.iconst 0, 1) := by decide +kernel
theorem dL_law_1490 : decode cL_law 1490 = .ok (.ireturn, 1) := by decide +kernel
theorem dL_law_1491 : decode cL_law 1491 = .ok (.iload 6, 2) := by decide +kernel
theorem dL_law_1493 : decode cL_law 1493 = .ok (.ifCond .ne 15, 3) := by decide +kernel
theorem dL_law_1496 : decode cL_law 1496 = .ok (.aload_n 3, 1) := by decide +kernel
theorem dL_law_1497 : decode cL_law 1497 = .ok (.iconst 0, 1) := by decide +kernel
theorem dL_law_1498 : decode cL_law 1498 = .ok (.laload, 1) := by decide +kernel
theorem dL_law_1499 : decode cL_law 1499 = .ok (.iload 7, 2) := by decide +kernel
theorem dL_law_1501 : decode cL_law 1501 = .ok (.i2l, 1) := by decide +kernel
theorem dL_law_1502 : decode cL_law 1502 = .ok (.lcmp, 1) := by decide +kernel
theorem dL_law_1503 : decode cL_law 1503 = .ok (.ifCond .eq 5, 3) := by decide +kernel
theorem dL_law_1506 : decode cL_law 1506 = .ok (.iconst 0, 1) := by decide +kernel
theorem dL_law_1507 : decode cL_law 1507 = .ok (.ireturn, 1) := by decide +kernel
theorem dL_law_1508 : decode cL_law 1508 = .ok (.goto 485, 3) := by decide +kernel
theorem dL_law_1511 : decode cL_law 1511 = .ok (.aload_n 1, 1) := by decide +kernel
theorem dL_law_1512 : decode cL_law 1512 = .ok (.aload_n 0, 1) := by decide +kernel
theorem dL_law_1513 : decode cL_law 1513 = .ok (.iload 5, 2) := by decide +kernel
theorem dL_law_1515 : decode cL_law 1515 = .ok (.iconst 1, 1) := by decide +kernel
theorem dL_law_1516 : decode cL_law 1516 = .ok (.iadd, 1) := by decide +kernel
theorem dL_law_1517 : decode cL_law 1517 = .ok (.iaload, 1) := by decide +kernel
theorem dL_law_1518 : decode cL_law 1518 = .ok (.aload_n 0, 1) := by decide +kernel
theorem dL_law_1519 : decode cL_law 1519 = .ok (.iload 5, 2) := by decide +kernel
theorem dL_law_1521 : decode cL_law 1521 = .ok (.iconst 2, 1) := by decide +kernel
theorem dL_law_1522 : decode cL_law 1522 = .ok (.iadd, 1) := by decide +kernel
theorem dL_law_1523 : decode cL_law 1523 = .ok (.iaload, 1) := by decide +kernel
theorem dL_law_1524 : decode cL_law 1524 = .ok (.aload_n 3, 1) := by decide +kernel
theorem dL_law_1525 : decode cL_law 1525 = .ok (.invokestatic 194, 3) := by decide +kernel
theorem dL_law_1528 : decode cL_law 1528 = .ok (.istore 6, 2) := by decide +kernel
theorem dL_law_1530 : decode cL_law 1530 = .ok (.aload_n 2, 1) := by decide +kernel
theorem dL_law_1531 : decode cL_law 1531 = .ok (.aload_n 0, 1) := by decide +kernel
theorem dL_law_1532 : decode cL_law 1532 = .ok (.iload 5, 2) := by decide +kernel
theorem dL_law_1534 : decode cL_law 1534 = .ok (.iconst 1, 1) := by decide +kernel
theorem dL_law_1535 : decode cL_law 1535 = .ok (.iadd, 1) := by decide +kernel
theorem dL_law_1536 : decode cL_law 1536 = .ok (.iaload, 1) := by decide +kernel
theorem dL_law_1537 : decode cL_law 1537 = .ok (.aload_n 0, 1) := by decide +kernel
theorem dL_law_1538 : decode cL_law 1538 = .ok (.iload 5, 2) := by decide +kernel
theorem dL_law_1540 : decode cL_law 1540 = .ok (.iconst 2, 1) := by decide +kernel
theorem dL_law_1541 : decode cL_law 1541 = .ok (.iadd, 1) := by decide +kernel
theorem dL_law_1542 : decode cL_law 1542 = .ok (.iaload, 1) := by decide +kernel
theorem dL_law_1543 : decode cL_law 1543 = .ok (.invokevirtual 196, 3) := by decide +kernel
theorem dL_law_1546 : decode cL_law 1546 = .ok (.istore 7, 2) := by decide +kernel
theorem dL_law_1548 : decode cL_law 1548 = .ok (.aload_n 2, 1) := by decide +kernel
theorem dL_law_1549 : decode cL_law 1549 = .ok (.invokevirtual 123, 3) := by decide +kernel
theorem dL_law_1552 : decode cL_law 1552 = .ok (.iload 6, 2) := by decide +kernel
theorem dL_law_1554 : decode cL_law 1554 = .ok (.if_icmp .eq 5, 3) := by decide +kernel
theorem dL_law_1557 : decode cL_law 1557 = .ok (.iconst 0, 1) := by decide +kernel
theorem dL_law_1558 : decode cL_law 1558 = .ok (.ireturn, 1) := by decide +kernel
theorem dL_law_1559 : decode cL_law 1559 = .ok (.iload 6, 2) := by decide +kernel
theorem dL_law_1561 : decode cL_law 1561 = .ok (.ifCond .ne 15, 3) := by decide +kernel
theorem dL_law_1564 : decode cL_law 1564 = .ok (.aload_n 3, 1) := by decide +kernel
theorem dL_law_1565 : decode cL_law 1565 = .ok (.iconst 0, 1) := by decide +kernel
theorem dL_law_1566 : decode cL_law 1566 = .ok (.laload, 1) := by decide +kernel
theorem dL_law_1567 : decode cL_law 1567 = .ok (.iload 7, 2) := by decide +kernel
theorem dL_law_1569 : decode cL_law 1569 = .ok (.i2l, 1) := by decide +kernel
theorem dL_law_1570 : decode cL_law 1570 = .ok (.lcmp, 1) := by decide +kernel
theorem dL_law_1571 : decode cL_law 1571 = .ok (.ifCond .eq 5, 3) := by decide +kernel
theorem dL_law_1574 : decode cL_law 1574 = .ok (.iconst 0, 1) := by decide +kernel
theorem dL_law_1575 : decode cL_law 1575 = .ok (.ireturn, 1) := by decide +kernel
theorem dL_law_1576 : decode cL_law 1576 = .ok (.goto 417, 3) := by decide +kernel
theorem dL_law_1579 : decode cL_law 1579 = .ok (.aload_n 1, 1) := by decide +kernel
theorem dL_law_1580 : decode cL_law 1580 = .ok (.aload_n 0, 1) := by decide +kernel
theorem dL_law_1581 : decode cL_law 1581 = .ok (.iload 5, 2) := by decide +kernel
theorem dL_law_1583 : decode cL_law 1583 = .ok (.iconst 1, 1) := by decide +kernel
theorem dL_law_1584 : decode cL_law 1584 = .ok (.iadd, 1) := by decide +kernel
theorem dL_law_1585 : decode cL_law 1585 = .ok (.iaload, 1) := by decide +kernel
theorem dL_law_1586 : decode cL_law 1586 = .ok (.aload_n 3, 1) := by decide +kernel
theorem dL_law_1587 : decode cL_law 1587 = .ok (.invokestatic 197, 3) := by decide +kernel
theorem dL_law_1590 : decode cL_law 1590 = .ok (.istore 6, 2) := by decide +kernel
theorem dL_law_1592 : decode cL_law 1592 = .ok (.aload_n 2, 1) := by decide +kernel
theorem dL_law_1593 : decode cL_law 1593 = .ok (.aload_n 0, 1) := by decide +kernel
theorem dL_law_1594 : decode cL_law 1594 = .ok (.iload 5, 2) := by decide +kernel
theorem dL_law_1596 : decode cL_law 1596 = .ok (.iconst 1, 1) := by decide +kernel
theorem dL_law_1597 : decode cL_law 1597 = .ok (.iadd, 1) := by decide +kernel
theorem dL_law_1598 : decode cL_law 1598 = .ok (.iaload, 1) := by decide +kernel
theorem dL_law_1599 : decode cL_law 1599 = .ok (.invokevirtual 199, 3) := by decide +kernel
theorem dL_law_1602 : decode cL_law 1602 = .ok (.istore 7, 2) := by decide +kernel
theorem dL_law_1604 : decode cL_law 1604 = .ok (.aload_n 2, 1) := by decide +kernel
theorem dL_law_1605 : decode cL_law 1605 = .ok (.invokevirtual 123, 3) := by decide +kernel
theorem dL_law_1608 : decode cL_law 1608 = .ok (.iload 6, 2) := by decide +kernel
theorem dL_law_1610 : decode cL_law 1610 = .ok (.if_icmp .eq 5, 3) := by decide +kernel
theorem dL_law_1613 : decode cL_law 1613 = .ok (.iconst 0, 1) := by decide +kernel
theorem dL_law_1614 : decode cL_law 1614 = .ok (.ireturn, 1) := by decide +kernel
theorem dL_law_1615 : decode cL_law 1615 = .ok (.iload 6, 2) := by decide +kernel
theorem dL_law_1617 : decode cL_law 1617 = .ok (.ifCond .ne 15, 3) := by decide +kernel
theorem dL_law_1620 : decode cL_law 1620 = .ok (.aload_n 3, 1) := by decide +kernel
theorem dL_law_1621 : decode cL_law 1621 = .ok (.iconst 0, 1) := by decide +kernel
theorem dL_law_1622 : decode cL_law 1622 = .ok (.laload, 1) := by decide +kernel
theorem dL_law_1623 : decode cL_law 1623 = .ok (.iload 7, 2) := by decide +kernel
theorem dL_law_1625 : decode cL_law 1625 = .ok (.i2l, 1) := by decide +kernel
theorem dL_law_1626 : decode cL_law 1626 = .ok (.lcmp, 1) := by decide +kernel
theorem dL_law_1627 : decode cL_law 1627 = .ok (.ifCond .eq 5, 3) := by decide +kernel
theorem dL_law_1630 : decode cL_law 1630 = .ok (.iconst 0, 1) := by decide +kernel
theorem dL_law_1631 : decode cL_law 1631 = .ok (.ireturn, 1) := by decide +kernel
theorem dL_law_1632 : decode cL_law 1632 = .ok (.goto 361, 3) := by decide +kernel
theorem dL_law_1635 : decode cL_law 1635 = .ok (.aload_n 1, 1) := by decide +kernel
theorem dL_law_1636 : decode cL_law 1636 = .ok (.aload_n 3, 1) := by decide +kernel
theorem dL_law_1637 : decode cL_law 1637 = .ok (.invokestatic 200, 3) := by decide +kernel
theorem dL_law_1640 : decode cL_law 1640 = .ok (.istore 6, 2) := by decide +kernel
theorem dL_law_1642 : decode cL_law 1642 = .ok (.aload_n 2, 1) := by decide +kernel
theorem dL_law_1643 : decode cL_law 1643 = .ok (.invokevirtual 203, 3) := by decide +kernel
theorem dL_law_1646 : decode cL_law 1646 = .ok (.lstore 7, 2) := by decide +kernel
theorem dL_law_1648 : decode cL_law 1648 = .ok (.aload_n 2, 1) := by decide +kernel
theorem dL_law_1649 : decode cL_law 1649 = .ok (.invokevirtual 123, 3) := by decide +kernel
theorem dL_law_1652 : decode cL_law 1652 = .ok (.iload 6, 2) := by decide +kernel
theorem dL_law_1654 : decode cL_law 1654 = .ok (.if_icmp .eq 5, 3) := by decide +kernel
theorem dL_law_1657 : decode cL_law 1657 = .ok (.iconst 0, 1) := by decide +kernel
theorem dL_law_1658 : decode cL_law 1658 = .ok (.ireturn, 1) := by decide +kernel
theorem dL_law_1659 : decode cL_law 1659 = .ok (.iload 6, 2) := by decide +kernel
theorem dL_law_1661 : decode cL_law 1661 = .ok (.ifCond .ne 14, 3) := by decide +kernel
theorem dL_law_1664 : decode cL_law 1664 = .ok (.aload_n 3, 1) := by decide +kernel
theorem dL_law_1665 : decode cL_law 1665 = .ok (.iconst 0, 1) := by decide +kernel
theorem dL_law_1666 : decode cL_law 1666 = .ok (.laload, 1) := by decide +kernel
theorem dL_law_1667 : decode cL_law 1667 = .ok (.lload 7, 2) := by decide +kernel
theorem dL_law_1669 : decode cL_law 1669 = .ok (.lcmp, 1) := by decide +kernel
theorem dL_law_1670 : decode cL_law 1670 = .ok (.ifCond .eq 5, 3) := by decide +kernel
theorem dL_law_1673 : decode cL_law 1673 = .ok (.iconst 0, 1) := by decide +kernel
theorem dL_law_1674 : decode cL_law 1674 = .ok (.ireturn, 1) := by decide +kernel
theorem dL_law_1675 : decode cL_law 1675 = .ok (.goto 318, 3) := by decide +kernel
theorem dL_law_1678 : decode cL_law 1678 = .ok (.aload_n 1, 1) := by decide +kernel
theorem dL_law_1679 : decode cL_law 1679 = .ok (.aload_n 0, 1) := by decide +kernel
theorem dL_law_1680 : decode cL_law 1680 = .ok (.iload 5, 2) := by decide +kernel
theorem dL_law_1682 : decode cL_law 1682 = .ok (.iconst 1, 1) := by decide +kernel
theorem dL_law_1683 : decode cL_law 1683 = .ok (.iadd, 1) := by decide +kernel
theorem dL_law_1684 : decode cL_law 1684 = .ok (.iaload, 1) := by decide +kernel
theorem dL_law_1685 : decode cL_law 1685 = .ok (.aload_n 0, 1) := by decide +kernel
theorem dL_law_1686 : decode cL_law 1686 = .ok (.iload 5, 2) := by decide +kernel
theorem dL_law_1688 : decode cL_law 1688 = .ok (.iconst 2, 1) := by decide +kernel
theorem dL_law_1689 : decode cL_law 1689 = .ok (.iadd, 1) := by decide +kernel
theorem dL_law_1690 : decode cL_law 1690 = .ok (.iaload, 1) := by decide +kernel
theorem dL_law_1691 : decode cL_law 1691 = .ok (.aload_n 3, 1) := by decide +kernel
theorem dL_law_1692 : decode cL_law 1692 = .ok (.invokestatic 204, 3) := by decide +kernel
theorem dL_law_1695 : decode cL_law 1695 = .ok (.istore 6, 2) := by decide +kernel
theorem dL_law_1697 : decode cL_law 1697 = .ok (.aload_n 2, 1) := by decide +kernel
theorem dL_law_1698 : decode cL_law 1698 = .ok (.aload_n 0, 1) := by decide +kernel
theorem dL_law_1699 : decode cL_law 1699 = .ok (.iload 5, 2) := by decide +kernel
theorem dL_law_1701 : decode cL_law 1701 = .ok (.iconst 1, 1) := by decide +kernel
theorem dL_law_1702 : decode cL_law 1702 = .ok (.iadd, 1) := by decide +kernel
theorem dL_law_1703 : decode cL_law 1703 = .ok (.iaload, 1) := by decide +kernel
theorem dL_law_1704 : decode cL_law 1704 = .ok (.aload_n 0, 1) := by decide +kernel
theorem dL_law_1705 : decode cL_law 1705 = .ok (.iload 5, 2) := by decide +kernel
theorem dL_law_1707 : decode cL_law 1707 = .ok (.iconst 2, 1) := by decide +kernel
theorem dL_law_1708 : decode cL_law 1708 = .ok (.iadd, 1) := by decide +kernel
theorem dL_law_1709 : decode cL_law 1709 = .ok (.iaload, 1) := by decide +kernel
theorem dL_law_1710 : decode cL_law 1710 = .ok (.invokevirtual 206, 3) := by decide +kernel
theorem dL_law_1713 : decode cL_law 1713 = .ok (.istore 7, 2) := by decide +kernel
theorem dL_law_1715 : decode cL_law 1715 = .ok (.aload_n 2, 1) := by decide +kernel
theorem dL_law_1716 : decode cL_law 1716 = .ok (.invokevirtual 123, 3) := by decide +kernel
theorem dL_law_1719 : decode cL_law 1719 = .ok (.iload 6, 2) := by decide +kernel
theorem dL_law_1721 : decode cL_law 1721 = .ok (.if_icmp .eq 5, 3) := by decide +kernel
theorem dL_law_1724 : decode cL_law 1724 = .ok (.iconst 0, 1) := by decide +kernel
theorem dL_law_1725 : decode cL_law 1725 = .ok (.ireturn, 1) := by decide +kernel
theorem dL_law_1726 : decode cL_law 1726 = .ok (.iload 6, 2) := by decide +kernel
theorem dL_law_1728 : decode cL_law 1728 = .ok (.ifCond .ne 22, 3) := by decide +kernel
theorem dL_law_1731 : decode cL_law 1731 = .ok (.aload_n 3, 1) := by decide +kernel
theorem dL_law_1732 : decode cL_law 1732 = .ok (.iconst 0, 1) := by decide +kernel
theorem dL_law_1733 : decode cL_law 1733 = .ok (.laload, 1) := by decide +kernel
theorem dL_law_1734 : decode cL_law 1734 = .ok (.iload 7, 2) := by decide +kernel
theorem dL_law_1736 : decode cL_law 1736 = .ok (.ifCond .eq 7, 3) := by decide +kernel
theorem dL_law_1739 : decode cL_law 1739 = .ok (.lconst 1, 1) := by decide +kernel
theorem dL_law_1740 : decode cL_law 1740 = .ok (.goto 4, 3) := by decide +kernel
theorem dL_law_1743 : decode cL_law 1743 = .ok (.lconst 0, 1) := by decide +kernel
theorem dL_law_1744 : decode cL_law 1744 = .ok (.lcmp, 1) := by decide +kernel
theorem dL_law_1745 : decode cL_law 1745 = .ok (.ifCond .eq 5, 3) := by decide +kernel
theorem dL_law_1748 : decode cL_law 1748 = .ok (.iconst 0, 1) := by decide +kernel
theorem dL_law_1749 : decode cL_law 1749 = .ok (.ireturn, 1) := by decide +kernel
theorem dL_law_1750 : decode cL_law 1750 = .ok (.goto 243, 3) := by decide +kernel
theorem dL_law_1753 : decode cL_law 1753 = .ok (.aload_n 1, 1) := by decide +kernel
theorem dL_law_1754 : decode cL_law 1754 = .ok (.invokevirtual 207, 3) := by decide +kernel
theorem dL_law_1757 : decode cL_law 1757 = .ok (.aload_n 2, 1) := by decide +kernel
theorem dL_law_1758 : decode cL_law 1758 = .ok (.invokevirtual 211, 3) := by decide +kernel
theorem dL_law_1761 : decode cL_law 1761 = .ok (.if_icmp .eq 232, 3) := by decide +kernel
theorem dL_law_1764 : decode cL_law 1764 = .ok (.iconst 0, 1) := by decide +kernel
theorem dL_law_1765 : decode cL_law 1765 = .ok (.ireturn, 1) := by decide +kernel
theorem dL_law_1766 : decode cL_law 1766 = .ok (.aload_n 1, 1) := by decide +kernel
theorem dL_law_1767 : decode cL_law 1767 = .ok (.aload_n 0, 1) := by decide +kernel
theorem dL_law_1768 : decode cL_law 1768 = .ok (.iload 5, 2) := by decide +kernel
theorem dL_law_1770 : decode cL_law 1770 = .ok (.iconst 1, 1) := by decide +kernel
theorem dL_law_1771 : decode cL_law 1771 = .ok (.iadd, 1) := by decide +kernel
theorem dL_law_1772 : decode cL_law 1772 = .ok (.iaload, 1) := by decide +kernel
theorem dL_law_1773 : decode cL_law 1773 = .ok (.aload_n 3, 1) := by decide +kernel
theorem dL_law_1774 : decode cL_law 1774 = .ok (.invokestatic 212, 3) := by decide +kernel
theorem dL_law_1777 : decode cL_law 1777 = .ok (.istore 6, 2) := by decide +kernel
theorem dL_law_1779 : decode cL_law 1779 = .ok (.aload_n 2, 1) := by decide +kernel
theorem dL_law_1780 : decode cL_law 1780 = .ok (.aload_n 0, 1) := by decide +kernel
theorem dL_law_1781 : decode cL_law 1781 = .ok (.iload 5, 2) := by decide +kernel
theorem dL_law_1783 : decode cL_law 1783 = .ok (.iconst 1, 1) := by decide +kernel
theorem dL_law_1784 : decode cL_law 1784 = .ok (.iadd, 1) := by decide +kernel
theorem dL_law_1785 : decode cL_law 1785 = .ok (.iaload, 1) := by decide +kernel
theorem dL_law_1786 : decode cL_law 1786 = .ok (.invokevirtual 214, 3) := by decide +kernel
theorem dL_law_1789 : decode cL_law 1789 = .ok (.istore 7, 2) := by decide +kernel
theorem dL_law_1791 : decode cL_law 1791 = .ok (.aload_n 2, 1) := by decide +kernel
theorem dL_law_1792 : decode cL_law 1792 = .ok (.invokevirtual 123, 3) := by decide +kernel
theorem dL_law_1795 : decode cL_law 1795 = .ok (.iload 6, 2) := by decide +kernel
theorem dL_law_1797 : decode cL_law 1797 = .ok (.if_icmp .eq 5, 3) := by decide +kernel
theorem dL_law_1800 : decode cL_law 1800 = .ok (.iconst 0, 1) := by decide +kernel
theorem dL_law_1801 : decode cL_law 1801 = .ok (.ireturn, 1) := by decide +kernel
theorem dL_law_1802 : decode cL_law 1802 = .ok (.iload 6, 2) := by decide +kernel
theorem dL_law_1804 : decode cL_law 1804 = .ok (.ifCond .ne 15, 3) := by decide +kernel
theorem dL_law_1807 : decode cL_law 1807 = .ok (.aload_n 3, 1) := by decide +kernel
theorem dL_law_1808 : decode cL_law 1808 = .ok (.iconst 0, 1) := by decide +kernel
theorem dL_law_1809 : decode cL_law 1809 = .ok (.laload, 1) := by decide +kernel
theorem dL_law_1810 : decode cL_law 1810 = .ok (.iload 7, 2) := by decide +kernel
theorem dL_law_1812 : decode cL_law 1812 = .ok (.i2l, 1) := by decide +kernel
theorem dL_law_1813 : decode cL_law 1813 = .ok (.lcmp, 1) := by decide +kernel
theorem dL_law_1814 : decode cL_law 1814 = .ok (.ifCond .eq 5, 3) := by decide +kernel
theorem dL_law_1817 : decode cL_law 1817 = .ok (.iconst 0, 1) := by decide +kernel
theorem dL_law_1818 : decode cL_law 1818 = .ok (.ireturn, 1) := by decide +kernel
theorem dL_law_1819 : decode cL_law 1819 = .ok (.goto 174, 3) := by decide +kernel
theorem dL_law_1822 : decode cL_law 1822 = .ok (.aload_n 1, 1) := by decide +kernel
theorem dL_law_1823 : decode cL_law 1823 = .ok (.invokevirtual 215, 3) := by decide +kernel
theorem dL_law_1826 : decode cL_law 1826 = .ok (.aload_n 2, 1) := by decide +kernel
theorem dL_law_1827 : decode cL_law 1827 = .ok (.invokevirtual 218, 3) := by decide +kernel
theorem dL_law_1830 : decode cL_law 1830 = .ok (.lcmp, 1) := by decide +kernel
theorem dL_law_1831 : decode cL_law 1831 = .ok (.ifCond .eq 162, 3) := by decide +kernel
theorem dL_law_1834 : decode cL_law 1834 = .ok (.iconst 0, 1) := by decide +kernel
theorem dL_law_1835 : decode cL_law 1835 = .ok (.ireturn, 1) := by decide +kernel
theorem dL_law_1836 : decode cL_law 1836 = .ok (.aload_n 1, 1) := by decide +kernel
theorem dL_law_1837 : decode cL_law 1837 = .ok (.invokevirtual 219, 3) := by decide +kernel
theorem dL_law_1840 : decode cL_law 1840 = .ok (.aload_n 2, 1) := by decide +kernel
theorem dL_law_1841 : decode cL_law 1841 = .ok (.invokevirtual 222, 3) := by decide +kernel
theorem dL_law_1844 : decode cL_law 1844 = .ok (.if_icmp .eq 149, 3) := by decide +kernel
theorem dL_law_1847 : decode cL_law 1847 = .ok (.iconst 0, 1) := by decide +kernel
theorem dL_law_1848 : decode cL_law 1848 = .ok (.ireturn, 1) := by decide +kernel
theorem dL_law_1849 : decode cL_law 1849 = .ok (.aload_n 1, 1) := by decide +kernel
theorem dL_law_1850 : decode cL_law 1850 = .ok (.aload 4, 2) := by decide +kernel
theorem dL_law_1852 : decode cL_law 1852 = .ok (.invokestatic 223, 3) := by decide +kernel
theorem dL_law_1855 : decode cL_law 1855 = .ok (.istore 6, 2) := by decide +kernel
theorem dL_law_1857 : decode cL_law 1857 = .ok (.aload_n 2, 1) := by decide +kernel
theorem dL_law_1858 : decode cL_law 1858 = .ok (.invokevirtual 226, 3) := by decide +kernel
theorem dL_law_1861 : decode cL_law 1861 = .ok (.fstore 7, 2) := by decide +kernel
theorem dL_law_1863 : decode cL_law 1863 = .ok (.aload_n 2, 1) := by decide +kernel
theorem dL_law_1864 : decode cL_law 1864 = .ok (.invokevirtual 123, 3) := by decide +kernel
theorem dL_law_1867 : decode cL_law 1867 = .ok (.iload 6, 2) := by decide +kernel
theorem dL_law_1869 : decode cL_law 1869 = .ok (.if_icmp .eq 5, 3) := by decide +kernel
theorem dL_law_1872 : decode cL_law 1872 = .ok (.iconst 0, 1) := by decide +kernel
theorem dL_law_1873 : decode cL_law 1873 = .ok (.ireturn, 1) := by decide +kernel
theorem dL_law_1874 : decode cL_law 1874 = .ok (.iload 6, 2) := by decide +kernel
theorem dL_law_1876 : decode cL_law 1876 = .ok (.ifCond .ne 36, 3) := by decide +kernel
theorem dL_law_1879 : decode cL_law 1879 = .ok (.aload 4, 2) := by decide +kernel
theorem dL_law_1881 : decode cL_law 1881 = .ok (.iconst 0, 1) := by decide +kernel
theorem dL_law_1882 : decode cL_law 1882 = .ok (.daload, 1) := by decide +kernel
theorem dL_law_1883 : decode cL_law 1883 = .ok (.fload 7, 2) := by decide +kernel
theorem dL_law_1885 : decode cL_law 1885 = .ok (.f2d, 1) := by decide +kernel
theorem dL_law_1886 : decode cL_law 1886 = .ok (.dcmp .l, 1) := by decide +kernel
theorem dL_law_1887 : decode cL_law 1887 = .ok (.ifCond .eq 25, 3) := by decide +kernel
theorem dL_law_1890 : decode cL_law 1890 = .ok (.aload 4, 2) := by decide +kernel
theorem dL_law_1892 : decode cL_law 1892 = .ok (.iconst 0, 1) := by decide +kernel
theorem dL_law_1893 : decode cL_law 1893 = .ok (.daload, 1) := by decide +kernel
theorem dL_law_1894 : decode cL_law 1894 = .ok (.aload 4, 2) := by decide +kernel
theorem dL_law_1896 : decode cL_law 1896 = .ok (.iconst 0, 1) := by decide +kernel
theorem dL_law_1897 : decode cL_law 1897 = .ok (.daload, 1) := by decide +kernel
theorem dL_law_1898 : decode cL_law 1898 = .ok (.dcmp .l, 1) := by decide +kernel
theorem dL_law_1899 : decode cL_law 1899 = .ok (.ifCond .eq 11, 3) := by decide +kernel
theorem dL_law_1902 : decode cL_law 1902 = .ok (.fload 7, 2) := by decide +kernel
theorem dL_law_1904 : decode cL_law 1904 = .ok (.fload 7, 2) := by decide +kernel
theorem dL_law_1906 : decode cL_law 1906 = .ok (.fcmp .l, 1) := by decide +kernel
theorem dL_law_1907 : decode cL_law 1907 = .ok (.ifCond .ne 5, 3) := by decide +kernel
theorem dL_law_1910 : decode cL_law 1910 = .ok (.iconst 0, 1) := by decide +kernel
theorem dL_law_1911 : decode cL_law 1911 = .ok (.ireturn, 1) := by decide +kernel
theorem dL_law_1912 : decode cL_law 1912 = .ok (.goto 81, 3) := by decide +kernel
theorem dL_law_1915 : decode cL_law 1915 = .ok (.aload_n 1, 1) := by decide +kernel
theorem dL_law_1916 : decode cL_law 1916 = .ok (.aload 4, 2) := by decide +kernel
theorem dL_law_1918 : decode cL_law 1918 = .ok (.invokestatic 227, 3) := by decide +kernel
theorem dL_law_1921 : decode cL_law 1921 = .ok (.istore 6, 2) := by decide +kernel
theorem dL_law_1923 : decode cL_law 1923 = .ok (.aload_n 2, 1) := by decide +kernel
theorem dL_law_1924 : decode cL_law 1924 = .ok (.invokevirtual 229, 3) := by decide +kernel
theorem dL_law_1927 : decode cL_law 1927 = .ok (.dstore 7, 2) := by decide +kernel
theorem dL_law_1929 : decode cL_law 1929 = .ok (.aload_n 2, 1) := by decide +kernel
theorem dL_law_1930 : decode cL_law 1930 = .ok (.invokevirtual 123, 3) := by decide +kernel
theorem dL_law_1933 : decode cL_law 1933 = .ok (.iload 6, 2) := by decide +kernel
theorem dL_law_1935 : decode cL_law 1935 = .ok (.if_icmp .eq 5, 3) := by decide +kernel
theorem dL_law_1938 : decode cL_law 1938 = .ok (.iconst 0, 1) := by decide +kernel
theorem dL_law_1939 : decode cL_law 1939 = .ok (.ireturn, 1) := by decide +kernel
theorem dL_law_1940 : decode cL_law 1940 = .ok (.iload 6, 2) := by decide +kernel
theorem dL_law_1942 : decode cL_law 1942 = .ok (.ifCond .ne 35, 3) := by decide +kernel
theorem dL_law_1945 : decode cL_law 1945 = .ok (.aload 4, 2) := by decide +kernel
theorem dL_law_1947 : decode cL_law 1947 = .ok (.iconst 0, 1) := by decide +kernel
theorem dL_law_1948 : decode cL_law 1948 = .ok (.daload, 1) := by decide +kernel
theorem dL_law_1949 : decode cL_law 1949 = .ok (.dload 7, 2) := by decide +kernel
theorem dL_law_1951 : decode cL_law 1951 = .ok (.dcmp .l, 1) := by decide +kernel
theorem dL_law_1952 : decode cL_law 1952 = .ok (.ifCond .eq 25, 3) := by decide +kernel
theorem dL_law_1955 : decode cL_law 1955 = .ok (.aload 4, 2) := by decide +kernel
theorem dL_law_1957 : decode cL_law 1957 = .ok (.iconst 0, 1) := by decide +kernel
theorem dL_law_1958 : decode cL_law 1958 = .ok (.daload, 1) := by decide +kernel
theorem dL_law_1959 : decode cL_law 1959 = .ok (.aload 4, 2) := by decide +kernel
theorem dL_law_1961 : decode cL_law 1961 = .ok (.iconst 0, 1) := by decide +kernel
theorem dL_law_1962 : decode cL_law 1962 = .ok (.daload, 1) := by decide +kernel
theorem dL_law_1963 : decode cL_law 1963 = .ok (.dcmp .l, 1) := by decide +kernel
theorem dL_law_1964 : decode cL_law 1964 = .ok (.ifCond .eq 11, 3) := by decide +kernel
theorem dL_law_1967 : decode cL_law 1967 = .ok (.dload 7, 2) := by decide +kernel
theorem dL_law_1969 : decode cL_law 1969 = .ok (.dload 7, 2) := by decide +kernel
theorem dL_law_1971 : decode cL_law 1971 = .ok (.dcmp .l, 1) := by decide +kernel
theorem dL_law_1972 : decode cL_law 1972 = .ok (.ifCond .ne 5, 3) := by decide +kernel
theorem dL_law_1975 : decode cL_law 1975 = .ok (.iconst 0, 1) := by decide +kernel
theorem dL_law_1976 : decode cL_law 1976 = .ok (.ireturn, 1) := by decide +kernel
theorem dL_law_1977 : decode cL_law 1977 = .ok (.goto 16, 3) := by decide +kernel
theorem dL_law_1980 : decode cL_law 1980 = .ok (.aload_n 1, 1) := by decide +kernel
theorem dL_law_1981 : decode cL_law 1981 = .ok (.invokevirtual 230, 3) := by decide +kernel
theorem dL_law_1984 : decode cL_law 1984 = .ok (.aload_n 2, 1) := by decide +kernel
theorem dL_law_1985 : decode cL_law 1985 = .ok (.invokevirtual 233, 3) := by decide +kernel
theorem dL_law_1988 : decode cL_law 1988 = .ok (.if_icmp .eq 5, 3) := by decide +kernel
theorem dL_law_1991 : decode cL_law 1991 = .ok (.iconst 0, 1) := by decide +kernel
theorem dL_law_1992 : decode cL_law 1992 = .ok (.ireturn, 1) := by decide +kernel
theorem dL_law_1993 : decode cL_law 1993 = .ok (.iinc 5 6, 3) := by decide +kernel
theorem dL_law_1996 : decode cL_law 1996 = .ok (.goto (-1968), 3) := by decide +kernel
theorem dL_law_1999 : decode cL_law 1999 = .ok (.iconst 1, 1) := by decide +kernel
theorem dL_law_2000 : decode cL_law 2000 = .ok (.ireturn, 1) := by decide +kernel
end
section
/-- a class of which an object may stand where the other is asked for -/
def fz_Ca (E C : String) (U : State) : Prop := ∃ c t : ClassId, U.vm.findClass E = some c ∧ U.vm.findClass C = some t ∧ U.vm.assignable c t = true
theorem fz_Ca.moved {C T : String} {u U : State} (hvm : u.vm.Alike U.vm) (h : fz_Ca C T u) : fz_Ca C T U := by
  obtain ⟨c, t, h1, h2, h3⟩ := h
  exact ⟨c, t, by rw [hvm.findClass]; exact h1, by rw [hvm.findClass]; exact h2, by rw [hvm.assignable]; exact h3⟩
theorem fz_Ca.of {args : Array Value} {s : State} {C T : String} (h : (Cond.castable C T).before args s = true) : fz_Ca C T s := by
  simp only [Cond.before, Cond.holds, Cond.value] at h
  cases h1 : s.vm.findClass C with
  | none => simp [h1] at h
  | some c =>
    cases h2 : s.vm.findClass T with
    | none => simp [h1, h2] at h
    | some t =>
      simp [h1, h2] at h
      exact ⟨c, t, h1, h2, h⟩
theorem fz_Ca.use {args : Array Value} {s : State} {C T : String} (h : fz_Ca C T s) : (Cond.castable C T).before args s = true := by
  obtain ⟨c, t, h1, h2, h3⟩ := h
  simp [Cond.before, Cond.holds, Cond.value, h1, h2, h3]
/-- a method that its class declares -/
def fz_De (x : MethodName) (U : State) : Prop := (Cond.declares x).before #[] U = true
theorem fz_De.moved {x : MethodName} {u U : State} (hvm : u.vm.Alike U.vm) (h : fz_De x u) : fz_De x U := by
  have tr : ∀ {c : Cond}, c.onTables = true → c.before #[] (u.setVm U.vm) = true → c.before #[] U = true := by
    intro c hc h
    have e := Cond.onTables_vm (A := #[]) (A' := #[]) (U := u) (U' := U) U.vm c hc
    have hU : U.setVm U.vm = U := rfl
    rw [hU] at e
    rw [← e]
    exact h
  exact tr rfl (by rw [Cond.declares_setVm hvm]; exact h)
theorem fz_De.use {x : MethodName} {A : Array Value} {U : State} (h : fz_De x U) : (Cond.declares x).before A U = true := va_tabs rfl rfl h
def fz_iS (X : String) : MethodName := ⟨X, "<init>", "(Ljava/lang/String;)V"⟩
def fz_B (e : String) : List Cond := [Cond.castable e e, Cond.declares (fz_iS "java/lang/RuntimeException"), Cond.declares (fz_iS "java/lang/Exception"), Cond.declares (fz_iS "java/lang/Throwable")]
def fz_ex : List String := ["java/lang/ArithmeticException", "java/lang/IllegalArgumentException", "java/lang/IllegalStateException", "java/lang/IndexOutOfBoundsException", "java/lang/UnsupportedOperationException", "java/util/NoSuchElementException"]
def fz_nc : List (String × String) := [("java/lang/UnsupportedOperationException", "java/lang/IllegalArgumentException"), ("java/lang/IllegalStateException", "java/lang/IllegalArgumentException"), ("java/lang/IndexOutOfBoundsException", "java/lang/IllegalArgumentException"), ("java/util/NoSuchElementException", "java/lang/IllegalArgumentException"), ("java/lang/ArithmeticException", "java/lang/IllegalArgumentException"), ("java/lang/IllegalArgumentException", "java/lang/UnsupportedOperationException"), ("java/lang/IllegalStateException", "java/lang/UnsupportedOperationException"), ("java/lang/IndexOutOfBoundsException", "java/lang/UnsupportedOperationException"), ("java/util/NoSuchElementException", "java/lang/UnsupportedOperationException"), ("java/lang/ArithmeticException", "java/lang/UnsupportedOperationException"), ("java/lang/IllegalArgumentException", "java/lang/IllegalStateException"), ("java/lang/UnsupportedOperationException", "java/lang/IllegalStateException"), ("java/lang/IndexOutOfBoundsException", "java/lang/IllegalStateException"), ("java/util/NoSuchElementException", "java/lang/IllegalStateException"), ("java/lang/ArithmeticException", "java/lang/IllegalStateException"), ("java/lang/IllegalArgumentException", "java/lang/IndexOutOfBoundsException"), ("java/lang/UnsupportedOperationException", "java/lang/IndexOutOfBoundsException"), ("java/lang/IllegalStateException", "java/lang/IndexOutOfBoundsException"), ("java/util/NoSuchElementException", "java/lang/IndexOutOfBoundsException"), ("java/lang/ArithmeticException", "java/lang/IndexOutOfBoundsException"), ("java/lang/IllegalArgumentException", "java/util/NoSuchElementException"), ("java/lang/UnsupportedOperationException", "java/util/NoSuchElementException"), ("java/lang/IllegalStateException", "java/util/NoSuchElementException"), ("java/lang/IndexOutOfBoundsException", "java/util/NoSuchElementException"), ("java/lang/ArithmeticException", "java/util/NoSuchElementException"), ("java/lang/IllegalArgumentException", "java/lang/ArithmeticException"), ("java/lang/UnsupportedOperationException", "java/lang/ArithmeticException"), ("java/lang/IllegalStateException", "java/lang/ArithmeticException"), ("java/lang/IndexOutOfBoundsException", "java/lang/ArithmeticException"), ("java/util/NoSuchElementException", "java/lang/ArithmeticException")]
theorem fz_nc_1 : ("java/util/NoSuchElementException", "java/lang/IllegalArgumentException") ∈ fz_nc := by decide +kernel
def fz_strs : List (Nat × String) := [(87, "a number is out of range"), (100, "the joint has no length or a place would not turn to the left"), (108, "a stone is set"), (113, "there are 8 joints"), (125, "there is no such joint"), (131, "a place beside the joint is filled"), (140, "the density is out of range"), (151, "there is no such place"), (163, "the grip is out of range"), (167, "there are less than 2 places"), (174, "the arch would not be safe"), (184, "the arch would not be safe with the load 0"), (208, "there are 6 kinds"), (217, "there is no such kind"), (233, "the place can be cut from no block that there is"), (235, "there are 4 masons"), (244, "there is no such place, kind or mason"), (246, "there is no such block left, or the place cannot be cut from it"), (248, "there are 40 stones"), (273, "there is no such stone"), (291, "there is no sign there"), (296, "there is no such stone or place"), (306, "the strength is out of range"), (308, "there is a centre, or the arch stands"), (313, "the stone does not fit"), (321, "the stone, the place or the centre is not fit for it"), (330, "the place is empty"), (332, "there is no centre, or not all places are filled, or too few"), (337, "the arch is not safe"), (339, "the load is out of range"), (341, "the arch does not stand"), (346, "the number of days is out of range"), (359, "no block was cut"), (362, "there are no places")]
def fz_List (n d : String) : MethodName := ⟨"java/util/List", n, d⟩
/-- what the tables say that the words don't carry -/
def fz_T (U : State) : Prop :=
  (va_Nw (.methodLinkNest RX7 18 yX6_init "VoussoirYard") U ∧ va_Nw (.methodLinkNest RX1 17 yX2_init "VoussoirYard") U ∧ va_Nw (.methodLinkNest RX1 24 yX4_init "VoussoirYard") U) ∧
  (∀ E : String, E ∈ fz_ex → fz_Ca E E U) ∧
  (∀ q : String × String, q ∈ fz_nc → va_Nc q.1 q.2 U) ∧
  (va_Fw RJx4a65c ⟨"java/util/List", "isEmpty", "()Z"⟩ yJx4a65c_isEmpty_aae02 U ∧ va_Fw RJx4a65c ⟨"java/util/List", "size", "()I"⟩ yJx4a65c_size_8abf5 U ∧ va_Fw RJx4a65c ⟨"java/util/List", "add", "(Ljava/lang/Object;)Z"⟩ yJx4a65c_add_9ea2d U) ∧
  (va_AO "VoussoirYard$Joint" U ∧ va_AO "VoussoirYard$BlockKind" U ∧ va_AO "VoussoirYard$Mason" U ∧ va_AO "VoussoirYard$Stone" U ∧ va_AO "java/lang/Object" U) ∧
  (∀ q : Nat × String, q ∈ fz_strs → ∃ sa : Nat, vk_R "VoussoirYard" q.1 q.2 sa U) ∧
  (fz_Ca "[I" "java/lang/Object" U ∧ fz_Ca RX8 "java/lang/Object" U ∧ fz_Ca RX9 "java/lang/Object" U) ∧
  (fz_De (fz_iS "java/lang/RuntimeException") U ∧ fz_De (fz_iS "java/lang/Exception") U ∧ fz_De (fz_iS "java/lang/Throwable") U)
theorem fz_T.warm {s U : State} (hW : s.WarmedH U.vm) (h : fz_T s) : fz_T U := by
  obtain ⟨⟨n1, n2, n3⟩, h2, h3, ⟨f1, f2, f3⟩, ⟨a1, a2, a3, a4, a5⟩, h6, ⟨o1, o2, o3⟩, d1, d2, d3⟩ := h
  have hv := hW.alike
  exact ⟨⟨va_Nw.warmM hW n1, va_Nw.warmM hW n2, va_Nw.warmM hW n3⟩, fun E hE => (h2 E hE).moved hv, fun q hq => va_Nc.moved hv (h3 q hq),
    ⟨va_Fw.moved (by decide +kernel) hv f1, va_Fw.moved (by decide +kernel) hv f2, va_Fw.moved (by decide +kernel) hv f3⟩,
    ⟨va_AO.moved hv a1, va_AO.moved hv a2, va_AO.moved hv a3, va_AO.moved hv a4, va_AO.moved hv a5⟩, fun q hq => by
      obtain ⟨sa, h⟩ := h6 q hq
      exact ⟨sa, vk_R.warm hW h⟩, ⟨o1.moved hv, o2.moved hv, o3.moved hv⟩, d1.moved hv, d2.moved hv, d3.moved hv⟩
/-- .. and the cells of the start that every call may read: the statics of Throwable, ArrayList's empty row e0 -/
def fz_amb (e0 : Nat) (A : Nat → Prop) (U : State) (H : Heap) : Prop := fz_T U ∧ vx_Zq Bundle.tN "UNASSIGNED_STACK" Bundle.steD A U H ∧ vx_Zq Bundle.tN "SUPPRESSED_SENTINEL" Bundle.listD A U H ∧
  va_Z "java/util/ArrayList" "DEFAULTCAPACITY_EMPTY_ELEMENTDATA" "[Ljava/lang/Object;" (.ref e0) A U H ∧ va_T (.object "java/lang/Object") e0 0 (fun _ => .null) A U H
theorem fz_amb.at {e0 : Nat} {A B : Nat → Prop} {s U : State} {H : Heap} {locs : List Loc} (h : fz_amb e0 A s s.heap) (hS : va_S A s.heap H locs) (hAB : ∀ q, B q → A q) (hU : U.heap = H) (hW : s.WarmedH U.vm) : fz_amb e0 B U U.heap := by
  obtain ⟨h1, h2, h3, h4, h5⟩ := h
  rw [hU]
  have hv := hW.alike
  exact ⟨h1.warm hW, vx_Zq.moved hv ((h2.kept hS.2.1).narrow hAB), vx_Zq.moved hv ((h3.kept hS.2.1).narrow hAB), va_Z.moved hv ((h4.kept hS.2.1).narrow hAB), va_T.moved hv ((h5.kept hS.2.1).narrow hAB)⟩
theorem fz_amb.calling {e0 : Nat} {A : Nat → Prop} {U : State} {g : JFrame} {mk : MethodId} {a : Array Value} (h : fz_amb e0 A U U.heap) : fz_amb e0 A (U.calling g mk a) (U.calling g mk a).heap := by
  have hS : va_S A U.heap (U.calling g mk a).heap [] := va_S.rf
  exact fz_amb.at (locs := []) h hS (fun _ q => q) rfl (State.WarmedH.refl U)
/-- what a method is called with: its arguments, the cells that it may read or write, what comes along -/
def fz_P (g : va_G) (e0 : Nat) (W : va_W) (TY : List (ClassId × FieldType)) (sz : Nat) (A : Nat → Prop) (av : List Value) : Array Value → State → Prop :=
  va_Pc av (fun U => U.heap.size = sz ∧ va_P g vwCl W U.heap ∧ va_K g vwCl TY U ∧ va_D (fun _ => True) W ∧ fz_amb e0 A U U.heap)
theorem fz_blind {g : va_G} {e0 : Nat} {W : va_W} {TY : List (ClassId × FieldType)} {sz : Nat} {A : Nat → Prop} {av : List Value} : FrameBlind (fz_P g e0 W TY sz A av) := by
  intro a U f mk q
  obtain ⟨q0, q1, qP, qK, qD, qA⟩ := q
  exact ⟨q0, q1, qP, va_K.moved (u := U) (U := U.calling f mk a) (Vm.Alike.refl U.vm) qK, qD, qA.calling⟩
theorem fz_pre {g : va_G} {e0 : Nat} {W : va_W} {TY : List (ClassId × FieldType)} {A A1 A0 : Nat → Prop} {av : List Value} {s : State} {H : Heap} {locs : List Loc} (hP : va_P g vwCl W H) (hK : va_K g vwCl TY s) (hD : va_D A0 W) (hAm : fz_amb e0 A s s.heap) (hS : va_S A s.heap H locs) (hAB : ∀ q, A1 q → A q) :
    ∀ U : State, U.heap = H → s.WarmedH U.vm → fz_P g e0 W TY H.size A1 av av.toArray U := fun U hU hW =>
  ⟨rfl, by rw [hU], by rw [hU]; exact hP, va_K.moved hW.alike hK, hD.weaken (fun _ _ _ _ => trivial), hAm.at hS hAB hU hW⟩
/-- a world behind a call that wrote nothing old -/
theorem fz_keep {g : va_G} {W : va_W} {H H1 : Heap} (h : va_P g vwCl W H) (hk : ∀ q : Nat, q < H.size → ¬ H.size ≤ q → H1[q]? = H[q]?) : va_P g vwCl W H1 :=
  h.kept fun k q hq => hk q.1 (h k q hq).lt (Nat.not_le.mpr (h k q hq).lt)
/-- .. that wrote cells apart from these -/
theorem fz_keepC {g : va_G} {W WC WR : va_W} {A0 : Nat → Prop} {H H1 : Heap} (hP : va_P g vwCl W H) (hD : va_D A0 W) (isC isR : List Nat) (hC : isC.map (fun i => W[i]?) = WC.map some) (hR : isR.map (fun i => W[i]?) = WR.map some) (hn : va_nd isR = true) (hdis : ∀ i ∈ isR, i ∉ isC)
    (hk : ∀ q : Nat, q < H.size → ¬ va_A WC H.size q → H1[q]? = H[q]?) (hF : ∀ q, va_A WC H.size q → A0 q) : va_P g vwCl WR H1 ∧ va_D A0 WR := by
  have h := va_join (w1 := []) hP hD isC isR hC hR hn hdis hk hF (fun k q h => by simp at h) ⟨fun i j p q h => by simp at h, fun k q h => by simp at h⟩
  rw [List.append_nil] at h
  exact h
theorem fz_il {i : Int32} {n : Nat} (h : ¬ (i < 0 ∨ n ≤ i.toNatClampNeg)) : vp_in i n := h
theorem fz_a1 {a b : Int32} (h : ¬ a < b) : b ≤ a := Int32.not_lt.mp h
theorem fz_a2 {a b : Int32} (h : a < b) : ¬ b ≤ a := Int32.not_le.mpr h
theorem fz_a3 {a b : Int32} (h : ¬ a ≤ b) : b < a := Int32.not_le.mp h
theorem fz_a4 {a b : Int32} (h : a ≤ b) : ¬ b < a := Int32.not_lt.mpr h
def fz_in (x lo hi : Int32) : Prop := ¬ x < lo ∧ ¬ hi < x
def fz_v (a b c d : Int32) : Prop := fz_in a 0 20 ∧ fz_in b 0 20 ∧ fz_in c 0 20 ∧ fz_in d 0 20 ∧ ¬ (a = c ∧ b = d)
theorem fz_in_no (x : Int32) : ¬ fz_in x 0 (-1) := fun h => h.2 (by
  have h1 := Int32.not_lt.mp h.1
  rw [Int32.le_iff_toInt_le] at h1
  rw [Int32.lt_iff_toInt_lt]
  have e0 : (0 : Int32).toInt = 0 := by decide
  have e1 : (-1 : Int32).toInt = -1 := by decide
  omega)
theorem fz_wlt (a b : Int32) : a.toInt64 < b.toInt64 ↔ a < b := by
  rw [Int64.lt_iff_toInt_lt, Int32.lt_iff_toInt_lt, Int32.toInt_toInt64, Int32.toInt_toInt64]
theorem fz_cmp_lt (a b : Int32) : lg_cmp a.toInt64 b.toInt64 < 0 ↔ a < b := (lg_cmp_lt _ _).trans (fz_wlt a b)
theorem fz_cmp_gt (a b : Int32) : 0 < lg_cmp a.toInt64 b.toInt64 ↔ b < a := (lg_cmp_gt _ _).trans (fz_wlt b a)
theorem fz_cmp_self (a : Int64) : lg_cmp a a = 0 := by simp [lg_cmp]
theorem fz_xF {A : Nat → Prop} {s t : State} {H : Heap} {locs : List Loc} (hS : va_S A s.heap H locs) (h1 : H.size ≤ t.heap.size) (h2 : ∀ q : Nat, q < H.size → t.heap[q]? = H[q]?) : va_F A s t :=
  ⟨Nat.le_trans hS.1 h1, fun q hq hn => (h2 q (Nat.lt_of_lt_of_le hq hS.1)).trans (hS.2.1 q hq hn)⟩
/-- a row of ints is an object too -/
theorem fz_anyI {g : va_G} {cl : List vw_C} {tys : List (ClassId × FieldType)} {ws : va_W} {s : State} {H : Heap} {a : Nat} (hK : va_K g cl tys s) (hP : va_P g cl ws H) (q0 t0 : Nat) {cA : ClassId} {n : Nat} {f : Nat → Int32} (ha : ws[q0]? = some (a, .inl (cA, n, .inl f))) (ht : tys[t0]? = some (cA, .int)) (hc : fz_Ca "[I" "java/lang/Object" s) : va_Any "java/lang/Object" s H a := by
  obtain ⟨c, t, h1, h2, h3⟩ := hc
  have h4 : H[a]? = some (vp_cell cA (n, .inl f)) := hP q0 _ ha
  have h5 : s.vm.findClass "[I" = some cA := (hK.2 t0 _ ht).2
  cases h5.symm.trans h1
  obtain ⟨k9, h9, -⟩ := Vm.findClass_spec h5
  refine ⟨_, h4, rfl, ⟨k9, h9⟩, fun comp hcomp => ?_⟩
  cases h2.symm.trans hcomp
  exact h3
theorem fz_wf {e : String} {s : State} {args : Array Value} {own : String} {ik ic : Nat} {names : List String} {Ts : List Cond} (hts : ∀ w ∈ Ts, w.before args s = true) (h1 : ∀ w ∈ (vx_atS own ic e names).filter goodWord, w ∈ Ts)
    (h2 : ∀ w ∈ (vx_atS own ic e names).filter (fun w => !goodWord w), w ∈ fz_B e) (hc : fz_Ca e e s) (hT : fz_T s) : ∀ w ∈ vx_atS own ic e names, w.before args s = true :=
  vx_hat (B := fz_B e) (fun w h => hts w (h1 w h)) h2 (vx_c hc.use (vx_c hT.2.2.2.2.2.2.2.1.use (vx_c hT.2.2.2.2.2.2.2.2.1.use (vx_c hT.2.2.2.2.2.2.2.2.2.use vx_n))))
theorem fz_x_Arithmetic : "java/lang/ArithmeticException" ∈ fz_ex := by decide +kernel
theorem fz_ng_Arithmetic : ∀ w ∈ (vx_atS RX7 361 "java/lang/ArithmeticException" ["java/lang/RuntimeException", "java/lang/Exception"]).filter (fun w => !goodWord w), w ∈ fz_B "java/lang/ArithmeticException" := by decide +kernel
theorem fz_ot_Arithmetic : ∀ w ∈ Cond.classLink RX7 357 "java/lang/ArithmeticException" :: Cond.initialized "java/lang/ArithmeticException" :: vx_atS RX7 361 "java/lang/ArithmeticException" ["java/lang/RuntimeException", "java/lang/Exception"], vx_ot w = true := by decide +kernel
def fz_w_Arithmetic : List Cond := Cond.classLink RX7 357 "java/lang/ArithmeticException" :: Cond.initialized "java/lang/ArithmeticException" :: (vx_atS RX7 361 "java/lang/ArithmeticException" ["java/lang/RuntimeException", "java/lang/Exception"]).filter goodWord
theorem fz_wi_Arithmetic : ∀ w ∈ fz_w_Arithmetic, w ∈ lw_tbl := by decide +kernel
theorem fz_wg_Arithmetic : fz_w_Arithmetic.all goodWord = true := by decide +kernel
theorem fz_nm_Arithmetic : ∀ n ∈ (["java/lang/RuntimeException", "java/lang/Exception"] : List String), Bundle.fit n = true := by decide +kernel
theorem fz_x_IllegalArgument : "java/lang/IllegalArgumentException" ∈ fz_ex := by decide +kernel
theorem fz_ng_IllegalArgument : ∀ w ∈ (vx_atS RX7 89 "java/lang/IllegalArgumentException" ["java/lang/RuntimeException", "java/lang/Exception"]).filter (fun w => !goodWord w), w ∈ fz_B "java/lang/IllegalArgumentException" := by decide +kernel
theorem fz_ot_IllegalArgument : ∀ w ∈ Cond.classLink RX7 85 "java/lang/IllegalArgumentException" :: Cond.initialized "java/lang/IllegalArgumentException" :: vx_atS RX7 89 "java/lang/IllegalArgumentException" ["java/lang/RuntimeException", "java/lang/Exception"], vx_ot w = true := by decide +kernel
def fz_w_IllegalArgument : List Cond := Cond.classLink RX7 85 "java/lang/IllegalArgumentException" :: Cond.initialized "java/lang/IllegalArgumentException" :: (vx_atS RX7 89 "java/lang/IllegalArgumentException" ["java/lang/RuntimeException", "java/lang/Exception"]).filter goodWord
theorem fz_wi_IllegalArgument : ∀ w ∈ fz_w_IllegalArgument, w ∈ lw_tbl := by decide +kernel
theorem fz_wg_IllegalArgument : fz_w_IllegalArgument.all goodWord = true := by decide +kernel
theorem fz_nm_IllegalArgument : ∀ n ∈ (["java/lang/RuntimeException", "java/lang/Exception"] : List String), Bundle.fit n = true := by decide +kernel
theorem fz_x_IllegalState : "java/lang/IllegalStateException" ∈ fz_ex := by decide +kernel
theorem fz_ng_IllegalState : ∀ w ∈ (vx_atS RX7 115 "java/lang/IllegalStateException" ["java/lang/RuntimeException", "java/lang/Exception"]).filter (fun w => !goodWord w), w ∈ fz_B "java/lang/IllegalStateException" := by decide +kernel
theorem fz_ot_IllegalState : ∀ w ∈ Cond.classLink RX7 111 "java/lang/IllegalStateException" :: Cond.initialized "java/lang/IllegalStateException" :: vx_atS RX7 115 "java/lang/IllegalStateException" ["java/lang/RuntimeException", "java/lang/Exception"], vx_ot w = true := by decide +kernel
def fz_w_IllegalState : List Cond := Cond.classLink RX7 111 "java/lang/IllegalStateException" :: Cond.initialized "java/lang/IllegalStateException" :: (vx_atS RX7 115 "java/lang/IllegalStateException" ["java/lang/RuntimeException", "java/lang/Exception"]).filter goodWord
theorem fz_wi_IllegalState : ∀ w ∈ fz_w_IllegalState, w ∈ lw_tbl := by decide +kernel
theorem fz_wg_IllegalState : fz_w_IllegalState.all goodWord = true := by decide +kernel
theorem fz_nm_IllegalState : ∀ n ∈ (["java/lang/RuntimeException", "java/lang/Exception"] : List String), Bundle.fit n = true := by decide +kernel
theorem fz_x_IndexOutOfBounds : "java/lang/IndexOutOfBoundsException" ∈ fz_ex := by decide +kernel
theorem fz_ng_IndexOutOfBounds : ∀ w ∈ (vx_atS RX7 127 "java/lang/IndexOutOfBoundsException" ["java/lang/RuntimeException", "java/lang/Exception"]).filter (fun w => !goodWord w), w ∈ fz_B "java/lang/IndexOutOfBoundsException" := by decide +kernel
theorem fz_ot_IndexOutOfBounds : ∀ w ∈ Cond.classLink RX7 123 "java/lang/IndexOutOfBoundsException" :: Cond.initialized "java/lang/IndexOutOfBoundsException" :: vx_atS RX7 127 "java/lang/IndexOutOfBoundsException" ["java/lang/RuntimeException", "java/lang/Exception"], vx_ot w = true := by decide +kernel
def fz_w_IndexOutOfBounds : List Cond := Cond.classLink RX7 123 "java/lang/IndexOutOfBoundsException" :: Cond.initialized "java/lang/IndexOutOfBoundsException" :: (vx_atS RX7 127 "java/lang/IndexOutOfBoundsException" ["java/lang/RuntimeException", "java/lang/Exception"]).filter goodWord
theorem fz_wi_IndexOutOfBounds : ∀ w ∈ fz_w_IndexOutOfBounds, w ∈ lw_tbl := by decide +kernel
theorem fz_wg_IndexOutOfBounds : fz_w_IndexOutOfBounds.all goodWord = true := by decide +kernel
theorem fz_nm_IndexOutOfBounds : ∀ n ∈ (["java/lang/RuntimeException", "java/lang/Exception"] : List String), Bundle.fit n = true := by decide +kernel
theorem fz_x_UnsupportedOperation : "java/lang/UnsupportedOperationException" ∈ fz_ex := by decide +kernel
theorem fz_ng_UnsupportedOperation : ∀ w ∈ (vx_atS RX7 110 "java/lang/UnsupportedOperationException" ["java/lang/RuntimeException", "java/lang/Exception"]).filter (fun w => !goodWord w), w ∈ fz_B "java/lang/UnsupportedOperationException" := by decide +kernel
theorem fz_ot_UnsupportedOperation : ∀ w ∈ Cond.classLink RX7 106 "java/lang/UnsupportedOperationException" :: Cond.initialized "java/lang/UnsupportedOperationException" :: vx_atS RX7 110 "java/lang/UnsupportedOperationException" ["java/lang/RuntimeException", "java/lang/Exception"], vx_ot w = true := by decide +kernel
def fz_w_UnsupportedOperation : List Cond := Cond.classLink RX7 106 "java/lang/UnsupportedOperationException" :: Cond.initialized "java/lang/UnsupportedOperationException" :: (vx_atS RX7 110 "java/lang/UnsupportedOperationException" ["java/lang/RuntimeException", "java/lang/Exception"]).filter goodWord
theorem fz_wi_UnsupportedOperation : ∀ w ∈ fz_w_UnsupportedOperation, w ∈ lw_tbl := by decide +kernel
theorem fz_wg_UnsupportedOperation : fz_w_UnsupportedOperation.all goodWord = true := by decide +kernel
theorem fz_nm_UnsupportedOperation : ∀ n ∈ (["java/lang/RuntimeException", "java/lang/Exception"] : List String), Bundle.fit n = true := by decide +kernel
theorem fz_x_NoSuchElement : "java/util/NoSuchElementException" ∈ fz_ex := by decide +kernel
-- exceptions: {'java/lang/ArithmeticException': (357, (361, '["java/lang/RuntimeException", "java/lang/Exception"]')), 'java/lang/IllegalArgumentException': (85, (89, '["java/lang/RuntimeException", "java/lang/Exception"]')), 'java/lang/IllegalStateException': (111, (115, '["java/lang/RuntimeException", "java/lang/Exception"]')), 'java/lang/IndexOutOfBoundsException': (123, (127, '["java/lang/RuntimeException", "java/lang/Exception"]')), 'java/lang/UnsupportedOperationException': (106, (110, '["java/lang/RuntimeException", "java/lang/Exception"]')), 'java/util/NoSuchElementException': (165, (169, '["java/lang/RuntimeException", "java/lang/Exception"]'))}
theorem fz_s_87 : (87, "a number is out of range") ∈ fz_strs := by decide +kernel
theorem fz_s_100 : (100, "the joint has no length or a place would not turn to the left") ∈ fz_strs := by decide +kernel
theorem fz_s_108 : (108, "a stone is set") ∈ fz_strs := by decide +kernel
theorem fz_s_113 : (113, "there are 8 joints") ∈ fz_strs := by decide +kernel
theorem fz_s_125 : (125, "there is no such joint") ∈ fz_strs := by decide +kernel
theorem fz_s_131 : (131, "a place beside the joint is filled") ∈ fz_strs := by decide +kernel
theorem fz_s_140 : (140, "the density is out of range") ∈ fz_strs := by decide +kernel
theorem fz_s_151 : (151, "there is no such place") ∈ fz_strs := by decide +kernel
theorem fz_s_163 : (163, "the grip is out of range") ∈ fz_strs := by decide +kernel
theorem fz_s_167 : (167, "there are less than 2 places") ∈ fz_strs := by decide +kernel
theorem fz_s_174 : (174, "the arch would not be safe") ∈ fz_strs := by decide +kernel
theorem fz_s_184 : (184, "the arch would not be safe with the load 0") ∈ fz_strs := by decide +kernel
theorem fz_s_208 : (208, "there are 6 kinds") ∈ fz_strs := by decide +kernel
theorem fz_s_217 : (217, "there is no such kind") ∈ fz_strs := by decide +kernel
theorem fz_s_233 : (233, "the place can be cut from no block that there is") ∈ fz_strs := by decide +kernel
theorem fz_s_235 : (235, "there are 4 masons") ∈ fz_strs := by decide +kernel
theorem fz_s_244 : (244, "there is no such place, kind or mason") ∈ fz_strs := by decide +kernel
theorem fz_s_246 : (246, "there is no such block left, or the place cannot be cut from it") ∈ fz_strs := by decide +kernel
theorem fz_s_248 : (248, "there are 40 stones") ∈ fz_strs := by decide +kernel
theorem fz_s_273 : (273, "there is no such stone") ∈ fz_strs := by decide +kernel
theorem fz_s_291 : (291, "there is no sign there") ∈ fz_strs := by decide +kernel
theorem fz_s_296 : (296, "there is no such stone or place") ∈ fz_strs := by decide +kernel
theorem fz_s_306 : (306, "the strength is out of range") ∈ fz_strs := by decide +kernel
theorem fz_s_308 : (308, "there is a centre, or the arch stands") ∈ fz_strs := by decide +kernel
theorem fz_s_313 : (313, "the stone does not fit") ∈ fz_strs := by decide +kernel
theorem fz_s_321 : (321, "the stone, the place or the centre is not fit for it") ∈ fz_strs := by decide +kernel
theorem fz_s_330 : (330, "the place is empty") ∈ fz_strs := by decide +kernel
theorem fz_s_332 : (332, "there is no centre, or not all places are filled, or too few") ∈ fz_strs := by decide +kernel
theorem fz_s_337 : (337, "the arch is not safe") ∈ fz_strs := by decide +kernel
theorem fz_s_339 : (339, "the load is out of range") ∈ fz_strs := by decide +kernel
theorem fz_s_341 : (341, "the arch does not stand") ∈ fz_strs := by decide +kernel
theorem fz_s_346 : (346, "the number of days is out of range") ∈ fz_strs := by decide +kernel
theorem fz_s_359 : (359, "no block was cut") ∈ fz_strs := by decide +kernel
theorem fz_s_362 : (362, "there are no places") ∈ fz_strs := by decide +kernel
end
section
def v_c_X2_init : List Cond := .code yX2_init cX2_init 1 none :: ([.methodLink RX2 1 objectInit, .instanceMethod objectInit, .code objectInit ⟨#[0xb1]⟩ 1 none, .fieldLink RX2 7 "VoussoirYard$Joint" "innerX" "I", .fieldLink RX2 13 "VoussoirYard$Joint" "innerY" "I", .fieldLink RX2 16 "VoussoirYard$Joint" "outerX" "I", .fieldLink RX2 19 "VoussoirYard$Joint" "outerY" "I"] ++ (wsX20))
set_option maxRecDepth 20000 in
theorem i_c_X2_init : ∀ w ∈ v_c_X2_init, w ∈ lw_tbl := List.forall_mem_cons.mpr ⟨List.mem_of_getElem? (i := 107) (by decide +kernel), List.forall_mem_append.mpr ⟨List.forall_mem_cons.mpr ⟨List.mem_of_getElem? (i := 108) (by decide +kernel), List.forall_mem_cons.mpr ⟨List.mem_of_getElem? (i := 94) (by decide +kernel), List.forall_mem_cons.mpr ⟨List.mem_of_getElem? (i := 95) (by decide +kernel), List.forall_mem_cons.mpr ⟨List.mem_of_getElem? (i := 109) (by decide +kernel), List.forall_mem_cons.mpr ⟨List.mem_of_getElem? (i := 113) (by decide +kernel), List.forall_mem_cons.mpr ⟨List.mem_of_getElem? (i := 117) (by decide +kernel), List.forall_mem_cons.mpr ⟨List.mem_of_getElem? (i := 121) (by decide +kernel), fun _ h => absurd h List.not_mem_nil⟩⟩⟩⟩⟩⟩⟩, inX2⟩⟩
set_option maxHeartbeats 4000000 in
set_option maxRecDepth 100000 in
theorem c_X2_init (l : Launch) (dC : Nat → ClassId) (dI : Nat → Nat → Nat) (e0 : Nat) (h0 : Nat) (sz : Nat) : Met l yX2_init v_c_X2_init ({ frames := 1, cells := 0, slots := 0, locals := 30 }) (fz_P (dC, dI) e0 [(h0, .inr (7, [.int 0, .int 0, .int 0, .int 0]))] [] sz (va_A [(h0, .inr (7, [.int 0, .int 0, .int 0, .int 0]))] sz) [.ref h0]) (va_Qv (fun (u : Unit) => True) (fun (u : Unit) (t : State) => va_P (dC, dI) vwCl [(h0, .inr (7, [.int 0, .int 0, .int 0, .int 0]))] t.heap ∧ va_K (dC, dI) vwCl [] t ∧ va_D (va_A [(h0, .inr (7, [.int 0, .int 0, .int 0, .int 0]))] sz) [(h0, .inr (7, [.int 0, .int 0, .int 0, .int 0]))]) (va_A [(h0, .inr (7, [.int 0, .int 0, .int 0, .int 0]))] sz)) 0 0 (va_A [(h0, .inr (7, [.int 0, .int 0, .int 0, .int 0]))] sz) := by
  refine Met.ofW (cc := cX2_init) (maxL := 1) (ret := none) (by decide) rfl ?_
  intro p e s m args below meth c s₁ B hml hv
  obtain ⟨rfl, hsz, hP, hK, hD0, hAm⟩ := hv
  have hx := B.exec
  have hb := B.bytes
  have hr := B.returns
  have hts := atoms_spec (ws := v_c_X2_init) B.pre
  have hown : s.vm.findClass RX2 = some m.cls := findClass_of_methodNamed B.named
  have hlocks := B.notSynchronized
  have hin : meth.name = "<init>" := (name_of_methodNamed B.named B.method).1
  subst hsz
  have hD := hD0.self (sz := s.heap.size)
  generalize hAe : va_A [(h0, .inr (7, [.int 0, .int 0, .int 0, .int 0]))] s.heap.size = A at hD hAm ⊢
  have hA : ∀ q : Nat, s.heap.size ≤ q → A q := fun q h => by rw [← hAe]; exact Or.inr h
  have hS : va_S A s.heap s.heap [] := va_S.rf
  have hP : va_P (dC, dI) vwCl [(h0, .inr (7, [.int 0, .int 0, .int 0, .int 0]))] s.heap := hP
  have hl := lv_entry ([.ref h0]) (n := 1) (Nat.le_of_ble_eq_true rfl)
  rw [lg_entry_eq]
  generalize (lg_sl ([.ref h0]) ++ List.replicate (1 - (lg_sl ([.ref h0])).length) Slot.unset).toArray = ls at hl ⊢
  have hl : lv_has ls 1 [(0, .ref h0)] := hl
  refine lv_aload_n hx hb dX2_init_0 rfl (lv_at hl 0 rfl) ?_
  refine W.objInit hx hb hown (hts _ (List.mem_cons_of_mem _ (List.mem_append_left _ (List.mem_of_getElem? (i := 0) rfl)))) (hts _ (List.mem_cons_of_mem _ (List.mem_append_left _ (List.mem_of_getElem? (i := 1) rfl)))) (hts _ (List.mem_cons_of_mem _ (List.mem_append_left _ (List.mem_of_getElem? (i := 2) rfl)))) rfl (by rw [hml]; exact hl.1) rfl dX2_init_1 (Nat.le_of_ble_eq_true rfl) (Nat.le_of_ble_eq_true rfl) ?_
  refine W.eq (g2 := F0 m 4 ls []) rfl ?_
  refine lv_aload_n hx hb dX2_init_4 rfl (lv_at hl 0 rfl) ?_
  refine lv_iconst (v := 0) hx hb dX2_init_5 (by decide) ?_
  refine va_put (D := (dC, dI)) (ci := 7) (v := .int 0) (ty := .int) (C := RX2) (T := TX2) (N := 4) hx hb hts (fun _ h9 => List.mem_cons_of_mem _ (List.mem_append_right _ (h9))) tyX2 tyX2_ok nmX2 hown hK hP hD hS 0 rfl rfl 0 (by decide) (hts _ (List.mem_cons_of_mem _ (List.mem_append_left _ (List.mem_of_getElem? (i := 3) rfl)))) (fun _ h9 => h9) rfl (by decide +kernel) rfl rfl (Nat.le_of_ble_eq_true rfl) dX2_init_6 (fun H locs hP hD hS => ?_)
  have hP : va_P (dC, dI) vwCl [(h0, .inr (7, [.int 0, .int 0, .int 0, .int 0]))] H := hP
  have hD : va_D A [(h0, .inr (7, [.int 0, .int 0, .int 0, .int 0]))] := hD
  refine lv_aload_n hx hb dX2_init_9 rfl (lv_at hl 0 rfl) ?_
  refine lv_iconst (v := 0) hx hb dX2_init_10 (by decide) ?_
  refine va_put (D := (dC, dI)) (ci := 7) (v := .int 0) (ty := .int) (C := RX2) (T := TX2) (N := 4) hx hb hts (fun _ h9 => List.mem_cons_of_mem _ (List.mem_append_right _ (h9))) tyX2 tyX2_ok nmX2 hown hK hP hD hS 0 rfl rfl 1 (by decide) (hts _ (List.mem_cons_of_mem _ (List.mem_append_left _ (List.mem_of_getElem? (i := 4) rfl)))) (fun _ h9 => h9) rfl (by decide +kernel) rfl rfl (Nat.le_of_ble_eq_true rfl) dX2_init_11 (fun H locs hP hD hS => ?_)
  have hP : va_P (dC, dI) vwCl [(h0, .inr (7, [.int 0, .int 0, .int 0, .int 0]))] H := hP
  have hD : va_D A [(h0, .inr (7, [.int 0, .int 0, .int 0, .int 0]))] := hD
  refine lv_aload_n hx hb dX2_init_14 rfl (lv_at hl 0 rfl) ?_
  refine lv_iconst (v := 0) hx hb dX2_init_15 (by decide) ?_
  refine va_put (D := (dC, dI)) (ci := 7) (v := .int 0) (ty := .int) (C := RX2) (T := TX2) (N := 4) hx hb hts (fun _ h9 => List.mem_cons_of_mem _ (List.mem_append_right _ (h9))) tyX2 tyX2_ok nmX2 hown hK hP hD hS 0 rfl rfl 2 (by decide) (hts _ (List.mem_cons_of_mem _ (List.mem_append_left _ (List.mem_of_getElem? (i := 5) rfl)))) (fun _ h9 => h9) rfl (by decide +kernel) rfl rfl (Nat.le_of_ble_eq_true rfl) dX2_init_16 (fun H locs hP hD hS => ?_)
  have hP : va_P (dC, dI) vwCl [(h0, .inr (7, [.int 0, .int 0, .int 0, .int 0]))] H := hP
  have hD : va_D A [(h0, .inr (7, [.int 0, .int 0, .int 0, .int 0]))] := hD
  refine lv_aload_n hx hb dX2_init_19 rfl (lv_at hl 0 rfl) ?_
  refine lv_iconst (v := 0) hx hb dX2_init_20 (by decide) ?_
  refine va_put (D := (dC, dI)) (ci := 7) (v := .int 0) (ty := .int) (C := RX2) (T := TX2) (N := 4) hx hb hts (fun _ h9 => List.mem_cons_of_mem _ (List.mem_append_right _ (h9))) tyX2 tyX2_ok nmX2 hown hK hP hD hS 0 rfl rfl 3 (by decide) (hts _ (List.mem_cons_of_mem _ (List.mem_append_left _ (List.mem_of_getElem? (i := 6) rfl)))) (fun _ h9 => h9) rfl (by decide +kernel) rfl rfl (Nat.le_of_ble_eq_true rfl) dX2_init_21 (fun H locs hP hD hS => ?_)
  have hP : va_P (dC, dI) vwCl [(h0, .inr (7, [.int 0, .int 0, .int 0, .int 0]))] H := hP
  have hD : va_D A [(h0, .inr (7, [.int 0, .int 0, .int 0, .int 0]))] := hD
  have hP9 := hP.sub (ws' := [(h0, .inr (7, [.int 0, .int 0, .int 0, .int 0]))]) [0] rfl
  have hD9 := hD.sub (ws' := [(h0, .inr (7, [.int 0, .int 0, .int 0, .int 0]))]) [0] (by decide) rfl
  have hK9 := hK.sub (tys' := []) [] rfl
  refine W.widen (k := 0) (n := 0) (Nat.le_of_ble_eq_true rfl) (Nat.le_of_ble_eq_true rfl) ?_
  exact W.vret hx hb hr (fun t ht hW => ⟨⟨(), rfl, trivial, ⟨by rw [ht]; exact hP9, va_K.moved hW.alike hK9, hD9⟩⟩, hS.F ht⟩) hS.2.2 dX2_init_24
def v_c_X2_moveTo : List Cond := .code yX2_moveTo cX2_moveTo 5 none :: ([.fieldLink RX2 7 "VoussoirYard$Joint" "innerX" "I", .fieldLink RX2 13 "VoussoirYard$Joint" "innerY" "I", .fieldLink RX2 16 "VoussoirYard$Joint" "outerX" "I", .fieldLink RX2 19 "VoussoirYard$Joint" "outerY" "I"] ++ (wsX20))
set_option maxRecDepth 20000 in
theorem i_c_X2_moveTo : ∀ w ∈ v_c_X2_moveTo, w ∈ lw_tbl := List.forall_mem_cons.mpr ⟨List.mem_of_getElem? (i := 516) (by decide +kernel), List.forall_mem_append.mpr ⟨List.forall_mem_cons.mpr ⟨List.mem_of_getElem? (i := 109) (by decide +kernel), List.forall_mem_cons.mpr ⟨List.mem_of_getElem? (i := 113) (by decide +kernel), List.forall_mem_cons.mpr ⟨List.mem_of_getElem? (i := 117) (by decide +kernel), List.forall_mem_cons.mpr ⟨List.mem_of_getElem? (i := 121) (by decide +kernel), fun _ h => absurd h List.not_mem_nil⟩⟩⟩⟩, inX2⟩⟩
set_option maxHeartbeats 4000000 in
set_option maxRecDepth 100000 in
theorem c_X2_moveTo (l : Launch) (dC : Nat → ClassId) (dI : Nat → Nat → Nat) (e0 : Nat) (h0 : Nat) (p0 p1 p2 p3 x0 x1 x2 x3 : Int32) (sz : Nat) : Met l yX2_moveTo v_c_X2_moveTo ({ frames := 0, cells := 0, slots := 0, locals := 0 }) (fz_P (dC, dI) e0 [(h0, .inr (7, [.int x0, .int x1, .int x2, .int x3]))] [] sz (va_A [(h0, .inr (7, [.int x0, .int x1, .int x2, .int x3]))] sz) [.ref h0, .int p0, .int p1, .int p2, .int p3]) (va_Qv (fun (u : Unit) => True) (fun (u : Unit) (t : State) => va_P (dC, dI) vwCl [(h0, .inr (7, [.int p0, .int p1, .int p2, .int p3]))] t.heap ∧ va_K (dC, dI) vwCl [] t ∧ va_D (va_A [(h0, .inr (7, [.int x0, .int x1, .int x2, .int x3]))] sz) [(h0, .inr (7, [.int p0, .int p1, .int p2, .int p3]))]) (va_A [(h0, .inr (7, [.int x0, .int x1, .int x2, .int x3]))] sz)) 0 0 (va_A [(h0, .inr (7, [.int x0, .int x1, .int x2, .int x3]))] sz) := by
  refine Met.ofW (cc := cX2_moveTo) (maxL := 5) (ret := none) (by decide) rfl ?_
  intro p e s m args below meth c s₁ B hml hv
  obtain ⟨rfl, hsz, hP, hK, hD0, hAm⟩ := hv
  have hx := B.exec
  have hb := B.bytes
  have hr := B.returns
  have hts := atoms_spec (ws := v_c_X2_moveTo) B.pre
  have hown : s.vm.findClass RX2 = some m.cls := findClass_of_methodNamed B.named
  have hlocks := B.notSynchronized
  subst hsz
  have hD := hD0.self (sz := s.heap.size)
  generalize hAe : va_A [(h0, .inr (7, [.int x0, .int x1, .int x2, .int x3]))] s.heap.size = A at hD hAm ⊢
  have hA : ∀ q : Nat, s.heap.size ≤ q → A q := fun q h => by rw [← hAe]; exact Or.inr h
  have hS : va_S A s.heap s.heap [] := va_S.rf
  have hP : va_P (dC, dI) vwCl [(h0, .inr (7, [.int x0, .int x1, .int x2, .int x3]))] s.heap := hP
  have hl := lv_entry ([.ref h0, .int p0, .int p1, .int p2, .int p3]) (n := 5) (Nat.le_of_ble_eq_true rfl)
  rw [lg_entry_eq]
  generalize (lg_sl ([.ref h0, .int p0, .int p1, .int p2, .int p3]) ++ List.replicate (5 - (lg_sl ([.ref h0, .int p0, .int p1, .int p2, .int p3])).length) Slot.unset).toArray = ls at hl ⊢
  have hl : lv_has ls 5 [(0, .ref h0), (1, .int p0), (2, .int p1), (3, .int p2), (4, .int p3)] := hl
  refine lv_aload_n hx hb dX2_moveTo_0 rfl (lv_at hl 0 rfl) ?_
  refine lv_iload_n hx hb dX2_moveTo_1 rfl (lv_at hl 1 rfl) ?_
  refine va_put (D := (dC, dI)) (ci := 7) (v := .int p0) (ty := .int) (C := RX2) (T := TX2) (N := 4) hx hb hts (fun _ h9 => List.mem_cons_of_mem _ (List.mem_append_right _ (h9))) tyX2 tyX2_ok nmX2 hown hK hP hD hS 0 rfl rfl 0 (by decide) (hts _ (List.mem_cons_of_mem _ (List.mem_append_left _ (List.mem_of_getElem? (i := 0) rfl)))) (fun _ h9 => h9) rfl (by decide +kernel) rfl rfl (Nat.le_of_ble_eq_true rfl) dX2_moveTo_2 (fun H locs hP hD hS => ?_)
  have hP : va_P (dC, dI) vwCl [(h0, .inr (7, [.int p0, .int x1, .int x2, .int x3]))] H := hP
  have hD : va_D A [(h0, .inr (7, [.int p0, .int x1, .int x2, .int x3]))] := hD
  refine lv_aload_n hx hb dX2_moveTo_5 rfl (lv_at hl 0 rfl) ?_
  refine lv_iload_n hx hb dX2_moveTo_6 rfl (lv_at hl 2 rfl) ?_
  refine va_put (D := (dC, dI)) (ci := 7) (v := .int p1) (ty := .int) (C := RX2) (T := TX2) (N := 4) hx hb hts (fun _ h9 => List.mem_cons_of_mem _ (List.mem_append_right _ (h9))) tyX2 tyX2_ok nmX2 hown hK hP hD hS 0 rfl rfl 1 (by decide) (hts _ (List.mem_cons_of_mem _ (List.mem_append_left _ (List.mem_of_getElem? (i := 1) rfl)))) (fun _ h9 => h9) rfl (by decide +kernel) rfl rfl (Nat.le_of_ble_eq_true rfl) dX2_moveTo_7 (fun H locs hP hD hS => ?_)
  have hP : va_P (dC, dI) vwCl [(h0, .inr (7, [.int p0, .int p1, .int x2, .int x3]))] H := hP
  have hD : va_D A [(h0, .inr (7, [.int p0, .int p1, .int x2, .int x3]))] := hD
  refine lv_aload_n hx hb dX2_moveTo_10 rfl (lv_at hl 0 rfl) ?_
  refine lv_iload_n hx hb dX2_moveTo_11 rfl (lv_at hl 3 rfl) ?_
  refine va_put (D := (dC, dI)) (ci := 7) (v := .int p2) (ty := .int) (C := RX2) (T := TX2) (N := 4) hx hb hts (fun _ h9 => List.mem_cons_of_mem _ (List.mem_append_right _ (h9))) tyX2 tyX2_ok nmX2 hown hK hP hD hS 0 rfl rfl 2 (by decide) (hts _ (List.mem_cons_of_mem _ (List.mem_append_left _ (List.mem_of_getElem? (i := 2) rfl)))) (fun _ h9 => h9) rfl (by decide +kernel) rfl rfl (Nat.le_of_ble_eq_true rfl) dX2_moveTo_12 (fun H locs hP hD hS => ?_)
  have hP : va_P (dC, dI) vwCl [(h0, .inr (7, [.int p0, .int p1, .int p2, .int x3]))] H := hP
  have hD : va_D A [(h0, .inr (7, [.int p0, .int p1, .int p2, .int x3]))] := hD
  refine lv_aload_n hx hb dX2_moveTo_15 rfl (lv_at hl 0 rfl) ?_
  refine lv_iload hx hb dX2_moveTo_16 (lv_at hl 4 rfl) ?_
  refine va_put (D := (dC, dI)) (ci := 7) (v := .int p3) (ty := .int) (C := RX2) (T := TX2) (N := 4) hx hb hts (fun _ h9 => List.mem_cons_of_mem _ (List.mem_append_right _ (h9))) tyX2 tyX2_ok nmX2 hown hK hP hD hS 0 rfl rfl 3 (by decide) (hts _ (List.mem_cons_of_mem _ (List.mem_append_left _ (List.mem_of_getElem? (i := 3) rfl)))) (fun _ h9 => h9) rfl (by decide +kernel) rfl rfl (Nat.le_of_ble_eq_true rfl) dX2_moveTo_18 (fun H locs hP hD hS => ?_)
  have hP : va_P (dC, dI) vwCl [(h0, .inr (7, [.int p0, .int p1, .int p2, .int p3]))] H := hP
  have hD : va_D A [(h0, .inr (7, [.int p0, .int p1, .int p2, .int p3]))] := hD
  have hP9 := hP.sub (ws' := [(h0, .inr (7, [.int p0, .int p1, .int p2, .int p3]))]) [0] rfl
  have hD9 := hD.sub (ws' := [(h0, .inr (7, [.int p0, .int p1, .int p2, .int p3]))]) [0] (by decide) rfl
  have hK9 := hK.sub (tys' := []) [] rfl
  refine W.widen (k := 0) (n := 0) (Nat.le_of_ble_eq_true rfl) (Nat.le_of_ble_eq_true rfl) ?_
  exact W.vret hx hb hr (fun t ht hW => ⟨⟨(), rfl, trivial, ⟨by rw [ht]; exact hP9, va_K.moved hW.alike hK9, hD9⟩⟩, hS.F ht⟩) hS.2.2 dX2_moveTo_21
def v_c_X2_hasLength : List Cond := .code yX2_hasLength cX2_hasLength 1 (some .boolean) :: ([.fieldLink RX2 7 "VoussoirYard$Joint" "innerX" "I", .fieldLink RX2 16 "VoussoirYard$Joint" "outerX" "I", .fieldLink RX2 13 "VoussoirYard$Joint" "innerY" "I", .fieldLink RX2 19 "VoussoirYard$Joint" "outerY" "I"] ++ (wsX20))
set_option maxRecDepth 20000 in
theorem i_c_X2_hasLength : ∀ w ∈ v_c_X2_hasLength, w ∈ lw_tbl := List.forall_mem_cons.mpr ⟨List.mem_of_getElem? (i := 524) (by decide +kernel), List.forall_mem_append.mpr ⟨List.forall_mem_cons.mpr ⟨List.mem_of_getElem? (i := 109) (by decide +kernel), List.forall_mem_cons.mpr ⟨List.mem_of_getElem? (i := 117) (by decide +kernel), List.forall_mem_cons.mpr ⟨List.mem_of_getElem? (i := 113) (by decide +kernel), List.forall_mem_cons.mpr ⟨List.mem_of_getElem? (i := 121) (by decide +kernel), fun _ h => absurd h List.not_mem_nil⟩⟩⟩⟩, inX2⟩⟩
set_option maxHeartbeats 4000000 in
set_option maxRecDepth 100000 in
theorem c_X2_hasLength (l : Launch) (dC : Nat → ClassId) (dI : Nat → Nat → Nat) (e0 : Nat) (h0 : Nat) (p0 p1 p2 p3 : Int32) (sz : Nat) : Met l yX2_hasLength v_c_X2_hasLength ({ frames := 0, cells := 0, slots := 0, locals := 0 }) (fz_P (dC, dI) e0 [(h0, .inr (7, [.int p0, .int p1, .int p2, .int p3]))] [] sz (fun q : Nat => sz ≤ q) [.ref h0]) (va_Qi (fun (r : Int32) (u : Unit) => (r = 1 ∧ (¬ (p0 = p2 ∧ p1 = p3))) ∨ (r = 0 ∧ (p0 = p2 ∧ p1 = p3))) (fun (u : Unit) (t : State) => True) (fun q : Nat => sz ≤ q)) 0 0 (fun q : Nat => sz ≤ q) := by
  refine Met.ofW (cc := cX2_hasLength) (maxL := 1) (ret := (some .boolean)) (by decide) rfl ?_
  intro p e s m args below meth c s₁ B hml hv
  obtain ⟨rfl, hsz, hP, hK, hD0, hAm⟩ := hv
  have hx := B.exec
  have hb := B.bytes
  have hr := B.returns
  have hts := atoms_spec (ws := v_c_X2_hasLength) B.pre
  have hown : s.vm.findClass RX2 = some m.cls := findClass_of_methodNamed B.named
  have hlocks := B.notSynchronized
  subst hsz
  have hD := hD0
  generalize hAe : (fun q : Nat => s.heap.size ≤ q) = A at hAm ⊢
  have hA : ∀ q : Nat, s.heap.size ≤ q → A q := fun q h => by rw [← hAe]; exact h
  have hS : va_S A s.heap s.heap [] := va_S.rf
  have hP : va_P (dC, dI) vwCl [(h0, .inr (7, [.int p0, .int p1, .int p2, .int p3]))] s.heap := hP
  have hl := lv_entry ([.ref h0]) (n := 1) (Nat.le_of_ble_eq_true rfl)
  rw [lg_entry_eq]
  generalize (lg_sl ([.ref h0]) ++ List.replicate (1 - (lg_sl ([.ref h0])).length) Slot.unset).toArray = ls at hl ⊢
  have hl : lv_has ls 1 [(0, .ref h0)] := hl
  refine lv_aload_n hx hb dX2_hasLength_0 rfl (lv_at hl 0 rfl) ?_
  refine va_get (D := (dC, dI)) (ci := 7) (v := .int p0) (C := RX2) (T := TX2) (N := 4) hx hb hts (fun _ h9 => List.mem_cons_of_mem _ (List.mem_append_right _ (h9))) hown hK hP 0 rfl rfl 0 (by decide) (hts _ (List.mem_cons_of_mem _ (List.mem_append_left _ (List.mem_of_getElem? (i := 0) rfl)))) (fun _ h9 => h9) rfl dX2_hasLength_1 ?_
  refine lv_aload_n hx hb dX2_hasLength_4 rfl (lv_at hl 0 rfl) ?_
  refine va_get (D := (dC, dI)) (ci := 7) (v := .int p2) (C := RX2) (T := TX2) (N := 4) hx hb hts (fun _ h9 => List.mem_cons_of_mem _ (List.mem_append_right _ (h9))) hown hK hP 0 rfl rfl 2 (by decide) (hts _ (List.mem_cons_of_mem _ (List.mem_append_left _ (List.mem_of_getElem? (i := 1) rfl)))) (fun _ h9 => h9) rfl dX2_hasLength_5 ?_
  refine lv_icmp_ne (tgt := 22) hx hb dX2_hasLength_8 (by decide) (fun c_1 => ?_) (fun c_1 => ?_)
  · refine lv_iconst (v := 1) hx hb dX2_hasLength_22 (by decide) ?_
    refine lv_goto (tgt := 27) hx hb dX2_hasLength_23 (by decide) ?_
    refine W.widen (k := 0) (n := 0) (Nat.le_of_ble_eq_true rfl) (Nat.le_of_ble_eq_true rfl) ?_
    exact W.zret (v := 1) hx hb hr rfl (fun t ht hW => ⟨⟨1, (), rfl, Or.inl (⟨rfl, (by first | trivial | assumption | (simp_all [fz_in, fz_v]; done) | (simp [fz_in, fz_v] at *; done) | omega)⟩), trivial⟩, hS.F ht⟩) hS.2.2 dX2_hasLength_27
  · refine lv_aload_n hx hb dX2_hasLength_11 rfl (lv_at hl 0 rfl) ?_
    refine va_get (D := (dC, dI)) (ci := 7) (v := .int p1) (C := RX2) (T := TX2) (N := 4) hx hb hts (fun _ h9 => List.mem_cons_of_mem _ (List.mem_append_right _ (h9))) hown hK hP 0 rfl rfl 1 (by decide) (hts _ (List.mem_cons_of_mem _ (List.mem_append_left _ (List.mem_of_getElem? (i := 2) rfl)))) (fun _ h9 => h9) rfl dX2_hasLength_12 ?_
    refine lv_aload_n hx hb dX2_hasLength_15 rfl (lv_at hl 0 rfl) ?_
    refine va_get (D := (dC, dI)) (ci := 7) (v := .int p3) (C := RX2) (T := TX2) (N := 4) hx hb hts (fun _ h9 => List.mem_cons_of_mem _ (List.mem_append_right _ (h9))) hown hK hP 0 rfl rfl 3 (by decide) (hts _ (List.mem_cons_of_mem _ (List.mem_append_left _ (List.mem_of_getElem? (i := 3) rfl)))) (fun _ h9 => h9) rfl dX2_hasLength_16 ?_
    refine lv_icmp_eq (tgt := 26) hx hb dX2_hasLength_19 (by decide) (fun c_2 => ?_) (fun c_2 => ?_)
    · refine lv_iconst (v := 0) hx hb dX2_hasLength_26 (by decide) ?_
      refine W.widen (k := 0) (n := 0) (Nat.le_of_ble_eq_true rfl) (Nat.le_of_ble_eq_true rfl) ?_
      exact W.zret (v := 0) hx hb hr rfl (fun t ht hW => ⟨⟨0, (), rfl, Or.inr (⟨rfl, (by first | trivial | assumption | (simp_all [fz_in, fz_v]; done) | (simp [fz_in, fz_v] at *; done) | omega)⟩), trivial⟩, hS.F ht⟩) hS.2.2 dX2_hasLength_27
    · refine lv_iconst (v := 1) hx hb dX2_hasLength_22 (by decide) ?_
      refine lv_goto (tgt := 27) hx hb dX2_hasLength_23 (by decide) ?_
      refine W.widen (k := 0) (n := 0) (Nat.le_of_ble_eq_true rfl) (Nat.le_of_ble_eq_true rfl) ?_
      exact W.zret (v := 1) hx hb hr rfl (fun t ht hW => ⟨⟨1, (), rfl, Or.inl (⟨rfl, (by first | trivial | assumption | (simp_all [fz_in, fz_v]; done) | (simp [fz_in, fz_v] at *; done) | omega)⟩), trivial⟩, hS.F ht⟩) hS.2.2 dX2_hasLength_27
def v_c_X4_init : List Cond := .code yX4_init cX4_init 1 none :: ([.methodLink RX4 1 objectInit, .instanceMethod objectInit, .code objectInit ⟨#[0xb1]⟩ 1 none, .arrayClass .int, .fieldLink RX4 9 "VoussoirYard$Quad" "x" "[I", .fieldLink RX4 13 "VoussoirYard$Quad" "y" "[I"] ++ (wsX40))
set_option maxRecDepth 20000 in
theorem i_c_X4_init : ∀ w ∈ v_c_X4_init, w ∈ lw_tbl := List.forall_mem_cons.mpr ⟨List.mem_of_getElem? (i := 138) (by decide +kernel), List.forall_mem_append.mpr ⟨List.forall_mem_cons.mpr ⟨List.mem_of_getElem? (i := 139) (by decide +kernel), List.forall_mem_cons.mpr ⟨List.mem_of_getElem? (i := 94) (by decide +kernel), List.forall_mem_cons.mpr ⟨List.mem_of_getElem? (i := 95) (by decide +kernel), List.forall_mem_cons.mpr ⟨List.mem_of_getElem? (i := 147) (by decide +kernel), List.forall_mem_cons.mpr ⟨List.mem_of_getElem? (i := 140) (by decide +kernel), List.forall_mem_cons.mpr ⟨List.mem_of_getElem? (i := 141) (by decide +kernel), fun _ h => absurd h List.not_mem_nil⟩⟩⟩⟩⟩⟩, inX4⟩⟩
set_option maxHeartbeats 4000000 in
set_option maxRecDepth 100000 in
theorem c_X4_init (l : Launch) (dC : Nat → ClassId) (dI : Nat → Nat → Nat) (e0 : Nat) (h0 : Nat) (sz : Nat) : Met l yX4_init v_c_X4_init ({ frames := 1, cells := 2, slots := 8, locals := 30 }) (fz_P (dC, dI) e0 [(h0, .inr (9, [.null, .null]))] [] sz (va_A [(h0, .inr (9, [.null, .null]))] sz) [.ref h0]) (va_Qv (fun (u : Unit) => True) (fun (u : Unit) (t : State) => ∃ hx : Nat, ∃ hy : Nat, va_P (dC, dI) vwCl [(h0, .inr (9, [.ref hx, .ref hy]))] t.heap ∧ va_K (dC, dI) vwCl [] t ∧ va_D (va_A [(h0, .inr (9, [.null, .null]))] sz) [(h0, .inr (9, [.ref hx, .ref hy]))]) (va_A [(h0, .inr (9, [.null, .null]))] sz)) 2 8 (va_A [(h0, .inr (9, [.null, .null]))] sz) := by
  refine Met.ofW (cc := cX4_init) (maxL := 1) (ret := none) (by decide) rfl ?_
  intro p e s m args below meth c s₁ B hml hv
  obtain ⟨rfl, hsz, hP, hK, hD0, hAm⟩ := hv
  have hx := B.exec
  have hb := B.bytes
  have hr := B.returns
  have hts := atoms_spec (ws := v_c_X4_init) B.pre
  have hown : s.vm.findClass RX4 = some m.cls := findClass_of_methodNamed B.named
  have hlocks := B.notSynchronized
  have hin : meth.name = "<init>" := (name_of_methodNamed B.named B.method).1
  subst hsz
  have hD := hD0.self (sz := s.heap.size)
  generalize hAe : va_A [(h0, .inr (9, [.null, .null]))] s.heap.size = A at hD hAm ⊢
  have hA : ∀ q : Nat, s.heap.size ≤ q → A q := fun q h => by rw [← hAe]; exact Or.inr h
  have hS : va_S A s.heap s.heap [] := va_S.rf
  have hP : va_P (dC, dI) vwCl [(h0, .inr (9, [.null, .null]))] s.heap := hP
  have hl := lv_entry ([.ref h0]) (n := 1) (Nat.le_of_ble_eq_true rfl)
  rw [lg_entry_eq]
  generalize (lg_sl ([.ref h0]) ++ List.replicate (1 - (lg_sl ([.ref h0])).length) Slot.unset).toArray = ls at hl ⊢
  have hl : lv_has ls 1 [(0, .ref h0)] := hl
  refine lv_aload_n hx hb dX4_init_0 rfl (lv_at hl 0 rfl) ?_
  refine W.objInit hx hb hown (hts _ (List.mem_cons_of_mem _ (List.mem_append_left _ (List.mem_of_getElem? (i := 0) rfl)))) (hts _ (List.mem_cons_of_mem _ (List.mem_append_left _ (List.mem_of_getElem? (i := 1) rfl)))) (hts _ (List.mem_cons_of_mem _ (List.mem_append_left _ (List.mem_of_getElem? (i := 2) rfl)))) rfl (by rw [hml]; exact hl.1) rfl dX4_init_1 (Nat.le_of_ble_eq_true rfl) (Nat.le_of_ble_eq_true rfl) ?_
  refine W.eq (g2 := F0 m 4 ls []) rfl ?_
  refine lv_aload_n hx hb dX4_init_4 rfl (lv_at hl 0 rfl) ?_
  refine lv_iconst (v := 4) hx hb dX4_init_5 (by decide) ?_
  refine va_newa (atype := .int) (ty := .int) (a0 := (4, .inl (fun _ => 0))) (N' := 4) hx hb (hts _ (List.mem_cons_of_mem _ (List.mem_append_left _ (List.mem_of_getElem? (i := 3) rfl)))) rfl hK hP hD hS hA (fun _ => rfl) (by decide) (by decide) (by decide) (Nat.le_of_ble_eq_true rfl) (Nat.le_of_ble_eq_true rfl) dX4_init_6 (fun q_1 cA_1 H hK hP hD hS => ?_)
  have hK : va_K (dC, dI) vwCl [(cA_1, .int)] s := hK
  have hP : va_P (dC, dI) vwCl [(h0, .inr (9, [.null, .null])), (q_1, .inl (cA_1, 4, .inl (fun _ => 0)))] H := hP
  have hD : va_D A [(h0, .inr (9, [.null, .null])), (q_1, .inl (cA_1, 4, .inl (fun _ => 0)))] := hD
  refine W.widen (k := 1) (n := 4) (Nat.le_of_ble_eq_true rfl) (Nat.le_of_ble_eq_true rfl) ?_
  refine va_putF (D := (dC, dI)) (ci := 9) (v := .ref q_1) (ty := .array .int) (C := RX4) (T := TX4) (N := 2) hx hb hts (fun _ h9 => List.mem_cons_of_mem _ (List.mem_append_right _ (h9))) tyX4 tyX4_ok nmX4 hown hK hP hD hS 0 rfl rfl 0 (by decide) (hts _ (List.mem_cons_of_mem _ (List.mem_append_left _ (List.mem_of_getElem? (i := 4) rfl)))) (fun _ h9 => h9) rfl hin rfl (by decide +kernel) rfl rfl (Nat.le_of_ble_eq_true rfl) dX4_init_8 (fun H locs hP hD hS => ?_)
  have hP : va_P (dC, dI) vwCl [(h0, .inr (9, [.ref q_1, .null])), (q_1, .inl (cA_1, 4, .inl (fun _ => 0)))] H := hP
  have hD : va_D A [(h0, .inr (9, [.ref q_1, .null])), (q_1, .inl (cA_1, 4, .inl (fun _ => 0)))] := hD
  refine lv_aload_n hx hb dX4_init_11 rfl (lv_at hl 0 rfl) ?_
  refine lv_iconst (v := 4) hx hb dX4_init_12 (by decide) ?_
  refine va_newa (atype := .int) (ty := .int) (a0 := (4, .inl (fun _ => 0))) (N' := 4) hx hb (hts _ (List.mem_cons_of_mem _ (List.mem_append_left _ (List.mem_of_getElem? (i := 3) rfl)))) rfl hK hP hD hS hA (fun _ => rfl) (by decide) (by decide) (by decide) (Nat.le_of_ble_eq_true rfl) (Nat.le_of_ble_eq_true rfl) dX4_init_13 (fun q_2 cA_2 H hK hP hD hS => ?_)
  have hK : va_K (dC, dI) vwCl [(cA_1, .int), (cA_2, .int)] s := hK
  have hP : va_P (dC, dI) vwCl [(h0, .inr (9, [.ref q_1, .null])), (q_1, .inl (cA_1, 4, .inl (fun _ => 0))), (q_2, .inl (cA_2, 4, .inl (fun _ => 0)))] H := hP
  have hD : va_D A [(h0, .inr (9, [.ref q_1, .null])), (q_1, .inl (cA_1, 4, .inl (fun _ => 0))), (q_2, .inl (cA_2, 4, .inl (fun _ => 0)))] := hD
  refine W.widen (k := 2) (n := 8) (Nat.le_of_ble_eq_true rfl) (Nat.le_of_ble_eq_true rfl) ?_
  refine va_putF (D := (dC, dI)) (ci := 9) (v := .ref q_2) (ty := .array .int) (C := RX4) (T := TX4) (N := 2) hx hb hts (fun _ h9 => List.mem_cons_of_mem _ (List.mem_append_right _ (h9))) tyX4 tyX4_ok nmX4 hown hK hP hD hS 0 rfl rfl 1 (by decide) (hts _ (List.mem_cons_of_mem _ (List.mem_append_left _ (List.mem_of_getElem? (i := 5) rfl)))) (fun _ h9 => h9) rfl hin rfl (by decide +kernel) rfl rfl (Nat.le_of_ble_eq_true rfl) dX4_init_15 (fun H locs hP hD hS => ?_)
  have hP : va_P (dC, dI) vwCl [(h0, .inr (9, [.ref q_1, .ref q_2])), (q_1, .inl (cA_1, 4, .inl (fun _ => 0))), (q_2, .inl (cA_2, 4, .inl (fun _ => 0)))] H := hP
  have hD : va_D A [(h0, .inr (9, [.ref q_1, .ref q_2])), (q_1, .inl (cA_1, 4, .inl (fun _ => 0))), (q_2, .inl (cA_2, 4, .inl (fun _ => 0)))] := hD
  have hP9 := hP.sub (ws' := [(h0, .inr (9, [.ref q_1, .ref q_2]))]) [0] rfl
  have hD9 := hD.sub (ws' := [(h0, .inr (9, [.ref q_1, .ref q_2]))]) [0] (by decide) rfl
  have hK9 := hK.sub (tys' := []) [] rfl
  refine W.widen (k := 2) (n := 8) (Nat.le_of_ble_eq_true rfl) (Nat.le_of_ble_eq_true rfl) ?_
  exact W.vret hx hb hr (fun t ht hW => ⟨⟨(), rfl, trivial, ⟨q_1, q_2, by rw [ht]; exact hP9, va_K.moved hW.alike hK9, hD9⟩⟩, hS.F ht⟩) hS.2.2 dX4_init_18
def v_c_X0_init : List Cond := .code yX0_init cX0_init 6 none :: ([.methodLink RX0 1 objectInit, .instanceMethod objectInit, .code objectInit ⟨#[0xb1]⟩ 1 none, .fieldLink RX0 7 "VoussoirYard$BlockKind" "width" "I", .fieldLink RX0 13 "VoussoirYard$BlockKind" "height" "I", .fieldLink RX0 16 "VoussoirYard$BlockKind" "left" "I", .fieldLink RX0 19 "VoussoirYard$BlockKind" "price" "I", .fieldLink RX0 22 "VoussoirYard$BlockKind" "isBedded" "Z"] ++ (wsX00))
set_option maxRecDepth 20000 in
theorem i_c_X0_init : ∀ w ∈ v_c_X0_init, w ∈ lw_tbl := List.forall_mem_cons.mpr ⟨List.mem_of_getElem? (i := 727) (by decide +kernel), List.forall_mem_append.mpr ⟨List.forall_mem_cons.mpr ⟨List.mem_of_getElem? (i := 728) (by decide +kernel), List.forall_mem_cons.mpr ⟨List.mem_of_getElem? (i := 94) (by decide +kernel), List.forall_mem_cons.mpr ⟨List.mem_of_getElem? (i := 95) (by decide +kernel), List.forall_mem_cons.mpr ⟨List.mem_of_getElem? (i := 729) (by decide +kernel), List.forall_mem_cons.mpr ⟨List.mem_of_getElem? (i := 730) (by decide +kernel), List.forall_mem_cons.mpr ⟨List.mem_of_getElem? (i := 734) (by decide +kernel), List.forall_mem_cons.mpr ⟨List.mem_of_getElem? (i := 731) (by decide +kernel), List.forall_mem_cons.mpr ⟨List.mem_of_getElem? (i := 733) (by decide +kernel), fun _ h => absurd h List.not_mem_nil⟩⟩⟩⟩⟩⟩⟩⟩, inX0⟩⟩
set_option maxHeartbeats 4000000 in
set_option maxRecDepth 100000 in
theorem c_X0_init (l : Launch) (dC : Nat → ClassId) (dI : Nat → Nat → Nat) (e0 : Nat) (h0 : Nat) (p0 p1 p2 p3 b4 : Int32) (sz : Nat) (h_b4 : b4 = 0 ∨ b4 = 1) : Met l yX0_init v_c_X0_init ({ frames := 1, cells := 0, slots := 0, locals := 30 }) (fz_P (dC, dI) e0 [(h0, .inr (5, [.int 0, .int 0, .int 0, .int 0, .int 0]))] [] sz (va_A [(h0, .inr (5, [.int 0, .int 0, .int 0, .int 0, .int 0]))] sz) [.ref h0, .int p0, .int p1, .int p2, .int p3, .int b4]) (va_Qv (fun (u : Unit) => True) (fun (u : Unit) (t : State) => va_P (dC, dI) vwCl [(h0, .inr (5, [.int p0, .int p1, .int p3, .int b4, .int p2]))] t.heap ∧ va_K (dC, dI) vwCl [] t ∧ va_D (va_A [(h0, .inr (5, [.int 0, .int 0, .int 0, .int 0, .int 0]))] sz) [(h0, .inr (5, [.int p0, .int p1, .int p3, .int b4, .int p2]))]) (va_A [(h0, .inr (5, [.int 0, .int 0, .int 0, .int 0, .int 0]))] sz)) 0 0 (va_A [(h0, .inr (5, [.int 0, .int 0, .int 0, .int 0, .int 0]))] sz) := by
  refine Met.ofW (cc := cX0_init) (maxL := 6) (ret := none) (by decide) rfl ?_
  intro p e s m args below meth c s₁ B hml hv
  obtain ⟨rfl, hsz, hP, hK, hD0, hAm⟩ := hv
  have hx := B.exec
  have hb := B.bytes
  have hr := B.returns
  have hts := atoms_spec (ws := v_c_X0_init) B.pre
  have hown : s.vm.findClass RX0 = some m.cls := findClass_of_methodNamed B.named
  have hlocks := B.notSynchronized
  have hin : meth.name = "<init>" := (name_of_methodNamed B.named B.method).1
  subst hsz
  have hD := hD0.self (sz := s.heap.size)
  generalize hAe : va_A [(h0, .inr (5, [.int 0, .int 0, .int 0, .int 0, .int 0]))] s.heap.size = A at hD hAm ⊢
  have hA : ∀ q : Nat, s.heap.size ≤ q → A q := fun q h => by rw [← hAe]; exact Or.inr h
  have hS : va_S A s.heap s.heap [] := va_S.rf
  have hP : va_P (dC, dI) vwCl [(h0, .inr (5, [.int 0, .int 0, .int 0, .int 0, .int 0]))] s.heap := hP
  have hl := lv_entry ([.ref h0, .int p0, .int p1, .int p2, .int p3, .int b4]) (n := 6) (Nat.le_of_ble_eq_true rfl)
  rw [lg_entry_eq]
  generalize (lg_sl ([.ref h0, .int p0, .int p1, .int p2, .int p3, .int b4]) ++ List.replicate (6 - (lg_sl ([.ref h0, .int p0, .int p1, .int p2, .int p3, .int b4])).length) Slot.unset).toArray = ls at hl ⊢
  have hl : lv_has ls 6 [(0, .ref h0), (1, .int p0), (2, .int p1), (3, .int p2), (4, .int p3), (5, .int b4)] := hl
  refine lv_aload_n hx hb dX0_init_0 rfl (lv_at hl 0 rfl) ?_
  refine W.objInit hx hb hown (hts _ (List.mem_cons_of_mem _ (List.mem_append_left _ (List.mem_of_getElem? (i := 0) rfl)))) (hts _ (List.mem_cons_of_mem _ (List.mem_append_left _ (List.mem_of_getElem? (i := 1) rfl)))) (hts _ (List.mem_cons_of_mem _ (List.mem_append_left _ (List.mem_of_getElem? (i := 2) rfl)))) rfl (by rw [hml]; exact hl.1) rfl dX0_init_1 (Nat.le_of_ble_eq_true rfl) (Nat.le_of_ble_eq_true rfl) ?_
  refine W.eq (g2 := F0 m 4 ls []) rfl ?_
  refine lv_aload_n hx hb dX0_init_4 rfl (lv_at hl 0 rfl) ?_
  refine lv_iload_n hx hb dX0_init_5 rfl (lv_at hl 1 rfl) ?_
  refine va_putF (D := (dC, dI)) (ci := 5) (v := .int p0) (ty := .int) (C := RX0) (T := TX0) (N := 5) hx hb hts (fun _ h9 => List.mem_cons_of_mem _ (List.mem_append_right _ (h9))) tyX0 tyX0_ok nmX0 hown hK hP hD hS 0 rfl rfl 0 (by decide) (hts _ (List.mem_cons_of_mem _ (List.mem_append_left _ (List.mem_of_getElem? (i := 3) rfl)))) (fun _ h9 => h9) rfl hin rfl (by decide +kernel) rfl rfl (Nat.le_of_ble_eq_true rfl) dX0_init_6 (fun H locs hP hD hS => ?_)
  have hP : va_P (dC, dI) vwCl [(h0, .inr (5, [.int p0, .int 0, .int 0, .int 0, .int 0]))] H := hP
  have hD : va_D A [(h0, .inr (5, [.int p0, .int 0, .int 0, .int 0, .int 0]))] := hD
  refine lv_aload_n hx hb dX0_init_9 rfl (lv_at hl 0 rfl) ?_
  refine lv_iload_n hx hb dX0_init_10 rfl (lv_at hl 2 rfl) ?_
  refine va_putF (D := (dC, dI)) (ci := 5) (v := .int p1) (ty := .int) (C := RX0) (T := TX0) (N := 5) hx hb hts (fun _ h9 => List.mem_cons_of_mem _ (List.mem_append_right _ (h9))) tyX0 tyX0_ok nmX0 hown hK hP hD hS 0 rfl rfl 1 (by decide) (hts _ (List.mem_cons_of_mem _ (List.mem_append_left _ (List.mem_of_getElem? (i := 4) rfl)))) (fun _ h9 => h9) rfl hin rfl (by decide +kernel) rfl rfl (Nat.le_of_ble_eq_true rfl) dX0_init_11 (fun H locs hP hD hS => ?_)
  have hP : va_P (dC, dI) vwCl [(h0, .inr (5, [.int p0, .int p1, .int 0, .int 0, .int 0]))] H := hP
  have hD : va_D A [(h0, .inr (5, [.int p0, .int p1, .int 0, .int 0, .int 0]))] := hD
  refine lv_aload_n hx hb dX0_init_14 rfl (lv_at hl 0 rfl) ?_
  refine lv_iload_n hx hb dX0_init_15 rfl (lv_at hl 3 rfl) ?_
  refine va_put (D := (dC, dI)) (ci := 5) (v := .int p2) (ty := .int) (C := RX0) (T := TX0) (N := 5) hx hb hts (fun _ h9 => List.mem_cons_of_mem _ (List.mem_append_right _ (h9))) tyX0 tyX0_ok nmX0 hown hK hP hD hS 0 rfl rfl 4 (by decide) (hts _ (List.mem_cons_of_mem _ (List.mem_append_left _ (List.mem_of_getElem? (i := 5) rfl)))) (fun _ h9 => h9) rfl (by decide +kernel) rfl rfl (Nat.le_of_ble_eq_true rfl) dX0_init_16 (fun H locs hP hD hS => ?_)
  have hP : va_P (dC, dI) vwCl [(h0, .inr (5, [.int p0, .int p1, .int 0, .int 0, .int p2]))] H := hP
  have hD : va_D A [(h0, .inr (5, [.int p0, .int p1, .int 0, .int 0, .int p2]))] := hD
  refine lv_aload_n hx hb dX0_init_19 rfl (lv_at hl 0 rfl) ?_
  refine lv_iload hx hb dX0_init_20 (lv_at hl 4 rfl) ?_
  refine va_putF (D := (dC, dI)) (ci := 5) (v := .int p3) (ty := .int) (C := RX0) (T := TX0) (N := 5) hx hb hts (fun _ h9 => List.mem_cons_of_mem _ (List.mem_append_right _ (h9))) tyX0 tyX0_ok nmX0 hown hK hP hD hS 0 rfl rfl 2 (by decide) (hts _ (List.mem_cons_of_mem _ (List.mem_append_left _ (List.mem_of_getElem? (i := 6) rfl)))) (fun _ h9 => h9) rfl hin rfl (by decide +kernel) rfl rfl (Nat.le_of_ble_eq_true rfl) dX0_init_22 (fun H locs hP hD hS => ?_)
  have hP : va_P (dC, dI) vwCl [(h0, .inr (5, [.int p0, .int p1, .int p3, .int 0, .int p2]))] H := hP
  have hD : va_D A [(h0, .inr (5, [.int p0, .int p1, .int p3, .int 0, .int p2]))] := hD
  refine lv_aload_n hx hb dX0_init_25 rfl (lv_at hl 0 rfl) ?_
  refine lv_iload hx hb dX0_init_26 (lv_at hl 5 rfl) ?_
  refine va_putF (D := (dC, dI)) (ci := 5) (v := .int b4) (ty := .boolean) (C := RX0) (T := TX0) (N := 5) hx hb hts (fun _ h9 => List.mem_cons_of_mem _ (List.mem_append_right _ (h9))) tyX0 tyX0_ok nmX0 hown hK hP hD hS 0 rfl rfl 3 (by decide) (hts _ (List.mem_cons_of_mem _ (List.mem_append_left _ (List.mem_of_getElem? (i := 7) rfl)))) (fun _ h9 => h9) rfl hin rfl (by decide +kernel) (by rcases h_b4 with rfl | rfl <;> rfl) (by rcases h_b4 with rfl | rfl <;> rfl) (Nat.le_of_ble_eq_true rfl) dX0_init_28 (fun H locs hP hD hS => ?_)
  have hP : va_P (dC, dI) vwCl [(h0, .inr (5, [.int p0, .int p1, .int p3, .int b4, .int p2]))] H := hP
  have hD : va_D A [(h0, .inr (5, [.int p0, .int p1, .int p3, .int b4, .int p2]))] := hD
  have hP9 := hP.sub (ws' := [(h0, .inr (5, [.int p0, .int p1, .int p3, .int b4, .int p2]))]) [0] rfl
  have hD9 := hD.sub (ws' := [(h0, .inr (5, [.int p0, .int p1, .int p3, .int b4, .int p2]))]) [0] (by decide) rfl
  have hK9 := hK.sub (tys' := []) [] rfl
  refine W.widen (k := 0) (n := 0) (Nat.le_of_ble_eq_true rfl) (Nat.le_of_ble_eq_true rfl) ?_
  exact W.vret hx hb hr (fun t ht hW => ⟨⟨(), rfl, trivial, ⟨by rw [ht]; exact hP9, va_K.moved hW.alike hK9, hD9⟩⟩, hS.F ht⟩) hS.2.2 dX0_init_31
def v_c_X3_init : List Cond := .code yX3_init cX3_init 4 none :: ([.methodLink RX3 1 objectInit, .instanceMethod objectInit, .code objectInit ⟨#[0xb1]⟩ 1 none, .fieldLink RX3 7 "VoussoirYard$Mason" "freeOn" "I", .fieldLink RX3 13 "VoussoirYard$Mason" "told" "I", .fieldLink RX3 16 "VoussoirYard$Mason" "letter" "C", .fieldLink RX3 20 "VoussoirYard$Mason" "skill" "I", .fieldLink RX3 23 "VoussoirYard$Mason" "pay" "I"] ++ (wsX30))
set_option maxRecDepth 20000 in
theorem i_c_X3_init : ∀ w ∈ v_c_X3_init, w ∈ lw_tbl := List.forall_mem_cons.mpr ⟨List.mem_of_getElem? (i := 798) (by decide +kernel), List.forall_mem_append.mpr ⟨List.forall_mem_cons.mpr ⟨List.mem_of_getElem? (i := 799) (by decide +kernel), List.forall_mem_cons.mpr ⟨List.mem_of_getElem? (i := 94) (by decide +kernel), List.forall_mem_cons.mpr ⟨List.mem_of_getElem? (i := 95) (by decide +kernel), List.forall_mem_cons.mpr ⟨List.mem_of_getElem? (i := 804) (by decide +kernel), List.forall_mem_cons.mpr ⟨List.mem_of_getElem? (i := 805) (by decide +kernel), List.forall_mem_cons.mpr ⟨List.mem_of_getElem? (i := 800) (by decide +kernel), List.forall_mem_cons.mpr ⟨List.mem_of_getElem? (i := 801) (by decide +kernel), List.forall_mem_cons.mpr ⟨List.mem_of_getElem? (i := 802) (by decide +kernel), fun _ h => absurd h List.not_mem_nil⟩⟩⟩⟩⟩⟩⟩⟩, inX3⟩⟩
set_option maxHeartbeats 4000000 in
set_option maxRecDepth 100000 in
theorem c_X3_init (l : Launch) (dC : Nat → ClassId) (dI : Nat → Nat → Nat) (e0 : Nat) (h0 : Nat) (p1 p2 : Int32) (sz : Nat) : Met l yX3_init v_c_X3_init ({ frames := 1, cells := 0, slots := 0, locals := 30 }) (fz_P (dC, dI) e0 [(h0, .inr (8, [.int 0, .int 0, .int 0, .int 0, .int 0]))] [] sz (va_A [(h0, .inr (8, [.int 0, .int 0, .int 0, .int 0, .int 0]))] sz) [.ref h0, .int 65, .int p1, .int p2]) (va_Qv (fun (u : Unit) => True) (fun (u : Unit) (t : State) => va_P (dC, dI) vwCl [(h0, .inr (8, [.int 65, .int p1, .int p2, .int 0, .int 0]))] t.heap ∧ va_K (dC, dI) vwCl [] t ∧ va_D (va_A [(h0, .inr (8, [.int 0, .int 0, .int 0, .int 0, .int 0]))] sz) [(h0, .inr (8, [.int 65, .int p1, .int p2, .int 0, .int 0]))]) (va_A [(h0, .inr (8, [.int 0, .int 0, .int 0, .int 0, .int 0]))] sz)) 0 0 (va_A [(h0, .inr (8, [.int 0, .int 0, .int 0, .int 0, .int 0]))] sz) := by
  refine Met.ofW (cc := cX3_init) (maxL := 4) (ret := none) (by decide) rfl ?_
  intro p e s m args below meth c s₁ B hml hv
  obtain ⟨rfl, hsz, hP, hK, hD0, hAm⟩ := hv
  have hx := B.exec
  have hb := B.bytes
  have hr := B.returns
  have hts := atoms_spec (ws := v_c_X3_init) B.pre
  have hown : s.vm.findClass RX3 = some m.cls := findClass_of_methodNamed B.named
  have hlocks := B.notSynchronized
  have hin : meth.name = "<init>" := (name_of_methodNamed B.named B.method).1
  subst hsz
  have hD := hD0.self (sz := s.heap.size)
  generalize hAe : va_A [(h0, .inr (8, [.int 0, .int 0, .int 0, .int 0, .int 0]))] s.heap.size = A at hD hAm ⊢
  have hA : ∀ q : Nat, s.heap.size ≤ q → A q := fun q h => by rw [← hAe]; exact Or.inr h
  have hS : va_S A s.heap s.heap [] := va_S.rf
  have hP : va_P (dC, dI) vwCl [(h0, .inr (8, [.int 0, .int 0, .int 0, .int 0, .int 0]))] s.heap := hP
  have hl := lv_entry ([.ref h0, .int 65, .int p1, .int p2]) (n := 4) (Nat.le_of_ble_eq_true rfl)
  rw [lg_entry_eq]
  generalize (lg_sl ([.ref h0, .int 65, .int p1, .int p2]) ++ List.replicate (4 - (lg_sl ([.ref h0, .int 65, .int p1, .int p2])).length) Slot.unset).toArray = ls at hl ⊢
  have hl : lv_has ls 4 [(0, .ref h0), (1, .int 65), (2, .int p1), (3, .int p2)] := hl
  refine lv_aload_n hx hb dX3_init_0 rfl (lv_at hl 0 rfl) ?_
  refine W.objInit hx hb hown (hts _ (List.mem_cons_of_mem _ (List.mem_append_left _ (List.mem_of_getElem? (i := 0) rfl)))) (hts _ (List.mem_cons_of_mem _ (List.mem_append_left _ (List.mem_of_getElem? (i := 1) rfl)))) (hts _ (List.mem_cons_of_mem _ (List.mem_append_left _ (List.mem_of_getElem? (i := 2) rfl)))) rfl (by rw [hml]; exact hl.1) rfl dX3_init_1 (Nat.le_of_ble_eq_true rfl) (Nat.le_of_ble_eq_true rfl) ?_
  refine W.eq (g2 := F0 m 4 ls []) rfl ?_
  refine lv_aload_n hx hb dX3_init_4 rfl (lv_at hl 0 rfl) ?_
  refine lv_iconst (v := 0) hx hb dX3_init_5 (by decide) ?_
  refine va_put (D := (dC, dI)) (ci := 8) (v := .int 0) (ty := .int) (C := RX3) (T := TX3) (N := 5) hx hb hts (fun _ h9 => List.mem_cons_of_mem _ (List.mem_append_right _ (h9))) tyX3 tyX3_ok nmX3 hown hK hP hD hS 0 rfl rfl 3 (by decide) (hts _ (List.mem_cons_of_mem _ (List.mem_append_left _ (List.mem_of_getElem? (i := 3) rfl)))) (fun _ h9 => h9) rfl (by decide +kernel) rfl rfl (Nat.le_of_ble_eq_true rfl) dX3_init_6 (fun H locs hP hD hS => ?_)
  have hP : va_P (dC, dI) vwCl [(h0, .inr (8, [.int 0, .int 0, .int 0, .int 0, .int 0]))] H := hP
  have hD : va_D A [(h0, .inr (8, [.int 0, .int 0, .int 0, .int 0, .int 0]))] := hD
  refine lv_aload_n hx hb dX3_init_9 rfl (lv_at hl 0 rfl) ?_
  refine lv_iconst (v := 0) hx hb dX3_init_10 (by decide) ?_
  refine va_put (D := (dC, dI)) (ci := 8) (v := .int 0) (ty := .int) (C := RX3) (T := TX3) (N := 5) hx hb hts (fun _ h9 => List.mem_cons_of_mem _ (List.mem_append_right _ (h9))) tyX3 tyX3_ok nmX3 hown hK hP hD hS 0 rfl rfl 4 (by decide) (hts _ (List.mem_cons_of_mem _ (List.mem_append_left _ (List.mem_of_getElem? (i := 4) rfl)))) (fun _ h9 => h9) rfl (by decide +kernel) rfl rfl (Nat.le_of_ble_eq_true rfl) dX3_init_11 (fun H locs hP hD hS => ?_)
  have hP : va_P (dC, dI) vwCl [(h0, .inr (8, [.int 0, .int 0, .int 0, .int 0, .int 0]))] H := hP
  have hD : va_D A [(h0, .inr (8, [.int 0, .int 0, .int 0, .int 0, .int 0]))] := hD
  refine lv_aload_n hx hb dX3_init_14 rfl (lv_at hl 0 rfl) ?_
  refine lv_iload_n hx hb dX3_init_15 rfl (lv_at hl 1 rfl) ?_
  refine va_putF (D := (dC, dI)) (ci := 8) (v := .int 65) (ty := .char) (C := RX3) (T := TX3) (N := 5) hx hb hts (fun _ h9 => List.mem_cons_of_mem _ (List.mem_append_right _ (h9))) tyX3 tyX3_ok nmX3 hown hK hP hD hS 0 rfl rfl 0 (by decide) (hts _ (List.mem_cons_of_mem _ (List.mem_append_left _ (List.mem_of_getElem? (i := 5) rfl)))) (fun _ h9 => h9) rfl hin rfl (by decide +kernel) rfl rfl (Nat.le_of_ble_eq_true rfl) dX3_init_16 (fun H locs hP hD hS => ?_)
  have hP : va_P (dC, dI) vwCl [(h0, .inr (8, [.int 65, .int 0, .int 0, .int 0, .int 0]))] H := hP
  have hD : va_D A [(h0, .inr (8, [.int 65, .int 0, .int 0, .int 0, .int 0]))] := hD
  refine lv_aload_n hx hb dX3_init_19 rfl (lv_at hl 0 rfl) ?_
  refine lv_iload_n hx hb dX3_init_20 rfl (lv_at hl 2 rfl) ?_
  refine va_putF (D := (dC, dI)) (ci := 8) (v := .int p1) (ty := .int) (C := RX3) (T := TX3) (N := 5) hx hb hts (fun _ h9 => List.mem_cons_of_mem _ (List.mem_append_right _ (h9))) tyX3 tyX3_ok nmX3 hown hK hP hD hS 0 rfl rfl 1 (by decide) (hts _ (List.mem_cons_of_mem _ (List.mem_append_left _ (List.mem_of_getElem? (i := 6) rfl)))) (fun _ h9 => h9) rfl hin rfl (by decide +kernel) rfl rfl (Nat.le_of_ble_eq_true rfl) dX3_init_21 (fun H locs hP hD hS => ?_)
  have hP : va_P (dC, dI) vwCl [(h0, .inr (8, [.int 65, .int p1, .int 0, .int 0, .int 0]))] H := hP
  have hD : va_D A [(h0, .inr (8, [.int 65, .int p1, .int 0, .int 0, .int 0]))] := hD
  refine lv_aload_n hx hb dX3_init_24 rfl (lv_at hl 0 rfl) ?_
  refine lv_iload_n hx hb dX3_init_25 rfl (lv_at hl 3 rfl) ?_
  refine va_putF (D := (dC, dI)) (ci := 8) (v := .int p2) (ty := .int) (C := RX3) (T := TX3) (N := 5) hx hb hts (fun _ h9 => List.mem_cons_of_mem _ (List.mem_append_right _ (h9))) tyX3 tyX3_ok nmX3 hown hK hP hD hS 0 rfl rfl 2 (by decide) (hts _ (List.mem_cons_of_mem _ (List.mem_append_left _ (List.mem_of_getElem? (i := 7) rfl)))) (fun _ h9 => h9) rfl hin rfl (by decide +kernel) rfl rfl (Nat.le_of_ble_eq_true rfl) dX3_init_26 (fun H locs hP hD hS => ?_)
  have hP : va_P (dC, dI) vwCl [(h0, .inr (8, [.int 65, .int p1, .int p2, .int 0, .int 0]))] H := hP
  have hD : va_D A [(h0, .inr (8, [.int 65, .int p1, .int p2, .int 0, .int 0]))] := hD
  have hP9 := hP.sub (ws' := [(h0, .inr (8, [.int 65, .int p1, .int p2, .int 0, .int 0]))]) [0] rfl
  have hD9 := hD.sub (ws' := [(h0, .inr (8, [.int 65, .int p1, .int p2, .int 0, .int 0]))]) [0] (by decide) rfl
  have hK9 := hK.sub (tys' := []) [] rfl
  refine W.widen (k := 0) (n := 0) (Nat.le_of_ble_eq_true rfl) (Nat.le_of_ble_eq_true rfl) ?_
  exact W.vret hx hb hr (fun t ht hW => ⟨⟨(), rfl, trivial, ⟨by rw [ht]; exact hP9, va_K.moved hW.alike hK9, hD9⟩⟩, hS.F ht⟩) hS.2.2 dX3_init_29
end
section
def v_c_X1_init : List Cond := .code yX1_init cX1_init 2 none :: ([.methodLink RX1 3 objectInit, .instanceMethod objectInit, .code objectInit ⟨#[0xb1]⟩ 1 none, .classLink RX1 9 RX2, .fieldLink RX1 11 "VoussoirYard$Drawing" "joints" "[LVoussoirYard$Joint;", .instantiable RX2 4, .initialized RX2, .instanceMethod yX2_init, .fieldLink RX1 18 "VoussoirYard$Drawing" "proposed" "LVoussoirYard$Joint;", .classLink RX1 22 RX4, .instantiable RX4 2, .initialized RX4, .instanceMethod yX4_init, .fieldLink RX1 25 "VoussoirYard$Drawing" "quad" "LVoussoirYard$Quad;", .fieldLink RX1 29 "VoussoirYard$Drawing" "count" "I", .fieldLink RX1 33 "VoussoirYard$Drawing" "version" "I", .fieldLink RX1 36 "VoussoirYard$Drawing" "density" "I"] ++ (wsX10 ++ (wsX20 ++ (v_c_X2_init ++ (wsX40 ++ (v_c_X4_init))))))
set_option maxRecDepth 20000 in
theorem i_c_X1_init : ∀ w ∈ v_c_X1_init, w ∈ lw_tbl := List.forall_mem_cons.mpr ⟨List.mem_of_getElem? (i := 100) (by decide +kernel), List.forall_mem_append.mpr ⟨List.forall_mem_cons.mpr ⟨List.mem_of_getElem? (i := 101) (by decide +kernel), List.forall_mem_cons.mpr ⟨List.mem_of_getElem? (i := 94) (by decide +kernel), List.forall_mem_cons.mpr ⟨List.mem_of_getElem? (i := 95) (by decide +kernel), List.forall_mem_cons.mpr ⟨List.mem_of_getElem? (i := 102) (by decide +kernel), List.forall_mem_cons.mpr ⟨List.mem_of_getElem? (i := 148) (by decide +kernel), List.forall_mem_cons.mpr ⟨List.mem_of_getElem? (i := 104) (by decide +kernel), List.forall_mem_cons.mpr ⟨List.mem_of_getElem? (i := 51) (by decide +kernel), List.forall_mem_cons.mpr ⟨List.mem_of_getElem? (i := 106) (by decide +kernel), List.forall_mem_cons.mpr ⟨List.mem_of_getElem? (i := 149) (by decide +kernel), List.forall_mem_cons.mpr ⟨List.mem_of_getElem? (i := 134) (by decide +kernel), List.forall_mem_cons.mpr ⟨List.mem_of_getElem? (i := 135) (by decide +kernel), List.forall_mem_cons.mpr ⟨List.mem_of_getElem? (i := 52) (by decide +kernel), List.forall_mem_cons.mpr ⟨List.mem_of_getElem? (i := 137) (by decide +kernel), List.forall_mem_cons.mpr ⟨List.mem_of_getElem? (i := 150) (by decide +kernel), List.forall_mem_cons.mpr ⟨List.mem_of_getElem? (i := 151) (by decide +kernel), List.forall_mem_cons.mpr ⟨List.mem_of_getElem? (i := 154) (by decide +kernel), List.forall_mem_cons.mpr ⟨List.mem_of_getElem? (i := 156) (by decide +kernel), fun _ h => absurd h List.not_mem_nil⟩⟩⟩⟩⟩⟩⟩⟩⟩⟩⟩⟩⟩⟩⟩⟩⟩, List.forall_mem_append.mpr ⟨inX1, List.forall_mem_append.mpr ⟨inX2, List.forall_mem_append.mpr ⟨i_c_X2_init, List.forall_mem_append.mpr ⟨inX4, i_c_X4_init⟩⟩⟩⟩⟩⟩
set_option maxHeartbeats 4000000 in
set_option maxRecDepth 100000 in
theorem c_X1_init (l : Launch) (dC : Nat → ClassId) (dI : Nat → Nat → Nat) (e0 : Nat) (h0 : Nat) (sz : Nat) : Met l yX1_init v_c_X1_init ({ frames := 2, cells := 13, slots := 54, locals := 50 }) (fz_P (dC, dI) e0 [(h0, .inr (6, [.null, .null, .null, .int 0, .int 0, .int 0]))] [] sz (va_A [(h0, .inr (6, [.null, .null, .null, .int 0, .int 0, .int 0]))] sz) [.ref h0]) (va_Qv (fun (u : Unit) => True) (fun (u : Unit) (t : State) => ∃ hj : Nat, ∃ hpr : Nat, ∃ hqd : Nat, ∃ cR : ClassId, ∃ fj : Nat → Option Nat, ∃ hj0 : Nat, (fj 0 = some hj0) ∧ va_P (dC, dI) vwCl [(h0, .inr (6, [.ref hj, .ref hpr, .ref hqd, .int 0, .int 0, .int 1])), (hj, .inl (cR, 8, .inr (.inr (.inr (.inr fj))))), (hj0, .inr (7, [.int 0, .int 0, .int 0, .int 0])), (hpr, .inr (7, [.int 0, .int 0, .int 0, .int 0]))] t.heap ∧ va_K (dC, dI) vwCl [(cR, .object RX2)] t ∧ va_D (va_A [(h0, .inr (6, [.null, .null, .null, .int 0, .int 0, .int 0]))] sz) [(h0, .inr (6, [.ref hj, .ref hpr, .ref hqd, .int 0, .int 0, .int 1])), (hj, .inl (cR, 8, .inr (.inr (.inr (.inr fj))))), (hj0, .inr (7, [.int 0, .int 0, .int 0, .int 0])), (hpr, .inr (7, [.int 0, .int 0, .int 0, .int 0]))]) (va_A [(h0, .inr (6, [.null, .null, .null, .int 0, .int 0, .int 0]))] sz)) 13 54 (va_A [(h0, .inr (6, [.null, .null, .null, .int 0, .int 0, .int 0]))] sz) := by
  refine Met.ofW (cc := cX1_init) (maxL := 2) (ret := none) (by decide) rfl ?_
  intro p e s m args below meth c s₁ B hml hv
  obtain ⟨rfl, hsz, hP, hK, hD0, hAm⟩ := hv
  have hx := B.exec
  have hb := B.bytes
  have hr := B.returns
  have hts := atoms_spec (ws := v_c_X1_init) B.pre
  have hown : s.vm.findClass RX1 = some m.cls := findClass_of_methodNamed B.named
  have hlocks := B.notSynchronized
  have hin : meth.name = "<init>" := (name_of_methodNamed B.named B.method).1
  subst hsz
  have hD := hD0.self (sz := s.heap.size)
  generalize hAe : va_A [(h0, .inr (6, [.null, .null, .null, .int 0, .int 0, .int 0]))] s.heap.size = A at hD hAm ⊢
  have hA : ∀ q : Nat, s.heap.size ≤ q → A q := fun q h => by rw [← hAe]; exact Or.inr h
  have hS : va_S A s.heap s.heap [] := va_S.rf
  have hP : va_P (dC, dI) vwCl [(h0, .inr (6, [.null, .null, .null, .int 0, .int 0, .int 0]))] s.heap := hP
  have hl := lv_entry ([.ref h0]) (n := 2) (Nat.le_of_ble_eq_true rfl)
  rw [lg_entry_eq]
  generalize (lg_sl ([.ref h0]) ++ List.replicate (2 - (lg_sl ([.ref h0])).length) Slot.unset).toArray = ls at hl ⊢
  have hl : lv_has ls 2 [(0, .ref h0)] := hl
  refine lv_aload_n hx hb dX1_init_0 rfl (lv_at hl 0 rfl) ?_
  refine W.objInit hx hb hown (hts _ (List.mem_cons_of_mem _ (List.mem_append_left _ (List.mem_of_getElem? (i := 0) rfl)))) (hts _ (List.mem_cons_of_mem _ (List.mem_append_left _ (List.mem_of_getElem? (i := 1) rfl)))) (hts _ (List.mem_cons_of_mem _ (List.mem_append_left _ (List.mem_of_getElem? (i := 2) rfl)))) rfl (by rw [hml]; exact hl.1) rfl dX1_init_1 (Nat.le_of_ble_eq_true rfl) (Nat.le_of_ble_eq_true rfl) ?_
  refine W.eq (g2 := F0 m 4 ls []) rfl ?_
  refine lv_aload_n hx hb dX1_init_4 rfl (lv_at hl 0 rfl) ?_
  refine lv_bipush (v := 8) hx hb dX1_init_5 (by decide) ?_
  refine va_newq (C := RX2) (N' := 8) hx hb hown (hts _ (List.mem_cons_of_mem _ (List.mem_append_left _ (List.mem_of_getElem? (i := 3) rfl)))) hAm.1.2.2.2.2.1.1 hK hP hD hS hA (by decide) (by decide) (by decide) (Nat.le_of_ble_eq_true rfl) (Nat.le_of_ble_eq_true rfl) dX1_init_7 (fun q_1 cA_1 H hK hP hD hS => ?_)
  have hK : va_K (dC, dI) vwCl [(cA_1, .object RX2)] s := hK
  have hP : va_P (dC, dI) vwCl [(h0, .inr (6, [.null, .null, .null, .int 0, .int 0, .int 0])), (q_1, .inl (cA_1, 8, .inr (.inr (.inr (.inr (fun _ => none))))))] H := hP
  have hD : va_D A [(h0, .inr (6, [.null, .null, .null, .int 0, .int 0, .int 0])), (q_1, .inl (cA_1, 8, .inr (.inr (.inr (.inr (fun _ => none))))))] := hD
  refine W.widen (k := 1) (n := 8) (Nat.le_of_ble_eq_true rfl) (Nat.le_of_ble_eq_true rfl) ?_
  refine va_putF (D := (dC, dI)) (ci := 6) (v := .ref q_1) (ty := .array (.object "VoussoirYard$Joint")) (C := RX1) (T := TX1) (N := 6) hx hb hts (fun _ h9 => List.mem_cons_of_mem _ (List.mem_append_right _ (List.mem_append_left _ h9))) tyX1 tyX1_ok nmX1 hown hK hP hD hS 0 rfl rfl 0 (by decide) (hts _ (List.mem_cons_of_mem _ (List.mem_append_left _ (List.mem_of_getElem? (i := 4) rfl)))) (fun _ h9 => h9) rfl hin rfl (by decide +kernel) rfl rfl (Nat.le_of_ble_eq_true rfl) dX1_init_10 (fun H locs hP hD hS => ?_)
  have hP : va_P (dC, dI) vwCl [(h0, .inr (6, [.ref q_1, .null, .null, .int 0, .int 0, .int 0])), (q_1, .inl (cA_1, 8, .inr (.inr (.inr (.inr (fun _ => none))))))] H := hP
  have hD : va_D A [(h0, .inr (6, [.ref q_1, .null, .null, .int 0, .int 0, .int 0])), (q_1, .inl (cA_1, 8, .inr (.inr (.inr (.inr (fun _ => none))))))] := hD
  refine lv_aload_n hx hb dX1_init_13 rfl (lv_at hl 0 rfl) ?_
  refine va_new (ci := 7) (fs := [.int 0, .int 0, .int 0, .int 0]) (C := RX2) (T := TX2) (N := 4) hx hb hts (fun _ h9 => List.mem_cons_of_mem _ (List.mem_append_right _ (List.mem_append_right _ (List.mem_append_left _ h9)))) tyX2 tyX2_ok hown (hts _ (List.mem_cons_of_mem _ (List.mem_append_left _ (List.mem_of_getElem? (i := 3) rfl)))) (hts _ (List.mem_cons_of_mem _ (List.mem_append_left _ (List.mem_of_getElem? (i := 5) rfl)))) (hts _ (List.mem_cons_of_mem _ (List.mem_append_left _ (List.mem_of_getElem? (i := 6) rfl)))) hK hP hD hS hA rfl (fun j hj => by rcases (show j = 0 ∨ j = 1 ∨ j = 2 ∨ j = 3 by omega) with rfl | rfl | rfl | rfl <;> rfl) (Nat.le_of_ble_eq_true rfl) (Nat.le_of_ble_eq_true rfl) dX1_init_14 (fun q_2 H hP hD hS => ?_)
  have hP : va_P (dC, dI) vwCl [(h0, .inr (6, [.ref q_1, .null, .null, .int 0, .int 0, .int 0])), (q_1, .inl (cA_1, 8, .inr (.inr (.inr (.inr (fun _ => none)))))), (q_2, .inr (7, [.int 0, .int 0, .int 0, .int 0]))] H := hP
  have hD : va_D A [(h0, .inr (6, [.ref q_1, .null, .null, .int 0, .int 0, .int 0])), (q_1, .inl (cA_1, 8, .inr (.inr (.inr (.inr (fun _ => none)))))), (q_2, .inr (7, [.int 0, .int 0, .int 0, .int 0]))] := hD
  refine W.widen (k := 2) (n := 12) (Nat.le_of_ble_eq_true rfl) (Nat.le_of_ble_eq_true rfl) ?_
  refine lv_dup hx hb dX1_init_17 rfl ?_
  have hPc := hP.sub (ws' := [(q_2, .inr (7, [.int 0, .int 0, .int 0, .int 0]))]) [2] rfl
  have hDc := hD.sub (ws' := [(q_2, .inr (7, [.int 0, .int 0, .int 0, .int 0]))]) [2] (by decide) rfl
  have hKc := hK.sub (tys' := []) [] rfl
  have hFc := va_free (wc := [(q_2, .inr (7, [.int 0, .int 0, .int 0, .int 0]))]) hD hS hA [2] rfl
  refine va_callv (va_runIN (As := []) (rest := [.ref q_2, .ref h0]) ⟨hx, hb, hml, hown, hts⟩ (c_X2_init l dC dI e0 q_2 s.heap.size) ⟨va_cnB 0 hts (goodIn_sub (fun _ h9 => List.mem_cons_of_mem _ (List.mem_append_right _ (List.mem_append_right _ (List.mem_append_right _ (List.mem_append_left _ h9))))) (by decide +kernel)) rfl rfl rfl hAm.1.1.2.1 (hts _ (List.mem_cons_of_mem _ (List.mem_append_left _ (List.mem_of_getElem? (i := 6) rfl)))) (by decide +kernel) ⟨(Nat.le_of_ble_eq_true rfl), (Nat.le_of_ble_eq_true rfl)⟩, rfl, (hts _ (List.mem_cons_of_mem _ (List.mem_append_left _ (List.mem_of_getElem? (i := 7) rfl))))⟩ ⟨fz_blind, fz_pre hPc hKc hDc hAm hS hFc⟩ rfl rfl hl.1 rfl (lv_room (Nat.le_of_ble_eq_true rfl)) dX1_init_18 ⟨(Nat.le_of_ble_eq_true rfl), (Nat.le_of_ble_eq_true rfl)⟩) hS (fun q _ h => hFc q h) hFc (fun u t H1 locs ht hvm hw hB hz1 hk1 hS => ?_)
  obtain ⟨hP1, hK1, hD1⟩ := hB
  rw [ht] at hP1
  have hK1 := va_K.moved hvm.symm hK1
  obtain ⟨hP, hD⟩ := va_join (wr := [(h0, .inr (6, [.ref q_1, .null, .null, .int 0, .int 0, .int 0])), (q_1, .inl (cA_1, 8, .inr (.inr (.inr (.inr (fun _ => none))))))]) (w1 := [(q_2, .inr (7, [.int 0, .int 0, .int 0, .int 0]))]) hP hD [2] [0, 1] rfl rfl (by decide) (by decide) hk1 hFc hP1 hD1
  generalize H1 = H at hP hS ⊢
  have hP : va_P (dC, dI) vwCl [(h0, .inr (6, [.ref q_1, .null, .null, .int 0, .int 0, .int 0])), (q_1, .inl (cA_1, 8, .inr (.inr (.inr (.inr (fun _ => none)))))), (q_2, .inr (7, [.int 0, .int 0, .int 0, .int 0]))] H := hP
  have hD : va_D A [(h0, .inr (6, [.ref q_1, .null, .null, .int 0, .int 0, .int 0])), (q_1, .inl (cA_1, 8, .inr (.inr (.inr (.inr (fun _ => none)))))), (q_2, .inr (7, [.int 0, .int 0, .int 0, .int 0]))] := hD
  have hK : va_K (dC, dI) vwCl [(cA_1, .object RX2)] s := hK
  refine W.widen (k := 2) (n := 12) (Nat.le_of_ble_eq_true rfl) (Nat.le_of_ble_eq_true rfl) ?_
  refine va_putF (D := (dC, dI)) (ci := 6) (v := .ref q_2) (ty := .object "VoussoirYard$Joint") (C := RX1) (T := TX1) (N := 6) hx hb hts (fun _ h9 => List.mem_cons_of_mem _ (List.mem_append_right _ (List.mem_append_left _ h9))) tyX1 tyX1_ok nmX1 hown hK hP hD hS 0 rfl rfl 1 (by decide) (hts _ (List.mem_cons_of_mem _ (List.mem_append_left _ (List.mem_of_getElem? (i := 8) rfl)))) (fun _ h9 => h9) rfl hin rfl (by decide +kernel) rfl rfl (Nat.le_of_ble_eq_true rfl) dX1_init_21 (fun H locs hP hD hS => ?_)
  have hP : va_P (dC, dI) vwCl [(h0, .inr (6, [.ref q_1, .ref q_2, .null, .int 0, .int 0, .int 0])), (q_1, .inl (cA_1, 8, .inr (.inr (.inr (.inr (fun _ => none)))))), (q_2, .inr (7, [.int 0, .int 0, .int 0, .int 0]))] H := hP
  have hD : va_D A [(h0, .inr (6, [.ref q_1, .ref q_2, .null, .int 0, .int 0, .int 0])), (q_1, .inl (cA_1, 8, .inr (.inr (.inr (.inr (fun _ => none)))))), (q_2, .inr (7, [.int 0, .int 0, .int 0, .int 0]))] := hD
  refine lv_aload_n hx hb dX1_init_24 rfl (lv_at hl 0 rfl) ?_
  refine va_new (ci := 9) (fs := [.null, .null]) (C := RX4) (T := TX4) (N := 2) hx hb hts (fun _ h9 => List.mem_cons_of_mem _ (List.mem_append_right _ (List.mem_append_right _ (List.mem_append_right _ (List.mem_append_right _ (List.mem_append_left _ h9)))))) tyX4 tyX4_ok hown (hts _ (List.mem_cons_of_mem _ (List.mem_append_left _ (List.mem_of_getElem? (i := 9) rfl)))) (hts _ (List.mem_cons_of_mem _ (List.mem_append_left _ (List.mem_of_getElem? (i := 10) rfl)))) (hts _ (List.mem_cons_of_mem _ (List.mem_append_left _ (List.mem_of_getElem? (i := 11) rfl)))) hK hP hD hS hA rfl (fun j hj => by rcases (show j = 0 ∨ j = 1 by omega) with rfl | rfl <;> rfl) (Nat.le_of_ble_eq_true rfl) (Nat.le_of_ble_eq_true rfl) dX1_init_25 (fun q_3 H hP hD hS => ?_)
  have hP : va_P (dC, dI) vwCl [(h0, .inr (6, [.ref q_1, .ref q_2, .null, .int 0, .int 0, .int 0])), (q_1, .inl (cA_1, 8, .inr (.inr (.inr (.inr (fun _ => none)))))), (q_2, .inr (7, [.int 0, .int 0, .int 0, .int 0])), (q_3, .inr (9, [.null, .null]))] H := hP
  have hD : va_D A [(h0, .inr (6, [.ref q_1, .ref q_2, .null, .int 0, .int 0, .int 0])), (q_1, .inl (cA_1, 8, .inr (.inr (.inr (.inr (fun _ => none)))))), (q_2, .inr (7, [.int 0, .int 0, .int 0, .int 0])), (q_3, .inr (9, [.null, .null]))] := hD
  refine W.widen (k := 3) (n := 14) (Nat.le_of_ble_eq_true rfl) (Nat.le_of_ble_eq_true rfl) ?_
  refine lv_dup hx hb dX1_init_28 rfl ?_
  have hPc := hP.sub (ws' := [(q_3, .inr (9, [.null, .null]))]) [3] rfl
  have hDc := hD.sub (ws' := [(q_3, .inr (9, [.null, .null]))]) [3] (by decide) rfl
  have hKc := hK.sub (tys' := []) [] rfl
  have hFc := va_free (wc := [(q_3, .inr (9, [.null, .null]))]) hD hS hA [3] rfl
  refine va_callv (va_runIN (As := []) (rest := [.ref q_3, .ref h0]) ⟨hx, hb, hml, hown, hts⟩ (c_X4_init l dC dI e0 q_3 H.size) ⟨va_cnB 0 hts (goodIn_sub (fun _ h9 => List.mem_cons_of_mem _ (List.mem_append_right _ (List.mem_append_right _ (List.mem_append_right _ (List.mem_append_right _ (List.mem_append_right _ h9)))))) (by decide +kernel)) rfl rfl rfl hAm.1.1.2.2 (hts _ (List.mem_cons_of_mem _ (List.mem_append_left _ (List.mem_of_getElem? (i := 11) rfl)))) (by decide +kernel) ⟨(Nat.le_of_ble_eq_true rfl), (Nat.le_of_ble_eq_true rfl)⟩, rfl, (hts _ (List.mem_cons_of_mem _ (List.mem_append_left _ (List.mem_of_getElem? (i := 12) rfl))))⟩ ⟨fz_blind, fz_pre hPc hKc hDc hAm hS hFc⟩ rfl rfl hl.1 rfl (lv_room (Nat.le_of_ble_eq_true rfl)) dX1_init_29 ⟨(Nat.le_of_ble_eq_true rfl), (Nat.le_of_ble_eq_true rfl)⟩) hS (fun q _ h => hFc q h) hFc (fun u t H1 locs ht hvm hw hB hz1 hk1 hS => ?_)
  obtain ⟨hx_4, hy_5, hP1, hK1, hD1⟩ := hB
  rw [ht] at hP1
  have hK1 := va_K.moved hvm.symm hK1
  obtain ⟨hP, hD⟩ := va_join (wr := [(h0, .inr (6, [.ref q_1, .ref q_2, .null, .int 0, .int 0, .int 0])), (q_1, .inl (cA_1, 8, .inr (.inr (.inr (.inr (fun _ => none)))))), (q_2, .inr (7, [.int 0, .int 0, .int 0, .int 0]))]) (w1 := [(q_3, .inr (9, [.ref hx_4, .ref hy_5]))]) hP hD [3] [0, 1, 2] rfl rfl (by decide) (by decide) hk1 hFc hP1 hD1
  generalize H1 = H at hP hS ⊢
  have hP : va_P (dC, dI) vwCl [(h0, .inr (6, [.ref q_1, .ref q_2, .null, .int 0, .int 0, .int 0])), (q_1, .inl (cA_1, 8, .inr (.inr (.inr (.inr (fun _ => none)))))), (q_2, .inr (7, [.int 0, .int 0, .int 0, .int 0])), (q_3, .inr (9, [.ref hx_4, .ref hy_5]))] H := hP
  have hD : va_D A [(h0, .inr (6, [.ref q_1, .ref q_2, .null, .int 0, .int 0, .int 0])), (q_1, .inl (cA_1, 8, .inr (.inr (.inr (.inr (fun _ => none)))))), (q_2, .inr (7, [.int 0, .int 0, .int 0, .int 0])), (q_3, .inr (9, [.ref hx_4, .ref hy_5]))] := hD
  have hK : va_K (dC, dI) vwCl [(cA_1, .object RX2)] s := hK
  refine W.widen (k := 5) (n := 22) (Nat.le_of_ble_eq_true rfl) (Nat.le_of_ble_eq_true rfl) ?_
  refine va_putF (D := (dC, dI)) (ci := 6) (v := .ref q_3) (ty := .object "VoussoirYard$Quad") (C := RX1) (T := TX1) (N := 6) hx hb hts (fun _ h9 => List.mem_cons_of_mem _ (List.mem_append_right _ (List.mem_append_left _ h9))) tyX1 tyX1_ok nmX1 hown hK hP hD hS 0 rfl rfl 2 (by decide) (hts _ (List.mem_cons_of_mem _ (List.mem_append_left _ (List.mem_of_getElem? (i := 13) rfl)))) (fun _ h9 => h9) rfl hin rfl (by decide +kernel) rfl rfl (Nat.le_of_ble_eq_true rfl) dX1_init_32 (fun H locs hP hD hS => ?_)
  have hP : va_P (dC, dI) vwCl [(h0, .inr (6, [.ref q_1, .ref q_2, .ref q_3, .int 0, .int 0, .int 0])), (q_1, .inl (cA_1, 8, .inr (.inr (.inr (.inr (fun _ => none)))))), (q_2, .inr (7, [.int 0, .int 0, .int 0, .int 0])), (q_3, .inr (9, [.ref hx_4, .ref hy_5]))] H := hP
  have hD : va_D A [(h0, .inr (6, [.ref q_1, .ref q_2, .ref q_3, .int 0, .int 0, .int 0])), (q_1, .inl (cA_1, 8, .inr (.inr (.inr (.inr (fun _ => none)))))), (q_2, .inr (7, [.int 0, .int 0, .int 0, .int 0])), (q_3, .inr (9, [.ref hx_4, .ref hy_5]))] := hD
  refine lv_aload_n hx hb dX1_init_35 rfl (lv_at hl 0 rfl) ?_
  refine lv_iconst (v := 0) hx hb dX1_init_36 (by decide) ?_
  refine va_put (D := (dC, dI)) (ci := 6) (v := .int 0) (ty := .int) (C := RX1) (T := TX1) (N := 6) hx hb hts (fun _ h9 => List.mem_cons_of_mem _ (List.mem_append_right _ (List.mem_append_left _ h9))) tyX1 tyX1_ok nmX1 hown hK hP hD hS 0 rfl rfl 3 (by decide) (hts _ (List.mem_cons_of_mem _ (List.mem_append_left _ (List.mem_of_getElem? (i := 14) rfl)))) (fun _ h9 => h9) rfl (by decide +kernel) rfl rfl (Nat.le_of_ble_eq_true rfl) dX1_init_37 (fun H locs hP hD hS => ?_)
  have hP : va_P (dC, dI) vwCl [(h0, .inr (6, [.ref q_1, .ref q_2, .ref q_3, .int 0, .int 0, .int 0])), (q_1, .inl (cA_1, 8, .inr (.inr (.inr (.inr (fun _ => none)))))), (q_2, .inr (7, [.int 0, .int 0, .int 0, .int 0])), (q_3, .inr (9, [.ref hx_4, .ref hy_5]))] H := hP
  have hD : va_D A [(h0, .inr (6, [.ref q_1, .ref q_2, .ref q_3, .int 0, .int 0, .int 0])), (q_1, .inl (cA_1, 8, .inr (.inr (.inr (.inr (fun _ => none)))))), (q_2, .inr (7, [.int 0, .int 0, .int 0, .int 0])), (q_3, .inr (9, [.ref hx_4, .ref hy_5]))] := hD
  refine lv_aload_n hx hb dX1_init_40 rfl (lv_at hl 0 rfl) ?_
  refine lv_iconst (v := 0) hx hb dX1_init_41 (by decide) ?_
  refine va_put (D := (dC, dI)) (ci := 6) (v := .int 0) (ty := .int) (C := RX1) (T := TX1) (N := 6) hx hb hts (fun _ h9 => List.mem_cons_of_mem _ (List.mem_append_right _ (List.mem_append_left _ h9))) tyX1 tyX1_ok nmX1 hown hK hP hD hS 0 rfl rfl 4 (by decide) (hts _ (List.mem_cons_of_mem _ (List.mem_append_left _ (List.mem_of_getElem? (i := 15) rfl)))) (fun _ h9 => h9) rfl (by decide +kernel) rfl rfl (Nat.le_of_ble_eq_true rfl) dX1_init_42 (fun H locs hP hD hS => ?_)
  have hP : va_P (dC, dI) vwCl [(h0, .inr (6, [.ref q_1, .ref q_2, .ref q_3, .int 0, .int 0, .int 0])), (q_1, .inl (cA_1, 8, .inr (.inr (.inr (.inr (fun _ => none)))))), (q_2, .inr (7, [.int 0, .int 0, .int 0, .int 0])), (q_3, .inr (9, [.ref hx_4, .ref hy_5]))] H := hP
  have hD : va_D A [(h0, .inr (6, [.ref q_1, .ref q_2, .ref q_3, .int 0, .int 0, .int 0])), (q_1, .inl (cA_1, 8, .inr (.inr (.inr (.inr (fun _ => none)))))), (q_2, .inr (7, [.int 0, .int 0, .int 0, .int 0])), (q_3, .inr (9, [.ref hx_4, .ref hy_5]))] := hD
  refine lv_aload_n hx hb dX1_init_45 rfl (lv_at hl 0 rfl) ?_
  refine lv_iconst (v := 1) hx hb dX1_init_46 (by decide) ?_
  refine va_put (D := (dC, dI)) (ci := 6) (v := .int 1) (ty := .int) (C := RX1) (T := TX1) (N := 6) hx hb hts (fun _ h9 => List.mem_cons_of_mem _ (List.mem_append_right _ (List.mem_append_left _ h9))) tyX1 tyX1_ok nmX1 hown hK hP hD hS 0 rfl rfl 5 (by decide) (hts _ (List.mem_cons_of_mem _ (List.mem_append_left _ (List.mem_of_getElem? (i := 16) rfl)))) (fun _ h9 => h9) rfl (by decide +kernel) rfl rfl (Nat.le_of_ble_eq_true rfl) dX1_init_47 (fun H locs hP hD hS => ?_)
  have hP : va_P (dC, dI) vwCl [(h0, .inr (6, [.ref q_1, .ref q_2, .ref q_3, .int 0, .int 0, .int 1])), (q_1, .inl (cA_1, 8, .inr (.inr (.inr (.inr (fun _ => none)))))), (q_2, .inr (7, [.int 0, .int 0, .int 0, .int 0])), (q_3, .inr (9, [.ref hx_4, .ref hy_5]))] H := hP
  have hD : va_D A [(h0, .inr (6, [.ref q_1, .ref q_2, .ref q_3, .int 0, .int 0, .int 1])), (q_1, .inl (cA_1, 8, .inr (.inr (.inr (.inr (fun _ => none)))))), (q_2, .inr (7, [.int 0, .int 0, .int 0, .int 0])), (q_3, .inr (9, [.ref hx_4, .ref hy_5]))] := hD
  refine lv_iconst (v := 0) hx hb dX1_init_50 (by decide) ?_
  refine lv_istore_n (lv' := [(1, .int 0), (0, .ref h0)]) hx hb dX1_init_51 rfl hl (by decide) rfl (fun ls hl => ?_)
  refine lv_iload_n hx hb dX1_init_52 rfl (lv_at hl 0 rfl) ?_
  refine lv_bipush (v := 8) hx hb dX1_init_53 (by decide) ?_
  refine lv_icmp_ge (tgt := 77) hx hb dX1_init_55 (by decide) (fun c_9 => absurd c_9 (by decide)) (fun _ => ?_)
  refine lv_aload_n hx hb dX1_init_58 rfl (lv_at hl 1 rfl) ?_
  refine va_get (D := (dC, dI)) (ci := 6) (v := .ref q_1) (C := RX1) (T := TX1) (N := 6) hx hb hts (fun _ h9 => List.mem_cons_of_mem _ (List.mem_append_right _ (List.mem_append_left _ h9))) hown hK hP 0 rfl rfl 0 (by decide) (hts _ (List.mem_cons_of_mem _ (List.mem_append_left _ (List.mem_of_getElem? (i := 4) rfl)))) (fun _ h9 => h9) rfl dX1_init_59 ?_
  refine lv_iload_n hx hb dX1_init_62 rfl (lv_at hl 0 rfl) ?_
  refine va_new (ci := 7) (fs := [.int 0, .int 0, .int 0, .int 0]) (C := RX2) (T := TX2) (N := 4) hx hb hts (fun _ h9 => List.mem_cons_of_mem _ (List.mem_append_right _ (List.mem_append_right _ (List.mem_append_left _ h9)))) tyX2 tyX2_ok hown (hts _ (List.mem_cons_of_mem _ (List.mem_append_left _ (List.mem_of_getElem? (i := 3) rfl)))) (hts _ (List.mem_cons_of_mem _ (List.mem_append_left _ (List.mem_of_getElem? (i := 5) rfl)))) (hts _ (List.mem_cons_of_mem _ (List.mem_append_left _ (List.mem_of_getElem? (i := 6) rfl)))) hK hP hD hS hA rfl (fun j hj => by rcases (show j = 0 ∨ j = 1 ∨ j = 2 ∨ j = 3 by omega) with rfl | rfl | rfl | rfl <;> rfl) (Nat.le_of_ble_eq_true rfl) (Nat.le_of_ble_eq_true rfl) dX1_init_63 (fun q_6 H hP hD hS => ?_)
  have hP : va_P (dC, dI) vwCl [(h0, .inr (6, [.ref q_1, .ref q_2, .ref q_3, .int 0, .int 0, .int 1])), (q_1, .inl (cA_1, 8, .inr (.inr (.inr (.inr (fun _ => none)))))), (q_2, .inr (7, [.int 0, .int 0, .int 0, .int 0])), (q_3, .inr (9, [.ref hx_4, .ref hy_5])), (q_6, .inr (7, [.int 0, .int 0, .int 0, .int 0]))] H := hP
  have hD : va_D A [(h0, .inr (6, [.ref q_1, .ref q_2, .ref q_3, .int 0, .int 0, .int 1])), (q_1, .inl (cA_1, 8, .inr (.inr (.inr (.inr (fun _ => none)))))), (q_2, .inr (7, [.int 0, .int 0, .int 0, .int 0])), (q_3, .inr (9, [.ref hx_4, .ref hy_5])), (q_6, .inr (7, [.int 0, .int 0, .int 0, .int 0]))] := hD
  refine W.widen (k := 6) (n := 26) (Nat.le_of_ble_eq_true rfl) (Nat.le_of_ble_eq_true rfl) ?_
  refine lv_dup hx hb dX1_init_66 rfl ?_
  have hPc := hP.sub (ws' := [(q_6, .inr (7, [.int 0, .int 0, .int 0, .int 0]))]) [4] rfl
  have hDc := hD.sub (ws' := [(q_6, .inr (7, [.int 0, .int 0, .int 0, .int 0]))]) [4] (by decide) rfl
  have hKc := hK.sub (tys' := []) [] rfl
  have hFc := va_free (wc := [(q_6, .inr (7, [.int 0, .int 0, .int 0, .int 0]))]) hD hS hA [4] rfl
  refine va_callv (va_runIN (As := []) (rest := [.ref q_6, .int 0, .ref q_1]) ⟨hx, hb, hml, hown, hts⟩ (c_X2_init l dC dI e0 q_6 H.size) ⟨va_cnB 0 hts (goodIn_sub (fun _ h9 => List.mem_cons_of_mem _ (List.mem_append_right _ (List.mem_append_right _ (List.mem_append_right _ (List.mem_append_left _ h9))))) (by decide +kernel)) rfl rfl rfl hAm.1.1.2.1 (hts _ (List.mem_cons_of_mem _ (List.mem_append_left _ (List.mem_of_getElem? (i := 6) rfl)))) (by decide +kernel) ⟨(Nat.le_of_ble_eq_true rfl), (Nat.le_of_ble_eq_true rfl)⟩, rfl, (hts _ (List.mem_cons_of_mem _ (List.mem_append_left _ (List.mem_of_getElem? (i := 7) rfl))))⟩ ⟨fz_blind, fz_pre hPc hKc hDc hAm hS hFc⟩ rfl rfl hl.1 rfl (lv_room (Nat.le_of_ble_eq_true rfl)) dX1_init_67 ⟨(Nat.le_of_ble_eq_true rfl), (Nat.le_of_ble_eq_true rfl)⟩) hS (fun q _ h => hFc q h) hFc (fun u t H1 locs ht hvm hw hB hz1 hk1 hS => ?_)
  obtain ⟨hP1, hK1, hD1⟩ := hB
  rw [ht] at hP1
  have hK1 := va_K.moved hvm.symm hK1
  obtain ⟨hP, hD⟩ := va_join (wr := [(h0, .inr (6, [.ref q_1, .ref q_2, .ref q_3, .int 0, .int 0, .int 1])), (q_1, .inl (cA_1, 8, .inr (.inr (.inr (.inr (fun _ => none)))))), (q_2, .inr (7, [.int 0, .int 0, .int 0, .int 0])), (q_3, .inr (9, [.ref hx_4, .ref hy_5]))]) (w1 := [(q_6, .inr (7, [.int 0, .int 0, .int 0, .int 0]))]) hP hD [4] [0, 1, 2, 3] rfl rfl (by decide) (by decide) hk1 hFc hP1 hD1
  generalize H1 = H at hP hS ⊢
  have hP : va_P (dC, dI) vwCl [(h0, .inr (6, [.ref q_1, .ref q_2, .ref q_3, .int 0, .int 0, .int 1])), (q_1, .inl (cA_1, 8, .inr (.inr (.inr (.inr (fun _ => none)))))), (q_2, .inr (7, [.int 0, .int 0, .int 0, .int 0])), (q_3, .inr (9, [.ref hx_4, .ref hy_5])), (q_6, .inr (7, [.int 0, .int 0, .int 0, .int 0]))] H := hP
  have hD : va_D A [(h0, .inr (6, [.ref q_1, .ref q_2, .ref q_3, .int 0, .int 0, .int 1])), (q_1, .inl (cA_1, 8, .inr (.inr (.inr (.inr (fun _ => none)))))), (q_2, .inr (7, [.int 0, .int 0, .int 0, .int 0])), (q_3, .inr (9, [.ref hx_4, .ref hy_5])), (q_6, .inr (7, [.int 0, .int 0, .int 0, .int 0]))] := hD
  have hK : va_K (dC, dI) vwCl [(cA_1, .object RX2)] s := hK
  refine W.widen (k := 6) (n := 26) (Nat.le_of_ble_eq_true rfl) (Nat.le_of_ble_eq_true rfl) ?_
  refine va_astq hx hb hK hP hD hS 1 0 4 7 rfl rfl rfl rfl (fz_il (by decide)) dX1_init_70 (fun H locs hP hD hS => ?_)
  have hP : va_P (dC, dI) vwCl [(h0, .inr (6, [.ref q_1, .ref q_2, .ref q_3, .int 0, .int 0, .int 1])), (q_1, .inl (cA_1, 8, .inr (.inr (.inr (.inr (va_up (fun _ => none) (0 : Int32).toNatClampNeg (some q_6))))))), (q_2, .inr (7, [.int 0, .int 0, .int 0, .int 0])), (q_3, .inr (9, [.ref hx_4, .ref hy_5])), (q_6, .inr (7, [.int 0, .int 0, .int 0, .int 0]))] H := hP
  have hD : va_D A [(h0, .inr (6, [.ref q_1, .ref q_2, .ref q_3, .int 0, .int 0, .int 1])), (q_1, .inl (cA_1, 8, .inr (.inr (.inr (.inr (va_up (fun _ => none) (0 : Int32).toNatClampNeg (some q_6))))))), (q_2, .inr (7, [.int 0, .int 0, .int 0, .int 0])), (q_3, .inr (9, [.ref hx_4, .ref hy_5])), (q_6, .inr (7, [.int 0, .int 0, .int 0, .int 0]))] := hD
  refine lv_iinc (v := 1) (lv' := [(1, .int 1), (0, .ref h0)]) hx hb dX1_init_71 hl (k := 0) rfl (by decide) (by decide) rfl (fun ls hl => ?_)
  refine lv_goto (tgt := 52) hx hb dX1_init_74 (by decide) ?_
  refine lv_iload_n hx hb dX1_init_52 rfl (lv_at hl 0 rfl) ?_
  refine lv_bipush (v := 8) hx hb dX1_init_53 (by decide) ?_
  refine lv_icmp_ge (tgt := 77) hx hb dX1_init_55 (by decide) (fun c_9 => absurd c_9 (by decide)) (fun _ => ?_)
  refine lv_aload_n hx hb dX1_init_58 rfl (lv_at hl 1 rfl) ?_
  refine va_get (D := (dC, dI)) (ci := 6) (v := .ref q_1) (C := RX1) (T := TX1) (N := 6) hx hb hts (fun _ h9 => List.mem_cons_of_mem _ (List.mem_append_right _ (List.mem_append_left _ h9))) hown hK hP 0 rfl rfl 0 (by decide) (hts _ (List.mem_cons_of_mem _ (List.mem_append_left _ (List.mem_of_getElem? (i := 4) rfl)))) (fun _ h9 => h9) rfl dX1_init_59 ?_
  refine lv_iload_n hx hb dX1_init_62 rfl (lv_at hl 0 rfl) ?_
  refine va_new (ci := 7) (fs := [.int 0, .int 0, .int 0, .int 0]) (C := RX2) (T := TX2) (N := 4) hx hb hts (fun _ h9 => List.mem_cons_of_mem _ (List.mem_append_right _ (List.mem_append_right _ (List.mem_append_left _ h9)))) tyX2 tyX2_ok hown (hts _ (List.mem_cons_of_mem _ (List.mem_append_left _ (List.mem_of_getElem? (i := 3) rfl)))) (hts _ (List.mem_cons_of_mem _ (List.mem_append_left _ (List.mem_of_getElem? (i := 5) rfl)))) (hts _ (List.mem_cons_of_mem _ (List.mem_append_left _ (List.mem_of_getElem? (i := 6) rfl)))) hK hP hD hS hA rfl (fun j hj => by rcases (show j = 0 ∨ j = 1 ∨ j = 2 ∨ j = 3 by omega) with rfl | rfl | rfl | rfl <;> rfl) (Nat.le_of_ble_eq_true rfl) (Nat.le_of_ble_eq_true rfl) dX1_init_63 (fun q_7 H hP hD hS => ?_)
  have hP : va_P (dC, dI) vwCl [(h0, .inr (6, [.ref q_1, .ref q_2, .ref q_3, .int 0, .int 0, .int 1])), (q_1, .inl (cA_1, 8, .inr (.inr (.inr (.inr (va_up (fun _ => none) (0 : Int32).toNatClampNeg (some q_6))))))), (q_2, .inr (7, [.int 0, .int 0, .int 0, .int 0])), (q_3, .inr (9, [.ref hx_4, .ref hy_5])), (q_6, .inr (7, [.int 0, .int 0, .int 0, .int 0])), (q_7, .inr (7, [.int 0, .int 0, .int 0, .int 0]))] H := hP
  have hD : va_D A [(h0, .inr (6, [.ref q_1, .ref q_2, .ref q_3, .int 0, .int 0, .int 1])), (q_1, .inl (cA_1, 8, .inr (.inr (.inr (.inr (va_up (fun _ => none) (0 : Int32).toNatClampNeg (some q_6))))))), (q_2, .inr (7, [.int 0, .int 0, .int 0, .int 0])), (q_3, .inr (9, [.ref hx_4, .ref hy_5])), (q_6, .inr (7, [.int 0, .int 0, .int 0, .int 0])), (q_7, .inr (7, [.int 0, .int 0, .int 0, .int 0]))] := hD
  refine W.widen (k := 7) (n := 30) (Nat.le_of_ble_eq_true rfl) (Nat.le_of_ble_eq_true rfl) ?_
  refine lv_dup hx hb dX1_init_66 rfl ?_
  have hPc := hP.sub (ws' := [(q_7, .inr (7, [.int 0, .int 0, .int 0, .int 0]))]) [5] rfl
  have hDc := hD.sub (ws' := [(q_7, .inr (7, [.int 0, .int 0, .int 0, .int 0]))]) [5] (by decide) rfl
  have hKc := hK.sub (tys' := []) [] rfl
  have hFc := va_free (wc := [(q_7, .inr (7, [.int 0, .int 0, .int 0, .int 0]))]) hD hS hA [5] rfl
  refine va_callv (va_runIN (As := []) (rest := [.ref q_7, .int 1, .ref q_1]) ⟨hx, hb, hml, hown, hts⟩ (c_X2_init l dC dI e0 q_7 H.size) ⟨va_cnB 0 hts (goodIn_sub (fun _ h9 => List.mem_cons_of_mem _ (List.mem_append_right _ (List.mem_append_right _ (List.mem_append_right _ (List.mem_append_left _ h9))))) (by decide +kernel)) rfl rfl rfl hAm.1.1.2.1 (hts _ (List.mem_cons_of_mem _ (List.mem_append_left _ (List.mem_of_getElem? (i := 6) rfl)))) (by decide +kernel) ⟨(Nat.le_of_ble_eq_true rfl), (Nat.le_of_ble_eq_true rfl)⟩, rfl, (hts _ (List.mem_cons_of_mem _ (List.mem_append_left _ (List.mem_of_getElem? (i := 7) rfl))))⟩ ⟨fz_blind, fz_pre hPc hKc hDc hAm hS hFc⟩ rfl rfl hl.1 rfl (lv_room (Nat.le_of_ble_eq_true rfl)) dX1_init_67 ⟨(Nat.le_of_ble_eq_true rfl), (Nat.le_of_ble_eq_true rfl)⟩) hS (fun q _ h => hFc q h) hFc (fun u t H1 locs ht hvm hw hB hz1 hk1 hS => ?_)
  obtain ⟨hP1, hK1, hD1⟩ := hB
  rw [ht] at hP1
  have hK1 := va_K.moved hvm.symm hK1
  obtain ⟨hP, hD⟩ := va_join (wr := [(h0, .inr (6, [.ref q_1, .ref q_2, .ref q_3, .int 0, .int 0, .int 1])), (q_1, .inl (cA_1, 8, .inr (.inr (.inr (.inr (va_up (fun _ => none) (0 : Int32).toNatClampNeg (some q_6))))))), (q_2, .inr (7, [.int 0, .int 0, .int 0, .int 0])), (q_3, .inr (9, [.ref hx_4, .ref hy_5])), (q_6, .inr (7, [.int 0, .int 0, .int 0, .int 0]))]) (w1 := [(q_7, .inr (7, [.int 0, .int 0, .int 0, .int 0]))]) hP hD [5] [0, 1, 2, 3, 4] rfl rfl (by decide) (by decide) hk1 hFc hP1 hD1
  generalize H1 = H at hP hS ⊢
  have hP : va_P (dC, dI) vwCl [(h0, .inr (6, [.ref q_1, .ref q_2, .ref q_3, .int 0, .int 0, .int 1])), (q_1, .inl (cA_1, 8, .inr (.inr (.inr (.inr (va_up (fun _ => none) (0 : Int32).toNatClampNeg (some q_6))))))), (q_2, .inr (7, [.int 0, .int 0, .int 0, .int 0])), (q_3, .inr (9, [.ref hx_4, .ref hy_5])), (q_6, .inr (7, [.int 0, .int 0, .int 0, .int 0])), (q_7, .inr (7, [.int 0, .int 0, .int 0, .int 0]))] H := hP
  have hD : va_D A [(h0, .inr (6, [.ref q_1, .ref q_2, .ref q_3, .int 0, .int 0, .int 1])), (q_1, .inl (cA_1, 8, .inr (.inr (.inr (.inr (va_up (fun _ => none) (0 : Int32).toNatClampNeg (some q_6))))))), (q_2, .inr (7, [.int 0, .int 0, .int 0, .int 0])), (q_3, .inr (9, [.ref hx_4, .ref hy_5])), (q_6, .inr (7, [.int 0, .int 0, .int 0, .int 0])), (q_7, .inr (7, [.int 0, .int 0, .int 0, .int 0]))] := hD
  have hK : va_K (dC, dI) vwCl [(cA_1, .object RX2)] s := hK
  refine W.widen (k := 7) (n := 30) (Nat.le_of_ble_eq_true rfl) (Nat.le_of_ble_eq_true rfl) ?_
  refine va_astq hx hb hK hP hD hS 1 0 5 7 rfl rfl rfl rfl (fz_il (by decide)) dX1_init_70 (fun H locs hP hD hS => ?_)
  have hP : va_P (dC, dI) vwCl [(h0, .inr (6, [.ref q_1, .ref q_2, .ref q_3, .int 0, .int 0, .int 1])), (q_1, .inl (cA_1, 8, .inr (.inr (.inr (.inr (va_up (va_up (fun _ => none) (0 : Int32).toNatClampNeg (some q_6)) (1 : Int32).toNatClampNeg (some q_7))))))), (q_2, .inr (7, [.int 0, .int 0, .int 0, .int 0])), (q_3, .inr (9, [.ref hx_4, .ref hy_5])), (q_6, .inr (7, [.int 0, .int 0, .int 0, .int 0])), (q_7, .inr (7, [.int 0, .int 0, .int 0, .int 0]))] H := hP
  have hD : va_D A [(h0, .inr (6, [.ref q_1, .ref q_2, .ref q_3, .int 0, .int 0, .int 1])), (q_1, .inl (cA_1, 8, .inr (.inr (.inr (.inr (va_up (va_up (fun _ => none) (0 : Int32).toNatClampNeg (some q_6)) (1 : Int32).toNatClampNeg (some q_7))))))), (q_2, .inr (7, [.int 0, .int 0, .int 0, .int 0])), (q_3, .inr (9, [.ref hx_4, .ref hy_5])), (q_6, .inr (7, [.int 0, .int 0, .int 0, .int 0])), (q_7, .inr (7, [.int 0, .int 0, .int 0, .int 0]))] := hD
  refine lv_iinc (v := 2) (lv' := [(1, .int 2), (0, .ref h0)]) hx hb dX1_init_71 hl (k := 0) rfl (by decide) (by decide) rfl (fun ls hl => ?_)
  refine lv_goto (tgt := 52) hx hb dX1_init_74 (by decide) ?_
  refine lv_iload_n hx hb dX1_init_52 rfl (lv_at hl 0 rfl) ?_
  refine lv_bipush (v := 8) hx hb dX1_init_53 (by decide) ?_
  refine lv_icmp_ge (tgt := 77) hx hb dX1_init_55 (by decide) (fun c_9 => absurd c_9 (by decide)) (fun _ => ?_)
  refine lv_aload_n hx hb dX1_init_58 rfl (lv_at hl 1 rfl) ?_
  refine va_get (D := (dC, dI)) (ci := 6) (v := .ref q_1) (C := RX1) (T := TX1) (N := 6) hx hb hts (fun _ h9 => List.mem_cons_of_mem _ (List.mem_append_right _ (List.mem_append_left _ h9))) hown hK hP 0 rfl rfl 0 (by decide) (hts _ (List.mem_cons_of_mem _ (List.mem_append_left _ (List.mem_of_getElem? (i := 4) rfl)))) (fun _ h9 => h9) rfl dX1_init_59 ?_
  refine lv_iload_n hx hb dX1_init_62 rfl (lv_at hl 0 rfl) ?_
  refine va_new (ci := 7) (fs := [.int 0, .int 0, .int 0, .int 0]) (C := RX2) (T := TX2) (N := 4) hx hb hts (fun _ h9 => List.mem_cons_of_mem _ (List.mem_append_right _ (List.mem_append_right _ (List.mem_append_left _ h9)))) tyX2 tyX2_ok hown (hts _ (List.mem_cons_of_mem _ (List.mem_append_left _ (List.mem_of_getElem? (i := 3) rfl)))) (hts _ (List.mem_cons_of_mem _ (List.mem_append_left _ (List.mem_of_getElem? (i := 5) rfl)))) (hts _ (List.mem_cons_of_mem _ (List.mem_append_left _ (List.mem_of_getElem? (i := 6) rfl)))) hK hP hD hS hA rfl (fun j hj => by rcases (show j = 0 ∨ j = 1 ∨ j = 2 ∨ j = 3 by omega) with rfl | rfl | rfl | rfl <;> rfl) (Nat.le_of_ble_eq_true rfl) (Nat.le_of_ble_eq_true rfl) dX1_init_63 (fun q_8 H hP hD hS => ?_)
  have hP : va_P (dC, dI) vwCl [(h0, .inr (6, [.ref q_1, .ref q_2, .ref q_3, .int 0, .int 0, .int 1])), (q_1, .inl (cA_1, 8, .inr (.inr (.inr (.inr (va_up (va_up (fun _ => none) (0 : Int32).toNatClampNeg (some q_6)) (1 : Int32).toNatClampNeg (some q_7))))))), (q_2, .inr (7, [.int 0, .int 0, .int 0, .int 0])), (q_3, .inr (9, [.ref hx_4, .ref hy_5])), (q_6, .inr (7, [.int 0, .int 0, .int 0, .int 0])), (q_7, .inr (7, [.int 0, .int 0, .int 0, .int 0])), (q_8, .inr (7, [.int 0, .int 0, .int 0, .int 0]))] H := hP
  have hD : va_D A [(h0, .inr (6, [.ref q_1, .ref q_2, .ref q_3, .int 0, .int 0, .int 1])), (q_1, .inl (cA_1, 8, .inr (.inr (.inr (.inr (va_up (va_up (fun _ => none) (0 : Int32).toNatClampNeg (some q_6)) (1 : Int32).toNatClampNeg (some q_7))))))), (q_2, .inr (7, [.int 0, .int 0, .int 0, .int 0])), (q_3, .inr (9, [.ref hx_4, .ref hy_5])), (q_6, .inr (7, [.int 0, .int 0, .int 0, .int 0])), (q_7, .inr (7, [.int 0, .int 0, .int 0, .int 0])), (q_8, .inr (7, [.int 0, .int 0, .int 0, .int 0]))] := hD
  refine W.widen (k := 8) (n := 34) (Nat.le_of_ble_eq_true rfl) (Nat.le_of_ble_eq_true rfl) ?_
  refine lv_dup hx hb dX1_init_66 rfl ?_
  have hPc := hP.sub (ws' := [(q_8, .inr (7, [.int 0, .int 0, .int 0, .int 0]))]) [6] rfl
  have hDc := hD.sub (ws' := [(q_8, .inr (7, [.int 0, .int 0, .int 0, .int 0]))]) [6] (by decide) rfl
  have hKc := hK.sub (tys' := []) [] rfl
  have hFc := va_free (wc := [(q_8, .inr (7, [.int 0, .int 0, .int 0, .int 0]))]) hD hS hA [6] rfl
  refine va_callv (va_runIN (As := []) (rest := [.ref q_8, .int 2, .ref q_1]) ⟨hx, hb, hml, hown, hts⟩ (c_X2_init l dC dI e0 q_8 H.size) ⟨va_cnB 0 hts (goodIn_sub (fun _ h9 => List.mem_cons_of_mem _ (List.mem_append_right _ (List.mem_append_right _ (List.mem_append_right _ (List.mem_append_left _ h9))))) (by decide +kernel)) rfl rfl rfl hAm.1.1.2.1 (hts _ (List.mem_cons_of_mem _ (List.mem_append_left _ (List.mem_of_getElem? (i := 6) rfl)))) (by decide +kernel) ⟨(Nat.le_of_ble_eq_true rfl), (Nat.le_of_ble_eq_true rfl)⟩, rfl, (hts _ (List.mem_cons_of_mem _ (List.mem_append_left _ (List.mem_of_getElem? (i := 7) rfl))))⟩ ⟨fz_blind, fz_pre hPc hKc hDc hAm hS hFc⟩ rfl rfl hl.1 rfl (lv_room (Nat.le_of_ble_eq_true rfl)) dX1_init_67 ⟨(Nat.le_of_ble_eq_true rfl), (Nat.le_of_ble_eq_true rfl)⟩) hS (fun q _ h => hFc q h) hFc (fun u t H1 locs ht hvm hw hB hz1 hk1 hS => ?_)
  obtain ⟨hP1, hK1, hD1⟩ := hB
  rw [ht] at hP1
  have hK1 := va_K.moved hvm.symm hK1
  obtain ⟨hP, hD⟩ := va_join (wr := [(h0, .inr (6, [.ref q_1, .ref q_2, .ref q_3, .int 0, .int 0, .int 1])), (q_1, .inl (cA_1, 8, .inr (.inr (.inr (.inr (va_up (va_up (fun _ => none) (0 : Int32).toNatClampNeg (some q_6)) (1 : Int32).toNatClampNeg (some q_7))))))), (q_2, .inr (7, [.int 0, .int 0, .int 0, .int 0])), (q_3, .inr (9, [.ref hx_4, .ref hy_5])), (q_6, .inr (7, [.int 0, .int 0, .int 0, .int 0])), (q_7, .inr (7, [.int 0, .int 0, .int 0, .int 0]))]) (w1 := [(q_8, .inr (7, [.int 0, .int 0, .int 0, .int 0]))]) hP hD [6] [0, 1, 2, 3, 4, 5] rfl rfl (by decide) (by decide) hk1 hFc hP1 hD1
  generalize H1 = H at hP hS ⊢
  have hP : va_P (dC, dI) vwCl [(h0, .inr (6, [.ref q_1, .ref q_2, .ref q_3, .int 0, .int 0, .int 1])), (q_1, .inl (cA_1, 8, .inr (.inr (.inr (.inr (va_up (va_up (fun _ => none) (0 : Int32).toNatClampNeg (some q_6)) (1 : Int32).toNatClampNeg (some q_7))))))), (q_2, .inr (7, [.int 0, .int 0, .int 0, .int 0])), (q_3, .inr (9, [.ref hx_4, .ref hy_5])), (q_6, .inr (7, [.int 0, .int 0, .int 0, .int 0])), (q_7, .inr (7, [.int 0, .int 0, .int 0, .int 0])), (q_8, .inr (7, [.int 0, .int 0, .int 0, .int 0]))] H := hP
  have hD : va_D A [(h0, .inr (6, [.ref q_1, .ref q_2, .ref q_3, .int 0, .int 0, .int 1])), (q_1, .inl (cA_1, 8, .inr (.inr (.inr (.inr (va_up (va_up (fun _ => none) (0 : Int32).toNatClampNeg (some q_6)) (1 : Int32).toNatClampNeg (some q_7))))))), (q_2, .inr (7, [.int 0, .int 0, .int 0, .int 0])), (q_3, .inr (9, [.ref hx_4, .ref hy_5])), (q_6, .inr (7, [.int 0, .int 0, .int 0, .int 0])), (q_7, .inr (7, [.int 0, .int 0, .int 0, .int 0])), (q_8, .inr (7, [.int 0, .int 0, .int 0, .int 0]))] := hD
  have hK : va_K (dC, dI) vwCl [(cA_1, .object RX2)] s := hK
  refine W.widen (k := 8) (n := 34) (Nat.le_of_ble_eq_true rfl) (Nat.le_of_ble_eq_true rfl) ?_
  refine va_astq hx hb hK hP hD hS 1 0 6 7 rfl rfl rfl rfl (fz_il (by decide)) dX1_init_70 (fun H locs hP hD hS => ?_)
  have hP : va_P (dC, dI) vwCl [(h0, .inr (6, [.ref q_1, .ref q_2, .ref q_3, .int 0, .int 0, .int 1])), (q_1, .inl (cA_1, 8, .inr (.inr (.inr (.inr (va_up (va_up (va_up (fun _ => none) (0 : Int32).toNatClampNeg (some q_6)) (1 : Int32).toNatClampNeg (some q_7)) (2 : Int32).toNatClampNeg (some q_8))))))), (q_2, .inr (7, [.int 0, .int 0, .int 0, .int 0])), (q_3, .inr (9, [.ref hx_4, .ref hy_5])), (q_6, .inr (7, [.int 0, .int 0, .int 0, .int 0])), (q_7, .inr (7, [.int 0, .int 0, .int 0, .int 0])), (q_8, .inr (7, [.int 0, .int 0, .int 0, .int 0]))] H := hP
  have hD : va_D A [(h0, .inr (6, [.ref q_1, .ref q_2, .ref q_3, .int 0, .int 0, .int 1])), (q_1, .inl (cA_1, 8, .inr (.inr (.inr (.inr (va_up (va_up (va_up (fun _ => none) (0 : Int32).toNatClampNeg (some q_6)) (1 : Int32).toNatClampNeg (some q_7)) (2 : Int32).toNatClampNeg (some q_8))))))), (q_2, .inr (7, [.int 0, .int 0, .int 0, .int 0])), (q_3, .inr (9, [.ref hx_4, .ref hy_5])), (q_6, .inr (7, [.int 0, .int 0, .int 0, .int 0])), (q_7, .inr (7, [.int 0, .int 0, .int 0, .int 0])), (q_8, .inr (7, [.int 0, .int 0, .int 0, .int 0]))] := hD
  refine lv_iinc (v := 3) (lv' := [(1, .int 3), (0, .ref h0)]) hx hb dX1_init_71 hl (k := 0) rfl (by decide) (by decide) rfl (fun ls hl => ?_)
  refine lv_goto (tgt := 52) hx hb dX1_init_74 (by decide) ?_
  refine lv_iload_n hx hb dX1_init_52 rfl (lv_at hl 0 rfl) ?_
  refine lv_bipush (v := 8) hx hb dX1_init_53 (by decide) ?_
  refine lv_icmp_ge (tgt := 77) hx hb dX1_init_55 (by decide) (fun c_9 => absurd c_9 (by decide)) (fun _ => ?_)
  refine lv_aload_n hx hb dX1_init_58 rfl (lv_at hl 1 rfl) ?_
  refine va_get (D := (dC, dI)) (ci := 6) (v := .ref q_1) (C := RX1) (T := TX1) (N := 6) hx hb hts (fun _ h9 => List.mem_cons_of_mem _ (List.mem_append_right _ (List.mem_append_left _ h9))) hown hK hP 0 rfl rfl 0 (by decide) (hts _ (List.mem_cons_of_mem _ (List.mem_append_left _ (List.mem_of_getElem? (i := 4) rfl)))) (fun _ h9 => h9) rfl dX1_init_59 ?_
  refine lv_iload_n hx hb dX1_init_62 rfl (lv_at hl 0 rfl) ?_
  refine va_new (ci := 7) (fs := [.int 0, .int 0, .int 0, .int 0]) (C := RX2) (T := TX2) (N := 4) hx hb hts (fun _ h9 => List.mem_cons_of_mem _ (List.mem_append_right _ (List.mem_append_right _ (List.mem_append_left _ h9)))) tyX2 tyX2_ok hown (hts _ (List.mem_cons_of_mem _ (List.mem_append_left _ (List.mem_of_getElem? (i := 3) rfl)))) (hts _ (List.mem_cons_of_mem _ (List.mem_append_left _ (List.mem_of_getElem? (i := 5) rfl)))) (hts _ (List.mem_cons_of_mem _ (List.mem_append_left _ (List.mem_of_getElem? (i := 6) rfl)))) hK hP hD hS hA rfl (fun j hj => by rcases (show j = 0 ∨ j = 1 ∨ j = 2 ∨ j = 3 by omega) with rfl | rfl | rfl | rfl <;> rfl) (Nat.le_of_ble_eq_true rfl) (Nat.le_of_ble_eq_true rfl) dX1_init_63 (fun q_9 H hP hD hS => ?_)
  have hP : va_P (dC, dI) vwCl [(h0, .inr (6, [.ref q_1, .ref q_2, .ref q_3, .int 0, .int 0, .int 1])), (q_1, .inl (cA_1, 8, .inr (.inr (.inr (.inr (va_up (va_up (va_up (fun _ => none) (0 : Int32).toNatClampNeg (some q_6)) (1 : Int32).toNatClampNeg (some q_7)) (2 : Int32).toNatClampNeg (some q_8))))))), (q_2, .inr (7, [.int 0, .int 0, .int 0, .int 0])), (q_3, .inr (9, [.ref hx_4, .ref hy_5])), (q_6, .inr (7, [.int 0, .int 0, .int 0, .int 0])), (q_7, .inr (7, [.int 0, .int 0, .int 0, .int 0])), (q_8, .inr (7, [.int 0, .int 0, .int 0, .int 0])), (q_9, .inr (7, [.int 0, .int 0, .int 0, .int 0]))] H := hP
  have hD : va_D A [(h0, .inr (6, [.ref q_1, .ref q_2, .ref q_3, .int 0, .int 0, .int 1])), (q_1, .inl (cA_1, 8, .inr (.inr (.inr (.inr (va_up (va_up (va_up (fun _ => none) (0 : Int32).toNatClampNeg (some q_6)) (1 : Int32).toNatClampNeg (some q_7)) (2 : Int32).toNatClampNeg (some q_8))))))), (q_2, .inr (7, [.int 0, .int 0, .int 0, .int 0])), (q_3, .inr (9, [.ref hx_4, .ref hy_5])), (q_6, .inr (7, [.int 0, .int 0, .int 0, .int 0])), (q_7, .inr (7, [.int 0, .int 0, .int 0, .int 0])), (q_8, .inr (7, [.int 0, .int 0, .int 0, .int 0])), (q_9, .inr (7, [.int 0, .int 0, .int 0, .int 0]))] := hD
  refine W.widen (k := 9) (n := 38) (Nat.le_of_ble_eq_true rfl) (Nat.le_of_ble_eq_true rfl) ?_
  refine lv_dup hx hb dX1_init_66 rfl ?_
  have hPc := hP.sub (ws' := [(q_9, .inr (7, [.int 0, .int 0, .int 0, .int 0]))]) [7] rfl
  have hDc := hD.sub (ws' := [(q_9, .inr (7, [.int 0, .int 0, .int 0, .int 0]))]) [7] (by decide) rfl
  have hKc := hK.sub (tys' := []) [] rfl
  have hFc := va_free (wc := [(q_9, .inr (7, [.int 0, .int 0, .int 0, .int 0]))]) hD hS hA [7] rfl
  refine va_callv (va_runIN (As := []) (rest := [.ref q_9, .int 3, .ref q_1]) ⟨hx, hb, hml, hown, hts⟩ (c_X2_init l dC dI e0 q_9 H.size) ⟨va_cnB 0 hts (goodIn_sub (fun _ h9 => List.mem_cons_of_mem _ (List.mem_append_right _ (List.mem_append_right _ (List.mem_append_right _ (List.mem_append_left _ h9))))) (by decide +kernel)) rfl rfl rfl hAm.1.1.2.1 (hts _ (List.mem_cons_of_mem _ (List.mem_append_left _ (List.mem_of_getElem? (i := 6) rfl)))) (by decide +kernel) ⟨(Nat.le_of_ble_eq_true rfl), (Nat.le_of_ble_eq_true rfl)⟩, rfl, (hts _ (List.mem_cons_of_mem _ (List.mem_append_left _ (List.mem_of_getElem? (i := 7) rfl))))⟩ ⟨fz_blind, fz_pre hPc hKc hDc hAm hS hFc⟩ rfl rfl hl.1 rfl (lv_room (Nat.le_of_ble_eq_true rfl)) dX1_init_67 ⟨(Nat.le_of_ble_eq_true rfl), (Nat.le_of_ble_eq_true rfl)⟩) hS (fun q _ h => hFc q h) hFc (fun u t H1 locs ht hvm hw hB hz1 hk1 hS => ?_)
  obtain ⟨hP1, hK1, hD1⟩ := hB
  rw [ht] at hP1
  have hK1 := va_K.moved hvm.symm hK1
  obtain ⟨hP, hD⟩ := va_join (wr := [(h0, .inr (6, [.ref q_1, .ref q_2, .ref q_3, .int 0, .int 0, .int 1])), (q_1, .inl (cA_1, 8, .inr (.inr (.inr (.inr (va_up (va_up (va_up (fun _ => none) (0 : Int32).toNatClampNeg (some q_6)) (1 : Int32).toNatClampNeg (some q_7)) (2 : Int32).toNatClampNeg (some q_8))))))), (q_2, .inr (7, [.int 0, .int 0, .int 0, .int 0])), (q_3, .inr (9, [.ref hx_4, .ref hy_5])), (q_6, .inr (7, [.int 0, .int 0, .int 0, .int 0])), (q_7, .inr (7, [.int 0, .int 0, .int 0, .int 0])), (q_8, .inr (7, [.int 0, .int 0, .int 0, .int 0]))]) (w1 := [(q_9, .inr (7, [.int 0, .int 0, .int 0, .int 0]))]) hP hD [7] [0, 1, 2, 3, 4, 5, 6] rfl rfl (by decide) (by decide) hk1 hFc hP1 hD1
  generalize H1 = H at hP hS ⊢
  have hP : va_P (dC, dI) vwCl [(h0, .inr (6, [.ref q_1, .ref q_2, .ref q_3, .int 0, .int 0, .int 1])), (q_1, .inl (cA_1, 8, .inr (.inr (.inr (.inr (va_up (va_up (va_up (fun _ => none) (0 : Int32).toNatClampNeg (some q_6)) (1 : Int32).toNatClampNeg (some q_7)) (2 : Int32).toNatClampNeg (some q_8))))))), (q_2, .inr (7, [.int 0, .int 0, .int 0, .int 0])), (q_3, .inr (9, [.ref hx_4, .ref hy_5])), (q_6, .inr (7, [.int 0, .int 0, .int 0, .int 0])), (q_7, .inr (7, [.int 0, .int 0, .int 0, .int 0])), (q_8, .inr (7, [.int 0, .int 0, .int 0, .int 0])), (q_9, .inr (7, [.int 0, .int 0, .int 0, .int 0]))] H := hP
  have hD : va_D A [(h0, .inr (6, [.ref q_1, .ref q_2, .ref q_3, .int 0, .int 0, .int 1])), (q_1, .inl (cA_1, 8, .inr (.inr (.inr (.inr (va_up (va_up (va_up (fun _ => none) (0 : Int32).toNatClampNeg (some q_6)) (1 : Int32).toNatClampNeg (some q_7)) (2 : Int32).toNatClampNeg (some q_8))))))), (q_2, .inr (7, [.int 0, .int 0, .int 0, .int 0])), (q_3, .inr (9, [.ref hx_4, .ref hy_5])), (q_6, .inr (7, [.int 0, .int 0, .int 0, .int 0])), (q_7, .inr (7, [.int 0, .int 0, .int 0, .int 0])), (q_8, .inr (7, [.int 0, .int 0, .int 0, .int 0])), (q_9, .inr (7, [.int 0, .int 0, .int 0, .int 0]))] := hD
  have hK : va_K (dC, dI) vwCl [(cA_1, .object RX2)] s := hK
  refine W.widen (k := 9) (n := 38) (Nat.le_of_ble_eq_true rfl) (Nat.le_of_ble_eq_true rfl) ?_
  refine va_astq hx hb hK hP hD hS 1 0 7 7 rfl rfl rfl rfl (fz_il (by decide)) dX1_init_70 (fun H locs hP hD hS => ?_)
  have hP : va_P (dC, dI) vwCl [(h0, .inr (6, [.ref q_1, .ref q_2, .ref q_3, .int 0, .int 0, .int 1])), (q_1, .inl (cA_1, 8, .inr (.inr (.inr (.inr (va_up (va_up (va_up (va_up (fun _ => none) (0 : Int32).toNatClampNeg (some q_6)) (1 : Int32).toNatClampNeg (some q_7)) (2 : Int32).toNatClampNeg (some q_8)) (3 : Int32).toNatClampNeg (some q_9))))))), (q_2, .inr (7, [.int 0, .int 0, .int 0, .int 0])), (q_3, .inr (9, [.ref hx_4, .ref hy_5])), (q_6, .inr (7, [.int 0, .int 0, .int 0, .int 0])), (q_7, .inr (7, [.int 0, .int 0, .int 0, .int 0])), (q_8, .inr (7, [.int 0, .int 0, .int 0, .int 0])), (q_9, .inr (7, [.int 0, .int 0, .int 0, .int 0]))] H := hP
  have hD : va_D A [(h0, .inr (6, [.ref q_1, .ref q_2, .ref q_3, .int 0, .int 0, .int 1])), (q_1, .inl (cA_1, 8, .inr (.inr (.inr (.inr (va_up (va_up (va_up (va_up (fun _ => none) (0 : Int32).toNatClampNeg (some q_6)) (1 : Int32).toNatClampNeg (some q_7)) (2 : Int32).toNatClampNeg (some q_8)) (3 : Int32).toNatClampNeg (some q_9))))))), (q_2, .inr (7, [.int 0, .int 0, .int 0, .int 0])), (q_3, .inr (9, [.ref hx_4, .ref hy_5])), (q_6, .inr (7, [.int 0, .int 0, .int 0, .int 0])), (q_7, .inr (7, [.int 0, .int 0, .int 0, .int 0])), (q_8, .inr (7, [.int 0, .int 0, .int 0, .int 0])), (q_9, .inr (7, [.int 0, .int 0, .int 0, .int 0]))] := hD
  refine lv_iinc (v := 4) (lv' := [(1, .int 4), (0, .ref h0)]) hx hb dX1_init_71 hl (k := 0) rfl (by decide) (by decide) rfl (fun ls hl => ?_)
  refine lv_goto (tgt := 52) hx hb dX1_init_74 (by decide) ?_
  refine lv_iload_n hx hb dX1_init_52 rfl (lv_at hl 0 rfl) ?_
  refine lv_bipush (v := 8) hx hb dX1_init_53 (by decide) ?_
  refine lv_icmp_ge (tgt := 77) hx hb dX1_init_55 (by decide) (fun c_9 => absurd c_9 (by decide)) (fun _ => ?_)
  refine lv_aload_n hx hb dX1_init_58 rfl (lv_at hl 1 rfl) ?_
  refine va_get (D := (dC, dI)) (ci := 6) (v := .ref q_1) (C := RX1) (T := TX1) (N := 6) hx hb hts (fun _ h9 => List.mem_cons_of_mem _ (List.mem_append_right _ (List.mem_append_left _ h9))) hown hK hP 0 rfl rfl 0 (by decide) (hts _ (List.mem_cons_of_mem _ (List.mem_append_left _ (List.mem_of_getElem? (i := 4) rfl)))) (fun _ h9 => h9) rfl dX1_init_59 ?_
  refine lv_iload_n hx hb dX1_init_62 rfl (lv_at hl 0 rfl) ?_
  refine va_new (ci := 7) (fs := [.int 0, .int 0, .int 0, .int 0]) (C := RX2) (T := TX2) (N := 4) hx hb hts (fun _ h9 => List.mem_cons_of_mem _ (List.mem_append_right _ (List.mem_append_right _ (List.mem_append_left _ h9)))) tyX2 tyX2_ok hown (hts _ (List.mem_cons_of_mem _ (List.mem_append_left _ (List.mem_of_getElem? (i := 3) rfl)))) (hts _ (List.mem_cons_of_mem _ (List.mem_append_left _ (List.mem_of_getElem? (i := 5) rfl)))) (hts _ (List.mem_cons_of_mem _ (List.mem_append_left _ (List.mem_of_getElem? (i := 6) rfl)))) hK hP hD hS hA rfl (fun j hj => by rcases (show j = 0 ∨ j = 1 ∨ j = 2 ∨ j = 3 by omega) with rfl | rfl | rfl | rfl <;> rfl) (Nat.le_of_ble_eq_true rfl) (Nat.le_of_ble_eq_true rfl) dX1_init_63 (fun q_10 H hP hD hS => ?_)
  have hP : va_P (dC, dI) vwCl [(h0, .inr (6, [.ref q_1, .ref q_2, .ref q_3, .int 0, .int 0, .int 1])), (q_1, .inl (cA_1, 8, .inr (.inr (.inr (.inr (va_up (va_up (va_up (va_up (fun _ => none) (0 : Int32).toNatClampNeg (some q_6)) (1 : Int32).toNatClampNeg (some q_7)) (2 : Int32).toNatClampNeg (some q_8)) (3 : Int32).toNatClampNeg (some q_9))))))), (q_2, .inr (7, [.int 0, .int 0, .int 0, .int 0])), (q_3, .inr (9, [.ref hx_4, .ref hy_5])), (q_6, .inr (7, [.int 0, .int 0, .int 0, .int 0])), (q_7, .inr (7, [.int 0, .int 0, .int 0, .int 0])), (q_8, .inr (7, [.int 0, .int 0, .int 0, .int 0])), (q_9, .inr (7, [.int 0, .int 0, .int 0, .int 0])), (q_10, .inr (7, [.int 0, .int 0, .int 0, .int 0]))] H := hP
  have hD : va_D A [(h0, .inr (6, [.ref q_1, .ref q_2, .ref q_3, .int 0, .int 0, .int 1])), (q_1, .inl (cA_1, 8, .inr (.inr (.inr (.inr (va_up (va_up (va_up (va_up (fun _ => none) (0 : Int32).toNatClampNeg (some q_6)) (1 : Int32).toNatClampNeg (some q_7)) (2 : Int32).toNatClampNeg (some q_8)) (3 : Int32).toNatClampNeg (some q_9))))))), (q_2, .inr (7, [.int 0, .int 0, .int 0, .int 0])), (q_3, .inr (9, [.ref hx_4, .ref hy_5])), (q_6, .inr (7, [.int 0, .int 0, .int 0, .int 0])), (q_7, .inr (7, [.int 0, .int 0, .int 0, .int 0])), (q_8, .inr (7, [.int 0, .int 0, .int 0, .int 0])), (q_9, .inr (7, [.int 0, .int 0, .int 0, .int 0])), (q_10, .inr (7, [.int 0, .int 0, .int 0, .int 0]))] := hD
  refine W.widen (k := 10) (n := 42) (Nat.le_of_ble_eq_true rfl) (Nat.le_of_ble_eq_true rfl) ?_
  refine lv_dup hx hb dX1_init_66 rfl ?_
  have hPc := hP.sub (ws' := [(q_10, .inr (7, [.int 0, .int 0, .int 0, .int 0]))]) [8] rfl
  have hDc := hD.sub (ws' := [(q_10, .inr (7, [.int 0, .int 0, .int 0, .int 0]))]) [8] (by decide) rfl
  have hKc := hK.sub (tys' := []) [] rfl
  have hFc := va_free (wc := [(q_10, .inr (7, [.int 0, .int 0, .int 0, .int 0]))]) hD hS hA [8] rfl
  refine va_callv (va_runIN (As := []) (rest := [.ref q_10, .int 4, .ref q_1]) ⟨hx, hb, hml, hown, hts⟩ (c_X2_init l dC dI e0 q_10 H.size) ⟨va_cnB 0 hts (goodIn_sub (fun _ h9 => List.mem_cons_of_mem _ (List.mem_append_right _ (List.mem_append_right _ (List.mem_append_right _ (List.mem_append_left _ h9))))) (by decide +kernel)) rfl rfl rfl hAm.1.1.2.1 (hts _ (List.mem_cons_of_mem _ (List.mem_append_left _ (List.mem_of_getElem? (i := 6) rfl)))) (by decide +kernel) ⟨(Nat.le_of_ble_eq_true rfl), (Nat.le_of_ble_eq_true rfl)⟩, rfl, (hts _ (List.mem_cons_of_mem _ (List.mem_append_left _ (List.mem_of_getElem? (i := 7) rfl))))⟩ ⟨fz_blind, fz_pre hPc hKc hDc hAm hS hFc⟩ rfl rfl hl.1 rfl (lv_room (Nat.le_of_ble_eq_true rfl)) dX1_init_67 ⟨(Nat.le_of_ble_eq_true rfl), (Nat.le_of_ble_eq_true rfl)⟩) hS (fun q _ h => hFc q h) hFc (fun u t H1 locs ht hvm hw hB hz1 hk1 hS => ?_)
  obtain ⟨hP1, hK1, hD1⟩ := hB
  rw [ht] at hP1
  have hK1 := va_K.moved hvm.symm hK1
  obtain ⟨hP, hD⟩ := va_join (wr := [(h0, .inr (6, [.ref q_1, .ref q_2, .ref q_3, .int 0, .int 0, .int 1])), (q_1, .inl (cA_1, 8, .inr (.inr (.inr (.inr (va_up (va_up (va_up (va_up (fun _ => none) (0 : Int32).toNatClampNeg (some q_6)) (1 : Int32).toNatClampNeg (some q_7)) (2 : Int32).toNatClampNeg (some q_8)) (3 : Int32).toNatClampNeg (some q_9))))))), (q_2, .inr (7, [.int 0, .int 0, .int 0, .int 0])), (q_3, .inr (9, [.ref hx_4, .ref hy_5])), (q_6, .inr (7, [.int 0, .int 0, .int 0, .int 0])), (q_7, .inr (7, [.int 0, .int 0, .int 0, .int 0])), (q_8, .inr (7, [.int 0, .int 0, .int 0, .int 0])), (q_9, .inr (7, [.int 0, .int 0, .int 0, .int 0]))]) (w1 := [(q_10, .inr (7, [.int 0, .int 0, .int 0, .int 0]))]) hP hD [8] [0, 1, 2, 3, 4, 5, 6, 7] rfl rfl (by decide) (by decide) hk1 hFc hP1 hD1
  generalize H1 = H at hP hS ⊢
  have hP : va_P (dC, dI) vwCl [(h0, .inr (6, [.ref q_1, .ref q_2, .ref q_3, .int 0, .int 0, .int 1])), (q_1, .inl (cA_1, 8, .inr (.inr (.inr (.inr (va_up (va_up (va_up (va_up (fun _ => none) (0 : Int32).toNatClampNeg (some q_6)) (1 : Int32).toNatClampNeg (some q_7)) (2 : Int32).toNatClampNeg (some q_8)) (3 : Int32).toNatClampNeg (some q_9))))))), (q_2, .inr (7, [.int 0, .int 0, .int 0, .int 0])), (q_3, .inr (9, [.ref hx_4, .ref hy_5])), (q_6, .inr (7, [.int 0, .int 0, .int 0, .int 0])), (q_7, .inr (7, [.int 0, .int 0, .int 0, .int 0])), (q_8, .inr (7, [.int 0, .int 0, .int 0, .int 0])), (q_9, .inr (7, [.int 0, .int 0, .int 0, .int 0])), (q_10, .inr (7, [.int 0, .int 0, .int 0, .int 0]))] H := hP
  have hD : va_D A [(h0, .inr (6, [.ref q_1, .ref q_2, .ref q_3, .int 0, .int 0, .int 1])), (q_1, .inl (cA_1, 8, .inr (.inr (.inr (.inr (va_up (va_up (va_up (va_up (fun _ => none) (0 : Int32).toNatClampNeg (some q_6)) (1 : Int32).toNatClampNeg (some q_7)) (2 : Int32).toNatClampNeg (some q_8)) (3 : Int32).toNatClampNeg (some q_9))))))), (q_2, .inr (7, [.int 0, .int 0, .int 0, .int 0])), (q_3, .inr (9, [.ref hx_4, .ref hy_5])), (q_6, .inr (7, [.int 0, .int 0, .int 0, .int 0])), (q_7, .inr (7, [.int 0, .int 0, .int 0, .int 0])), (q_8, .inr (7, [.int 0, .int 0, .int 0, .int 0])), (q_9, .inr (7, [.int 0, .int 0, .int 0, .int 0])), (q_10, .inr (7, [.int 0, .int 0, .int 0, .int 0]))] := hD
  have hK : va_K (dC, dI) vwCl [(cA_1, .object RX2)] s := hK
  refine W.widen (k := 10) (n := 42) (Nat.le_of_ble_eq_true rfl) (Nat.le_of_ble_eq_true rfl) ?_
  refine va_astq hx hb hK hP hD hS 1 0 8 7 rfl rfl rfl rfl (fz_il (by decide)) dX1_init_70 (fun H locs hP hD hS => ?_)
  have hP : va_P (dC, dI) vwCl [(h0, .inr (6, [.ref q_1, .ref q_2, .ref q_3, .int 0, .int 0, .int 1])), (q_1, .inl (cA_1, 8, .inr (.inr (.inr (.inr (va_up (va_up (va_up (va_up (va_up (fun _ => none) (0 : Int32).toNatClampNeg (some q_6)) (1 : Int32).toNatClampNeg (some q_7)) (2 : Int32).toNatClampNeg (some q_8)) (3 : Int32).toNatClampNeg (some q_9)) (4 : Int32).toNatClampNeg (some q_10))))))), (q_2, .inr (7, [.int 0, .int 0, .int 0, .int 0])), (q_3, .inr (9, [.ref hx_4, .ref hy_5])), (q_6, .inr (7, [.int 0, .int 0, .int 0, .int 0])), (q_7, .inr (7, [.int 0, .int 0, .int 0, .int 0])), (q_8, .inr (7, [.int 0, .int 0, .int 0, .int 0])), (q_9, .inr (7, [.int 0, .int 0, .int 0, .int 0])), (q_10, .inr (7, [.int 0, .int 0, .int 0, .int 0]))] H := hP
  have hD : va_D A [(h0, .inr (6, [.ref q_1, .ref q_2, .ref q_3, .int 0, .int 0, .int 1])), (q_1, .inl (cA_1, 8, .inr (.inr (.inr (.inr (va_up (va_up (va_up (va_up (va_up (fun _ => none) (0 : Int32).toNatClampNeg (some q_6)) (1 : Int32).toNatClampNeg (some q_7)) (2 : Int32).toNatClampNeg (some q_8)) (3 : Int32).toNatClampNeg (some q_9)) (4 : Int32).toNatClampNeg (some q_10))))))), (q_2, .inr (7, [.int 0, .int 0, .int 0, .int 0])), (q_3, .inr (9, [.ref hx_4, .ref hy_5])), (q_6, .inr (7, [.int 0, .int 0, .int 0, .int 0])), (q_7, .inr (7, [.int 0, .int 0, .int 0, .int 0])), (q_8, .inr (7, [.int 0, .int 0, .int 0, .int 0])), (q_9, .inr (7, [.int 0, .int 0, .int 0, .int 0])), (q_10, .inr (7, [.int 0, .int 0, .int 0, .int 0]))] := hD
  refine lv_iinc (v := 5) (lv' := [(1, .int 5), (0, .ref h0)]) hx hb dX1_init_71 hl (k := 0) rfl (by decide) (by decide) rfl (fun ls hl => ?_)
  refine lv_goto (tgt := 52) hx hb dX1_init_74 (by decide) ?_
  refine lv_iload_n hx hb dX1_init_52 rfl (lv_at hl 0 rfl) ?_
  refine lv_bipush (v := 8) hx hb dX1_init_53 (by decide) ?_
  refine lv_icmp_ge (tgt := 77) hx hb dX1_init_55 (by decide) (fun c_9 => absurd c_9 (by decide)) (fun _ => ?_)
  refine lv_aload_n hx hb dX1_init_58 rfl (lv_at hl 1 rfl) ?_
  refine va_get (D := (dC, dI)) (ci := 6) (v := .ref q_1) (C := RX1) (T := TX1) (N := 6) hx hb hts (fun _ h9 => List.mem_cons_of_mem _ (List.mem_append_right _ (List.mem_append_left _ h9))) hown hK hP 0 rfl rfl 0 (by decide) (hts _ (List.mem_cons_of_mem _ (List.mem_append_left _ (List.mem_of_getElem? (i := 4) rfl)))) (fun _ h9 => h9) rfl dX1_init_59 ?_
  refine lv_iload_n hx hb dX1_init_62 rfl (lv_at hl 0 rfl) ?_
  refine va_new (ci := 7) (fs := [.int 0, .int 0, .int 0, .int 0]) (C := RX2) (T := TX2) (N := 4) hx hb hts (fun _ h9 => List.mem_cons_of_mem _ (List.mem_append_right _ (List.mem_append_right _ (List.mem_append_left _ h9)))) tyX2 tyX2_ok hown (hts _ (List.mem_cons_of_mem _ (List.mem_append_left _ (List.mem_of_getElem? (i := 3) rfl)))) (hts _ (List.mem_cons_of_mem _ (List.mem_append_left _ (List.mem_of_getElem? (i := 5) rfl)))) (hts _ (List.mem_cons_of_mem _ (List.mem_append_left _ (List.mem_of_getElem? (i := 6) rfl)))) hK hP hD hS hA rfl (fun j hj => by rcases (show j = 0 ∨ j = 1 ∨ j = 2 ∨ j = 3 by omega) with rfl | rfl | rfl | rfl <;> rfl) (Nat.le_of_ble_eq_true rfl) (Nat.le_of_ble_eq_true rfl) dX1_init_63 (fun q_11 H hP hD hS => ?_)
  have hP : va_P (dC, dI) vwCl [(h0, .inr (6, [.ref q_1, .ref q_2, .ref q_3, .int 0, .int 0, .int 1])), (q_1, .inl (cA_1, 8, .inr (.inr (.inr (.inr (va_up (va_up (va_up (va_up (va_up (fun _ => none) (0 : Int32).toNatClampNeg (some q_6)) (1 : Int32).toNatClampNeg (some q_7)) (2 : Int32).toNatClampNeg (some q_8)) (3 : Int32).toNatClampNeg (some q_9)) (4 : Int32).toNatClampNeg (some q_10))))))), (q_2, .inr (7, [.int 0, .int 0, .int 0, .int 0])), (q_3, .inr (9, [.ref hx_4, .ref hy_5])), (q_6, .inr (7, [.int 0, .int 0, .int 0, .int 0])), (q_7, .inr (7, [.int 0, .int 0, .int 0, .int 0])), (q_8, .inr (7, [.int 0, .int 0, .int 0, .int 0])), (q_9, .inr (7, [.int 0, .int 0, .int 0, .int 0])), (q_10, .inr (7, [.int 0, .int 0, .int 0, .int 0])), (q_11, .inr (7, [.int 0, .int 0, .int 0, .int 0]))] H := hP
  have hD : va_D A [(h0, .inr (6, [.ref q_1, .ref q_2, .ref q_3, .int 0, .int 0, .int 1])), (q_1, .inl (cA_1, 8, .inr (.inr (.inr (.inr (va_up (va_up (va_up (va_up (va_up (fun _ => none) (0 : Int32).toNatClampNeg (some q_6)) (1 : Int32).toNatClampNeg (some q_7)) (2 : Int32).toNatClampNeg (some q_8)) (3 : Int32).toNatClampNeg (some q_9)) (4 : Int32).toNatClampNeg (some q_10))))))), (q_2, .inr (7, [.int 0, .int 0, .int 0, .int 0])), (q_3, .inr (9, [.ref hx_4, .ref hy_5])), (q_6, .inr (7, [.int 0, .int 0, .int 0, .int 0])), (q_7, .inr (7, [.int 0, .int 0, .int 0, .int 0])), (q_8, .inr (7, [.int 0, .int 0, .int 0, .int 0])), (q_9, .inr (7, [.int 0, .int 0, .int 0, .int 0])), (q_10, .inr (7, [.int 0, .int 0, .int 0, .int 0])), (q_11, .inr (7, [.int 0, .int 0, .int 0, .int 0]))] := hD
  refine W.widen (k := 11) (n := 46) (Nat.le_of_ble_eq_true rfl) (Nat.le_of_ble_eq_true rfl) ?_
  refine lv_dup hx hb dX1_init_66 rfl ?_
  have hPc := hP.sub (ws' := [(q_11, .inr (7, [.int 0, .int 0, .int 0, .int 0]))]) [9] rfl
  have hDc := hD.sub (ws' := [(q_11, .inr (7, [.int 0, .int 0, .int 0, .int 0]))]) [9] (by decide) rfl
  have hKc := hK.sub (tys' := []) [] rfl
  have hFc := va_free (wc := [(q_11, .inr (7, [.int 0, .int 0, .int 0, .int 0]))]) hD hS hA [9] rfl
  refine va_callv (va_runIN (As := []) (rest := [.ref q_11, .int 5, .ref q_1]) ⟨hx, hb, hml, hown, hts⟩ (c_X2_init l dC dI e0 q_11 H.size) ⟨va_cnB 0 hts (goodIn_sub (fun _ h9 => List.mem_cons_of_mem _ (List.mem_append_right _ (List.mem_append_right _ (List.mem_append_right _ (List.mem_append_left _ h9))))) (by decide +kernel)) rfl rfl rfl hAm.1.1.2.1 (hts _ (List.mem_cons_of_mem _ (List.mem_append_left _ (List.mem_of_getElem? (i := 6) rfl)))) (by decide +kernel) ⟨(Nat.le_of_ble_eq_true rfl), (Nat.le_of_ble_eq_true rfl)⟩, rfl, (hts _ (List.mem_cons_of_mem _ (List.mem_append_left _ (List.mem_of_getElem? (i := 7) rfl))))⟩ ⟨fz_blind, fz_pre hPc hKc hDc hAm hS hFc⟩ rfl rfl hl.1 rfl (lv_room (Nat.le_of_ble_eq_true rfl)) dX1_init_67 ⟨(Nat.le_of_ble_eq_true rfl), (Nat.le_of_ble_eq_true rfl)⟩) hS (fun q _ h => hFc q h) hFc (fun u t H1 locs ht hvm hw hB hz1 hk1 hS => ?_)
  obtain ⟨hP1, hK1, hD1⟩ := hB
  rw [ht] at hP1
  have hK1 := va_K.moved hvm.symm hK1
  obtain ⟨hP, hD⟩ := va_join (wr := [(h0, .inr (6, [.ref q_1, .ref q_2, .ref q_3, .int 0, .int 0, .int 1])), (q_1, .inl (cA_1, 8, .inr (.inr (.inr (.inr (va_up (va_up (va_up (va_up (va_up (fun _ => none) (0 : Int32).toNatClampNeg (some q_6)) (1 : Int32).toNatClampNeg (some q_7)) (2 : Int32).toNatClampNeg (some q_8)) (3 : Int32).toNatClampNeg (some q_9)) (4 : Int32).toNatClampNeg (some q_10))))))), (q_2, .inr (7, [.int 0, .int 0, .int 0, .int 0])), (q_3, .inr (9, [.ref hx_4, .ref hy_5])), (q_6, .inr (7, [.int 0, .int 0, .int 0, .int 0])), (q_7, .inr (7, [.int 0, .int 0, .int 0, .int 0])), (q_8, .inr (7, [.int 0, .int 0, .int 0, .int 0])), (q_9, .inr (7, [.int 0, .int 0, .int 0, .int 0])), (q_10, .inr (7, [.int 0, .int 0, .int 0, .int 0]))]) (w1 := [(q_11, .inr (7, [.int 0, .int 0, .int 0, .int 0]))]) hP hD [9] [0, 1, 2, 3, 4, 5, 6, 7, 8] rfl rfl (by decide) (by decide) hk1 hFc hP1 hD1
  generalize H1 = H at hP hS ⊢
  have hP : va_P (dC, dI) vwCl [(h0, .inr (6, [.ref q_1, .ref q_2, .ref q_3, .int 0, .int 0, .int 1])), (q_1, .inl (cA_1, 8, .inr (.inr (.inr (.inr (va_up (va_up (va_up (va_up (va_up (fun _ => none) (0 : Int32).toNatClampNeg (some q_6)) (1 : Int32).toNatClampNeg (some q_7)) (2 : Int32).toNatClampNeg (some q_8)) (3 : Int32).toNatClampNeg (some q_9)) (4 : Int32).toNatClampNeg (some q_10))))))), (q_2, .inr (7, [.int 0, .int 0, .int 0, .int 0])), (q_3, .inr (9, [.ref hx_4, .ref hy_5])), (q_6, .inr (7, [.int 0, .int 0, .int 0, .int 0])), (q_7, .inr (7, [.int 0, .int 0, .int 0, .int 0])), (q_8, .inr (7, [.int 0, .int 0, .int 0, .int 0])), (q_9, .inr (7, [.int 0, .int 0, .int 0, .int 0])), (q_10, .inr (7, [.int 0, .int 0, .int 0, .int 0])), (q_11, .inr (7, [.int 0, .int 0, .int 0, .int 0]))] H := hP
  have hD : va_D A [(h0, .inr (6, [.ref q_1, .ref q_2, .ref q_3, .int 0, .int 0, .int 1])), (q_1, .inl (cA_1, 8, .inr (.inr (.inr (.inr (va_up (va_up (va_up (va_up (va_up (fun _ => none) (0 : Int32).toNatClampNeg (some q_6)) (1 : Int32).toNatClampNeg (some q_7)) (2 : Int32).toNatClampNeg (some q_8)) (3 : Int32).toNatClampNeg (some q_9)) (4 : Int32).toNatClampNeg (some q_10))))))), (q_2, .inr (7, [.int 0, .int 0, .int 0, .int 0])), (q_3, .inr (9, [.ref hx_4, .ref hy_5])), (q_6, .inr (7, [.int 0, .int 0, .int 0, .int 0])), (q_7, .inr (7, [.int 0, .int 0, .int 0, .int 0])), (q_8, .inr (7, [.int 0, .int 0, .int 0, .int 0])), (q_9, .inr (7, [.int 0, .int 0, .int 0, .int 0])), (q_10, .inr (7, [.int 0, .int 0, .int 0, .int 0])), (q_11, .inr (7, [.int 0, .int 0, .int 0, .int 0]))] := hD
  have hK : va_K (dC, dI) vwCl [(cA_1, .object RX2)] s := hK
  refine W.widen (k := 11) (n := 46) (Nat.le_of_ble_eq_true rfl) (Nat.le_of_ble_eq_true rfl) ?_
  refine va_astq hx hb hK hP hD hS 1 0 9 7 rfl rfl rfl rfl (fz_il (by decide)) dX1_init_70 (fun H locs hP hD hS => ?_)
  have hP : va_P (dC, dI) vwCl [(h0, .inr (6, [.ref q_1, .ref q_2, .ref q_3, .int 0, .int 0, .int 1])), (q_1, .inl (cA_1, 8, .inr (.inr (.inr (.inr (va_up (va_up (va_up (va_up (va_up (va_up (fun _ => none) (0 : Int32).toNatClampNeg (some q_6)) (1 : Int32).toNatClampNeg (some q_7)) (2 : Int32).toNatClampNeg (some q_8)) (3 : Int32).toNatClampNeg (some q_9)) (4 : Int32).toNatClampNeg (some q_10)) (5 : Int32).toNatClampNeg (some q_11))))))), (q_2, .inr (7, [.int 0, .int 0, .int 0, .int 0])), (q_3, .inr (9, [.ref hx_4, .ref hy_5])), (q_6, .inr (7, [.int 0, .int 0, .int 0, .int 0])), (q_7, .inr (7, [.int 0, .int 0, .int 0, .int 0])), (q_8, .inr (7, [.int 0, .int 0, .int 0, .int 0])), (q_9, .inr (7, [.int 0, .int 0, .int 0, .int 0])), (q_10, .inr (7, [.int 0, .int 0, .int 0, .int 0])), (q_11, .inr (7, [.int 0, .int 0, .int 0, .int 0]))] H := hP
  have hD : va_D A [(h0, .inr (6, [.ref q_1, .ref q_2, .ref q_3, .int 0, .int 0, .int 1])), (q_1, .inl (cA_1, 8, .inr (.inr (.inr (.inr (va_up (va_up (va_up (va_up (va_up (va_up (fun _ => none) (0 : Int32).toNatClampNeg (some q_6)) (1 : Int32).toNatClampNeg (some q_7)) (2 : Int32).toNatClampNeg (some q_8)) (3 : Int32).toNatClampNeg (some q_9)) (4 : Int32).toNatClampNeg (some q_10)) (5 : Int32).toNatClampNeg (some q_11))))))), (q_2, .inr (7, [.int 0, .int 0, .int 0, .int 0])), (q_3, .inr (9, [.ref hx_4, .ref hy_5])), (q_6, .inr (7, [.int 0, .int 0, .int 0, .int 0])), (q_7, .inr (7, [.int 0, .int 0, .int 0, .int 0])), (q_8, .inr (7, [.int 0, .int 0, .int 0, .int 0])), (q_9, .inr (7, [.int 0, .int 0, .int 0, .int 0])), (q_10, .inr (7, [.int 0, .int 0, .int 0, .int 0])), (q_11, .inr (7, [.int 0, .int 0, .int 0, .int 0]))] := hD
  refine lv_iinc (v := 6) (lv' := [(1, .int 6), (0, .ref h0)]) hx hb dX1_init_71 hl (k := 0) rfl (by decide) (by decide) rfl (fun ls hl => ?_)
  refine lv_goto (tgt := 52) hx hb dX1_init_74 (by decide) ?_
  refine lv_iload_n hx hb dX1_init_52 rfl (lv_at hl 0 rfl) ?_
  refine lv_bipush (v := 8) hx hb dX1_init_53 (by decide) ?_
  refine lv_icmp_ge (tgt := 77) hx hb dX1_init_55 (by decide) (fun c_9 => absurd c_9 (by decide)) (fun _ => ?_)
  refine lv_aload_n hx hb dX1_init_58 rfl (lv_at hl 1 rfl) ?_
  refine va_get (D := (dC, dI)) (ci := 6) (v := .ref q_1) (C := RX1) (T := TX1) (N := 6) hx hb hts (fun _ h9 => List.mem_cons_of_mem _ (List.mem_append_right _ (List.mem_append_left _ h9))) hown hK hP 0 rfl rfl 0 (by decide) (hts _ (List.mem_cons_of_mem _ (List.mem_append_left _ (List.mem_of_getElem? (i := 4) rfl)))) (fun _ h9 => h9) rfl dX1_init_59 ?_
  refine lv_iload_n hx hb dX1_init_62 rfl (lv_at hl 0 rfl) ?_
  refine va_new (ci := 7) (fs := [.int 0, .int 0, .int 0, .int 0]) (C := RX2) (T := TX2) (N := 4) hx hb hts (fun _ h9 => List.mem_cons_of_mem _ (List.mem_append_right _ (List.mem_append_right _ (List.mem_append_left _ h9)))) tyX2 tyX2_ok hown (hts _ (List.mem_cons_of_mem _ (List.mem_append_left _ (List.mem_of_getElem? (i := 3) rfl)))) (hts _ (List.mem_cons_of_mem _ (List.mem_append_left _ (List.mem_of_getElem? (i := 5) rfl)))) (hts _ (List.mem_cons_of_mem _ (List.mem_append_left _ (List.mem_of_getElem? (i := 6) rfl)))) hK hP hD hS hA rfl (fun j hj => by rcases (show j = 0 ∨ j = 1 ∨ j = 2 ∨ j = 3 by omega) with rfl | rfl | rfl | rfl <;> rfl) (Nat.le_of_ble_eq_true rfl) (Nat.le_of_ble_eq_true rfl) dX1_init_63 (fun q_12 H hP hD hS => ?_)
  have hP : va_P (dC, dI) vwCl [(h0, .inr (6, [.ref q_1, .ref q_2, .ref q_3, .int 0, .int 0, .int 1])), (q_1, .inl (cA_1, 8, .inr (.inr (.inr (.inr (va_up (va_up (va_up (va_up (va_up (va_up (fun _ => none) (0 : Int32).toNatClampNeg (some q_6)) (1 : Int32).toNatClampNeg (some q_7)) (2 : Int32).toNatClampNeg (some q_8)) (3 : Int32).toNatClampNeg (some q_9)) (4 : Int32).toNatClampNeg (some q_10)) (5 : Int32).toNatClampNeg (some q_11))))))), (q_2, .inr (7, [.int 0, .int 0, .int 0, .int 0])), (q_3, .inr (9, [.ref hx_4, .ref hy_5])), (q_6, .inr (7, [.int 0, .int 0, .int 0, .int 0])), (q_7, .inr (7, [.int 0, .int 0, .int 0, .int 0])), (q_8, .inr (7, [.int 0, .int 0, .int 0, .int 0])), (q_9, .inr (7, [.int 0, .int 0, .int 0, .int 0])), (q_10, .inr (7, [.int 0, .int 0, .int 0, .int 0])), (q_11, .inr (7, [.int 0, .int 0, .int 0, .int 0])), (q_12, .inr (7, [.int 0, .int 0, .int 0, .int 0]))] H := hP
  have hD : va_D A [(h0, .inr (6, [.ref q_1, .ref q_2, .ref q_3, .int 0, .int 0, .int 1])), (q_1, .inl (cA_1, 8, .inr (.inr (.inr (.inr (va_up (va_up (va_up (va_up (va_up (va_up (fun _ => none) (0 : Int32).toNatClampNeg (some q_6)) (1 : Int32).toNatClampNeg (some q_7)) (2 : Int32).toNatClampNeg (some q_8)) (3 : Int32).toNatClampNeg (some q_9)) (4 : Int32).toNatClampNeg (some q_10)) (5 : Int32).toNatClampNeg (some q_11))))))), (q_2, .inr (7, [.int 0, .int 0, .int 0, .int 0])), (q_3, .inr (9, [.ref hx_4, .ref hy_5])), (q_6, .inr (7, [.int 0, .int 0, .int 0, .int 0])), (q_7, .inr (7, [.int 0, .int 0, .int 0, .int 0])), (q_8, .inr (7, [.int 0, .int 0, .int 0, .int 0])), (q_9, .inr (7, [.int 0, .int 0, .int 0, .int 0])), (q_10, .inr (7, [.int 0, .int 0, .int 0, .int 0])), (q_11, .inr (7, [.int 0, .int 0, .int 0, .int 0])), (q_12, .inr (7, [.int 0, .int 0, .int 0, .int 0]))] := hD
  refine W.widen (k := 12) (n := 50) (Nat.le_of_ble_eq_true rfl) (Nat.le_of_ble_eq_true rfl) ?_
  refine lv_dup hx hb dX1_init_66 rfl ?_
  have hPc := hP.sub (ws' := [(q_12, .inr (7, [.int 0, .int 0, .int 0, .int 0]))]) [10] rfl
  have hDc := hD.sub (ws' := [(q_12, .inr (7, [.int 0, .int 0, .int 0, .int 0]))]) [10] (by decide) rfl
  have hKc := hK.sub (tys' := []) [] rfl
  have hFc := va_free (wc := [(q_12, .inr (7, [.int 0, .int 0, .int 0, .int 0]))]) hD hS hA [10] rfl
  refine va_callv (va_runIN (As := []) (rest := [.ref q_12, .int 6, .ref q_1]) ⟨hx, hb, hml, hown, hts⟩ (c_X2_init l dC dI e0 q_12 H.size) ⟨va_cnB 0 hts (goodIn_sub (fun _ h9 => List.mem_cons_of_mem _ (List.mem_append_right _ (List.mem_append_right _ (List.mem_append_right _ (List.mem_append_left _ h9))))) (by decide +kernel)) rfl rfl rfl hAm.1.1.2.1 (hts _ (List.mem_cons_of_mem _ (List.mem_append_left _ (List.mem_of_getElem? (i := 6) rfl)))) (by decide +kernel) ⟨(Nat.le_of_ble_eq_true rfl), (Nat.le_of_ble_eq_true rfl)⟩, rfl, (hts _ (List.mem_cons_of_mem _ (List.mem_append_left _ (List.mem_of_getElem? (i := 7) rfl))))⟩ ⟨fz_blind, fz_pre hPc hKc hDc hAm hS hFc⟩ rfl rfl hl.1 rfl (lv_room (Nat.le_of_ble_eq_true rfl)) dX1_init_67 ⟨(Nat.le_of_ble_eq_true rfl), (Nat.le_of_ble_eq_true rfl)⟩) hS (fun q _ h => hFc q h) hFc (fun u t H1 locs ht hvm hw hB hz1 hk1 hS => ?_)
  obtain ⟨hP1, hK1, hD1⟩ := hB
  rw [ht] at hP1
  have hK1 := va_K.moved hvm.symm hK1
  obtain ⟨hP, hD⟩ := va_join (wr := [(h0, .inr (6, [.ref q_1, .ref q_2, .ref q_3, .int 0, .int 0, .int 1])), (q_1, .inl (cA_1, 8, .inr (.inr (.inr (.inr (va_up (va_up (va_up (va_up (va_up (va_up (fun _ => none) (0 : Int32).toNatClampNeg (some q_6)) (1 : Int32).toNatClampNeg (some q_7)) (2 : Int32).toNatClampNeg (some q_8)) (3 : Int32).toNatClampNeg (some q_9)) (4 : Int32).toNatClampNeg (some q_10)) (5 : Int32).toNatClampNeg (some q_11))))))), (q_2, .inr (7, [.int 0, .int 0, .int 0, .int 0])), (q_3, .inr (9, [.ref hx_4, .ref hy_5])), (q_6, .inr (7, [.int 0, .int 0, .int 0, .int 0])), (q_7, .inr (7, [.int 0, .int 0, .int 0, .int 0])), (q_8, .inr (7, [.int 0, .int 0, .int 0, .int 0])), (q_9, .inr (7, [.int 0, .int 0, .int 0, .int 0])), (q_10, .inr (7, [.int 0, .int 0, .int 0, .int 0])), (q_11, .inr (7, [.int 0, .int 0, .int 0, .int 0]))]) (w1 := [(q_12, .inr (7, [.int 0, .int 0, .int 0, .int 0]))]) hP hD [10] [0, 1, 2, 3, 4, 5, 6, 7, 8, 9] rfl rfl (by decide) (by decide) hk1 hFc hP1 hD1
  generalize H1 = H at hP hS ⊢
  have hP : va_P (dC, dI) vwCl [(h0, .inr (6, [.ref q_1, .ref q_2, .ref q_3, .int 0, .int 0, .int 1])), (q_1, .inl (cA_1, 8, .inr (.inr (.inr (.inr (va_up (va_up (va_up (va_up (va_up (va_up (fun _ => none) (0 : Int32).toNatClampNeg (some q_6)) (1 : Int32).toNatClampNeg (some q_7)) (2 : Int32).toNatClampNeg (some q_8)) (3 : Int32).toNatClampNeg (some q_9)) (4 : Int32).toNatClampNeg (some q_10)) (5 : Int32).toNatClampNeg (some q_11))))))), (q_2, .inr (7, [.int 0, .int 0, .int 0, .int 0])), (q_3, .inr (9, [.ref hx_4, .ref hy_5])), (q_6, .inr (7, [.int 0, .int 0, .int 0, .int 0])), (q_7, .inr (7, [.int 0, .int 0, .int 0, .int 0])), (q_8, .inr (7, [.int 0, .int 0, .int 0, .int 0])), (q_9, .inr (7, [.int 0, .int 0, .int 0, .int 0])), (q_10, .inr (7, [.int 0, .int 0, .int 0, .int 0])), (q_11, .inr (7, [.int 0, .int 0, .int 0, .int 0])), (q_12, .inr (7, [.int 0, .int 0, .int 0, .int 0]))] H := hP
  have hD : va_D A [(h0, .inr (6, [.ref q_1, .ref q_2, .ref q_3, .int 0, .int 0, .int 1])), (q_1, .inl (cA_1, 8, .inr (.inr (.inr (.inr (va_up (va_up (va_up (va_up (va_up (va_up (fun _ => none) (0 : Int32).toNatClampNeg (some q_6)) (1 : Int32).toNatClampNeg (some q_7)) (2 : Int32).toNatClampNeg (some q_8)) (3 : Int32).toNatClampNeg (some q_9)) (4 : Int32).toNatClampNeg (some q_10)) (5 : Int32).toNatClampNeg (some q_11))))))), (q_2, .inr (7, [.int 0, .int 0, .int 0, .int 0])), (q_3, .inr (9, [.ref hx_4, .ref hy_5])), (q_6, .inr (7, [.int 0, .int 0, .int 0, .int 0])), (q_7, .inr (7, [.int 0, .int 0, .int 0, .int 0])), (q_8, .inr (7, [.int 0, .int 0, .int 0, .int 0])), (q_9, .inr (7, [.int 0, .int 0, .int 0, .int 0])), (q_10, .inr (7, [.int 0, .int 0, .int 0, .int 0])), (q_11, .inr (7, [.int 0, .int 0, .int 0, .int 0])), (q_12, .inr (7, [.int 0, .int 0, .int 0, .int 0]))] := hD
  have hK : va_K (dC, dI) vwCl [(cA_1, .object RX2)] s := hK
  refine W.widen (k := 12) (n := 50) (Nat.le_of_ble_eq_true rfl) (Nat.le_of_ble_eq_true rfl) ?_
  refine va_astq hx hb hK hP hD hS 1 0 10 7 rfl rfl rfl rfl (fz_il (by decide)) dX1_init_70 (fun H locs hP hD hS => ?_)
  have hP : va_P (dC, dI) vwCl [(h0, .inr (6, [.ref q_1, .ref q_2, .ref q_3, .int 0, .int 0, .int 1])), (q_1, .inl (cA_1, 8, .inr (.inr (.inr (.inr (va_up (va_up (va_up (va_up (va_up (va_up (va_up (fun _ => none) (0 : Int32).toNatClampNeg (some q_6)) (1 : Int32).toNatClampNeg (some q_7)) (2 : Int32).toNatClampNeg (some q_8)) (3 : Int32).toNatClampNeg (some q_9)) (4 : Int32).toNatClampNeg (some q_10)) (5 : Int32).toNatClampNeg (some q_11)) (6 : Int32).toNatClampNeg (some q_12))))))), (q_2, .inr (7, [.int 0, .int 0, .int 0, .int 0])), (q_3, .inr (9, [.ref hx_4, .ref hy_5])), (q_6, .inr (7, [.int 0, .int 0, .int 0, .int 0])), (q_7, .inr (7, [.int 0, .int 0, .int 0, .int 0])), (q_8, .inr (7, [.int 0, .int 0, .int 0, .int 0])), (q_9, .inr (7, [.int 0, .int 0, .int 0, .int 0])), (q_10, .inr (7, [.int 0, .int 0, .int 0, .int 0])), (q_11, .inr (7, [.int 0, .int 0, .int 0, .int 0])), (q_12, .inr (7, [.int 0, .int 0, .int 0, .int 0]))] H := hP
  have hD : va_D A [(h0, .inr (6, [.ref q_1, .ref q_2, .ref q_3, .int 0, .int 0, .int 1])), (q_1, .inl (cA_1, 8, .inr (.inr (.inr (.inr (va_up (va_up (va_up (va_up (va_up (va_up (va_up (fun _ => none) (0 : Int32).toNatClampNeg (some q_6)) (1 : Int32).toNatClampNeg (some q_7)) (2 : Int32).toNatClampNeg (some q_8)) (3 : Int32).toNatClampNeg (some q_9)) (4 : Int32).toNatClampNeg (some q_10)) (5 : Int32).toNatClampNeg (some q_11)) (6 : Int32).toNatClampNeg (some q_12))))))), (q_2, .inr (7, [.int 0, .int 0, .int 0, .int 0])), (q_3, .inr (9, [.ref hx_4, .ref hy_5])), (q_6, .inr (7, [.int 0, .int 0, .int 0, .int 0])), (q_7, .inr (7, [.int 0, .int 0, .int 0, .int 0])), (q_8, .inr (7, [.int 0, .int 0, .int 0, .int 0])), (q_9, .inr (7, [.int 0, .int 0, .int 0, .int 0])), (q_10, .inr (7, [.int 0, .int 0, .int 0, .int 0])), (q_11, .inr (7, [.int 0, .int 0, .int 0, .int 0])), (q_12, .inr (7, [.int 0, .int 0, .int 0, .int 0]))] := hD
  refine lv_iinc (v := 7) (lv' := [(1, .int 7), (0, .ref h0)]) hx hb dX1_init_71 hl (k := 0) rfl (by decide) (by decide) rfl (fun ls hl => ?_)
  refine lv_goto (tgt := 52) hx hb dX1_init_74 (by decide) ?_
  refine lv_iload_n hx hb dX1_init_52 rfl (lv_at hl 0 rfl) ?_
  refine lv_bipush (v := 8) hx hb dX1_init_53 (by decide) ?_
  refine lv_icmp_ge (tgt := 77) hx hb dX1_init_55 (by decide) (fun c_9 => absurd c_9 (by decide)) (fun _ => ?_)
  refine lv_aload_n hx hb dX1_init_58 rfl (lv_at hl 1 rfl) ?_
  refine va_get (D := (dC, dI)) (ci := 6) (v := .ref q_1) (C := RX1) (T := TX1) (N := 6) hx hb hts (fun _ h9 => List.mem_cons_of_mem _ (List.mem_append_right _ (List.mem_append_left _ h9))) hown hK hP 0 rfl rfl 0 (by decide) (hts _ (List.mem_cons_of_mem _ (List.mem_append_left _ (List.mem_of_getElem? (i := 4) rfl)))) (fun _ h9 => h9) rfl dX1_init_59 ?_
  refine lv_iload_n hx hb dX1_init_62 rfl (lv_at hl 0 rfl) ?_
  refine va_new (ci := 7) (fs := [.int 0, .int 0, .int 0, .int 0]) (C := RX2) (T := TX2) (N := 4) hx hb hts (fun _ h9 => List.mem_cons_of_mem _ (List.mem_append_right _ (List.mem_append_right _ (List.mem_append_left _ h9)))) tyX2 tyX2_ok hown (hts _ (List.mem_cons_of_mem _ (List.mem_append_left _ (List.mem_of_getElem? (i := 3) rfl)))) (hts _ (List.mem_cons_of_mem _ (List.mem_append_left _ (List.mem_of_getElem? (i := 5) rfl)))) (hts _ (List.mem_cons_of_mem _ (List.mem_append_left _ (List.mem_of_getElem? (i := 6) rfl)))) hK hP hD hS hA rfl (fun j hj => by rcases (show j = 0 ∨ j = 1 ∨ j = 2 ∨ j = 3 by omega) with rfl | rfl | rfl | rfl <;> rfl) (Nat.le_of_ble_eq_true rfl) (Nat.le_of_ble_eq_true rfl) dX1_init_63 (fun q_13 H hP hD hS => ?_)
  have hP : va_P (dC, dI) vwCl [(h0, .inr (6, [.ref q_1, .ref q_2, .ref q_3, .int 0, .int 0, .int 1])), (q_1, .inl (cA_1, 8, .inr (.inr (.inr (.inr (va_up (va_up (va_up (va_up (va_up (va_up (va_up (fun _ => none) (0 : Int32).toNatClampNeg (some q_6)) (1 : Int32).toNatClampNeg (some q_7)) (2 : Int32).toNatClampNeg (some q_8)) (3 : Int32).toNatClampNeg (some q_9)) (4 : Int32).toNatClampNeg (some q_10)) (5 : Int32).toNatClampNeg (some q_11)) (6 : Int32).toNatClampNeg (some q_12))))))), (q_2, .inr (7, [.int 0, .int 0, .int 0, .int 0])), (q_3, .inr (9, [.ref hx_4, .ref hy_5])), (q_6, .inr (7, [.int 0, .int 0, .int 0, .int 0])), (q_7, .inr (7, [.int 0, .int 0, .int 0, .int 0])), (q_8, .inr (7, [.int 0, .int 0, .int 0, .int 0])), (q_9, .inr (7, [.int 0, .int 0, .int 0, .int 0])), (q_10, .inr (7, [.int 0, .int 0, .int 0, .int 0])), (q_11, .inr (7, [.int 0, .int 0, .int 0, .int 0])), (q_12, .inr (7, [.int 0, .int 0, .int 0, .int 0])), (q_13, .inr (7, [.int 0, .int 0, .int 0, .int 0]))] H := hP
  have hD : va_D A [(h0, .inr (6, [.ref q_1, .ref q_2, .ref q_3, .int 0, .int 0, .int 1])), (q_1, .inl (cA_1, 8, .inr (.inr (.inr (.inr (va_up (va_up (va_up (va_up (va_up (va_up (va_up (fun _ => none) (0 : Int32).toNatClampNeg (some q_6)) (1 : Int32).toNatClampNeg (some q_7)) (2 : Int32).toNatClampNeg (some q_8)) (3 : Int32).toNatClampNeg (some q_9)) (4 : Int32).toNatClampNeg (some q_10)) (5 : Int32).toNatClampNeg (some q_11)) (6 : Int32).toNatClampNeg (some q_12))))))), (q_2, .inr (7, [.int 0, .int 0, .int 0, .int 0])), (q_3, .inr (9, [.ref hx_4, .ref hy_5])), (q_6, .inr (7, [.int 0, .int 0, .int 0, .int 0])), (q_7, .inr (7, [.int 0, .int 0, .int 0, .int 0])), (q_8, .inr (7, [.int 0, .int 0, .int 0, .int 0])), (q_9, .inr (7, [.int 0, .int 0, .int 0, .int 0])), (q_10, .inr (7, [.int 0, .int 0, .int 0, .int 0])), (q_11, .inr (7, [.int 0, .int 0, .int 0, .int 0])), (q_12, .inr (7, [.int 0, .int 0, .int 0, .int 0])), (q_13, .inr (7, [.int 0, .int 0, .int 0, .int 0]))] := hD
  refine W.widen (k := 13) (n := 54) (Nat.le_of_ble_eq_true rfl) (Nat.le_of_ble_eq_true rfl) ?_
  refine lv_dup hx hb dX1_init_66 rfl ?_
  have hPc := hP.sub (ws' := [(q_13, .inr (7, [.int 0, .int 0, .int 0, .int 0]))]) [11] rfl
  have hDc := hD.sub (ws' := [(q_13, .inr (7, [.int 0, .int 0, .int 0, .int 0]))]) [11] (by decide) rfl
  have hKc := hK.sub (tys' := []) [] rfl
  have hFc := va_free (wc := [(q_13, .inr (7, [.int 0, .int 0, .int 0, .int 0]))]) hD hS hA [11] rfl
  refine va_callv (va_runIN (As := []) (rest := [.ref q_13, .int 7, .ref q_1]) ⟨hx, hb, hml, hown, hts⟩ (c_X2_init l dC dI e0 q_13 H.size) ⟨va_cnB 0 hts (goodIn_sub (fun _ h9 => List.mem_cons_of_mem _ (List.mem_append_right _ (List.mem_append_right _ (List.mem_append_right _ (List.mem_append_left _ h9))))) (by decide +kernel)) rfl rfl rfl hAm.1.1.2.1 (hts _ (List.mem_cons_of_mem _ (List.mem_append_left _ (List.mem_of_getElem? (i := 6) rfl)))) (by decide +kernel) ⟨(Nat.le_of_ble_eq_true rfl), (Nat.le_of_ble_eq_true rfl)⟩, rfl, (hts _ (List.mem_cons_of_mem _ (List.mem_append_left _ (List.mem_of_getElem? (i := 7) rfl))))⟩ ⟨fz_blind, fz_pre hPc hKc hDc hAm hS hFc⟩ rfl rfl hl.1 rfl (lv_room (Nat.le_of_ble_eq_true rfl)) dX1_init_67 ⟨(Nat.le_of_ble_eq_true rfl), (Nat.le_of_ble_eq_true rfl)⟩) hS (fun q _ h => hFc q h) hFc (fun u t H1 locs ht hvm hw hB hz1 hk1 hS => ?_)
  obtain ⟨hP1, hK1, hD1⟩ := hB
  rw [ht] at hP1
  have hK1 := va_K.moved hvm.symm hK1
  obtain ⟨hP, hD⟩ := va_join (wr := [(h0, .inr (6, [.ref q_1, .ref q_2, .ref q_3, .int 0, .int 0, .int 1])), (q_1, .inl (cA_1, 8, .inr (.inr (.inr (.inr (va_up (va_up (va_up (va_up (va_up (va_up (va_up (fun _ => none) (0 : Int32).toNatClampNeg (some q_6)) (1 : Int32).toNatClampNeg (some q_7)) (2 : Int32).toNatClampNeg (some q_8)) (3 : Int32).toNatClampNeg (some q_9)) (4 : Int32).toNatClampNeg (some q_10)) (5 : Int32).toNatClampNeg (some q_11)) (6 : Int32).toNatClampNeg (some q_12))))))), (q_2, .inr (7, [.int 0, .int 0, .int 0, .int 0])), (q_3, .inr (9, [.ref hx_4, .ref hy_5])), (q_6, .inr (7, [.int 0, .int 0, .int 0, .int 0])), (q_7, .inr (7, [.int 0, .int 0, .int 0, .int 0])), (q_8, .inr (7, [.int 0, .int 0, .int 0, .int 0])), (q_9, .inr (7, [.int 0, .int 0, .int 0, .int 0])), (q_10, .inr (7, [.int 0, .int 0, .int 0, .int 0])), (q_11, .inr (7, [.int 0, .int 0, .int 0, .int 0])), (q_12, .inr (7, [.int 0, .int 0, .int 0, .int 0]))]) (w1 := [(q_13, .inr (7, [.int 0, .int 0, .int 0, .int 0]))]) hP hD [11] [0, 1, 2, 3, 4, 5, 6, 7, 8, 9, 10] rfl rfl (by decide) (by decide) hk1 hFc hP1 hD1
  generalize H1 = H at hP hS ⊢
  have hP : va_P (dC, dI) vwCl [(h0, .inr (6, [.ref q_1, .ref q_2, .ref q_3, .int 0, .int 0, .int 1])), (q_1, .inl (cA_1, 8, .inr (.inr (.inr (.inr (va_up (va_up (va_up (va_up (va_up (va_up (va_up (fun _ => none) (0 : Int32).toNatClampNeg (some q_6)) (1 : Int32).toNatClampNeg (some q_7)) (2 : Int32).toNatClampNeg (some q_8)) (3 : Int32).toNatClampNeg (some q_9)) (4 : Int32).toNatClampNeg (some q_10)) (5 : Int32).toNatClampNeg (some q_11)) (6 : Int32).toNatClampNeg (some q_12))))))), (q_2, .inr (7, [.int 0, .int 0, .int 0, .int 0])), (q_3, .inr (9, [.ref hx_4, .ref hy_5])), (q_6, .inr (7, [.int 0, .int 0, .int 0, .int 0])), (q_7, .inr (7, [.int 0, .int 0, .int 0, .int 0])), (q_8, .inr (7, [.int 0, .int 0, .int 0, .int 0])), (q_9, .inr (7, [.int 0, .int 0, .int 0, .int 0])), (q_10, .inr (7, [.int 0, .int 0, .int 0, .int 0])), (q_11, .inr (7, [.int 0, .int 0, .int 0, .int 0])), (q_12, .inr (7, [.int 0, .int 0, .int 0, .int 0])), (q_13, .inr (7, [.int 0, .int 0, .int 0, .int 0]))] H := hP
  have hD : va_D A [(h0, .inr (6, [.ref q_1, .ref q_2, .ref q_3, .int 0, .int 0, .int 1])), (q_1, .inl (cA_1, 8, .inr (.inr (.inr (.inr (va_up (va_up (va_up (va_up (va_up (va_up (va_up (fun _ => none) (0 : Int32).toNatClampNeg (some q_6)) (1 : Int32).toNatClampNeg (some q_7)) (2 : Int32).toNatClampNeg (some q_8)) (3 : Int32).toNatClampNeg (some q_9)) (4 : Int32).toNatClampNeg (some q_10)) (5 : Int32).toNatClampNeg (some q_11)) (6 : Int32).toNatClampNeg (some q_12))))))), (q_2, .inr (7, [.int 0, .int 0, .int 0, .int 0])), (q_3, .inr (9, [.ref hx_4, .ref hy_5])), (q_6, .inr (7, [.int 0, .int 0, .int 0, .int 0])), (q_7, .inr (7, [.int 0, .int 0, .int 0, .int 0])), (q_8, .inr (7, [.int 0, .int 0, .int 0, .int 0])), (q_9, .inr (7, [.int 0, .int 0, .int 0, .int 0])), (q_10, .inr (7, [.int 0, .int 0, .int 0, .int 0])), (q_11, .inr (7, [.int 0, .int 0, .int 0, .int 0])), (q_12, .inr (7, [.int 0, .int 0, .int 0, .int 0])), (q_13, .inr (7, [.int 0, .int 0, .int 0, .int 0]))] := hD
  have hK : va_K (dC, dI) vwCl [(cA_1, .object RX2)] s := hK
  refine W.widen (k := 13) (n := 54) (Nat.le_of_ble_eq_true rfl) (Nat.le_of_ble_eq_true rfl) ?_
  refine va_astq hx hb hK hP hD hS 1 0 11 7 rfl rfl rfl rfl (fz_il (by decide)) dX1_init_70 (fun H locs hP hD hS => ?_)
  have hP : va_P (dC, dI) vwCl [(h0, .inr (6, [.ref q_1, .ref q_2, .ref q_3, .int 0, .int 0, .int 1])), (q_1, .inl (cA_1, 8, .inr (.inr (.inr (.inr (va_up (va_up (va_up (va_up (va_up (va_up (va_up (va_up (fun _ => none) (0 : Int32).toNatClampNeg (some q_6)) (1 : Int32).toNatClampNeg (some q_7)) (2 : Int32).toNatClampNeg (some q_8)) (3 : Int32).toNatClampNeg (some q_9)) (4 : Int32).toNatClampNeg (some q_10)) (5 : Int32).toNatClampNeg (some q_11)) (6 : Int32).toNatClampNeg (some q_12)) (7 : Int32).toNatClampNeg (some q_13))))))), (q_2, .inr (7, [.int 0, .int 0, .int 0, .int 0])), (q_3, .inr (9, [.ref hx_4, .ref hy_5])), (q_6, .inr (7, [.int 0, .int 0, .int 0, .int 0])), (q_7, .inr (7, [.int 0, .int 0, .int 0, .int 0])), (q_8, .inr (7, [.int 0, .int 0, .int 0, .int 0])), (q_9, .inr (7, [.int 0, .int 0, .int 0, .int 0])), (q_10, .inr (7, [.int 0, .int 0, .int 0, .int 0])), (q_11, .inr (7, [.int 0, .int 0, .int 0, .int 0])), (q_12, .inr (7, [.int 0, .int 0, .int 0, .int 0])), (q_13, .inr (7, [.int 0, .int 0, .int 0, .int 0]))] H := hP
  have hD : va_D A [(h0, .inr (6, [.ref q_1, .ref q_2, .ref q_3, .int 0, .int 0, .int 1])), (q_1, .inl (cA_1, 8, .inr (.inr (.inr (.inr (va_up (va_up (va_up (va_up (va_up (va_up (va_up (va_up (fun _ => none) (0 : Int32).toNatClampNeg (some q_6)) (1 : Int32).toNatClampNeg (some q_7)) (2 : Int32).toNatClampNeg (some q_8)) (3 : Int32).toNatClampNeg (some q_9)) (4 : Int32).toNatClampNeg (some q_10)) (5 : Int32).toNatClampNeg (some q_11)) (6 : Int32).toNatClampNeg (some q_12)) (7 : Int32).toNatClampNeg (some q_13))))))), (q_2, .inr (7, [.int 0, .int 0, .int 0, .int 0])), (q_3, .inr (9, [.ref hx_4, .ref hy_5])), (q_6, .inr (7, [.int 0, .int 0, .int 0, .int 0])), (q_7, .inr (7, [.int 0, .int 0, .int 0, .int 0])), (q_8, .inr (7, [.int 0, .int 0, .int 0, .int 0])), (q_9, .inr (7, [.int 0, .int 0, .int 0, .int 0])), (q_10, .inr (7, [.int 0, .int 0, .int 0, .int 0])), (q_11, .inr (7, [.int 0, .int 0, .int 0, .int 0])), (q_12, .inr (7, [.int 0, .int 0, .int 0, .int 0])), (q_13, .inr (7, [.int 0, .int 0, .int 0, .int 0]))] := hD
  refine lv_iinc (v := 8) (lv' := [(1, .int 8), (0, .ref h0)]) hx hb dX1_init_71 hl (k := 0) rfl (by decide) (by decide) rfl (fun ls hl => ?_)
  refine lv_goto (tgt := 52) hx hb dX1_init_74 (by decide) ?_
  refine lv_iload_n hx hb dX1_init_52 rfl (lv_at hl 0 rfl) ?_
  refine lv_bipush (v := 8) hx hb dX1_init_53 (by decide) ?_
  refine lv_icmp_ge (tgt := 77) hx hb dX1_init_55 (by decide) (fun _ => ?_) (fun c_9 => absurd (by decide) c_9)
  have hP9 := hP.sub (ws' := [(h0, .inr (6, [.ref q_1, .ref q_2, .ref q_3, .int 0, .int 0, .int 1])), (q_1, .inl (cA_1, 8, .inr (.inr (.inr (.inr (va_up (va_up (va_up (va_up (va_up (va_up (va_up (va_up (fun _ => none) (0 : Int32).toNatClampNeg (some q_6)) (1 : Int32).toNatClampNeg (some q_7)) (2 : Int32).toNatClampNeg (some q_8)) (3 : Int32).toNatClampNeg (some q_9)) (4 : Int32).toNatClampNeg (some q_10)) (5 : Int32).toNatClampNeg (some q_11)) (6 : Int32).toNatClampNeg (some q_12)) (7 : Int32).toNatClampNeg (some q_13))))))), (q_6, .inr (7, [.int 0, .int 0, .int 0, .int 0])), (q_2, .inr (7, [.int 0, .int 0, .int 0, .int 0]))]) [0, 1, 4, 2] rfl
  have hD9 := hD.sub (ws' := [(h0, .inr (6, [.ref q_1, .ref q_2, .ref q_3, .int 0, .int 0, .int 1])), (q_1, .inl (cA_1, 8, .inr (.inr (.inr (.inr (va_up (va_up (va_up (va_up (va_up (va_up (va_up (va_up (fun _ => none) (0 : Int32).toNatClampNeg (some q_6)) (1 : Int32).toNatClampNeg (some q_7)) (2 : Int32).toNatClampNeg (some q_8)) (3 : Int32).toNatClampNeg (some q_9)) (4 : Int32).toNatClampNeg (some q_10)) (5 : Int32).toNatClampNeg (some q_11)) (6 : Int32).toNatClampNeg (some q_12)) (7 : Int32).toNatClampNeg (some q_13))))))), (q_6, .inr (7, [.int 0, .int 0, .int 0, .int 0])), (q_2, .inr (7, [.int 0, .int 0, .int 0, .int 0]))]) [0, 1, 4, 2] (by decide) rfl
  have hK9 := hK.sub (tys' := [(cA_1, .object RX2)]) [0] rfl
  refine W.widen (k := 13) (n := 54) (Nat.le_of_ble_eq_true rfl) (Nat.le_of_ble_eq_true rfl) ?_
  exact W.vret hx hb hr (fun t ht hW => ⟨⟨(), rfl, trivial, ⟨q_1, q_2, q_3, cA_1, (va_up (va_up (va_up (va_up (va_up (va_up (va_up (va_up (fun _ => none) (0 : Int32).toNatClampNeg (some q_6)) (1 : Int32).toNatClampNeg (some q_7)) (2 : Int32).toNatClampNeg (some q_8)) (3 : Int32).toNatClampNeg (some q_9)) (4 : Int32).toNatClampNeg (some q_10)) (5 : Int32).toNatClampNeg (some q_11)) (6 : Int32).toNatClampNeg (some q_12)) (7 : Int32).toNatClampNeg (some q_13)), q_6, (by first | rfl | (simp [va_up]; done)), by rw [ht]; exact hP9, va_K.moved hW.alike hK9, hD9⟩⟩, hS.F ht⟩) hS.2.2 dX1_init_77
def v_c_X1_placeCount : List Cond := .code yX1_placeCount cX1_placeCount 1 (some .int) :: ([.fieldLink RX1 29 "VoussoirYard$Drawing" "count" "I", .methodLink RX1 39 Lib.Math.max.name, .static Lib.Math.max.name, .initialized "java/lang/Math", .code Lib.Math.max.name Lib.Math.max.code 2 (some .int)] ++ (wsX10))
set_option maxRecDepth 20000 in
theorem i_c_X1_placeCount : ∀ w ∈ v_c_X1_placeCount, w ∈ lw_tbl := List.forall_mem_cons.mpr ⟨List.mem_of_getElem? (i := 275) (by decide +kernel), List.forall_mem_append.mpr ⟨List.forall_mem_cons.mpr ⟨List.mem_of_getElem? (i := 151) (by decide +kernel), List.forall_mem_cons.mpr ⟨List.mem_of_getElem? (i := 276) (by decide +kernel), List.forall_mem_cons.mpr ⟨List.mem_of_getElem? (i := 277) (by decide +kernel), List.forall_mem_cons.mpr ⟨List.mem_of_getElem? (i := 67) (by decide +kernel), List.forall_mem_cons.mpr ⟨List.mem_of_getElem? (i := 278) (by decide +kernel), fun _ h => absurd h List.not_mem_nil⟩⟩⟩⟩⟩, inX1⟩⟩
set_option maxHeartbeats 4000000 in
set_option maxRecDepth 100000 in
theorem c_X1_placeCount (l : Launch) (dC : Nat → ClassId) (dI : Nat → Nat → Nat) (e0 : Nat) (h0 hj hpr hqd : Nat) (sz : Nat) : Met l yX1_placeCount v_c_X1_placeCount ({ frames := 1, cells := 0, slots := 0, locals := 30 }) (fz_P (dC, dI) e0 [(h0, .inr (6, [.ref hj, .ref hpr, .ref hqd, .int 0, .int 0, .int 1]))] [] sz (fun q : Nat => sz ≤ q) [.ref h0]) (va_Qi (fun (r : Int32) (u : Unit) => r = 0) (fun (u : Unit) (t : State) => True) (fun q : Nat => sz ≤ q)) 0 0 (fun q : Nat => sz ≤ q) := by
  refine Met.ofW (cc := cX1_placeCount) (maxL := 1) (ret := (some .int)) (by decide) rfl ?_
  intro p e s m args below meth c s₁ B hml hv
  obtain ⟨rfl, hsz, hP, hK, hD0, hAm⟩ := hv
  have hx := B.exec
  have hb := B.bytes
  have hr := B.returns
  have hts := atoms_spec (ws := v_c_X1_placeCount) B.pre
  have hown : s.vm.findClass RX1 = some m.cls := findClass_of_methodNamed B.named
  have hlocks := B.notSynchronized
  subst hsz
  have hD := hD0
  generalize hAe : (fun q : Nat => s.heap.size ≤ q) = A at hAm ⊢
  have hA : ∀ q : Nat, s.heap.size ≤ q → A q := fun q h => by rw [← hAe]; exact h
  have hS : va_S A s.heap s.heap [] := va_S.rf
  have hP : va_P (dC, dI) vwCl [(h0, .inr (6, [.ref hj, .ref hpr, .ref hqd, .int 0, .int 0, .int 1]))] s.heap := hP
  have hl := lv_entry ([.ref h0]) (n := 1) (Nat.le_of_ble_eq_true rfl)
  rw [lg_entry_eq]
  generalize (lg_sl ([.ref h0]) ++ List.replicate (1 - (lg_sl ([.ref h0])).length) Slot.unset).toArray = ls at hl ⊢
  have hl : lv_has ls 1 [(0, .ref h0)] := hl
  refine lv_iconst (v := 0) hx hb dX1_placeCount_0 (by decide) ?_
  refine lv_aload_n hx hb dX1_placeCount_1 rfl (lv_at hl 0 rfl) ?_
  refine va_get (D := (dC, dI)) (ci := 6) (v := .int 0) (C := RX1) (T := TX1) (N := 6) hx hb hts (fun _ h9 => List.mem_cons_of_mem _ (List.mem_append_right _ (h9))) hown hK hP 0 rfl rfl 3 (by decide) (hts _ (List.mem_cons_of_mem _ (List.mem_append_left _ (List.mem_of_getElem? (i := 0) rfl)))) (fun _ h9 => h9) rfl dX1_placeCount_2 ?_
  refine lv_iconst (v := 1) hx hb dX1_placeCount_5 (by decide) ?_
  refine lv_isub hx hb dX1_placeCount_6 ?_
  refine lv_topi (fun z_9 e_9 => ?_)
  obtain rfl : (-1) = z_9 := (e_9.trans (by decide)).symm
  refine va_mmax hx hb (hml.trans hl.1.symm) hown (hts _ (List.mem_cons_of_mem _ (List.mem_append_left _ (List.mem_of_getElem? (i := 1) rfl)))) (hts _ (List.mem_cons_of_mem _ (List.mem_append_left _ (List.mem_of_getElem? (i := 2) rfl)))) (hts _ (List.mem_cons_of_mem _ (List.mem_append_left _ (List.mem_of_getElem? (i := 3) rfl)))) (hts _ (List.mem_cons_of_mem _ (List.mem_append_left _ (List.mem_of_getElem? (i := 4) rfl)))) (Nat.le_of_ble_eq_true rfl) (Nat.le_of_ble_eq_true rfl) (Nat.le_of_ble_eq_true rfl) (Nat.le_of_ble_eq_true rfl) dX1_placeCount_7 ?_
  refine lv_topi (fun z_9 e_9 => ?_)
  obtain rfl : 0 = z_9 := (e_9.trans (by decide)).symm
  refine W.widen (k := 0) (n := 0) (Nat.le_of_ble_eq_true rfl) (Nat.le_of_ble_eq_true rfl) ?_
  exact W.iret (v := 0) hx hb hr (fun t ht hW => ⟨⟨0, (), rfl, rfl, trivial⟩, hS.F ht⟩) hS.2.2 dX1_placeCount_10
def v_c_X1_hasPlace : List Cond := .code yX1_hasPlace cX1_hasPlace 2 (some .boolean) :: ([] ++ (wsV RX1 45 RX1 yX1_placeCount v_c_X1_placeCount))
set_option maxRecDepth 20000 in
theorem i_c_X1_hasPlace : ∀ w ∈ v_c_X1_hasPlace, w ∈ lw_tbl := List.forall_mem_cons.mpr ⟨List.mem_of_getElem? (i := 643) (by decide +kernel), List.forall_mem_append.mpr ⟨fun _ h => absurd h List.not_mem_nil, (by unfold wsV; exact List.forall_mem_append.mpr ⟨List.forall_mem_cons.mpr ⟨List.mem_of_getElem? (i := 336) (by decide +kernel), List.forall_mem_cons.mpr ⟨List.mem_of_getElem? (i := 273) (by decide +kernel), List.forall_mem_cons.mpr ⟨List.mem_of_getElem? (i := 274) (by decide +kernel), List.forall_mem_cons.mpr ⟨List.mem_of_getElem? (i := 50) (by decide +kernel), fun _ h => absurd h List.not_mem_nil⟩⟩⟩⟩, i_c_X1_placeCount⟩)⟩⟩
set_option maxHeartbeats 4000000 in
set_option maxRecDepth 100000 in
theorem c_X1_hasPlace (l : Launch) (dC : Nat → ClassId) (dI : Nat → Nat → Nat) (e0 : Nat) (h0 : Nat) (p0 : Int32) (hj hpr hqd : Nat) (sz : Nat) : Met l yX1_hasPlace v_c_X1_hasPlace ({ frames := 2, cells := 0, slots := 0, locals := 50 }) (fz_P (dC, dI) e0 [(h0, .inr (6, [.ref hj, .ref hpr, .ref hqd, .int 0, .int 0, .int 1]))] [] sz (fun q : Nat => sz ≤ q) [.ref h0, .int p0]) (va_Qi (fun (r : Int32) (u : Unit) => r = 0) (fun (u : Unit) (t : State) => True) (fun q : Nat => sz ≤ q)) 0 0 (fun q : Nat => sz ≤ q) := by
  refine Met.ofW (cc := cX1_hasPlace) (maxL := 2) (ret := (some .boolean)) (by decide) rfl ?_
  intro p e s m args below meth c s₁ B hml hv
  obtain ⟨rfl, hsz, hP, hK, hD0, hAm⟩ := hv
  have hx := B.exec
  have hb := B.bytes
  have hr := B.returns
  have hts := atoms_spec (ws := v_c_X1_hasPlace) B.pre
  have hown : s.vm.findClass RX1 = some m.cls := findClass_of_methodNamed B.named
  have hlocks := B.notSynchronized
  subst hsz
  have hD := hD0
  generalize hAe : (fun q : Nat => s.heap.size ≤ q) = A at hAm ⊢
  have hA : ∀ q : Nat, s.heap.size ≤ q → A q := fun q h => by rw [← hAe]; exact h
  have hS : va_S A s.heap s.heap [] := va_S.rf
  have hP : va_P (dC, dI) vwCl [(h0, .inr (6, [.ref hj, .ref hpr, .ref hqd, .int 0, .int 0, .int 1]))] s.heap := hP
  have hl := lv_entry ([.ref h0, .int p0]) (n := 2) (Nat.le_of_ble_eq_true rfl)
  rw [lg_entry_eq]
  generalize (lg_sl ([.ref h0, .int p0]) ++ List.replicate (2 - (lg_sl ([.ref h0, .int p0])).length) Slot.unset).toArray = ls at hl ⊢
  have hl : lv_has ls 2 [(0, .ref h0), (1, .int p0)] := hl
  refine lv_iload_n hx hb dX1_hasPlace_0 rfl (lv_at hl 1 rfl) ?_
  refine lv_if_lt (tgt := 16) hx hb dX1_hasPlace_1 (by decide) (fun c_1 => ?_) (fun c_1 => ?_)
  · refine lv_iconst (v := 0) hx hb dX1_hasPlace_16 (by decide) ?_
    refine W.widen (k := 0) (n := 0) (Nat.le_of_ble_eq_true rfl) (Nat.le_of_ble_eq_true rfl) ?_
    exact W.zret (v := 0) hx hb hr rfl (fun t ht hW => ⟨⟨0, (), rfl, rfl, trivial⟩, hS.F ht⟩) hS.2.2 dX1_hasPlace_17
  · refine lv_iload_n hx hb dX1_hasPlace_4 rfl (lv_at hl 1 rfl) ?_
    refine lv_aload_n hx hb dX1_hasPlace_5 rfl (lv_at hl 0 rfl) ?_
    have hPc := hP.sub (ws' := [(h0, .inr (6, [.ref hj, .ref hpr, .ref hqd, .int 0, .int 0, .int 1]))]) [0] rfl
    have hDc := hD.sub (ws' := [(h0, .inr (6, [.ref hj, .ref hpr, .ref hqd, .int 0, .int 0, .int 1]))]) [0] (by decide) rfl
    have hKc := hK.sub (tys' := []) [] rfl
    have hFc : ∀ q : Nat, s.heap.size ≤ q → A q := fun q h => hA q (Nat.le_trans hS.1 h)
    refine va_calli (va_runV (As := []) (rest := [.int p0]) ⟨hx, hb, hml, hown, hts⟩ (c_X1_placeCount l dC dI e0 h0 hj hpr hqd s.heap.size) (cwV 0 hts (goodIn_sub (fun _ h9 => List.mem_cons_of_mem _ (List.mem_append_right _ (h9))) (by decide +kernel)) rfl rfl rfl (by decide +kernel) ⟨(Nat.le_of_ble_eq_true rfl), (Nat.le_of_ble_eq_true rfl)⟩) ⟨fz_blind, va_recv hKc hPc (ci := 6) (q0 := 0) rfl rfl, fz_pre hPc hKc hDc hAm hS hFc⟩ rfl rfl hl.1 rfl (lv_room (Nat.le_of_ble_eq_true rfl)) dX1_hasPlace_6 ⟨(Nat.le_of_ble_eq_true rfl), (Nat.le_of_ble_eq_true rfl)⟩) hS (fun q _ h => hFc q h) hFc (fun r u t H1 locs ht hvm hw hB hz1 hk1 hS => ?_)
    obtain rfl := hw
    have hP := fz_keep hP hk1
    generalize H1 = H at hP hS ⊢
    have hP : va_P (dC, dI) vwCl [(h0, .inr (6, [.ref hj, .ref hpr, .ref hqd, .int 0, .int 0, .int 1]))] H := hP
    refine W.widen (k := 0) (n := 0) (Nat.le_of_ble_eq_true rfl) (Nat.le_of_ble_eq_true rfl) ?_
    refine lv_icmp_ge (tgt := 16) hx hb dX1_hasPlace_9 (by decide) (fun _ => ?_) (fun c_9 => absurd (by first | (exact absurd ‹_› (by decide)) | assumption | (apply fz_a1; assumption) | (apply fz_a2; assumption) | (apply fz_a3; assumption) | (apply fz_a4; assumption) | decide) c_9)
    refine lv_iconst (v := 0) hx hb dX1_hasPlace_16 (by decide) ?_
    refine W.widen (k := 0) (n := 0) (Nat.le_of_ble_eq_true rfl) (Nat.le_of_ble_eq_true rfl) ?_
    exact W.zret (v := 0) hx hb hr rfl (fun t ht hW => ⟨⟨0, (), rfl, rfl, trivial⟩, hS.F ht⟩) hS.2.2 dX1_hasPlace_17
def v_c_X1_jointAt : List Cond := .code yX1_jointAt cX1_jointAt 2 (some (.object "VoussoirYard$Joint")) :: ([.fieldLink RX1 29 "VoussoirYard$Drawing" "count" "I"] ++ (wsX10))
set_option maxRecDepth 20000 in
theorem i_c_X1_jointAt : ∀ w ∈ v_c_X1_jointAt, w ∈ lw_tbl := List.forall_mem_cons.mpr ⟨List.mem_of_getElem? (i := 348) (by decide +kernel), List.forall_mem_append.mpr ⟨List.forall_mem_cons.mpr ⟨List.mem_of_getElem? (i := 151) (by decide +kernel), fun _ h => absurd h List.not_mem_nil⟩, inX1⟩⟩
set_option maxHeartbeats 4000000 in
set_option maxRecDepth 100000 in
theorem c_X1_jointAt (l : Launch) (dC : Nat → ClassId) (dI : Nat → Nat → Nat) (e0 : Nat) (h0 : Nat) (p0 : Int32) (hj hpr hqd : Nat) (sz : Nat) : Met l yX1_jointAt v_c_X1_jointAt ({ frames := 0, cells := 0, slots := 0, locals := 0 }) (fz_P (dC, dI) e0 [(h0, .inr (6, [.ref hj, .ref hpr, .ref hqd, .int 0, .int 0, .int 1]))] [] sz (fun q : Nat => sz ≤ q) [.ref h0, .int p0]) (va_Qq (fun (r : Option Nat) (u : Unit) => r = none) (fun (u : Unit) (t : State) => True) (fun q : Nat => sz ≤ q)) 0 0 (fun q : Nat => sz ≤ q) := by
  refine Met.ofW (cc := cX1_jointAt) (maxL := 2) (ret := (some (.object "VoussoirYard$Joint"))) (by decide) rfl ?_
  intro p e s m args below meth c s₁ B hml hv
  obtain ⟨rfl, hsz, hP, hK, hD0, hAm⟩ := hv
  have hx := B.exec
  have hb := B.bytes
  have hr := B.returns
  have hts := atoms_spec (ws := v_c_X1_jointAt) B.pre
  have hown : s.vm.findClass RX1 = some m.cls := findClass_of_methodNamed B.named
  have hlocks := B.notSynchronized
  subst hsz
  have hD := hD0
  generalize hAe : (fun q : Nat => s.heap.size ≤ q) = A at hAm ⊢
  have hA : ∀ q : Nat, s.heap.size ≤ q → A q := fun q h => by rw [← hAe]; exact h
  have hS : va_S A s.heap s.heap [] := va_S.rf
  have hP : va_P (dC, dI) vwCl [(h0, .inr (6, [.ref hj, .ref hpr, .ref hqd, .int 0, .int 0, .int 1]))] s.heap := hP
  have hl := lv_entry ([.ref h0, .int p0]) (n := 2) (Nat.le_of_ble_eq_true rfl)
  rw [lg_entry_eq]
  generalize (lg_sl ([.ref h0, .int p0]) ++ List.replicate (2 - (lg_sl ([.ref h0, .int p0])).length) Slot.unset).toArray = ls at hl ⊢
  have hl : lv_has ls 2 [(0, .ref h0), (1, .int p0)] := hl
  refine lv_iload_n hx hb dX1_jointAt_0 rfl (lv_at hl 1 rfl) ?_
  refine lv_if_lt (tgt := 30) hx hb dX1_jointAt_1 (by decide) (fun c_1 => ?_) (fun c_1 => ?_)
  · refine lv_null hx hb dX1_jointAt_30 ?_
    refine W.widen (k := 0) (n := 0) (Nat.le_of_ble_eq_true rfl) (Nat.le_of_ble_eq_true rfl) ?_
    exact W.aret (v := .null) hx hb hr (Or.inl ⟨_, rfl⟩) (Or.inl rfl) (fun t ht hW => ⟨⟨none, (), rfl, rfl, trivial⟩, hS.F ht⟩) hS.2.2 dX1_jointAt_31
  · refine lv_iload_n hx hb dX1_jointAt_4 rfl (lv_at hl 1 rfl) ?_
    refine lv_aload_n hx hb dX1_jointAt_5 rfl (lv_at hl 0 rfl) ?_
    refine va_get (D := (dC, dI)) (ci := 6) (v := .int 0) (C := RX1) (T := TX1) (N := 6) hx hb hts (fun _ h9 => List.mem_cons_of_mem _ (List.mem_append_right _ (h9))) hown hK hP 0 rfl rfl 3 (by decide) (hts _ (List.mem_cons_of_mem _ (List.mem_append_left _ (List.mem_of_getElem? (i := 0) rfl)))) (fun _ h9 => h9) rfl dX1_jointAt_6 ?_
    refine lv_icmp_ge (tgt := 30) hx hb dX1_jointAt_9 (by decide) (fun _ => ?_) (fun c_9 => absurd (by first | (exact absurd ‹_› (by decide)) | assumption | (apply fz_a1; assumption) | (apply fz_a2; assumption) | (apply fz_a3; assumption) | (apply fz_a4; assumption) | decide) c_9)
    refine lv_null hx hb dX1_jointAt_30 ?_
    refine W.widen (k := 0) (n := 0) (Nat.le_of_ble_eq_true rfl) (Nat.le_of_ble_eq_true rfl) ?_
    exact W.aret (v := .null) hx hb hr (Or.inl ⟨_, rfl⟩) (Or.inl rfl) (fun t ht hW => ⟨⟨none, (), rfl, rfl, trivial⟩, hS.F ht⟩) hS.2.2 dX1_jointAt_31
def v_c_X1_jointAt0 : List Cond := .code yX1_jointAt cX1_jointAt 2 (some (.object "VoussoirYard$Joint")) :: ([.fieldLink RX1 29 "VoussoirYard$Drawing" "count" "I", .fieldLink RX1 11 "VoussoirYard$Drawing" "joints" "[LVoussoirYard$Joint;"] ++ (wsX10))
set_option maxRecDepth 20000 in
theorem i_c_X1_jointAt0 : ∀ w ∈ v_c_X1_jointAt0, w ∈ lw_tbl := List.forall_mem_cons.mpr ⟨List.mem_of_getElem? (i := 348) (by decide +kernel), List.forall_mem_append.mpr ⟨List.forall_mem_cons.mpr ⟨List.mem_of_getElem? (i := 151) (by decide +kernel), List.forall_mem_cons.mpr ⟨List.mem_of_getElem? (i := 148) (by decide +kernel), fun _ h => absurd h List.not_mem_nil⟩⟩, inX1⟩⟩
set_option maxHeartbeats 4000000 in
set_option maxRecDepth 100000 in
theorem c_X1_jointAt0 (l : Launch) (dC : Nat → ClassId) (dI : Nat → Nat → Nat) (e0 : Nat) (h0 hj hpr hqd : Nat) (cR : ClassId) (hj0 : Nat) (fj : Nat → Option Nat) (sz : Nat) (hj0f : fj 0 = some hj0) : Met l yX1_jointAt v_c_X1_jointAt0 ({ frames := 0, cells := 0, slots := 0, locals := 0 }) (fz_P (dC, dI) e0 [(h0, .inr (6, [.ref hj, .ref hpr, .ref hqd, .int 1, .int 0, .int 1])), (hj, .inl (cR, 8, .inr (.inr (.inr (.inr fj)))))] [(cR, .object RX2)] sz (fun q : Nat => sz ≤ q) [.ref h0, .int 0]) (va_Qr (fun (u : Unit) => True) (fun (u : Unit) (ra : Nat) (t : State) => ra = hj0) (fun q : Nat => sz ≤ q)) 0 0 (fun q : Nat => sz ≤ q) := by
  refine Met.ofW (cc := cX1_jointAt) (maxL := 2) (ret := (some (.object "VoussoirYard$Joint"))) (by decide) rfl ?_
  intro p e s m args below meth c s₁ B hml hv
  obtain ⟨rfl, hsz, hP, hK, hD0, hAm⟩ := hv
  have hx := B.exec
  have hb := B.bytes
  have hr := B.returns
  have hts := atoms_spec (ws := v_c_X1_jointAt0) B.pre
  have hown : s.vm.findClass RX1 = some m.cls := findClass_of_methodNamed B.named
  have hlocks := B.notSynchronized
  subst hsz
  have hD := hD0
  generalize hAe : (fun q : Nat => s.heap.size ≤ q) = A at hAm ⊢
  have hA : ∀ q : Nat, s.heap.size ≤ q → A q := fun q h => by rw [← hAe]; exact h
  have hS : va_S A s.heap s.heap [] := va_S.rf
  have hP : va_P (dC, dI) vwCl [(h0, .inr (6, [.ref hj, .ref hpr, .ref hqd, .int 1, .int 0, .int 1])), (hj, .inl (cR, 8, .inr (.inr (.inr (.inr fj)))))] s.heap := hP
  have hl := lv_entry ([.ref h0, .int 0]) (n := 2) (Nat.le_of_ble_eq_true rfl)
  rw [lg_entry_eq]
  generalize (lg_sl ([.ref h0, .int 0]) ++ List.replicate (2 - (lg_sl ([.ref h0, .int 0])).length) Slot.unset).toArray = ls at hl ⊢
  have hl : lv_has ls 2 [(0, .ref h0), (1, .int 0)] := hl
  refine lv_iload_n hx hb dX1_jointAt_0 rfl (lv_at hl 1 rfl) ?_
  refine lv_if_lt (tgt := 30) hx hb dX1_jointAt_1 (by decide) (fun c_9 => absurd c_9 (by decide)) (fun _ => ?_)
  refine lv_iload_n hx hb dX1_jointAt_4 rfl (lv_at hl 1 rfl) ?_
  refine lv_aload_n hx hb dX1_jointAt_5 rfl (lv_at hl 0 rfl) ?_
  refine va_get (D := (dC, dI)) (ci := 6) (v := .int 1) (C := RX1) (T := TX1) (N := 6) hx hb hts (fun _ h9 => List.mem_cons_of_mem _ (List.mem_append_right _ (h9))) hown hK hP 0 rfl rfl 3 (by decide) (hts _ (List.mem_cons_of_mem _ (List.mem_append_left _ (List.mem_of_getElem? (i := 0) rfl)))) (fun _ h9 => h9) rfl dX1_jointAt_6 ?_
  refine lv_icmp_ge (tgt := 30) hx hb dX1_jointAt_9 (by decide) (fun c_9 => absurd c_9 (by decide)) (fun _ => ?_)
  refine lv_iload_n hx hb dX1_jointAt_12 rfl (lv_at hl 1 rfl) ?_
  refine lv_aload_n hx hb dX1_jointAt_13 rfl (lv_at hl 0 rfl) ?_
  refine va_get (D := (dC, dI)) (ci := 6) (v := .ref hj) (C := RX1) (T := TX1) (N := 6) hx hb hts (fun _ h9 => List.mem_cons_of_mem _ (List.mem_append_right _ (h9))) hown hK hP 0 rfl rfl 0 (by decide) (hts _ (List.mem_cons_of_mem _ (List.mem_append_left _ (List.mem_of_getElem? (i := 1) rfl)))) (fun _ h9 => h9) rfl dX1_jointAt_14 ?_
  refine va_alen hx hb hK hP 1 0 rfl rfl (v := 8) rfl dX1_jointAt_17 ?_
  refine lv_icmp_ge (tgt := 30) hx hb dX1_jointAt_18 (by decide) (fun c_9 => absurd c_9 (by decide)) (fun _ => ?_)
  refine lv_aload_n hx hb dX1_jointAt_21 rfl (lv_at hl 0 rfl) ?_
  refine va_get (D := (dC, dI)) (ci := 6) (v := .ref hj) (C := RX1) (T := TX1) (N := 6) hx hb hts (fun _ h9 => List.mem_cons_of_mem _ (List.mem_append_right _ (h9))) hown hK hP 0 rfl rfl 0 (by decide) (hts _ (List.mem_cons_of_mem _ (List.mem_append_left _ (List.mem_of_getElem? (i := 1) rfl)))) (fun _ h9 => h9) rfl dX1_jointAt_22 ?_
  refine lv_iload_n hx hb dX1_jointAt_25 rfl (lv_at hl 1 rfl) ?_
  refine va_aldq hx hb hK hP 1 0 rfl rfl (fz_il (by decide)) dX1_jointAt_26 ?_
  refine W.eq (g2 := F0 m 27 ls [.ref hj0]) (by rw [show (0 : Int32).toNatClampNeg = 0 from by decide, hj0f]; rfl) ?_
  refine lv_goto (tgt := 31) hx hb dX1_jointAt_27 (by decide) ?_
  refine W.widen (k := 0) (n := 0) (Nat.le_of_ble_eq_true rfl) (Nat.le_of_ble_eq_true rfl) ?_
  exact W.aret (v := .ref hj0) hx hb hr (Or.inl ⟨_, rfl⟩) (Or.inr ⟨_, rfl⟩) (fun t ht hW => ⟨⟨(), hj0, rfl, trivial, rfl⟩, hS.F ht⟩) hS.2.2 dX1_jointAt_31
def v_c_X1_quadOf : List Cond := .code yX1_quadOf cX1_quadOf 4 (some (.object "VoussoirYard$Quad")) :: ([] ++ (wsV RX1 57 RX1 yX1_jointAt v_c_X1_jointAt))
set_option maxRecDepth 20000 in
theorem i_c_X1_quadOf : ∀ w ∈ v_c_X1_quadOf, w ∈ lw_tbl := List.forall_mem_cons.mpr ⟨List.mem_of_getElem? (i := 344) (by decide +kernel), List.forall_mem_append.mpr ⟨fun _ h => absurd h List.not_mem_nil, (by unfold wsV; exact List.forall_mem_append.mpr ⟨List.forall_mem_cons.mpr ⟨List.mem_of_getElem? (i := 345) (by decide +kernel), List.forall_mem_cons.mpr ⟨List.mem_of_getElem? (i := 346) (by decide +kernel), List.forall_mem_cons.mpr ⟨List.mem_of_getElem? (i := 347) (by decide +kernel), List.forall_mem_cons.mpr ⟨List.mem_of_getElem? (i := 50) (by decide +kernel), fun _ h => absurd h List.not_mem_nil⟩⟩⟩⟩, i_c_X1_jointAt⟩)⟩⟩
set_option maxHeartbeats 4000000 in
set_option maxRecDepth 100000 in
theorem c_X1_quadOf (l : Launch) (dC : Nat → ClassId) (dI : Nat → Nat → Nat) (e0 : Nat) (h0 : Nat) (p0 : Int32) (hj hpr hqd : Nat) (sz : Nat) : Met l yX1_quadOf v_c_X1_quadOf ({ frames := 1, cells := 0, slots := 0, locals := 21 }) (fz_P (dC, dI) e0 [(h0, .inr (6, [.ref hj, .ref hpr, .ref hqd, .int 0, .int 0, .int 1]))] [] sz (fun q : Nat => sz ≤ q) [.ref h0, .int p0]) (va_Qq (fun (r : Option Nat) (u : Unit) => r = none) (fun (u : Unit) (t : State) => True) (fun q : Nat => sz ≤ q)) 0 0 (fun q : Nat => sz ≤ q) := by
  refine Met.ofW (cc := cX1_quadOf) (maxL := 4) (ret := (some (.object "VoussoirYard$Quad"))) (by decide) rfl ?_
  intro p e s m args below meth c s₁ B hml hv
  obtain ⟨rfl, hsz, hP, hK, hD0, hAm⟩ := hv
  have hx := B.exec
  have hb := B.bytes
  have hr := B.returns
  have hts := atoms_spec (ws := v_c_X1_quadOf) B.pre
  have hown : s.vm.findClass RX1 = some m.cls := findClass_of_methodNamed B.named
  have hlocks := B.notSynchronized
  subst hsz
  have hD := hD0
  generalize hAe : (fun q : Nat => s.heap.size ≤ q) = A at hAm ⊢
  have hA : ∀ q : Nat, s.heap.size ≤ q → A q := fun q h => by rw [← hAe]; exact h
  have hS : va_S A s.heap s.heap [] := va_S.rf
  have hP : va_P (dC, dI) vwCl [(h0, .inr (6, [.ref hj, .ref hpr, .ref hqd, .int 0, .int 0, .int 1]))] s.heap := hP
  have hl := lv_entry ([.ref h0, .int p0]) (n := 4) (Nat.le_of_ble_eq_true rfl)
  rw [lg_entry_eq]
  generalize (lg_sl ([.ref h0, .int p0]) ++ List.replicate (4 - (lg_sl ([.ref h0, .int p0])).length) Slot.unset).toArray = ls at hl ⊢
  have hl : lv_has ls 4 [(0, .ref h0), (1, .int p0)] := hl
  refine lv_aload_n hx hb dX1_quadOf_0 rfl (lv_at hl 0 rfl) ?_
  refine lv_iload_n hx hb dX1_quadOf_1 rfl (lv_at hl 1 rfl) ?_
  have hPc := hP.sub (ws' := [(h0, .inr (6, [.ref hj, .ref hpr, .ref hqd, .int 0, .int 0, .int 1]))]) [0] rfl
  have hDc := hD.sub (ws' := [(h0, .inr (6, [.ref hj, .ref hpr, .ref hqd, .int 0, .int 0, .int 1]))]) [0] (by decide) rfl
  have hKc := hK.sub (tys' := []) [] rfl
  have hFc : ∀ q : Nat, s.heap.size ≤ q → A q := fun q h => hA q (Nat.le_trans hS.1 h)
  refine va_callq (va_runV (As := [.int p0]) (rest := []) ⟨hx, hb, hml, hown, hts⟩ (c_X1_jointAt l dC dI e0 h0 p0 hj hpr hqd s.heap.size) (cwV 1 hts (goodIn_sub (fun _ h9 => List.mem_cons_of_mem _ (List.mem_append_right _ (h9))) (by decide +kernel)) rfl rfl rfl (by decide +kernel) ⟨(Nat.le_of_ble_eq_true rfl), (Nat.le_of_ble_eq_true rfl)⟩) ⟨fz_blind, va_recv hKc hPc (ci := 6) (q0 := 0) rfl rfl, fz_pre hPc hKc hDc hAm hS hFc⟩ rfl rfl hl.1 rfl (lv_room (Nat.le_of_ble_eq_true rfl)) dX1_quadOf_2 ⟨(Nat.le_of_ble_eq_true rfl), (Nat.le_of_ble_eq_true rfl)⟩) hS (fun q _ h => hFc q h) hFc (fun r u t H1 locs ht hvm hw hB hz1 hk1 hS => ?_)
  obtain rfl := hw
  have hP := fz_keep hP hk1
  generalize H1 = H at hP hS ⊢
  have hP : va_P (dC, dI) vwCl [(h0, .inr (6, [.ref hj, .ref hpr, .ref hqd, .int 0, .int 0, .int 1]))] H := hP
  refine W.widen (k := 0) (n := 0) (Nat.le_of_ble_eq_true rfl) (Nat.le_of_ble_eq_true rfl) ?_
  refine lv_astore_nN (lv' := [(2, .null), (0, .ref h0), (1, .int p0)]) hx hb dX1_quadOf_5 rfl hl (by decide) rfl (fun ls hl => ?_)
  refine lv_aload_nN hx hb dX1_quadOf_6 rfl (lv_at hl 0 rfl) ?_
  refine lv_ifnonnullN hx hb dX1_quadOf_7 ?_
  refine lv_null hx hb dX1_quadOf_10 ?_
  refine lv_goto (tgt := 21) hx hb dX1_quadOf_11 (by decide) ?_
  refine lv_astore_nN (lv' := [(3, .null), (2, .null), (0, .ref h0), (1, .int p0)]) hx hb dX1_quadOf_21 rfl hl (by decide) rfl (fun ls hl => ?_)
  refine lv_aload_nN hx hb dX1_quadOf_22 rfl (lv_at hl 1 rfl) ?_
  refine lv_ifnullN (tgt := 30) hx hb dX1_quadOf_23 (by decide) ?_
  refine lv_null hx hb dX1_quadOf_30 ?_
  refine W.widen (k := 0) (n := 0) (Nat.le_of_ble_eq_true rfl) (Nat.le_of_ble_eq_true rfl) ?_
  exact W.aret (v := .null) hx hb hr (Or.inl ⟨_, rfl⟩) (Or.inl rfl) (fun t ht hW => ⟨⟨none, (), rfl, rfl, trivial⟩, hS.F ht⟩) hS.2.2 dX1_quadOf_31
def v_c_X1_propose : List Cond := .code yX1_propose cX1_propose 5 none :: ([.fieldLink RX1 18 "VoussoirYard$Drawing" "proposed" "LVoussoirYard$Joint;"] ++ (wsX10 ++ (wsV RX1 49 RX2 yX2_moveTo v_c_X2_moveTo)))
set_option maxRecDepth 20000 in
theorem i_c_X1_propose : ∀ w ∈ v_c_X1_propose, w ∈ lw_tbl := List.forall_mem_cons.mpr ⟨List.mem_of_getElem? (i := 512) (by decide +kernel), List.forall_mem_append.mpr ⟨List.forall_mem_cons.mpr ⟨List.mem_of_getElem? (i := 149) (by decide +kernel), fun _ h => absurd h List.not_mem_nil⟩, List.forall_mem_append.mpr ⟨inX1, (by unfold wsV; exact List.forall_mem_append.mpr ⟨List.forall_mem_cons.mpr ⟨List.mem_of_getElem? (i := 513) (by decide +kernel), List.forall_mem_cons.mpr ⟨List.mem_of_getElem? (i := 514) (by decide +kernel), List.forall_mem_cons.mpr ⟨List.mem_of_getElem? (i := 515) (by decide +kernel), List.forall_mem_cons.mpr ⟨List.mem_of_getElem? (i := 51) (by decide +kernel), fun _ h => absurd h List.not_mem_nil⟩⟩⟩⟩, i_c_X2_moveTo⟩)⟩⟩⟩
set_option maxHeartbeats 4000000 in
set_option maxRecDepth 100000 in
theorem c_X1_propose (l : Launch) (dC : Nat → ClassId) (dI : Nat → Nat → Nat) (e0 : Nat) (h0 : Nat) (p0 p1 p2 p3 : Int32) (hj hpr hqd : Nat) (x0 x1 x2 x3 : Int32) (sz : Nat) : Met l yX1_propose v_c_X1_propose ({ frames := 1, cells := 0, slots := 0, locals := 24 }) (fz_P (dC, dI) e0 [(h0, .inr (6, [.ref hj, .ref hpr, .ref hqd, .int 0, .int 0, .int 1])), (hpr, .inr (7, [.int x0, .int x1, .int x2, .int x3]))] [] sz (va_A [(h0, .inr (6, [.ref hj, .ref hpr, .ref hqd, .int 0, .int 0, .int 1])), (hpr, .inr (7, [.int x0, .int x1, .int x2, .int x3]))] sz) [.ref h0, .int p0, .int p1, .int p2, .int p3]) (va_Qv (fun (u : Unit) => True) (fun (u : Unit) (t : State) => va_P (dC, dI) vwCl [(h0, .inr (6, [.ref hj, .ref hpr, .ref hqd, .int 0, .int 0, .int 1])), (hpr, .inr (7, [.int p0, .int p1, .int p2, .int p3]))] t.heap ∧ va_K (dC, dI) vwCl [] t ∧ va_D (va_A [(h0, .inr (6, [.ref hj, .ref hpr, .ref hqd, .int 0, .int 0, .int 1])), (hpr, .inr (7, [.int x0, .int x1, .int x2, .int x3]))] sz) [(h0, .inr (6, [.ref hj, .ref hpr, .ref hqd, .int 0, .int 0, .int 1])), (hpr, .inr (7, [.int p0, .int p1, .int p2, .int p3]))]) (va_A [(h0, .inr (6, [.ref hj, .ref hpr, .ref hqd, .int 0, .int 0, .int 1])), (hpr, .inr (7, [.int x0, .int x1, .int x2, .int x3]))] sz)) 0 0 (va_A [(h0, .inr (6, [.ref hj, .ref hpr, .ref hqd, .int 0, .int 0, .int 1])), (hpr, .inr (7, [.int x0, .int x1, .int x2, .int x3]))] sz) := by
  refine Met.ofW (cc := cX1_propose) (maxL := 5) (ret := none) (by decide) rfl ?_
  intro p e s m args below meth c s₁ B hml hv
  obtain ⟨rfl, hsz, hP, hK, hD0, hAm⟩ := hv
  have hx := B.exec
  have hb := B.bytes
  have hr := B.returns
  have hts := atoms_spec (ws := v_c_X1_propose) B.pre
  have hown : s.vm.findClass RX1 = some m.cls := findClass_of_methodNamed B.named
  have hlocks := B.notSynchronized
  subst hsz
  have hD := hD0.self (sz := s.heap.size)
  generalize hAe : va_A [(h0, .inr (6, [.ref hj, .ref hpr, .ref hqd, .int 0, .int 0, .int 1])), (hpr, .inr (7, [.int x0, .int x1, .int x2, .int x3]))] s.heap.size = A at hD hAm ⊢
  have hA : ∀ q : Nat, s.heap.size ≤ q → A q := fun q h => by rw [← hAe]; exact Or.inr h
  have hS : va_S A s.heap s.heap [] := va_S.rf
  have hP : va_P (dC, dI) vwCl [(h0, .inr (6, [.ref hj, .ref hpr, .ref hqd, .int 0, .int 0, .int 1])), (hpr, .inr (7, [.int x0, .int x1, .int x2, .int x3]))] s.heap := hP
  have hl := lv_entry ([.ref h0, .int p0, .int p1, .int p2, .int p3]) (n := 5) (Nat.le_of_ble_eq_true rfl)
  rw [lg_entry_eq]
  generalize (lg_sl ([.ref h0, .int p0, .int p1, .int p2, .int p3]) ++ List.replicate (5 - (lg_sl ([.ref h0, .int p0, .int p1, .int p2, .int p3])).length) Slot.unset).toArray = ls at hl ⊢
  have hl : lv_has ls 5 [(0, .ref h0), (1, .int p0), (2, .int p1), (3, .int p2), (4, .int p3)] := hl
  refine lv_aload_n hx hb dX1_propose_0 rfl (lv_at hl 0 rfl) ?_
  refine va_get (D := (dC, dI)) (ci := 6) (v := .ref hpr) (C := RX1) (T := TX1) (N := 6) hx hb hts (fun _ h9 => List.mem_cons_of_mem _ (List.mem_append_right _ (List.mem_append_left _ h9))) hown hK hP 0 rfl rfl 1 (by decide) (hts _ (List.mem_cons_of_mem _ (List.mem_append_left _ (List.mem_of_getElem? (i := 0) rfl)))) (fun _ h9 => h9) rfl dX1_propose_1 ?_
  refine lv_iload_n hx hb dX1_propose_4 rfl (lv_at hl 1 rfl) ?_
  refine lv_iload_n hx hb dX1_propose_5 rfl (lv_at hl 2 rfl) ?_
  refine lv_iload_n hx hb dX1_propose_6 rfl (lv_at hl 3 rfl) ?_
  refine lv_iload hx hb dX1_propose_7 (lv_at hl 4 rfl) ?_
  have hPc := hP.sub (ws' := [(hpr, .inr (7, [.int x0, .int x1, .int x2, .int x3]))]) [1] rfl
  have hDc := hD.sub (ws' := [(hpr, .inr (7, [.int x0, .int x1, .int x2, .int x3]))]) [1] (by decide) rfl
  have hKc := hK.sub (tys' := []) [] rfl
  have hFc := va_free (wc := [(hpr, .inr (7, [.int x0, .int x1, .int x2, .int x3]))]) hD hS hA [1] rfl
  refine va_callv (va_runV (As := [.int p0, .int p1, .int p2, .int p3]) (rest := []) ⟨hx, hb, hml, hown, hts⟩ (c_X2_moveTo l dC dI e0 hpr p0 p1 p2 p3 x0 x1 x2 x3 s.heap.size) (cwV 4 hts (goodIn_sub (fun _ h9 => List.mem_cons_of_mem _ (List.mem_append_right _ (List.mem_append_right _ h9))) (by decide +kernel)) rfl rfl rfl (by decide +kernel) ⟨(Nat.le_of_ble_eq_true rfl), (Nat.le_of_ble_eq_true rfl)⟩) ⟨fz_blind, va_recv hKc hPc (ci := 7) (q0 := 0) rfl rfl, fz_pre hPc hKc hDc hAm hS hFc⟩ rfl rfl hl.1 rfl (lv_room (Nat.le_of_ble_eq_true rfl)) dX1_propose_9 ⟨(Nat.le_of_ble_eq_true rfl), (Nat.le_of_ble_eq_true rfl)⟩) hS (fun q _ h => hFc q h) hFc (fun u t H1 locs ht hvm hw hB hz1 hk1 hS => ?_)
  obtain ⟨hP1, hK1, hD1⟩ := hB
  rw [ht] at hP1
  have hK1 := va_K.moved hvm.symm hK1
  obtain ⟨hP, hD⟩ := va_join (wr := [(h0, .inr (6, [.ref hj, .ref hpr, .ref hqd, .int 0, .int 0, .int 1]))]) (w1 := [(hpr, .inr (7, [.int p0, .int p1, .int p2, .int p3]))]) hP hD [1] [0] rfl rfl (by decide) (by decide) hk1 hFc hP1 hD1
  generalize H1 = H at hP hS ⊢
  have hP : va_P (dC, dI) vwCl [(h0, .inr (6, [.ref hj, .ref hpr, .ref hqd, .int 0, .int 0, .int 1])), (hpr, .inr (7, [.int p0, .int p1, .int p2, .int p3]))] H := hP
  have hD : va_D A [(h0, .inr (6, [.ref hj, .ref hpr, .ref hqd, .int 0, .int 0, .int 1])), (hpr, .inr (7, [.int p0, .int p1, .int p2, .int p3]))] := hD
  have hK : va_K (dC, dI) vwCl [] s := hK
  refine W.widen (k := 0) (n := 0) (Nat.le_of_ble_eq_true rfl) (Nat.le_of_ble_eq_true rfl) ?_
  have hP9 := hP.sub (ws' := [(h0, .inr (6, [.ref hj, .ref hpr, .ref hqd, .int 0, .int 0, .int 1])), (hpr, .inr (7, [.int p0, .int p1, .int p2, .int p3]))]) [0, 1] rfl
  have hD9 := hD.sub (ws' := [(h0, .inr (6, [.ref hj, .ref hpr, .ref hqd, .int 0, .int 0, .int 1])), (hpr, .inr (7, [.int p0, .int p1, .int p2, .int p3]))]) [0, 1] (by decide) rfl
  have hK9 := hK.sub (tys' := []) [] rfl
  refine W.widen (k := 0) (n := 0) (Nat.le_of_ble_eq_true rfl) (Nat.le_of_ble_eq_true rfl) ?_
  exact W.vret hx hb hr (fun t ht hW => ⟨⟨(), rfl, trivial, ⟨by rw [ht]; exact hP9, va_K.moved hW.alike hK9, hD9⟩⟩, hS.F ht⟩) hS.2.2 dX1_propose_12
def v_c_X1_wouldTurnLeftA : List Cond := .code yX1_wouldTurnLeft cX1_wouldTurnLeft 3 (some .boolean) :: ([] ++ (([] : List Cond)))
set_option maxRecDepth 20000 in
theorem i_c_X1_wouldTurnLeftA : ∀ w ∈ v_c_X1_wouldTurnLeftA, w ∈ lw_tbl := List.forall_mem_cons.mpr ⟨List.mem_of_getElem? (i := 528) (by decide +kernel), List.forall_mem_append.mpr ⟨fun _ h => absurd h List.not_mem_nil, fun _ h => absurd h List.not_mem_nil⟩⟩
set_option maxHeartbeats 4000000 in
set_option maxRecDepth 100000 in
theorem c_X1_wouldTurnLeftA (l : Launch) (dC : Nat → ClassId) (dI : Nat → Nat → Nat) (e0 : Nat) (h0 h1 hj hpr hqd : Nat) (sz : Nat) : Met l yX1_wouldTurnLeft v_c_X1_wouldTurnLeftA ({ frames := 0, cells := 0, slots := 0, locals := 0 }) (fz_P (dC, dI) e0 [(h0, .inr (6, [.ref hj, .ref hpr, .ref hqd, .int 0, .int 0, .int 1]))] [] sz (fun q : Nat => sz ≤ q) [.ref h0, .null, .ref h1]) (va_Qi (fun (r : Int32) (u : Unit) => r = 1) (fun (u : Unit) (t : State) => True) (fun q : Nat => sz ≤ q)) 0 0 (fun q : Nat => sz ≤ q) := by
  refine Met.ofW (cc := cX1_wouldTurnLeft) (maxL := 3) (ret := (some .boolean)) (by decide) rfl ?_
  intro p e s m args below meth c s₁ B hml hv
  obtain ⟨rfl, hsz, hP, hK, hD0, hAm⟩ := hv
  have hx := B.exec
  have hb := B.bytes
  have hr := B.returns
  have hts := atoms_spec (ws := v_c_X1_wouldTurnLeftA) B.pre
  have hown : s.vm.findClass RX1 = some m.cls := findClass_of_methodNamed B.named
  have hlocks := B.notSynchronized
  subst hsz
  have hD := hD0
  generalize hAe : (fun q : Nat => s.heap.size ≤ q) = A at hAm ⊢
  have hA : ∀ q : Nat, s.heap.size ≤ q → A q := fun q h => by rw [← hAe]; exact h
  have hS : va_S A s.heap s.heap [] := va_S.rf
  have hP : va_P (dC, dI) vwCl [(h0, .inr (6, [.ref hj, .ref hpr, .ref hqd, .int 0, .int 0, .int 1]))] s.heap := hP
  have hl := lv_entry ([.ref h0, .null, .ref h1]) (n := 3) (Nat.le_of_ble_eq_true rfl)
  rw [lg_entry_eq]
  generalize (lg_sl ([.ref h0, .null, .ref h1]) ++ List.replicate (3 - (lg_sl ([.ref h0, .null, .ref h1])).length) Slot.unset).toArray = ls at hl ⊢
  have hl : lv_has ls 3 [(0, .ref h0), (1, .null), (2, .ref h1)] := hl
  refine lv_aload_nN hx hb dX1_wouldTurnLeft_0 rfl (lv_at hl 1 rfl) ?_
  refine lv_ifnullN (tgt := 8) hx hb dX1_wouldTurnLeft_1 (by decide) ?_
  refine lv_iconst (v := 1) hx hb dX1_wouldTurnLeft_8 (by decide) ?_
  refine W.widen (k := 0) (n := 0) (Nat.le_of_ble_eq_true rfl) (Nat.le_of_ble_eq_true rfl) ?_
  exact W.zret (v := 1) hx hb hr rfl (fun t ht hW => ⟨⟨1, (), rfl, rfl, trivial⟩, hS.F ht⟩) hS.2.2 dX1_wouldTurnLeft_9
def v_c_X1_wouldTurnLeftB : List Cond := .code yX1_wouldTurnLeft cX1_wouldTurnLeft 3 (some .boolean) :: ([] ++ (([] : List Cond)))
set_option maxRecDepth 20000 in
theorem i_c_X1_wouldTurnLeftB : ∀ w ∈ v_c_X1_wouldTurnLeftB, w ∈ lw_tbl := List.forall_mem_cons.mpr ⟨List.mem_of_getElem? (i := 528) (by decide +kernel), List.forall_mem_append.mpr ⟨fun _ h => absurd h List.not_mem_nil, fun _ h => absurd h List.not_mem_nil⟩⟩
set_option maxHeartbeats 4000000 in
set_option maxRecDepth 100000 in
theorem c_X1_wouldTurnLeftB (l : Launch) (dC : Nat → ClassId) (dI : Nat → Nat → Nat) (e0 : Nat) (h0 h1 hj hpr hqd : Nat) (sz : Nat) : Met l yX1_wouldTurnLeft v_c_X1_wouldTurnLeftB ({ frames := 0, cells := 0, slots := 0, locals := 0 }) (fz_P (dC, dI) e0 [(h0, .inr (6, [.ref hj, .ref hpr, .ref hqd, .int 0, .int 0, .int 1]))] [] sz (fun q : Nat => sz ≤ q) [.ref h0, .ref h1, .null]) (va_Qi (fun (r : Int32) (u : Unit) => r = 1) (fun (u : Unit) (t : State) => True) (fun q : Nat => sz ≤ q)) 0 0 (fun q : Nat => sz ≤ q) := by
  refine Met.ofW (cc := cX1_wouldTurnLeft) (maxL := 3) (ret := (some .boolean)) (by decide) rfl ?_
  intro p e s m args below meth c s₁ B hml hv
  obtain ⟨rfl, hsz, hP, hK, hD0, hAm⟩ := hv
  have hx := B.exec
  have hb := B.bytes
  have hr := B.returns
  have hts := atoms_spec (ws := v_c_X1_wouldTurnLeftB) B.pre
  have hown : s.vm.findClass RX1 = some m.cls := findClass_of_methodNamed B.named
  have hlocks := B.notSynchronized
  subst hsz
  have hD := hD0
  generalize hAe : (fun q : Nat => s.heap.size ≤ q) = A at hAm ⊢
  have hA : ∀ q : Nat, s.heap.size ≤ q → A q := fun q h => by rw [← hAe]; exact h
  have hS : va_S A s.heap s.heap [] := va_S.rf
  have hP : va_P (dC, dI) vwCl [(h0, .inr (6, [.ref hj, .ref hpr, .ref hqd, .int 0, .int 0, .int 1]))] s.heap := hP
  have hl := lv_entry ([.ref h0, .ref h1, .null]) (n := 3) (Nat.le_of_ble_eq_true rfl)
  rw [lg_entry_eq]
  generalize (lg_sl ([.ref h0, .ref h1, .null]) ++ List.replicate (3 - (lg_sl ([.ref h0, .ref h1, .null])).length) Slot.unset).toArray = ls at hl ⊢
  have hl : lv_has ls 3 [(0, .ref h0), (1, .ref h1), (2, .null)] := hl
  refine lv_aload_n hx hb dX1_wouldTurnLeft_0 rfl (lv_at hl 1 rfl) ?_
  refine lv_ifnull hx hb dX1_wouldTurnLeft_1 ?_
  refine lv_aload_nN hx hb dX1_wouldTurnLeft_4 rfl (lv_at hl 2 rfl) ?_
  refine lv_ifnonnullN hx hb dX1_wouldTurnLeft_5 ?_
  refine lv_iconst (v := 1) hx hb dX1_wouldTurnLeft_8 (by decide) ?_
  refine W.widen (k := 0) (n := 0) (Nat.le_of_ble_eq_true rfl) (Nat.le_of_ble_eq_true rfl) ?_
  exact W.zret (v := 1) hx hb hr rfl (fun t ht hW => ⟨⟨1, (), rfl, rfl, trivial⟩, hS.F ht⟩) hS.2.2 dX1_wouldTurnLeft_9
def v_c_X1_allowsProposal : List Cond := .code yX1_allowsProposal cX1_allowsProposal 2 (some .boolean) :: ([.fieldLink RX1 18 "VoussoirYard$Drawing" "proposed" "LVoussoirYard$Joint;"] ++ (wsX10 ++ (wsV RX1 53 RX2 yX2_hasLength v_c_X2_hasLength ++ (wsV RX1 57 RX1 yX1_jointAt v_c_X1_jointAt ++ (wsV RX1 61 RX1 yX1_wouldTurnLeft v_c_X1_wouldTurnLeftA ++ (wsV RX1 61 RX1 yX1_wouldTurnLeft v_c_X1_wouldTurnLeftB))))))
set_option maxRecDepth 20000 in
theorem i_c_X1_allowsProposal : ∀ w ∈ v_c_X1_allowsProposal, w ∈ lw_tbl := List.forall_mem_cons.mpr ⟨List.mem_of_getElem? (i := 520) (by decide +kernel), List.forall_mem_append.mpr ⟨List.forall_mem_cons.mpr ⟨List.mem_of_getElem? (i := 149) (by decide +kernel), fun _ h => absurd h List.not_mem_nil⟩, List.forall_mem_append.mpr ⟨inX1, List.forall_mem_append.mpr ⟨(by unfold wsV; exact List.forall_mem_append.mpr ⟨List.forall_mem_cons.mpr ⟨List.mem_of_getElem? (i := 521) (by decide +kernel), List.forall_mem_cons.mpr ⟨List.mem_of_getElem? (i := 522) (by decide +kernel), List.forall_mem_cons.mpr ⟨List.mem_of_getElem? (i := 523) (by decide +kernel), List.forall_mem_cons.mpr ⟨List.mem_of_getElem? (i := 51) (by decide +kernel), fun _ h => absurd h List.not_mem_nil⟩⟩⟩⟩, i_c_X2_hasLength⟩), List.forall_mem_append.mpr ⟨(by unfold wsV; exact List.forall_mem_append.mpr ⟨List.forall_mem_cons.mpr ⟨List.mem_of_getElem? (i := 345) (by decide +kernel), List.forall_mem_cons.mpr ⟨List.mem_of_getElem? (i := 346) (by decide +kernel), List.forall_mem_cons.mpr ⟨List.mem_of_getElem? (i := 347) (by decide +kernel), List.forall_mem_cons.mpr ⟨List.mem_of_getElem? (i := 50) (by decide +kernel), fun _ h => absurd h List.not_mem_nil⟩⟩⟩⟩, i_c_X1_jointAt⟩), List.forall_mem_append.mpr ⟨(by unfold wsV; exact List.forall_mem_append.mpr ⟨List.forall_mem_cons.mpr ⟨List.mem_of_getElem? (i := 525) (by decide +kernel), List.forall_mem_cons.mpr ⟨List.mem_of_getElem? (i := 527) (by decide +kernel), List.forall_mem_cons.mpr ⟨List.mem_of_getElem? (i := 17) (by decide +kernel), List.forall_mem_cons.mpr ⟨List.mem_of_getElem? (i := 50) (by decide +kernel), fun _ h => absurd h List.not_mem_nil⟩⟩⟩⟩, i_c_X1_wouldTurnLeftA⟩), (by unfold wsV; exact List.forall_mem_append.mpr ⟨List.forall_mem_cons.mpr ⟨List.mem_of_getElem? (i := 525) (by decide +kernel), List.forall_mem_cons.mpr ⟨List.mem_of_getElem? (i := 527) (by decide +kernel), List.forall_mem_cons.mpr ⟨List.mem_of_getElem? (i := 17) (by decide +kernel), List.forall_mem_cons.mpr ⟨List.mem_of_getElem? (i := 50) (by decide +kernel), fun _ h => absurd h List.not_mem_nil⟩⟩⟩⟩, i_c_X1_wouldTurnLeftB⟩)⟩⟩⟩⟩⟩⟩
set_option maxHeartbeats 4000000 in
set_option maxRecDepth 100000 in
theorem c_X1_allowsProposal (l : Launch) (dC : Nat → ClassId) (dI : Nat → Nat → Nat) (e0 : Nat) (h0 hj hpr hqd : Nat) (p0 p1 p2 p3 : Int32) (sz : Nat) : Met l yX1_allowsProposal v_c_X1_allowsProposal ({ frames := 1, cells := 0, slots := 0, locals := 22 }) (fz_P (dC, dI) e0 [(h0, .inr (6, [.ref hj, .ref hpr, .ref hqd, .int 0, .int 0, .int 1])), (hpr, .inr (7, [.int p0, .int p1, .int p2, .int p3]))] [] sz (fun q : Nat => sz ≤ q) [.ref h0, .int 0]) (va_Qi (fun (r : Int32) (u : Unit) => (r = 1 ∧ (¬ (p0 = p2 ∧ p1 = p3))) ∨ (r = 0 ∧ (p0 = p2 ∧ p1 = p3))) (fun (u : Unit) (t : State) => True) (fun q : Nat => sz ≤ q)) 0 0 (fun q : Nat => sz ≤ q) := by
  refine Met.ofW (cc := cX1_allowsProposal) (maxL := 2) (ret := (some .boolean)) (by decide) rfl ?_
  intro p e s m args below meth c s₁ B hml hv
  obtain ⟨rfl, hsz, hP, hK, hD0, hAm⟩ := hv
  have hx := B.exec
  have hb := B.bytes
  have hr := B.returns
  have hts := atoms_spec (ws := v_c_X1_allowsProposal) B.pre
  have hown : s.vm.findClass RX1 = some m.cls := findClass_of_methodNamed B.named
  have hlocks := B.notSynchronized
  subst hsz
  have hD := hD0
  generalize hAe : (fun q : Nat => s.heap.size ≤ q) = A at hAm ⊢
  have hA : ∀ q : Nat, s.heap.size ≤ q → A q := fun q h => by rw [← hAe]; exact h
  have hS : va_S A s.heap s.heap [] := va_S.rf
  have hP : va_P (dC, dI) vwCl [(h0, .inr (6, [.ref hj, .ref hpr, .ref hqd, .int 0, .int 0, .int 1])), (hpr, .inr (7, [.int p0, .int p1, .int p2, .int p3]))] s.heap := hP
  have hl := lv_entry ([.ref h0, .int 0]) (n := 2) (Nat.le_of_ble_eq_true rfl)
  rw [lg_entry_eq]
  generalize (lg_sl ([.ref h0, .int 0]) ++ List.replicate (2 - (lg_sl ([.ref h0, .int 0])).length) Slot.unset).toArray = ls at hl ⊢
  have hl : lv_has ls 2 [(0, .ref h0), (1, .int 0)] := hl
  refine lv_aload_n hx hb dX1_allowsProposal_0 rfl (lv_at hl 0 rfl) ?_
  refine va_get (D := (dC, dI)) (ci := 6) (v := .ref hpr) (C := RX1) (T := TX1) (N := 6) hx hb hts (fun _ h9 => List.mem_cons_of_mem _ (List.mem_append_right _ (List.mem_append_left _ h9))) hown hK hP 0 rfl rfl 1 (by decide) (hts _ (List.mem_cons_of_mem _ (List.mem_append_left _ (List.mem_of_getElem? (i := 0) rfl)))) (fun _ h9 => h9) rfl dX1_allowsProposal_1 ?_
  have hPc := hP.sub (ws' := [(hpr, .inr (7, [.int p0, .int p1, .int p2, .int p3]))]) [1] rfl
  have hDc := hD.sub (ws' := [(hpr, .inr (7, [.int p0, .int p1, .int p2, .int p3]))]) [1] (by decide) rfl
  have hKc := hK.sub (tys' := []) [] rfl
  have hFc : ∀ q : Nat, s.heap.size ≤ q → A q := fun q h => hA q (Nat.le_trans hS.1 h)
  refine va_calli (va_runV (As := []) (rest := []) ⟨hx, hb, hml, hown, hts⟩ (c_X2_hasLength l dC dI e0 hpr p0 p1 p2 p3 s.heap.size) (cwV 0 hts (goodIn_sub (fun _ h9 => List.mem_cons_of_mem _ (List.mem_append_right _ (List.mem_append_right _ (List.mem_append_left _ h9)))) (by decide +kernel)) rfl rfl rfl (by decide +kernel) ⟨(Nat.le_of_ble_eq_true rfl), (Nat.le_of_ble_eq_true rfl)⟩) ⟨fz_blind, va_recv hKc hPc (ci := 7) (q0 := 0) rfl rfl, fz_pre hPc hKc hDc hAm hS hFc⟩ rfl rfl hl.1 rfl (lv_room (Nat.le_of_ble_eq_true rfl)) dX1_allowsProposal_4 ⟨(Nat.le_of_ble_eq_true rfl), (Nat.le_of_ble_eq_true rfl)⟩) hS (fun q _ h => hFc q h) hFc (fun r u t H1 locs ht hvm hw hB hz1 hk1 hS => ?_)
  rcases hw with ⟨rfl, hp_1⟩ | ⟨rfl, hp_2⟩
  · have hP := fz_keep hP hk1
    generalize H1 = H at hP hS ⊢
    have hP : va_P (dC, dI) vwCl [(h0, .inr (6, [.ref hj, .ref hpr, .ref hqd, .int 0, .int 0, .int 1])), (hpr, .inr (7, [.int p0, .int p1, .int p2, .int p3]))] H := hP
    refine W.widen (k := 0) (n := 0) (Nat.le_of_ble_eq_true rfl) (Nat.le_of_ble_eq_true rfl) ?_
    refine lv_if_eq (tgt := 50) hx hb dX1_allowsProposal_7 (by decide) (fun c_9 => absurd c_9 (by decide)) (fun _ => ?_)
    refine lv_aload_n hx hb dX1_allowsProposal_10 rfl (lv_at hl 0 rfl) ?_
    refine lv_aload_n hx hb dX1_allowsProposal_11 rfl (lv_at hl 0 rfl) ?_
    refine lv_iload_n hx hb dX1_allowsProposal_12 rfl (lv_at hl 1 rfl) ?_
    refine lv_iconst (v := 1) hx hb dX1_allowsProposal_13 (by decide) ?_
    refine lv_isub hx hb dX1_allowsProposal_14 ?_
    refine lv_topi (fun z_9 e_9 => ?_)
    obtain rfl : (-1) = z_9 := (e_9.trans (by decide)).symm
    have hPc := hP.sub (ws' := [(h0, .inr (6, [.ref hj, .ref hpr, .ref hqd, .int 0, .int 0, .int 1]))]) [0] rfl
    have hDc := hD.sub (ws' := [(h0, .inr (6, [.ref hj, .ref hpr, .ref hqd, .int 0, .int 0, .int 1]))]) [0] (by decide) rfl
    have hKc := hK.sub (tys' := []) [] rfl
    have hFc : ∀ q : Nat, H.size ≤ q → A q := fun q h => hA q (Nat.le_trans hS.1 h)
    refine va_callq (va_runV (As := [.int (-1)]) (rest := [.ref h0]) ⟨hx, hb, hml, hown, hts⟩ (c_X1_jointAt l dC dI e0 h0 (-1) hj hpr hqd H.size) (cwV 1 hts (goodIn_sub (fun _ h9 => List.mem_cons_of_mem _ (List.mem_append_right _ (List.mem_append_right _ (List.mem_append_right _ (List.mem_append_left _ h9))))) (by decide +kernel)) rfl rfl rfl (by decide +kernel) ⟨(Nat.le_of_ble_eq_true rfl), (Nat.le_of_ble_eq_true rfl)⟩) ⟨fz_blind, va_recv hKc hPc (ci := 6) (q0 := 0) rfl rfl, fz_pre hPc hKc hDc hAm hS hFc⟩ rfl rfl hl.1 rfl (lv_room (Nat.le_of_ble_eq_true rfl)) dX1_allowsProposal_15 ⟨(Nat.le_of_ble_eq_true rfl), (Nat.le_of_ble_eq_true rfl)⟩) hS (fun q _ h => hFc q h) hFc (fun r u t H1 locs ht hvm hw hB hz1 hk1 hS => ?_)
    obtain rfl := hw
    have hP := fz_keep hP hk1
    generalize H1 = H at hP hS ⊢
    have hP : va_P (dC, dI) vwCl [(h0, .inr (6, [.ref hj, .ref hpr, .ref hqd, .int 0, .int 0, .int 1])), (hpr, .inr (7, [.int p0, .int p1, .int p2, .int p3]))] H := hP
    refine W.widen (k := 0) (n := 0) (Nat.le_of_ble_eq_true rfl) (Nat.le_of_ble_eq_true rfl) ?_
    refine lv_aload_n hx hb dX1_allowsProposal_18 rfl (lv_at hl 0 rfl) ?_
    refine va_get (D := (dC, dI)) (ci := 6) (v := .ref hpr) (C := RX1) (T := TX1) (N := 6) hx hb hts (fun _ h9 => List.mem_cons_of_mem _ (List.mem_append_right _ (List.mem_append_left _ h9))) hown hK hP 0 rfl rfl 1 (by decide) (hts _ (List.mem_cons_of_mem _ (List.mem_append_left _ (List.mem_of_getElem? (i := 0) rfl)))) (fun _ h9 => h9) rfl dX1_allowsProposal_19 ?_
    have hPc := hP.sub (ws' := [(h0, .inr (6, [.ref hj, .ref hpr, .ref hqd, .int 0, .int 0, .int 1]))]) [0] rfl
    have hDc := hD.sub (ws' := [(h0, .inr (6, [.ref hj, .ref hpr, .ref hqd, .int 0, .int 0, .int 1]))]) [0] (by decide) rfl
    have hKc := hK.sub (tys' := []) [] rfl
    have hFc : ∀ q : Nat, H.size ≤ q → A q := fun q h => hA q (Nat.le_trans hS.1 h)
    refine va_calli (va_runV (As := [.null, .ref hpr]) (rest := []) ⟨hx, hb, hml, hown, hts⟩ (c_X1_wouldTurnLeftA l dC dI e0 h0 hpr hj hpr hqd H.size) (cwV 2 hts (goodIn_sub (fun _ h9 => List.mem_cons_of_mem _ (List.mem_append_right _ (List.mem_append_right _ (List.mem_append_right _ (List.mem_append_right _ (List.mem_append_left _ h9)))))) (by decide +kernel)) rfl rfl rfl (by decide +kernel) ⟨(Nat.le_of_ble_eq_true rfl), (Nat.le_of_ble_eq_true rfl)⟩) ⟨fz_blind, va_recv hKc hPc (ci := 6) (q0 := 0) rfl rfl, fz_pre hPc hKc hDc hAm hS hFc⟩ rfl rfl hl.1 rfl (lv_room (Nat.le_of_ble_eq_true rfl)) dX1_allowsProposal_22 ⟨(Nat.le_of_ble_eq_true rfl), (Nat.le_of_ble_eq_true rfl)⟩) hS (fun q _ h => hFc q h) hFc (fun r u t H1 locs ht hvm hw hB hz1 hk1 hS => ?_)
    obtain rfl := hw
    have hP := fz_keep hP hk1
    generalize H1 = H at hP hS ⊢
    have hP : va_P (dC, dI) vwCl [(h0, .inr (6, [.ref hj, .ref hpr, .ref hqd, .int 0, .int 0, .int 1])), (hpr, .inr (7, [.int p0, .int p1, .int p2, .int p3]))] H := hP
    refine W.widen (k := 0) (n := 0) (Nat.le_of_ble_eq_true rfl) (Nat.le_of_ble_eq_true rfl) ?_
    refine lv_if_eq (tgt := 50) hx hb dX1_allowsProposal_25 (by decide) (fun c_9 => absurd c_9 (by decide)) (fun _ => ?_)
    refine lv_aload_n hx hb dX1_allowsProposal_28 rfl (lv_at hl 0 rfl) ?_
    refine lv_aload_n hx hb dX1_allowsProposal_29 rfl (lv_at hl 0 rfl) ?_
    refine va_get (D := (dC, dI)) (ci := 6) (v := .ref hpr) (C := RX1) (T := TX1) (N := 6) hx hb hts (fun _ h9 => List.mem_cons_of_mem _ (List.mem_append_right _ (List.mem_append_left _ h9))) hown hK hP 0 rfl rfl 1 (by decide) (hts _ (List.mem_cons_of_mem _ (List.mem_append_left _ (List.mem_of_getElem? (i := 0) rfl)))) (fun _ h9 => h9) rfl dX1_allowsProposal_30 ?_
    refine lv_aload_n hx hb dX1_allowsProposal_33 rfl (lv_at hl 0 rfl) ?_
    refine lv_iload_n hx hb dX1_allowsProposal_34 rfl (lv_at hl 1 rfl) ?_
    refine lv_iconst (v := 1) hx hb dX1_allowsProposal_35 (by decide) ?_
    refine lv_iadd hx hb dX1_allowsProposal_36 ?_
    refine lv_topi (fun z_9 e_9 => ?_)
    obtain rfl : 1 = z_9 := (e_9.trans (by decide)).symm
    have hPc := hP.sub (ws' := [(h0, .inr (6, [.ref hj, .ref hpr, .ref hqd, .int 0, .int 0, .int 1]))]) [0] rfl
    have hDc := hD.sub (ws' := [(h0, .inr (6, [.ref hj, .ref hpr, .ref hqd, .int 0, .int 0, .int 1]))]) [0] (by decide) rfl
    have hKc := hK.sub (tys' := []) [] rfl
    have hFc : ∀ q : Nat, H.size ≤ q → A q := fun q h => hA q (Nat.le_trans hS.1 h)
    refine va_callq (va_runV (As := [.int 1]) (rest := [.ref hpr, .ref h0]) ⟨hx, hb, hml, hown, hts⟩ (c_X1_jointAt l dC dI e0 h0 1 hj hpr hqd H.size) (cwV 1 hts (goodIn_sub (fun _ h9 => List.mem_cons_of_mem _ (List.mem_append_right _ (List.mem_append_right _ (List.mem_append_right _ (List.mem_append_left _ h9))))) (by decide +kernel)) rfl rfl rfl (by decide +kernel) ⟨(Nat.le_of_ble_eq_true rfl), (Nat.le_of_ble_eq_true rfl)⟩) ⟨fz_blind, va_recv hKc hPc (ci := 6) (q0 := 0) rfl rfl, fz_pre hPc hKc hDc hAm hS hFc⟩ rfl rfl hl.1 rfl (lv_room (Nat.le_of_ble_eq_true rfl)) dX1_allowsProposal_37 ⟨(Nat.le_of_ble_eq_true rfl), (Nat.le_of_ble_eq_true rfl)⟩) hS (fun q _ h => hFc q h) hFc (fun r u t H1 locs ht hvm hw hB hz1 hk1 hS => ?_)
    obtain rfl := hw
    have hP := fz_keep hP hk1
    generalize H1 = H at hP hS ⊢
    have hP : va_P (dC, dI) vwCl [(h0, .inr (6, [.ref hj, .ref hpr, .ref hqd, .int 0, .int 0, .int 1])), (hpr, .inr (7, [.int p0, .int p1, .int p2, .int p3]))] H := hP
    refine W.widen (k := 0) (n := 0) (Nat.le_of_ble_eq_true rfl) (Nat.le_of_ble_eq_true rfl) ?_
    have hPc := hP.sub (ws' := [(h0, .inr (6, [.ref hj, .ref hpr, .ref hqd, .int 0, .int 0, .int 1]))]) [0] rfl
    have hDc := hD.sub (ws' := [(h0, .inr (6, [.ref hj, .ref hpr, .ref hqd, .int 0, .int 0, .int 1]))]) [0] (by decide) rfl
    have hKc := hK.sub (tys' := []) [] rfl
    have hFc : ∀ q : Nat, H.size ≤ q → A q := fun q h => hA q (Nat.le_trans hS.1 h)
    refine va_calli (va_runV (As := [.ref hpr, .null]) (rest := []) ⟨hx, hb, hml, hown, hts⟩ (c_X1_wouldTurnLeftB l dC dI e0 h0 hpr hj hpr hqd H.size) (cwV 2 hts (goodIn_sub (fun _ h9 => List.mem_cons_of_mem _ (List.mem_append_right _ (List.mem_append_right _ (List.mem_append_right _ (List.mem_append_right _ (List.mem_append_right _ h9)))))) (by decide +kernel)) rfl rfl rfl (by decide +kernel) ⟨(Nat.le_of_ble_eq_true rfl), (Nat.le_of_ble_eq_true rfl)⟩) ⟨fz_blind, va_recv hKc hPc (ci := 6) (q0 := 0) rfl rfl, fz_pre hPc hKc hDc hAm hS hFc⟩ rfl rfl hl.1 rfl (lv_room (Nat.le_of_ble_eq_true rfl)) dX1_allowsProposal_40 ⟨(Nat.le_of_ble_eq_true rfl), (Nat.le_of_ble_eq_true rfl)⟩) hS (fun q _ h => hFc q h) hFc (fun r u t H1 locs ht hvm hw hB hz1 hk1 hS => ?_)
    obtain rfl := hw
    have hP := fz_keep hP hk1
    generalize H1 = H at hP hS ⊢
    have hP : va_P (dC, dI) vwCl [(h0, .inr (6, [.ref hj, .ref hpr, .ref hqd, .int 0, .int 0, .int 1])), (hpr, .inr (7, [.int p0, .int p1, .int p2, .int p3]))] H := hP
    refine W.widen (k := 0) (n := 0) (Nat.le_of_ble_eq_true rfl) (Nat.le_of_ble_eq_true rfl) ?_
    refine lv_if_eq (tgt := 50) hx hb dX1_allowsProposal_43 (by decide) (fun c_9 => absurd c_9 (by decide)) (fun _ => ?_)
    refine lv_iconst (v := 1) hx hb dX1_allowsProposal_46 (by decide) ?_
    refine lv_goto (tgt := 51) hx hb dX1_allowsProposal_47 (by decide) ?_
    refine W.widen (k := 0) (n := 0) (Nat.le_of_ble_eq_true rfl) (Nat.le_of_ble_eq_true rfl) ?_
    exact W.zret (v := 1) hx hb hr rfl (fun t ht hW => ⟨⟨1, (), rfl, Or.inl (⟨rfl, (by first | trivial | assumption | (simp_all [fz_in, fz_v]; done) | (simp [fz_in, fz_v] at *; done) | omega)⟩), trivial⟩, hS.F ht⟩) hS.2.2 dX1_allowsProposal_51
  · have hP := fz_keep hP hk1
    generalize H1 = H at hP hS ⊢
    have hP : va_P (dC, dI) vwCl [(h0, .inr (6, [.ref hj, .ref hpr, .ref hqd, .int 0, .int 0, .int 1])), (hpr, .inr (7, [.int p0, .int p1, .int p2, .int p3]))] H := hP
    refine W.widen (k := 0) (n := 0) (Nat.le_of_ble_eq_true rfl) (Nat.le_of_ble_eq_true rfl) ?_
    refine lv_if_eq (tgt := 50) hx hb dX1_allowsProposal_7 (by decide) (fun _ => ?_) (fun c_9 => absurd (by decide) c_9)
    refine lv_iconst (v := 0) hx hb dX1_allowsProposal_50 (by decide) ?_
    refine W.widen (k := 0) (n := 0) (Nat.le_of_ble_eq_true rfl) (Nat.le_of_ble_eq_true rfl) ?_
    exact W.zret (v := 0) hx hb hr rfl (fun t ht hW => ⟨⟨0, (), rfl, Or.inr (⟨rfl, (by first | trivial | assumption | (simp_all [fz_in, fz_v]; done) | (simp [fz_in, fz_v] at *; done) | omega)⟩), trivial⟩, hS.F ht⟩) hS.2.2 dX1_allowsProposal_51
def v_c_X1_acceptMovedJoint : List Cond := .code yX1_acceptMovedJoint cX1_acceptMovedJoint 3 none :: ([.fieldLink RX1 18 "VoussoirYard$Drawing" "proposed" "LVoussoirYard$Joint;", .fieldLink RX1 76 "VoussoirYard$Joint" "innerX" "I", .fieldLink RX1 79 "VoussoirYard$Joint" "innerY" "I", .fieldLink RX1 82 "VoussoirYard$Joint" "outerX" "I", .fieldLink RX1 85 "VoussoirYard$Joint" "outerY" "I", .fieldLink RX1 33 "VoussoirYard$Drawing" "version" "I"] ++ (wsV RX1 57 RX1 yX1_jointAt v_c_X1_jointAt0 ++ (wsX10 ++ (wsX20 ++ (wsV RX1 49 RX2 yX2_moveTo v_c_X2_moveTo)))))
set_option maxRecDepth 20000 in
theorem i_c_X1_acceptMovedJoint : ∀ w ∈ v_c_X1_acceptMovedJoint, w ∈ lw_tbl := List.forall_mem_cons.mpr ⟨List.mem_of_getElem? (i := 573) (by decide +kernel), List.forall_mem_append.mpr ⟨List.forall_mem_cons.mpr ⟨List.mem_of_getElem? (i := 149) (by decide +kernel), List.forall_mem_cons.mpr ⟨List.mem_of_getElem? (i := 112) (by decide +kernel), List.forall_mem_cons.mpr ⟨List.mem_of_getElem? (i := 116) (by decide +kernel), List.forall_mem_cons.mpr ⟨List.mem_of_getElem? (i := 120) (by decide +kernel), List.forall_mem_cons.mpr ⟨List.mem_of_getElem? (i := 124) (by decide +kernel), List.forall_mem_cons.mpr ⟨List.mem_of_getElem? (i := 154) (by decide +kernel), fun _ h => absurd h List.not_mem_nil⟩⟩⟩⟩⟩⟩, List.forall_mem_append.mpr ⟨(by unfold wsV; exact List.forall_mem_append.mpr ⟨List.forall_mem_cons.mpr ⟨List.mem_of_getElem? (i := 345) (by decide +kernel), List.forall_mem_cons.mpr ⟨List.mem_of_getElem? (i := 346) (by decide +kernel), List.forall_mem_cons.mpr ⟨List.mem_of_getElem? (i := 347) (by decide +kernel), List.forall_mem_cons.mpr ⟨List.mem_of_getElem? (i := 50) (by decide +kernel), fun _ h => absurd h List.not_mem_nil⟩⟩⟩⟩, i_c_X1_jointAt0⟩), List.forall_mem_append.mpr ⟨inX1, List.forall_mem_append.mpr ⟨inX2, (by unfold wsV; exact List.forall_mem_append.mpr ⟨List.forall_mem_cons.mpr ⟨List.mem_of_getElem? (i := 513) (by decide +kernel), List.forall_mem_cons.mpr ⟨List.mem_of_getElem? (i := 514) (by decide +kernel), List.forall_mem_cons.mpr ⟨List.mem_of_getElem? (i := 515) (by decide +kernel), List.forall_mem_cons.mpr ⟨List.mem_of_getElem? (i := 51) (by decide +kernel), fun _ h => absurd h List.not_mem_nil⟩⟩⟩⟩, i_c_X2_moveTo⟩)⟩⟩⟩⟩⟩
set_option maxHeartbeats 4000000 in
set_option maxRecDepth 100000 in
theorem c_X1_acceptMovedJoint (l : Launch) (dC : Nat → ClassId) (dI : Nat → Nat → Nat) (e0 : Nat) (h0 hj hpr hqd : Nat) (cR : ClassId) (hj0 : Nat) (fj : Nat → Option Nat) (p0 p1 p2 p3 : Int32) (sz : Nat) (hj0f : fj 0 = some hj0) : Met l yX1_acceptMovedJoint v_c_X1_acceptMovedJoint ({ frames := 1, cells := 0, slots := 0, locals := 24 }) (fz_P (dC, dI) e0 [(h0, .inr (6, [.ref hj, .ref hpr, .ref hqd, .int 1, .int 0, .int 1])), (hj, .inl (cR, 8, .inr (.inr (.inr (.inr fj))))), (hj0, .inr (7, [.int 0, .int 0, .int 0, .int 0])), (hpr, .inr (7, [.int p0, .int p1, .int p2, .int p3]))] [(cR, .object RX2)] sz (va_A [(h0, .inr (6, [.ref hj, .ref hpr, .ref hqd, .int 1, .int 0, .int 1])), (hj, .inl (cR, 8, .inr (.inr (.inr (.inr fj))))), (hj0, .inr (7, [.int 0, .int 0, .int 0, .int 0])), (hpr, .inr (7, [.int p0, .int p1, .int p2, .int p3]))] sz) [.ref h0, .int 0]) (va_Qv (fun (u : Unit) => True) (fun (u : Unit) (t : State) => True) (va_A [(h0, .inr (6, [.ref hj, .ref hpr, .ref hqd, .int 1, .int 0, .int 1])), (hj, .inl (cR, 8, .inr (.inr (.inr (.inr fj))))), (hj0, .inr (7, [.int 0, .int 0, .int 0, .int 0])), (hpr, .inr (7, [.int p0, .int p1, .int p2, .int p3]))] sz)) 0 0 (va_A [(h0, .inr (6, [.ref hj, .ref hpr, .ref hqd, .int 1, .int 0, .int 1])), (hj, .inl (cR, 8, .inr (.inr (.inr (.inr fj))))), (hj0, .inr (7, [.int 0, .int 0, .int 0, .int 0])), (hpr, .inr (7, [.int p0, .int p1, .int p2, .int p3]))] sz) := by
  refine Met.ofW (cc := cX1_acceptMovedJoint) (maxL := 3) (ret := none) (by decide) rfl ?_
  intro p e s m args below meth c s₁ B hml hv
  obtain ⟨rfl, hsz, hP, hK, hD0, hAm⟩ := hv
  have hx := B.exec
  have hb := B.bytes
  have hr := B.returns
  have hts := atoms_spec (ws := v_c_X1_acceptMovedJoint) B.pre
  have hown : s.vm.findClass RX1 = some m.cls := findClass_of_methodNamed B.named
  have hlocks := B.notSynchronized
  subst hsz
  have hD := hD0.self (sz := s.heap.size)
  generalize hAe : va_A [(h0, .inr (6, [.ref hj, .ref hpr, .ref hqd, .int 1, .int 0, .int 1])), (hj, .inl (cR, 8, .inr (.inr (.inr (.inr fj))))), (hj0, .inr (7, [.int 0, .int 0, .int 0, .int 0])), (hpr, .inr (7, [.int p0, .int p1, .int p2, .int p3]))] s.heap.size = A at hD hAm ⊢
  have hA : ∀ q : Nat, s.heap.size ≤ q → A q := fun q h => by rw [← hAe]; exact Or.inr h
  have hS : va_S A s.heap s.heap [] := va_S.rf
  have hP : va_P (dC, dI) vwCl [(h0, .inr (6, [.ref hj, .ref hpr, .ref hqd, .int 1, .int 0, .int 1])), (hj, .inl (cR, 8, .inr (.inr (.inr (.inr fj))))), (hj0, .inr (7, [.int 0, .int 0, .int 0, .int 0])), (hpr, .inr (7, [.int p0, .int p1, .int p2, .int p3]))] s.heap := hP
  have hl := lv_entry ([.ref h0, .int 0]) (n := 3) (Nat.le_of_ble_eq_true rfl)
  rw [lg_entry_eq]
  generalize (lg_sl ([.ref h0, .int 0]) ++ List.replicate (3 - (lg_sl ([.ref h0, .int 0])).length) Slot.unset).toArray = ls at hl ⊢
  have hl : lv_has ls 3 [(0, .ref h0), (1, .int 0)] := hl
  refine lv_aload_n hx hb dX1_acceptMovedJoint_0 rfl (lv_at hl 0 rfl) ?_
  refine lv_iload_n hx hb dX1_acceptMovedJoint_1 rfl (lv_at hl 1 rfl) ?_
  have hPc := hP.sub (ws' := [(h0, .inr (6, [.ref hj, .ref hpr, .ref hqd, .int 1, .int 0, .int 1])), (hj, .inl (cR, 8, .inr (.inr (.inr (.inr fj)))))]) [0, 1] rfl
  have hDc := hD.sub (ws' := [(h0, .inr (6, [.ref hj, .ref hpr, .ref hqd, .int 1, .int 0, .int 1])), (hj, .inl (cR, 8, .inr (.inr (.inr (.inr fj)))))]) [0, 1] (by decide) rfl
  have hKc := hK.sub (tys' := [(cR, .object RX2)]) [0] rfl
  have hFc : ∀ q : Nat, s.heap.size ≤ q → A q := fun q h => hA q (Nat.le_trans hS.1 h)
  refine va_callr (va_runV (As := [.int 0]) (rest := []) ⟨hx, hb, hml, hown, hts⟩ (c_X1_jointAt0 l dC dI e0 h0 hj hpr hqd cR hj0 fj s.heap.size hj0f) (cwV 1 hts (goodIn_sub (fun _ h9 => List.mem_cons_of_mem _ (List.mem_append_right _ (List.mem_append_left _ h9))) (by decide +kernel)) rfl rfl rfl (by decide +kernel) ⟨(Nat.le_of_ble_eq_true rfl), (Nat.le_of_ble_eq_true rfl)⟩) ⟨fz_blind, va_recv hKc hPc (ci := 6) (q0 := 0) rfl rfl, fz_pre hPc hKc hDc hAm hS hFc⟩ rfl rfl hl.1 rfl (lv_room (Nat.le_of_ble_eq_true rfl)) dX1_acceptMovedJoint_2 ⟨(Nat.le_of_ble_eq_true rfl), (Nat.le_of_ble_eq_true rfl)⟩) hS (fun q _ h => hFc q h) hFc (fun u ra_1 t H1 locs ht hvm hw hB hz1 hk1 hS => ?_)
  have hP := fz_keep hP hk1
  generalize H1 = H at hP hS ⊢
  have hP : va_P (dC, dI) vwCl [(h0, .inr (6, [.ref hj, .ref hpr, .ref hqd, .int 1, .int 0, .int 1])), (hj, .inl (cR, 8, .inr (.inr (.inr (.inr fj))))), (hj0, .inr (7, [.int 0, .int 0, .int 0, .int 0])), (hpr, .inr (7, [.int p0, .int p1, .int p2, .int p3]))] H := hP
  have hD : va_D A [(h0, .inr (6, [.ref hj, .ref hpr, .ref hqd, .int 1, .int 0, .int 1])), (hj, .inl (cR, 8, .inr (.inr (.inr (.inr fj))))), (hj0, .inr (7, [.int 0, .int 0, .int 0, .int 0])), (hpr, .inr (7, [.int p0, .int p1, .int p2, .int p3]))] := hD
  refine W.widen (k := 0) (n := 0) (Nat.le_of_ble_eq_true rfl) (Nat.le_of_ble_eq_true rfl) ?_
  refine lv_astore_n (lv' := [(2, .ref hj0), (0, .ref h0), (1, .int 0)]) hx hb dX1_acceptMovedJoint_5 rfl hl (by decide) rfl (fun ls hl => ?_)
  refine lv_aload_n hx hb dX1_acceptMovedJoint_6 rfl (lv_at hl 0 rfl) ?_
  refine lv_ifnull hx hb dX1_acceptMovedJoint_7 ?_
  refine lv_aload_n hx hb dX1_acceptMovedJoint_10 rfl (lv_at hl 0 rfl) ?_
  refine lv_aload_n hx hb dX1_acceptMovedJoint_11 rfl (lv_at hl 1 rfl) ?_
  refine va_get (D := (dC, dI)) (ci := 6) (v := .ref hpr) (C := RX1) (T := TX1) (N := 6) hx hb hts (fun _ h9 => List.mem_cons_of_mem _ (List.mem_append_right _ (List.mem_append_right _ (List.mem_append_left _ h9)))) hown hK hP 0 rfl rfl 1 (by decide) (hts _ (List.mem_cons_of_mem _ (List.mem_append_left _ (List.mem_of_getElem? (i := 0) rfl)))) (fun _ h9 => h9) rfl dX1_acceptMovedJoint_12 ?_
  refine va_get (D := (dC, dI)) (ci := 7) (v := .int p0) (C := RX2) (T := TX2) (N := 4) hx hb hts (fun _ h9 => List.mem_cons_of_mem _ (List.mem_append_right _ (List.mem_append_right _ (List.mem_append_right _ (List.mem_append_left _ h9))))) hown hK hP 3 rfl rfl 0 (by decide) (hts _ (List.mem_cons_of_mem _ (List.mem_append_left _ (List.mem_of_getElem? (i := 1) rfl)))) (fun _ h9 => h9) rfl dX1_acceptMovedJoint_15 ?_
  refine lv_aload_n hx hb dX1_acceptMovedJoint_18 rfl (lv_at hl 1 rfl) ?_
  refine va_get (D := (dC, dI)) (ci := 6) (v := .ref hpr) (C := RX1) (T := TX1) (N := 6) hx hb hts (fun _ h9 => List.mem_cons_of_mem _ (List.mem_append_right _ (List.mem_append_right _ (List.mem_append_left _ h9)))) hown hK hP 0 rfl rfl 1 (by decide) (hts _ (List.mem_cons_of_mem _ (List.mem_append_left _ (List.mem_of_getElem? (i := 0) rfl)))) (fun _ h9 => h9) rfl dX1_acceptMovedJoint_19 ?_
  refine va_get (D := (dC, dI)) (ci := 7) (v := .int p1) (C := RX2) (T := TX2) (N := 4) hx hb hts (fun _ h9 => List.mem_cons_of_mem _ (List.mem_append_right _ (List.mem_append_right _ (List.mem_append_right _ (List.mem_append_left _ h9))))) hown hK hP 3 rfl rfl 1 (by decide) (hts _ (List.mem_cons_of_mem _ (List.mem_append_left _ (List.mem_of_getElem? (i := 2) rfl)))) (fun _ h9 => h9) rfl dX1_acceptMovedJoint_22 ?_
  refine lv_aload_n hx hb dX1_acceptMovedJoint_25 rfl (lv_at hl 1 rfl) ?_
  refine va_get (D := (dC, dI)) (ci := 6) (v := .ref hpr) (C := RX1) (T := TX1) (N := 6) hx hb hts (fun _ h9 => List.mem_cons_of_mem _ (List.mem_append_right _ (List.mem_append_right _ (List.mem_append_left _ h9)))) hown hK hP 0 rfl rfl 1 (by decide) (hts _ (List.mem_cons_of_mem _ (List.mem_append_left _ (List.mem_of_getElem? (i := 0) rfl)))) (fun _ h9 => h9) rfl dX1_acceptMovedJoint_26 ?_
  refine va_get (D := (dC, dI)) (ci := 7) (v := .int p2) (C := RX2) (T := TX2) (N := 4) hx hb hts (fun _ h9 => List.mem_cons_of_mem _ (List.mem_append_right _ (List.mem_append_right _ (List.mem_append_right _ (List.mem_append_left _ h9))))) hown hK hP 3 rfl rfl 2 (by decide) (hts _ (List.mem_cons_of_mem _ (List.mem_append_left _ (List.mem_of_getElem? (i := 3) rfl)))) (fun _ h9 => h9) rfl dX1_acceptMovedJoint_29 ?_
  refine lv_aload_n hx hb dX1_acceptMovedJoint_32 rfl (lv_at hl 1 rfl) ?_
  refine va_get (D := (dC, dI)) (ci := 6) (v := .ref hpr) (C := RX1) (T := TX1) (N := 6) hx hb hts (fun _ h9 => List.mem_cons_of_mem _ (List.mem_append_right _ (List.mem_append_right _ (List.mem_append_left _ h9)))) hown hK hP 0 rfl rfl 1 (by decide) (hts _ (List.mem_cons_of_mem _ (List.mem_append_left _ (List.mem_of_getElem? (i := 0) rfl)))) (fun _ h9 => h9) rfl dX1_acceptMovedJoint_33 ?_
  refine va_get (D := (dC, dI)) (ci := 7) (v := .int p3) (C := RX2) (T := TX2) (N := 4) hx hb hts (fun _ h9 => List.mem_cons_of_mem _ (List.mem_append_right _ (List.mem_append_right _ (List.mem_append_right _ (List.mem_append_left _ h9))))) hown hK hP 3 rfl rfl 3 (by decide) (hts _ (List.mem_cons_of_mem _ (List.mem_append_left _ (List.mem_of_getElem? (i := 4) rfl)))) (fun _ h9 => h9) rfl dX1_acceptMovedJoint_36 ?_
  have hPc := hP.sub (ws' := [(hj0, .inr (7, [.int 0, .int 0, .int 0, .int 0]))]) [2] rfl
  have hDc := hD.sub (ws' := [(hj0, .inr (7, [.int 0, .int 0, .int 0, .int 0]))]) [2] (by decide) rfl
  have hKc := hK.sub (tys' := []) [] rfl
  have hFc := va_free (wc := [(hj0, .inr (7, [.int 0, .int 0, .int 0, .int 0]))]) hD hS hA [2] rfl
  refine va_callv (va_runV (As := [.int p0, .int p1, .int p2, .int p3]) (rest := []) ⟨hx, hb, hml, hown, hts⟩ (c_X2_moveTo l dC dI e0 hj0 p0 p1 p2 p3 0 0 0 0 H.size) (cwV 4 hts (goodIn_sub (fun _ h9 => List.mem_cons_of_mem _ (List.mem_append_right _ (List.mem_append_right _ (List.mem_append_right _ (List.mem_append_right _ h9))))) (by decide +kernel)) rfl rfl rfl (by decide +kernel) ⟨(Nat.le_of_ble_eq_true rfl), (Nat.le_of_ble_eq_true rfl)⟩) ⟨fz_blind, va_recv hKc hPc (ci := 7) (q0 := 0) rfl rfl, fz_pre hPc hKc hDc hAm hS hFc⟩ rfl rfl hl.1 rfl (lv_room (Nat.le_of_ble_eq_true rfl)) dX1_acceptMovedJoint_39 ⟨(Nat.le_of_ble_eq_true rfl), (Nat.le_of_ble_eq_true rfl)⟩) hS (fun q _ h => hFc q h) hFc (fun u t H1 locs ht hvm hw hB hz1 hk1 hS => ?_)
  obtain ⟨hP1, hK1, hD1⟩ := hB
  rw [ht] at hP1
  have hK1 := va_K.moved hvm.symm hK1
  obtain ⟨hP, hD⟩ := va_join (wr := [(h0, .inr (6, [.ref hj, .ref hpr, .ref hqd, .int 1, .int 0, .int 1])), (hj, .inl (cR, 8, .inr (.inr (.inr (.inr fj))))), (hpr, .inr (7, [.int p0, .int p1, .int p2, .int p3]))]) (w1 := [(hj0, .inr (7, [.int p0, .int p1, .int p2, .int p3]))]) hP hD [2] [0, 1, 3] rfl rfl (by decide) (by decide) hk1 hFc hP1 hD1
  generalize H1 = H at hP hS ⊢
  have hP : va_P (dC, dI) vwCl [(h0, .inr (6, [.ref hj, .ref hpr, .ref hqd, .int 1, .int 0, .int 1])), (hj, .inl (cR, 8, .inr (.inr (.inr (.inr fj))))), (hpr, .inr (7, [.int p0, .int p1, .int p2, .int p3])), (hj0, .inr (7, [.int p0, .int p1, .int p2, .int p3]))] H := hP
  have hD : va_D A [(h0, .inr (6, [.ref hj, .ref hpr, .ref hqd, .int 1, .int 0, .int 1])), (hj, .inl (cR, 8, .inr (.inr (.inr (.inr fj))))), (hpr, .inr (7, [.int p0, .int p1, .int p2, .int p3])), (hj0, .inr (7, [.int p0, .int p1, .int p2, .int p3]))] := hD
  have hK : va_K (dC, dI) vwCl [(cR, .object RX2)] s := hK
  refine W.widen (k := 0) (n := 0) (Nat.le_of_ble_eq_true rfl) (Nat.le_of_ble_eq_true rfl) ?_
  refine lv_aload_n hx hb dX1_acceptMovedJoint_42 rfl (lv_at hl 1 rfl) ?_
  refine lv_dup hx hb dX1_acceptMovedJoint_43 rfl ?_
  refine va_get (D := (dC, dI)) (ci := 6) (v := .int 0) (C := RX1) (T := TX1) (N := 6) hx hb hts (fun _ h9 => List.mem_cons_of_mem _ (List.mem_append_right _ (List.mem_append_right _ (List.mem_append_left _ h9)))) hown hK hP 0 rfl rfl 4 (by decide) (hts _ (List.mem_cons_of_mem _ (List.mem_append_left _ (List.mem_of_getElem? (i := 5) rfl)))) (fun _ h9 => h9) rfl dX1_acceptMovedJoint_44 ?_
  refine lv_iconst (v := 1) hx hb dX1_acceptMovedJoint_47 (by decide) ?_
  refine lv_iadd hx hb dX1_acceptMovedJoint_48 ?_
  refine lv_topi (fun z_9 e_9 => ?_)
  obtain rfl : 1 = z_9 := (e_9.trans (by decide)).symm
  refine va_put (D := (dC, dI)) (ci := 6) (v := .int 1) (ty := .int) (C := RX1) (T := TX1) (N := 6) hx hb hts (fun _ h9 => List.mem_cons_of_mem _ (List.mem_append_right _ (List.mem_append_right _ (List.mem_append_left _ h9)))) tyX1 tyX1_ok nmX1 hown hK hP hD hS 0 rfl rfl 4 (by decide) (hts _ (List.mem_cons_of_mem _ (List.mem_append_left _ (List.mem_of_getElem? (i := 5) rfl)))) (fun _ h9 => h9) rfl (by decide +kernel) rfl rfl (Nat.le_of_ble_eq_true rfl) dX1_acceptMovedJoint_49 (fun H locs hP hD hS => ?_)
  have hP : va_P (dC, dI) vwCl [(h0, .inr (6, [.ref hj, .ref hpr, .ref hqd, .int 1, .int 1, .int 1])), (hj, .inl (cR, 8, .inr (.inr (.inr (.inr fj))))), (hpr, .inr (7, [.int p0, .int p1, .int p2, .int p3])), (hj0, .inr (7, [.int p0, .int p1, .int p2, .int p3]))] H := hP
  have hD : va_D A [(h0, .inr (6, [.ref hj, .ref hpr, .ref hqd, .int 1, .int 1, .int 1])), (hj, .inl (cR, 8, .inr (.inr (.inr (.inr fj))))), (hpr, .inr (7, [.int p0, .int p1, .int p2, .int p3])), (hj0, .inr (7, [.int p0, .int p1, .int p2, .int p3]))] := hD
  refine W.widen (k := 0) (n := 0) (Nat.le_of_ble_eq_true rfl) (Nat.le_of_ble_eq_true rfl) ?_
  exact W.vret hx hb hr (fun t ht hW => ⟨⟨(), rfl, trivial, trivial⟩, hS.F ht⟩) hS.2.2 dX1_acceptMovedJoint_52
def v_c_X1_acceptNewJoint : List Cond := .code yX1_acceptNewJoint cX1_acceptNewJoint 1 none :: ([.fieldLink RX1 29 "VoussoirYard$Drawing" "count" "I", .fieldLink RX1 11 "VoussoirYard$Drawing" "joints" "[LVoussoirYard$Joint;"] ++ (wsX10 ++ (wsV RX1 72 RX1 yX1_acceptMovedJoint v_c_X1_acceptMovedJoint)))
set_option maxRecDepth 20000 in
theorem i_c_X1_acceptNewJoint : ∀ w ∈ v_c_X1_acceptNewJoint, w ∈ lw_tbl := List.forall_mem_cons.mpr ⟨List.mem_of_getElem? (i := 569) (by decide +kernel), List.forall_mem_append.mpr ⟨List.forall_mem_cons.mpr ⟨List.mem_of_getElem? (i := 151) (by decide +kernel), List.forall_mem_cons.mpr ⟨List.mem_of_getElem? (i := 148) (by decide +kernel), fun _ h => absurd h List.not_mem_nil⟩⟩, List.forall_mem_append.mpr ⟨inX1, (by unfold wsV; exact List.forall_mem_append.mpr ⟨List.forall_mem_cons.mpr ⟨List.mem_of_getElem? (i := 570) (by decide +kernel), List.forall_mem_cons.mpr ⟨List.mem_of_getElem? (i := 571) (by decide +kernel), List.forall_mem_cons.mpr ⟨List.mem_of_getElem? (i := 572) (by decide +kernel), List.forall_mem_cons.mpr ⟨List.mem_of_getElem? (i := 50) (by decide +kernel), fun _ h => absurd h List.not_mem_nil⟩⟩⟩⟩, i_c_X1_acceptMovedJoint⟩)⟩⟩⟩
set_option maxHeartbeats 4000000 in
set_option maxRecDepth 100000 in
theorem c_X1_acceptNewJoint (l : Launch) (dC : Nat → ClassId) (dI : Nat → Nat → Nat) (e0 : Nat) (h0 hj hpr hqd : Nat) (cR : ClassId) (hj0 : Nat) (fj : Nat → Option Nat) (p0 p1 p2 p3 : Int32) (sz : Nat) (hj0f : fj 0 = some hj0) : Met l yX1_acceptNewJoint v_c_X1_acceptNewJoint ({ frames := 2, cells := 0, slots := 0, locals := 46 }) (fz_P (dC, dI) e0 [(h0, .inr (6, [.ref hj, .ref hpr, .ref hqd, .int 0, .int 0, .int 1])), (hj, .inl (cR, 8, .inr (.inr (.inr (.inr fj))))), (hj0, .inr (7, [.int 0, .int 0, .int 0, .int 0])), (hpr, .inr (7, [.int p0, .int p1, .int p2, .int p3]))] [(cR, .object RX2)] sz (va_A [(h0, .inr (6, [.ref hj, .ref hpr, .ref hqd, .int 0, .int 0, .int 1])), (hj, .inl (cR, 8, .inr (.inr (.inr (.inr fj))))), (hj0, .inr (7, [.int 0, .int 0, .int 0, .int 0])), (hpr, .inr (7, [.int p0, .int p1, .int p2, .int p3]))] sz) [.ref h0]) (va_Qv (fun (u : Unit) => True) (fun (u : Unit) (t : State) => True) (va_A [(h0, .inr (6, [.ref hj, .ref hpr, .ref hqd, .int 0, .int 0, .int 1])), (hj, .inl (cR, 8, .inr (.inr (.inr (.inr fj))))), (hj0, .inr (7, [.int 0, .int 0, .int 0, .int 0])), (hpr, .inr (7, [.int p0, .int p1, .int p2, .int p3]))] sz)) 0 0 (va_A [(h0, .inr (6, [.ref hj, .ref hpr, .ref hqd, .int 0, .int 0, .int 1])), (hj, .inl (cR, 8, .inr (.inr (.inr (.inr fj))))), (hj0, .inr (7, [.int 0, .int 0, .int 0, .int 0])), (hpr, .inr (7, [.int p0, .int p1, .int p2, .int p3]))] sz) := by
  refine Met.ofW (cc := cX1_acceptNewJoint) (maxL := 1) (ret := none) (by decide) rfl ?_
  intro p e s m args below meth c s₁ B hml hv
  obtain ⟨rfl, hsz, hP, hK, hD0, hAm⟩ := hv
  have hx := B.exec
  have hb := B.bytes
  have hr := B.returns
  have hts := atoms_spec (ws := v_c_X1_acceptNewJoint) B.pre
  have hown : s.vm.findClass RX1 = some m.cls := findClass_of_methodNamed B.named
  have hlocks := B.notSynchronized
  subst hsz
  have hD := hD0.self (sz := s.heap.size)
  generalize hAe : va_A [(h0, .inr (6, [.ref hj, .ref hpr, .ref hqd, .int 0, .int 0, .int 1])), (hj, .inl (cR, 8, .inr (.inr (.inr (.inr fj))))), (hj0, .inr (7, [.int 0, .int 0, .int 0, .int 0])), (hpr, .inr (7, [.int p0, .int p1, .int p2, .int p3]))] s.heap.size = A at hD hAm ⊢
  have hA : ∀ q : Nat, s.heap.size ≤ q → A q := fun q h => by rw [← hAe]; exact Or.inr h
  have hS : va_S A s.heap s.heap [] := va_S.rf
  have hP : va_P (dC, dI) vwCl [(h0, .inr (6, [.ref hj, .ref hpr, .ref hqd, .int 0, .int 0, .int 1])), (hj, .inl (cR, 8, .inr (.inr (.inr (.inr fj))))), (hj0, .inr (7, [.int 0, .int 0, .int 0, .int 0])), (hpr, .inr (7, [.int p0, .int p1, .int p2, .int p3]))] s.heap := hP
  have hl := lv_entry ([.ref h0]) (n := 1) (Nat.le_of_ble_eq_true rfl)
  rw [lg_entry_eq]
  generalize (lg_sl ([.ref h0]) ++ List.replicate (1 - (lg_sl ([.ref h0])).length) Slot.unset).toArray = ls at hl ⊢
  have hl : lv_has ls 1 [(0, .ref h0)] := hl
  refine lv_aload_n hx hb dX1_acceptNewJoint_0 rfl (lv_at hl 0 rfl) ?_
  refine va_get (D := (dC, dI)) (ci := 6) (v := .int 0) (C := RX1) (T := TX1) (N := 6) hx hb hts (fun _ h9 => List.mem_cons_of_mem _ (List.mem_append_right _ (List.mem_append_left _ h9))) hown hK hP 0 rfl rfl 3 (by decide) (hts _ (List.mem_cons_of_mem _ (List.mem_append_left _ (List.mem_of_getElem? (i := 0) rfl)))) (fun _ h9 => h9) rfl dX1_acceptNewJoint_1 ?_
  refine lv_aload_n hx hb dX1_acceptNewJoint_4 rfl (lv_at hl 0 rfl) ?_
  refine va_get (D := (dC, dI)) (ci := 6) (v := .ref hj) (C := RX1) (T := TX1) (N := 6) hx hb hts (fun _ h9 => List.mem_cons_of_mem _ (List.mem_append_right _ (List.mem_append_left _ h9))) hown hK hP 0 rfl rfl 0 (by decide) (hts _ (List.mem_cons_of_mem _ (List.mem_append_left _ (List.mem_of_getElem? (i := 1) rfl)))) (fun _ h9 => h9) rfl dX1_acceptNewJoint_5 ?_
  refine va_alen hx hb hK hP 1 0 rfl rfl (v := 8) rfl dX1_acceptNewJoint_8 ?_
  refine lv_icmp_ge (tgt := 32) hx hb dX1_acceptNewJoint_9 (by decide) (fun c_9 => absurd c_9 (by decide)) (fun _ => ?_)
  refine lv_aload_n hx hb dX1_acceptNewJoint_12 rfl (lv_at hl 0 rfl) ?_
  refine lv_dup hx hb dX1_acceptNewJoint_13 rfl ?_
  refine va_get (D := (dC, dI)) (ci := 6) (v := .int 0) (C := RX1) (T := TX1) (N := 6) hx hb hts (fun _ h9 => List.mem_cons_of_mem _ (List.mem_append_right _ (List.mem_append_left _ h9))) hown hK hP 0 rfl rfl 3 (by decide) (hts _ (List.mem_cons_of_mem _ (List.mem_append_left _ (List.mem_of_getElem? (i := 0) rfl)))) (fun _ h9 => h9) rfl dX1_acceptNewJoint_14 ?_
  refine lv_iconst (v := 1) hx hb dX1_acceptNewJoint_17 (by decide) ?_
  refine lv_iadd hx hb dX1_acceptNewJoint_18 ?_
  refine lv_topi (fun z_9 e_9 => ?_)
  obtain rfl : 1 = z_9 := (e_9.trans (by decide)).symm
  refine va_put (D := (dC, dI)) (ci := 6) (v := .int 1) (ty := .int) (C := RX1) (T := TX1) (N := 6) hx hb hts (fun _ h9 => List.mem_cons_of_mem _ (List.mem_append_right _ (List.mem_append_left _ h9))) tyX1 tyX1_ok nmX1 hown hK hP hD hS 0 rfl rfl 3 (by decide) (hts _ (List.mem_cons_of_mem _ (List.mem_append_left _ (List.mem_of_getElem? (i := 0) rfl)))) (fun _ h9 => h9) rfl (by decide +kernel) rfl rfl (Nat.le_of_ble_eq_true rfl) dX1_acceptNewJoint_19 (fun H locs hP hD hS => ?_)
  have hP : va_P (dC, dI) vwCl [(h0, .inr (6, [.ref hj, .ref hpr, .ref hqd, .int 1, .int 0, .int 1])), (hj, .inl (cR, 8, .inr (.inr (.inr (.inr fj))))), (hj0, .inr (7, [.int 0, .int 0, .int 0, .int 0])), (hpr, .inr (7, [.int p0, .int p1, .int p2, .int p3]))] H := hP
  have hD : va_D A [(h0, .inr (6, [.ref hj, .ref hpr, .ref hqd, .int 1, .int 0, .int 1])), (hj, .inl (cR, 8, .inr (.inr (.inr (.inr fj))))), (hj0, .inr (7, [.int 0, .int 0, .int 0, .int 0])), (hpr, .inr (7, [.int p0, .int p1, .int p2, .int p3]))] := hD
  refine lv_aload_n hx hb dX1_acceptNewJoint_22 rfl (lv_at hl 0 rfl) ?_
  refine lv_aload_n hx hb dX1_acceptNewJoint_23 rfl (lv_at hl 0 rfl) ?_
  refine va_get (D := (dC, dI)) (ci := 6) (v := .int 1) (C := RX1) (T := TX1) (N := 6) hx hb hts (fun _ h9 => List.mem_cons_of_mem _ (List.mem_append_right _ (List.mem_append_left _ h9))) hown hK hP 0 rfl rfl 3 (by decide) (hts _ (List.mem_cons_of_mem _ (List.mem_append_left _ (List.mem_of_getElem? (i := 0) rfl)))) (fun _ h9 => h9) rfl dX1_acceptNewJoint_24 ?_
  refine lv_iconst (v := 1) hx hb dX1_acceptNewJoint_27 (by decide) ?_
  refine lv_isub hx hb dX1_acceptNewJoint_28 ?_
  refine lv_topi (fun z_9 e_9 => ?_)
  obtain rfl : 0 = z_9 := (e_9.trans (by decide)).symm
  have hPc := hP.sub (ws' := [(h0, .inr (6, [.ref hj, .ref hpr, .ref hqd, .int 1, .int 0, .int 1])), (hj, .inl (cR, 8, .inr (.inr (.inr (.inr fj))))), (hj0, .inr (7, [.int 0, .int 0, .int 0, .int 0])), (hpr, .inr (7, [.int p0, .int p1, .int p2, .int p3]))]) [0, 1, 2, 3] rfl
  have hDc := hD.sub (ws' := [(h0, .inr (6, [.ref hj, .ref hpr, .ref hqd, .int 1, .int 0, .int 1])), (hj, .inl (cR, 8, .inr (.inr (.inr (.inr fj))))), (hj0, .inr (7, [.int 0, .int 0, .int 0, .int 0])), (hpr, .inr (7, [.int p0, .int p1, .int p2, .int p3]))]) [0, 1, 2, 3] (by decide) rfl
  have hKc := hK.sub (tys' := [(cR, .object RX2)]) [0] rfl
  have hFc := va_free (wc := [(h0, .inr (6, [.ref hj, .ref hpr, .ref hqd, .int 1, .int 0, .int 1])), (hj, .inl (cR, 8, .inr (.inr (.inr (.inr fj))))), (hj0, .inr (7, [.int 0, .int 0, .int 0, .int 0])), (hpr, .inr (7, [.int p0, .int p1, .int p2, .int p3]))]) hD hS hA [0, 1, 2, 3] rfl
  refine va_callv (va_runV (As := [.int 0]) (rest := []) ⟨hx, hb, hml, hown, hts⟩ (c_X1_acceptMovedJoint l dC dI e0 h0 hj hpr hqd cR hj0 fj p0 p1 p2 p3 s.heap.size hj0f) (cwV 1 hts (goodIn_sub (fun _ h9 => List.mem_cons_of_mem _ (List.mem_append_right _ (List.mem_append_right _ h9))) (by decide +kernel)) rfl rfl rfl (by decide +kernel) ⟨(Nat.le_of_ble_eq_true rfl), (Nat.le_of_ble_eq_true rfl)⟩) ⟨fz_blind, va_recv hKc hPc (ci := 6) (q0 := 0) rfl rfl, fz_pre hPc hKc hDc hAm hS hFc⟩ rfl rfl hl.1 rfl (lv_room (Nat.le_of_ble_eq_true rfl)) dX1_acceptNewJoint_29 ⟨(Nat.le_of_ble_eq_true rfl), (Nat.le_of_ble_eq_true rfl)⟩) hS (fun q _ h => hFc q h) hFc (fun u t H1 locs ht hvm hw hB hz1 hk1 hS => ?_)
  obtain ⟨hP, hD⟩ := fz_keepC (WC := [(h0, .inr (6, [.ref hj, .ref hpr, .ref hqd, .int 1, .int 0, .int 1])), (hj, .inl (cR, 8, .inr (.inr (.inr (.inr fj))))), (hj0, .inr (7, [.int 0, .int 0, .int 0, .int 0])), (hpr, .inr (7, [.int p0, .int p1, .int p2, .int p3]))]) (WR := []) hP hD [0, 1, 2, 3] [] rfl rfl (by decide) (by decide) hk1 hFc
  generalize H1 = H at hP hS ⊢
  have hP : va_P (dC, dI) vwCl [] H := hP
  have hD : va_D A [] := hD
  have hK : va_K (dC, dI) vwCl [(cR, .object RX2)] s := hK
  refine W.widen (k := 0) (n := 0) (Nat.le_of_ble_eq_true rfl) (Nat.le_of_ble_eq_true rfl) ?_
  refine W.widen (k := 0) (n := 0) (Nat.le_of_ble_eq_true rfl) (Nat.le_of_ble_eq_true rfl) ?_
  exact W.vret hx hb hr (fun t ht hW => ⟨⟨(), rfl, trivial, trivial⟩, hS.F ht⟩) hS.2.2 dX1_acceptNewJoint_32
def v_c_X1_areaOfAll : List Cond := .code yX1_areaOfAll cX1_areaOfAll 3 (some .int) :: ([] ++ (wsV RX1 45 RX1 yX1_placeCount v_c_X1_placeCount))
set_option maxRecDepth 20000 in
theorem i_c_X1_areaOfAll : ∀ w ∈ v_c_X1_areaOfAll, w ∈ lw_tbl := List.forall_mem_cons.mpr ⟨List.mem_of_getElem? (i := 335) (by decide +kernel), List.forall_mem_append.mpr ⟨fun _ h => absurd h List.not_mem_nil, (by unfold wsV; exact List.forall_mem_append.mpr ⟨List.forall_mem_cons.mpr ⟨List.mem_of_getElem? (i := 336) (by decide +kernel), List.forall_mem_cons.mpr ⟨List.mem_of_getElem? (i := 273) (by decide +kernel), List.forall_mem_cons.mpr ⟨List.mem_of_getElem? (i := 274) (by decide +kernel), List.forall_mem_cons.mpr ⟨List.mem_of_getElem? (i := 50) (by decide +kernel), fun _ h => absurd h List.not_mem_nil⟩⟩⟩⟩, i_c_X1_placeCount⟩)⟩⟩
set_option maxHeartbeats 4000000 in
set_option maxRecDepth 100000 in
theorem c_X1_areaOfAll (l : Launch) (dC : Nat → ClassId) (dI : Nat → Nat → Nat) (e0 : Nat) (h0 hj hpr hqd : Nat) (sz : Nat) : Met l yX1_areaOfAll v_c_X1_areaOfAll ({ frames := 2, cells := 0, slots := 0, locals := 50 }) (fz_P (dC, dI) e0 [(h0, .inr (6, [.ref hj, .ref hpr, .ref hqd, .int 0, .int 0, .int 1]))] [] sz (fun q : Nat => sz ≤ q) [.ref h0]) (va_Qi (fun (r : Int32) (u : Unit) => r = 0) (fun (u : Unit) (t : State) => True) (fun q : Nat => sz ≤ q)) 0 0 (fun q : Nat => sz ≤ q) := by
  refine Met.ofW (cc := cX1_areaOfAll) (maxL := 3) (ret := (some .int)) (by decide) rfl ?_
  intro p e s m args below meth c s₁ B hml hv
  obtain ⟨rfl, hsz, hP, hK, hD0, hAm⟩ := hv
  have hx := B.exec
  have hb := B.bytes
  have hr := B.returns
  have hts := atoms_spec (ws := v_c_X1_areaOfAll) B.pre
  have hown : s.vm.findClass RX1 = some m.cls := findClass_of_methodNamed B.named
  have hlocks := B.notSynchronized
  subst hsz
  have hD := hD0
  generalize hAe : (fun q : Nat => s.heap.size ≤ q) = A at hAm ⊢
  have hA : ∀ q : Nat, s.heap.size ≤ q → A q := fun q h => by rw [← hAe]; exact h
  have hS : va_S A s.heap s.heap [] := va_S.rf
  have hP : va_P (dC, dI) vwCl [(h0, .inr (6, [.ref hj, .ref hpr, .ref hqd, .int 0, .int 0, .int 1]))] s.heap := hP
  have hl := lv_entry ([.ref h0]) (n := 3) (Nat.le_of_ble_eq_true rfl)
  rw [lg_entry_eq]
  generalize (lg_sl ([.ref h0]) ++ List.replicate (3 - (lg_sl ([.ref h0])).length) Slot.unset).toArray = ls at hl ⊢
  have hl : lv_has ls 3 [(0, .ref h0)] := hl
  refine lv_iconst (v := 0) hx hb dX1_areaOfAll_0 (by decide) ?_
  refine lv_istore_n (lv' := [(1, .int 0), (0, .ref h0)]) hx hb dX1_areaOfAll_1 rfl hl (by decide) rfl (fun ls hl => ?_)
  refine lv_iconst (v := 0) hx hb dX1_areaOfAll_2 (by decide) ?_
  refine lv_istore_n (lv' := [(2, .int 0), (1, .int 0), (0, .ref h0)]) hx hb dX1_areaOfAll_3 rfl hl (by decide) rfl (fun ls hl => ?_)
  refine lv_iload_n hx hb dX1_areaOfAll_4 rfl (lv_at hl 0 rfl) ?_
  refine lv_aload_n hx hb dX1_areaOfAll_5 rfl (lv_at hl 2 rfl) ?_
  have hPc := hP.sub (ws' := [(h0, .inr (6, [.ref hj, .ref hpr, .ref hqd, .int 0, .int 0, .int 1]))]) [0] rfl
  have hDc := hD.sub (ws' := [(h0, .inr (6, [.ref hj, .ref hpr, .ref hqd, .int 0, .int 0, .int 1]))]) [0] (by decide) rfl
  have hKc := hK.sub (tys' := []) [] rfl
  have hFc : ∀ q : Nat, s.heap.size ≤ q → A q := fun q h => hA q (Nat.le_trans hS.1 h)
  refine va_calli (va_runV (As := []) (rest := [.int 0]) ⟨hx, hb, hml, hown, hts⟩ (c_X1_placeCount l dC dI e0 h0 hj hpr hqd s.heap.size) (cwV 0 hts (goodIn_sub (fun _ h9 => List.mem_cons_of_mem _ (List.mem_append_right _ (h9))) (by decide +kernel)) rfl rfl rfl (by decide +kernel) ⟨(Nat.le_of_ble_eq_true rfl), (Nat.le_of_ble_eq_true rfl)⟩) ⟨fz_blind, va_recv hKc hPc (ci := 6) (q0 := 0) rfl rfl, fz_pre hPc hKc hDc hAm hS hFc⟩ rfl rfl hl.1 rfl (lv_room (Nat.le_of_ble_eq_true rfl)) dX1_areaOfAll_6 ⟨(Nat.le_of_ble_eq_true rfl), (Nat.le_of_ble_eq_true rfl)⟩) hS (fun q _ h => hFc q h) hFc (fun r u t H1 locs ht hvm hw hB hz1 hk1 hS => ?_)
  obtain rfl := hw
  have hP := fz_keep hP hk1
  generalize H1 = H at hP hS ⊢
  have hP : va_P (dC, dI) vwCl [(h0, .inr (6, [.ref hj, .ref hpr, .ref hqd, .int 0, .int 0, .int 1]))] H := hP
  refine W.widen (k := 0) (n := 0) (Nat.le_of_ble_eq_true rfl) (Nat.le_of_ble_eq_true rfl) ?_
  refine lv_icmp_ge (tgt := 26) hx hb dX1_areaOfAll_9 (by decide) (fun _ => ?_) (fun c_9 => absurd (by decide) c_9)
  refine lv_iload_n hx hb dX1_areaOfAll_26 rfl (lv_at hl 1 rfl) ?_
  refine W.widen (k := 0) (n := 0) (Nat.le_of_ble_eq_true rfl) (Nat.le_of_ble_eq_true rfl) ?_
  exact W.iret (v := 0) hx hb hr (fun t ht hW => ⟨⟨0, (), rfl, rfl, trivial⟩, hS.F ht⟩) hS.2.2 dX1_areaOfAll_27
def v_c_X1_weightOfAll : List Cond := .code yX1_weightOfAll cX1_weightOfAll 3 (some .int) :: ([] ++ (wsV RX1 45 RX1 yX1_placeCount v_c_X1_placeCount))
set_option maxRecDepth 20000 in
theorem i_c_X1_weightOfAll : ∀ w ∈ v_c_X1_weightOfAll, w ∈ lw_tbl := List.forall_mem_cons.mpr ⟨List.mem_of_getElem? (i := 1200) (by decide +kernel), List.forall_mem_append.mpr ⟨fun _ h => absurd h List.not_mem_nil, (by unfold wsV; exact List.forall_mem_append.mpr ⟨List.forall_mem_cons.mpr ⟨List.mem_of_getElem? (i := 336) (by decide +kernel), List.forall_mem_cons.mpr ⟨List.mem_of_getElem? (i := 273) (by decide +kernel), List.forall_mem_cons.mpr ⟨List.mem_of_getElem? (i := 274) (by decide +kernel), List.forall_mem_cons.mpr ⟨List.mem_of_getElem? (i := 50) (by decide +kernel), fun _ h => absurd h List.not_mem_nil⟩⟩⟩⟩, i_c_X1_placeCount⟩)⟩⟩
set_option maxHeartbeats 4000000 in
set_option maxRecDepth 100000 in
theorem c_X1_weightOfAll (l : Launch) (dC : Nat → ClassId) (dI : Nat → Nat → Nat) (e0 : Nat) (h0 hj hpr hqd : Nat) (sz : Nat) : Met l yX1_weightOfAll v_c_X1_weightOfAll ({ frames := 2, cells := 0, slots := 0, locals := 50 }) (fz_P (dC, dI) e0 [(h0, .inr (6, [.ref hj, .ref hpr, .ref hqd, .int 0, .int 0, .int 1]))] [] sz (fun q : Nat => sz ≤ q) [.ref h0]) (va_Qi (fun (r : Int32) (u : Unit) => r = 0) (fun (u : Unit) (t : State) => True) (fun q : Nat => sz ≤ q)) 0 0 (fun q : Nat => sz ≤ q) := by
  refine Met.ofW (cc := cX1_weightOfAll) (maxL := 3) (ret := (some .int)) (by decide) rfl ?_
  intro p e s m args below meth c s₁ B hml hv
  obtain ⟨rfl, hsz, hP, hK, hD0, hAm⟩ := hv
  have hx := B.exec
  have hb := B.bytes
  have hr := B.returns
  have hts := atoms_spec (ws := v_c_X1_weightOfAll) B.pre
  have hown : s.vm.findClass RX1 = some m.cls := findClass_of_methodNamed B.named
  have hlocks := B.notSynchronized
  subst hsz
  have hD := hD0
  generalize hAe : (fun q : Nat => s.heap.size ≤ q) = A at hAm ⊢
  have hA : ∀ q : Nat, s.heap.size ≤ q → A q := fun q h => by rw [← hAe]; exact h
  have hS : va_S A s.heap s.heap [] := va_S.rf
  have hP : va_P (dC, dI) vwCl [(h0, .inr (6, [.ref hj, .ref hpr, .ref hqd, .int 0, .int 0, .int 1]))] s.heap := hP
  have hl := lv_entry ([.ref h0]) (n := 3) (Nat.le_of_ble_eq_true rfl)
  rw [lg_entry_eq]
  generalize (lg_sl ([.ref h0]) ++ List.replicate (3 - (lg_sl ([.ref h0])).length) Slot.unset).toArray = ls at hl ⊢
  have hl : lv_has ls 3 [(0, .ref h0)] := hl
  refine lv_iconst (v := 0) hx hb dX1_weightOfAll_0 (by decide) ?_
  refine lv_istore_n (lv' := [(1, .int 0), (0, .ref h0)]) hx hb dX1_weightOfAll_1 rfl hl (by decide) rfl (fun ls hl => ?_)
  refine lv_iconst (v := 0) hx hb dX1_weightOfAll_2 (by decide) ?_
  refine lv_istore_n (lv' := [(2, .int 0), (1, .int 0), (0, .ref h0)]) hx hb dX1_weightOfAll_3 rfl hl (by decide) rfl (fun ls hl => ?_)
  refine lv_iload_n hx hb dX1_weightOfAll_4 rfl (lv_at hl 0 rfl) ?_
  refine lv_aload_n hx hb dX1_weightOfAll_5 rfl (lv_at hl 2 rfl) ?_
  have hPc := hP.sub (ws' := [(h0, .inr (6, [.ref hj, .ref hpr, .ref hqd, .int 0, .int 0, .int 1]))]) [0] rfl
  have hDc := hD.sub (ws' := [(h0, .inr (6, [.ref hj, .ref hpr, .ref hqd, .int 0, .int 0, .int 1]))]) [0] (by decide) rfl
  have hKc := hK.sub (tys' := []) [] rfl
  have hFc : ∀ q : Nat, s.heap.size ≤ q → A q := fun q h => hA q (Nat.le_trans hS.1 h)
  refine va_calli (va_runV (As := []) (rest := [.int 0]) ⟨hx, hb, hml, hown, hts⟩ (c_X1_placeCount l dC dI e0 h0 hj hpr hqd s.heap.size) (cwV 0 hts (goodIn_sub (fun _ h9 => List.mem_cons_of_mem _ (List.mem_append_right _ (h9))) (by decide +kernel)) rfl rfl rfl (by decide +kernel) ⟨(Nat.le_of_ble_eq_true rfl), (Nat.le_of_ble_eq_true rfl)⟩) ⟨fz_blind, va_recv hKc hPc (ci := 6) (q0 := 0) rfl rfl, fz_pre hPc hKc hDc hAm hS hFc⟩ rfl rfl hl.1 rfl (lv_room (Nat.le_of_ble_eq_true rfl)) dX1_weightOfAll_6 ⟨(Nat.le_of_ble_eq_true rfl), (Nat.le_of_ble_eq_true rfl)⟩) hS (fun q _ h => hFc q h) hFc (fun r u t H1 locs ht hvm hw hB hz1 hk1 hS => ?_)
  obtain rfl := hw
  have hP := fz_keep hP hk1
  generalize H1 = H at hP hS ⊢
  have hP : va_P (dC, dI) vwCl [(h0, .inr (6, [.ref hj, .ref hpr, .ref hqd, .int 0, .int 0, .int 1]))] H := hP
  refine W.widen (k := 0) (n := 0) (Nat.le_of_ble_eq_true rfl) (Nat.le_of_ble_eq_true rfl) ?_
  refine lv_icmp_ge (tgt := 26) hx hb dX1_weightOfAll_9 (by decide) (fun _ => ?_) (fun c_9 => absurd (by decide) c_9)
  refine lv_iload_n hx hb dX1_weightOfAll_26 rfl (lv_at hl 1 rfl) ?_
  refine W.widen (k := 0) (n := 0) (Nat.le_of_ble_eq_true rfl) (Nat.le_of_ble_eq_true rfl) ?_
  exact W.iret (v := 0) hx hb hr (fun t ht hW => ⟨⟨0, (), rfl, rfl, trivial⟩, hS.F ht⟩) hS.2.2 dX1_weightOfAll_27
def v_c_X1_areaGoneRound : List Cond := .code yX1_areaGoneRound cX1_areaGoneRound 5 (some .int) :: ([.fieldLink RX1 29 "VoussoirYard$Drawing" "count" "I"] ++ (wsX10 ++ (wsV RX1 57 RX1 yX1_jointAt v_c_X1_jointAt)))
set_option maxRecDepth 20000 in
theorem i_c_X1_areaGoneRound : ∀ w ∈ v_c_X1_areaGoneRound, w ∈ lw_tbl := List.forall_mem_cons.mpr ⟨List.mem_of_getElem? (i := 357) (by decide +kernel), List.forall_mem_append.mpr ⟨List.forall_mem_cons.mpr ⟨List.mem_of_getElem? (i := 151) (by decide +kernel), fun _ h => absurd h List.not_mem_nil⟩, List.forall_mem_append.mpr ⟨inX1, (by unfold wsV; exact List.forall_mem_append.mpr ⟨List.forall_mem_cons.mpr ⟨List.mem_of_getElem? (i := 345) (by decide +kernel), List.forall_mem_cons.mpr ⟨List.mem_of_getElem? (i := 346) (by decide +kernel), List.forall_mem_cons.mpr ⟨List.mem_of_getElem? (i := 347) (by decide +kernel), List.forall_mem_cons.mpr ⟨List.mem_of_getElem? (i := 50) (by decide +kernel), fun _ h => absurd h List.not_mem_nil⟩⟩⟩⟩, i_c_X1_jointAt⟩)⟩⟩⟩
set_option maxHeartbeats 4000000 in
set_option maxRecDepth 100000 in
theorem c_X1_areaGoneRound (l : Launch) (dC : Nat → ClassId) (dI : Nat → Nat → Nat) (e0 : Nat) (h0 hj hpr hqd : Nat) (sz : Nat) : Met l yX1_areaGoneRound v_c_X1_areaGoneRound ({ frames := 1, cells := 0, slots := 0, locals := 21 }) (fz_P (dC, dI) e0 [(h0, .inr (6, [.ref hj, .ref hpr, .ref hqd, .int 0, .int 0, .int 1]))] [] sz (fun q : Nat => sz ≤ q) [.ref h0]) (va_Qi (fun (r : Int32) (u : Unit) => r = 0) (fun (u : Unit) (t : State) => True) (fun q : Nat => sz ≤ q)) 0 0 (fun q : Nat => sz ≤ q) := by
  refine Met.ofW (cc := cX1_areaGoneRound) (maxL := 5) (ret := (some .int)) (by decide) rfl ?_
  intro p e s m args below meth c s₁ B hml hv
  obtain ⟨rfl, hsz, hP, hK, hD0, hAm⟩ := hv
  have hx := B.exec
  have hb := B.bytes
  have hr := B.returns
  have hts := atoms_spec (ws := v_c_X1_areaGoneRound) B.pre
  have hown : s.vm.findClass RX1 = some m.cls := findClass_of_methodNamed B.named
  have hlocks := B.notSynchronized
  subst hsz
  have hD := hD0
  generalize hAe : (fun q : Nat => s.heap.size ≤ q) = A at hAm ⊢
  have hA : ∀ q : Nat, s.heap.size ≤ q → A q := fun q h => by rw [← hAe]; exact h
  have hS : va_S A s.heap s.heap [] := va_S.rf
  have hP : va_P (dC, dI) vwCl [(h0, .inr (6, [.ref hj, .ref hpr, .ref hqd, .int 0, .int 0, .int 1]))] s.heap := hP
  have hl := lv_entry ([.ref h0]) (n := 5) (Nat.le_of_ble_eq_true rfl)
  rw [lg_entry_eq]
  generalize (lg_sl ([.ref h0]) ++ List.replicate (5 - (lg_sl ([.ref h0])).length) Slot.unset).toArray = ls at hl ⊢
  have hl : lv_has ls 5 [(0, .ref h0)] := hl
  refine lv_iconst (v := 0) hx hb dX1_areaGoneRound_0 (by decide) ?_
  refine lv_istore_n (lv' := [(1, .int 0), (0, .ref h0)]) hx hb dX1_areaGoneRound_1 rfl hl (by decide) rfl (fun ls hl => ?_)
  refine lv_iconst (v := 0) hx hb dX1_areaGoneRound_2 (by decide) ?_
  refine lv_istore_n (lv' := [(2, .int 0), (1, .int 0), (0, .ref h0)]) hx hb dX1_areaGoneRound_3 rfl hl (by decide) rfl (fun ls hl => ?_)
  refine lv_iload_n hx hb dX1_areaGoneRound_4 rfl (lv_at hl 0 rfl) ?_
  refine lv_aload_n hx hb dX1_areaGoneRound_5 rfl (lv_at hl 2 rfl) ?_
  refine va_get (D := (dC, dI)) (ci := 6) (v := .int 0) (C := RX1) (T := TX1) (N := 6) hx hb hts (fun _ h9 => List.mem_cons_of_mem _ (List.mem_append_right _ (List.mem_append_left _ h9))) hown hK hP 0 rfl rfl 3 (by decide) (hts _ (List.mem_cons_of_mem _ (List.mem_append_left _ (List.mem_of_getElem? (i := 0) rfl)))) (fun _ h9 => h9) rfl dX1_areaGoneRound_6 ?_
  refine lv_icmp_ge (tgt := 90) hx hb dX1_areaGoneRound_9 (by decide) (fun _ => ?_) (fun c_9 => absurd (by decide) c_9)
  refine lv_aload_n hx hb dX1_areaGoneRound_90 rfl (lv_at hl 2 rfl) ?_
  refine lv_iconst (v := 0) hx hb dX1_areaGoneRound_91 (by decide) ?_
  have hPc := hP.sub (ws' := [(h0, .inr (6, [.ref hj, .ref hpr, .ref hqd, .int 0, .int 0, .int 1]))]) [0] rfl
  have hDc := hD.sub (ws' := [(h0, .inr (6, [.ref hj, .ref hpr, .ref hqd, .int 0, .int 0, .int 1]))]) [0] (by decide) rfl
  have hKc := hK.sub (tys' := []) [] rfl
  have hFc : ∀ q : Nat, s.heap.size ≤ q → A q := fun q h => hA q (Nat.le_trans hS.1 h)
  refine va_callq (va_runV (As := [.int 0]) (rest := []) ⟨hx, hb, hml, hown, hts⟩ (c_X1_jointAt l dC dI e0 h0 0 hj hpr hqd s.heap.size) (cwV 1 hts (goodIn_sub (fun _ h9 => List.mem_cons_of_mem _ (List.mem_append_right _ (List.mem_append_right _ h9))) (by decide +kernel)) rfl rfl rfl (by decide +kernel) ⟨(Nat.le_of_ble_eq_true rfl), (Nat.le_of_ble_eq_true rfl)⟩) ⟨fz_blind, va_recv hKc hPc (ci := 6) (q0 := 0) rfl rfl, fz_pre hPc hKc hDc hAm hS hFc⟩ rfl rfl hl.1 rfl (lv_room (Nat.le_of_ble_eq_true rfl)) dX1_areaGoneRound_92 ⟨(Nat.le_of_ble_eq_true rfl), (Nat.le_of_ble_eq_true rfl)⟩) hS (fun q _ h => hFc q h) hFc (fun r u t H1 locs ht hvm hw hB hz1 hk1 hS => ?_)
  obtain rfl := hw
  have hP := fz_keep hP hk1
  generalize H1 = H at hP hS ⊢
  have hP : va_P (dC, dI) vwCl [(h0, .inr (6, [.ref hj, .ref hpr, .ref hqd, .int 0, .int 0, .int 1]))] H := hP
  refine W.widen (k := 0) (n := 0) (Nat.le_of_ble_eq_true rfl) (Nat.le_of_ble_eq_true rfl) ?_
  refine lv_astore_nN (lv' := [(2, .null), (1, .int 0), (0, .ref h0)]) hx hb dX1_areaGoneRound_95 rfl hl (by decide) rfl (fun ls hl => ?_)
  refine lv_aload_n hx hb dX1_areaGoneRound_96 rfl (lv_at hl 2 rfl) ?_
  refine lv_aload_n hx hb dX1_areaGoneRound_97 rfl (lv_at hl 2 rfl) ?_
  refine va_get (D := (dC, dI)) (ci := 6) (v := .int 0) (C := RX1) (T := TX1) (N := 6) hx hb hts (fun _ h9 => List.mem_cons_of_mem _ (List.mem_append_right _ (List.mem_append_left _ h9))) hown hK hP 0 rfl rfl 3 (by decide) (hts _ (List.mem_cons_of_mem _ (List.mem_append_left _ (List.mem_of_getElem? (i := 0) rfl)))) (fun _ h9 => h9) rfl dX1_areaGoneRound_98 ?_
  refine lv_iconst (v := 1) hx hb dX1_areaGoneRound_101 (by decide) ?_
  refine lv_isub hx hb dX1_areaGoneRound_102 ?_
  refine lv_topi (fun z_9 e_9 => ?_)
  obtain rfl : (-1) = z_9 := (e_9.trans (by decide)).symm
  have hPc := hP.sub (ws' := [(h0, .inr (6, [.ref hj, .ref hpr, .ref hqd, .int 0, .int 0, .int 1]))]) [0] rfl
  have hDc := hD.sub (ws' := [(h0, .inr (6, [.ref hj, .ref hpr, .ref hqd, .int 0, .int 0, .int 1]))]) [0] (by decide) rfl
  have hKc := hK.sub (tys' := []) [] rfl
  have hFc : ∀ q : Nat, H.size ≤ q → A q := fun q h => hA q (Nat.le_trans hS.1 h)
  refine va_callq (va_runV (As := [.int (-1)]) (rest := []) ⟨hx, hb, hml, hown, hts⟩ (c_X1_jointAt l dC dI e0 h0 (-1) hj hpr hqd H.size) (cwV 1 hts (goodIn_sub (fun _ h9 => List.mem_cons_of_mem _ (List.mem_append_right _ (List.mem_append_right _ h9))) (by decide +kernel)) rfl rfl rfl (by decide +kernel) ⟨(Nat.le_of_ble_eq_true rfl), (Nat.le_of_ble_eq_true rfl)⟩) ⟨fz_blind, va_recv hKc hPc (ci := 6) (q0 := 0) rfl rfl, fz_pre hPc hKc hDc hAm hS hFc⟩ rfl rfl hl.1 rfl (lv_room (Nat.le_of_ble_eq_true rfl)) dX1_areaGoneRound_103 ⟨(Nat.le_of_ble_eq_true rfl), (Nat.le_of_ble_eq_true rfl)⟩) hS (fun q _ h => hFc q h) hFc (fun r u t H1 locs ht hvm hw hB hz1 hk1 hS => ?_)
  obtain rfl := hw
  have hP := fz_keep hP hk1
  generalize H1 = H at hP hS ⊢
  have hP : va_P (dC, dI) vwCl [(h0, .inr (6, [.ref hj, .ref hpr, .ref hqd, .int 0, .int 0, .int 1]))] H := hP
  refine W.widen (k := 0) (n := 0) (Nat.le_of_ble_eq_true rfl) (Nat.le_of_ble_eq_true rfl) ?_
  refine lv_astore_nN (lv' := [(3, .null), (2, .null), (1, .int 0), (0, .ref h0)]) hx hb dX1_areaGoneRound_106 rfl hl (by decide) rfl (fun ls hl => ?_)
  refine lv_aload_nN hx hb dX1_areaGoneRound_107 rfl (lv_at hl 1 rfl) ?_
  refine lv_ifnullN (tgt := 159) hx hb dX1_areaGoneRound_108 (by decide) ?_
  refine lv_iload_n hx hb dX1_areaGoneRound_159 rfl (lv_at hl 2 rfl) ?_
  refine W.widen (k := 0) (n := 0) (Nat.le_of_ble_eq_true rfl) (Nat.le_of_ble_eq_true rfl) ?_
  exact W.iret (v := 0) hx hb hr (fun t ht hW => ⟨⟨0, (), rfl, rfl, trivial⟩, hS.F ht⟩) hS.2.2 dX1_areaGoneRound_160
end
