-- ===== PART A: goes FIRST, ahead of the names: the tables' words, and 'selects' of the private methods out of them =====
/-- a private method of a class that the tables say can be made, by its rows of tables_1 -/
def lw_okq (q : MethodName × Nat) : Prop := (q.1.cls ≠ "java/lang/invoke/MethodHandle" ∧ q.1.cls ≠ "java/lang/invoke/VarHandle") ∧ Cond.instantiable q.1.cls q.2 ∈ tables_1 ∧ Cond.privateMethod q.1 ∈ tables_1 ∧ Cond.instanceMethod q.1 ∈ tables_1
theorem lw_p0 : lw_okq (⟨"MadeLand", "keepUpTo", "(I)V"⟩, 9) := ⟨⟨by decide +kernel, by decide +kernel⟩, List.mem_of_getElem? (i := 14) (by decide +kernel), List.mem_of_getElem? (i := 286) (by decide +kernel), List.mem_of_getElem? (i := 287) (by decide +kernel)⟩
theorem lw_p1 : lw_okq (⟨"MadeLand$Terrain", "layerOf", "(III)I"⟩, 13) := ⟨⟨by decide +kernel, by decide +kernel⟩, List.mem_of_getElem? (i := 22) (by decide +kernel), List.mem_of_getElem? (i := 305) (by decide +kernel), List.mem_of_getElem? (i := 306) (by decide +kernel)⟩
theorem lw_p2 : lw_okq (⟨"MadeLand$Terrain", "cornerOf", "(III)I"⟩, 13) := ⟨⟨by decide +kernel, by decide +kernel⟩, List.mem_of_getElem? (i := 22) (by decide +kernel), List.mem_of_getElem? (i := 309) (by decide +kernel), List.mem_of_getElem? (i := 310) (by decide +kernel)⟩
theorem lw_p3 : lw_okq (⟨"MadeLand", "makeUpTo", "(I)V"⟩, 9) := ⟨⟨by decide +kernel, by decide +kernel⟩, List.mem_of_getElem? (i := 14) (by decide +kernel), List.mem_of_getElem? (i := 335) (by decide +kernel), List.mem_of_getElem? (i := 336) (by decide +kernel)⟩
theorem lw_p4 : lw_okq (⟨"MadeLand$Water", "takeOutlets", "(LMadeLand$Terrain;LMadeLand$Heap;I)V"⟩, 9) := ⟨⟨by decide +kernel, by decide +kernel⟩, List.mem_of_getElem? (i := 99) (by decide +kernel), List.mem_of_getElem? (i := 379) (by decide +kernel), List.mem_of_getElem? (i := 380) (by decide +kernel)⟩
theorem lw_p5 : lw_okq (⟨"MadeLand$Water", "take", "(LMadeLand$Terrain;LMadeLand$Heap;I)V"⟩, 9) := ⟨⟨by decide +kernel, by decide +kernel⟩, List.mem_of_getElem? (i := 99) (by decide +kernel), List.mem_of_getElem? (i := 389) (by decide +kernel), List.mem_of_getElem? (i := 390) (by decide +kernel)⟩
theorem lw_p6 : lw_okq (⟨"MadeLand$Water", "takeOthers", "(LMadeLand$Terrain;LMadeLand$Heap;)V"⟩, 9) := ⟨⟨by decide +kernel, by decide +kernel⟩, List.mem_of_getElem? (i := 99) (by decide +kernel), List.mem_of_getElem? (i := 404) (by decide +kernel), List.mem_of_getElem? (i := 405) (by decide +kernel)⟩
theorem lw_p7 : lw_okq (⟨"MadeLand$Heap", "sink", "(I)V"⟩, 3) := ⟨⟨by decide +kernel, by decide +kernel⟩, List.mem_of_getElem? (i := 228) (by decide +kernel), List.mem_of_getElem? (i := 412) (by decide +kernel), List.mem_of_getElem? (i := 413) (by decide +kernel)⟩
theorem lw_p8 : lw_okq (⟨"MadeLand$Water", "firstTakenBeside", "(LMadeLand$Terrain;I)I"⟩, 9) := ⟨⟨by decide +kernel, by decide +kernel⟩, List.mem_of_getElem? (i := 99) (by decide +kernel), List.mem_of_getElem? (i := 424) (by decide +kernel), List.mem_of_getElem? (i := 425) (by decide +kernel)⟩
theorem lw_p9 : lw_okq (⟨"MadeLand$Water", "gatherFlow", "(LMadeLand$Terrain;)V"⟩, 9) := ⟨⟨by decide +kernel, by decide +kernel⟩, List.mem_of_getElem? (i := 99) (by decide +kernel), List.mem_of_getElem? (i := 428) (by decide +kernel), List.mem_of_getElem? (i := 429) (by decide +kernel)⟩
theorem lw_p10 : lw_okq (⟨"MadeLand$Water", "kindOf", "(IIII)I"⟩, 9) := ⟨⟨by decide +kernel, by decide +kernel⟩, List.mem_of_getElem? (i := 99) (by decide +kernel), List.mem_of_getElem? (i := 433) (by decide +kernel), List.mem_of_getElem? (i := 434) (by decide +kernel)⟩
theorem lw_p11 : lw_okq (⟨"MadeLand$Pools", "spread", "(LMadeLand$Terrain;LMadeLand$Water;I)I"⟩, 4) := ⟨⟨by decide +kernel, by decide +kernel⟩, List.mem_of_getElem? (i := 146) (by decide +kernel), List.mem_of_getElem? (i := 443) (by decide +kernel), List.mem_of_getElem? (i := 444) (by decide +kernel)⟩
theorem lw_p12 : lw_okq (⟨"MadeLand$Settlements", "bestPlace", "(LMadeLand$Terrain;I)I"⟩, 3) := ⟨⟨by decide +kernel, by decide +kernel⟩, List.mem_of_getElem? (i := 168) (by decide +kernel), List.mem_of_getElem? (i := 461) (by decide +kernel), List.mem_of_getElem? (i := 462) (by decide +kernel)⟩
theorem lw_p13 : lw_okq (⟨"MadeLand$Settlements", "isFarFromAll", "(LMadeLand$Terrain;II)Z"⟩, 3) := ⟨⟨by decide +kernel, by decide +kernel⟩, List.mem_of_getElem? (i := 168) (by decide +kernel), List.mem_of_getElem? (i := 465) (by decide +kernel), List.mem_of_getElem? (i := 466) (by decide +kernel)⟩
theorem lw_p14 : lw_okq (⟨"MadeLand$Network", "findCosts", "(LMadeLand$Terrain;LMadeLand$Water;LMadeLand$Heap;II)V"⟩, 8) := ⟨⟨by decide +kernel, by decide +kernel⟩, List.mem_of_getElem? (i := 191) (by decide +kernel), List.mem_of_getElem? (i := 481) (by decide +kernel), List.mem_of_getElem? (i := 482) (by decide +kernel)⟩
theorem lw_p15 : lw_okq (⟨"MadeLand$Network", "spreadCosts", "(LMadeLand$Terrain;LMadeLand$Water;LMadeLand$Heap;II)V"⟩, 8) := ⟨⟨by decide +kernel, by decide +kernel⟩, List.mem_of_getElem? (i := 191) (by decide +kernel), List.mem_of_getElem? (i := 491) (by decide +kernel), List.mem_of_getElem? (i := 492) (by decide +kernel)⟩
def lw_privs_1 : List (MethodName × Nat) := [(⟨"MadeLand", "keepUpTo", "(I)V"⟩, 9), (⟨"MadeLand$Terrain", "layerOf", "(III)I"⟩, 13), (⟨"MadeLand$Terrain", "cornerOf", "(III)I"⟩, 13), (⟨"MadeLand", "makeUpTo", "(I)V"⟩, 9), (⟨"MadeLand$Water", "takeOutlets", "(LMadeLand$Terrain;LMadeLand$Heap;I)V"⟩, 9), (⟨"MadeLand$Water", "take", "(LMadeLand$Terrain;LMadeLand$Heap;I)V"⟩, 9), (⟨"MadeLand$Water", "takeOthers", "(LMadeLand$Terrain;LMadeLand$Heap;)V"⟩, 9), (⟨"MadeLand$Heap", "sink", "(I)V"⟩, 3), (⟨"MadeLand$Water", "firstTakenBeside", "(LMadeLand$Terrain;I)I"⟩, 9), (⟨"MadeLand$Water", "gatherFlow", "(LMadeLand$Terrain;)V"⟩, 9), (⟨"MadeLand$Water", "kindOf", "(IIII)I"⟩, 9), (⟨"MadeLand$Pools", "spread", "(LMadeLand$Terrain;LMadeLand$Water;I)I"⟩, 4), (⟨"MadeLand$Settlements", "bestPlace", "(LMadeLand$Terrain;I)I"⟩, 3), (⟨"MadeLand$Settlements", "isFarFromAll", "(LMadeLand$Terrain;II)Z"⟩, 3), (⟨"MadeLand$Network", "findCosts", "(LMadeLand$Terrain;LMadeLand$Water;LMadeLand$Heap;II)V"⟩, 8), (⟨"MadeLand$Network", "spreadCosts", "(LMadeLand$Terrain;LMadeLand$Water;LMadeLand$Heap;II)V"⟩, 8)]
theorem lw_r1 : ∀ q ∈ lw_privs_1, lw_okq q := List.forall_mem_cons.mpr ⟨lw_p0, List.forall_mem_cons.mpr ⟨lw_p1, List.forall_mem_cons.mpr ⟨lw_p2, List.forall_mem_cons.mpr ⟨lw_p3, List.forall_mem_cons.mpr ⟨lw_p4, List.forall_mem_cons.mpr ⟨lw_p5, List.forall_mem_cons.mpr ⟨lw_p6, List.forall_mem_cons.mpr ⟨lw_p7, List.forall_mem_cons.mpr ⟨lw_p8, List.forall_mem_cons.mpr ⟨lw_p9, List.forall_mem_cons.mpr ⟨lw_p10, List.forall_mem_cons.mpr ⟨lw_p11, List.forall_mem_cons.mpr ⟨lw_p12, List.forall_mem_cons.mpr ⟨lw_p13, List.forall_mem_cons.mpr ⟨lw_p14, List.forall_mem_cons.mpr ⟨lw_p15, fun _ h => absurd h List.not_mem_nil⟩⟩⟩⟩⟩⟩⟩⟩⟩⟩⟩⟩⟩⟩⟩⟩
theorem lw_p16 : lw_okq (⟨"MadeLand$Network", "stepCost", "(LMadeLand$Terrain;LMadeLand$Water;II)I"⟩, 8) := ⟨⟨by decide +kernel, by decide +kernel⟩, List.mem_of_getElem? (i := 191) (by decide +kernel), List.mem_of_getElem? (i := 500) (by decide +kernel), List.mem_of_getElem? (i := 501) (by decide +kernel)⟩
theorem lw_p17 : lw_okq (⟨"MadeLand$Network", "joinCheapest", "(LMadeLand$Settlements;)V"⟩, 8) := ⟨⟨by decide +kernel, by decide +kernel⟩, List.mem_of_getElem? (i := 191) (by decide +kernel), List.mem_of_getElem? (i := 506) (by decide +kernel), List.mem_of_getElem? (i := 507) (by decide +kernel)⟩
theorem lw_p18 : lw_okq (⟨"MadeLand$Network", "layRoad", "(LMadeLand$Terrain;LMadeLand$Water;II)V"⟩, 8) := ⟨⟨by decide +kernel, by decide +kernel⟩, List.mem_of_getElem? (i := 191) (by decide +kernel), List.mem_of_getElem? (i := 515) (by decide +kernel), List.mem_of_getElem? (i := 516) (by decide +kernel)⟩
theorem lw_p19 : lw_okq (⟨"MadeLand$Network", "nextPlace", "(LMadeLand$Terrain;LMadeLand$Water;II)I"⟩, 8) := ⟨⟨by decide +kernel, by decide +kernel⟩, List.mem_of_getElem? (i := 191) (by decide +kernel), List.mem_of_getElem? (i := 520) (by decide +kernel), List.mem_of_getElem? (i := 521) (by decide +kernel)⟩
theorem lw_p20 : lw_okq (⟨"MadeLand", "signsOf", "(I)I"⟩, 9) := ⟨⟨by decide +kernel, by decide +kernel⟩, List.mem_of_getElem? (i := 14) (by decide +kernel), List.mem_of_getElem? (i := 556) (by decide +kernel), List.mem_of_getElem? (i := 557) (by decide +kernel)⟩
theorem lw_p21 : lw_okq (⟨"MadeLand", "isTown", "(I)Z"⟩, 9) := ⟨⟨by decide +kernel, by decide +kernel⟩, List.mem_of_getElem? (i := 14) (by decide +kernel), List.mem_of_getElem? (i := 594) (by decide +kernel), List.mem_of_getElem? (i := 595) (by decide +kernel)⟩
theorem lw_p22 : lw_okq (⟨"MadeLandModel", "groundAt", "(II)I"⟩, 30) := ⟨⟨by decide +kernel, by decide +kernel⟩, List.mem_of_getElem? (i := 627) (by decide +kernel), List.mem_of_getElem? (i := 737) (by decide +kernel), List.mem_of_getElem? (i := 738) (by decide +kernel)⟩
theorem lw_p23 : lw_okq (⟨"MadeLandModel", "layer", "(III)I"⟩, 30) := ⟨⟨by decide +kernel, by decide +kernel⟩, List.mem_of_getElem? (i := 627) (by decide +kernel), List.mem_of_getElem? (i := 741) (by decide +kernel), List.mem_of_getElem? (i := 742) (by decide +kernel)⟩
theorem lw_p24 : lw_okq (⟨"MadeLandModel", "corner", "(III)I"⟩, 30) := ⟨⟨by decide +kernel, by decide +kernel⟩, List.mem_of_getElem? (i := 627) (by decide +kernel), List.mem_of_getElem? (i := 745) (by decide +kernel), List.mem_of_getElem? (i := 746) (by decide +kernel)⟩
theorem lw_p25 : lw_okq (⟨"MadeLandModel", "isPlace", "(I)Z"⟩, 30) := ⟨⟨by decide +kernel, by decide +kernel⟩, List.mem_of_getElem? (i := 627) (by decide +kernel), List.mem_of_getElem? (i := 767) (by decide +kernel), List.mem_of_getElem? (i := 768) (by decide +kernel)⟩
theorem lw_p26 : lw_okq (⟨"MadeLandModel", "lay", "()V"⟩, 30) := ⟨⟨by decide +kernel, by decide +kernel⟩, List.mem_of_getElem? (i := 627) (by decide +kernel), List.mem_of_getElem? (i := 787) (by decide +kernel), List.mem_of_getElem? (i := 788) (by decide +kernel)⟩
theorem lw_p27 : lw_okq (⟨"MadeLandModel", "layWater", "()V"⟩, 30) := ⟨⟨by decide +kernel, by decide +kernel⟩, List.mem_of_getElem? (i := 627) (by decide +kernel), List.mem_of_getElem? (i := 791) (by decide +kernel), List.mem_of_getElem? (i := 792) (by decide +kernel)⟩
theorem lw_p28 : lw_okq (⟨"MadeLandModel", "isSea", "(I)Z"⟩, 30) := ⟨⟨by decide +kernel, by decide +kernel⟩, List.mem_of_getElem? (i := 627) (by decide +kernel), List.mem_of_getElem? (i := 795) (by decide +kernel), List.mem_of_getElem? (i := 796) (by decide +kernel)⟩
theorem lw_p29 : lw_okq (⟨"MadeLandModel", "isRim", "(I)Z"⟩, 30) := ⟨⟨by decide +kernel, by decide +kernel⟩, List.mem_of_getElem? (i := 627) (by decide +kernel), List.mem_of_getElem? (i := 799) (by decide +kernel), List.mem_of_getElem? (i := 800) (by decide +kernel)⟩
theorem lw_p30 : lw_okq (⟨"MadeLandModel", "take", "(III)V"⟩, 30) := ⟨⟨by decide +kernel, by decide +kernel⟩, List.mem_of_getElem? (i := 627) (by decide +kernel), List.mem_of_getElem? (i := 803) (by decide +kernel), List.mem_of_getElem? (i := 804) (by decide +kernel)⟩
theorem lw_p31 : lw_okq (⟨"MadeLandModel", "lowest", "(I)I"⟩, 30) := ⟨⟨by decide +kernel, by decide +kernel⟩, List.mem_of_getElem? (i := 627) (by decide +kernel), List.mem_of_getElem? (i := 807) (by decide +kernel), List.mem_of_getElem? (i := 808) (by decide +kernel)⟩
def lw_privs_2 : List (MethodName × Nat) := [(⟨"MadeLand$Network", "stepCost", "(LMadeLand$Terrain;LMadeLand$Water;II)I"⟩, 8), (⟨"MadeLand$Network", "joinCheapest", "(LMadeLand$Settlements;)V"⟩, 8), (⟨"MadeLand$Network", "layRoad", "(LMadeLand$Terrain;LMadeLand$Water;II)V"⟩, 8), (⟨"MadeLand$Network", "nextPlace", "(LMadeLand$Terrain;LMadeLand$Water;II)I"⟩, 8), (⟨"MadeLand", "signsOf", "(I)I"⟩, 9), (⟨"MadeLand", "isTown", "(I)Z"⟩, 9), (⟨"MadeLandModel", "groundAt", "(II)I"⟩, 30), (⟨"MadeLandModel", "layer", "(III)I"⟩, 30), (⟨"MadeLandModel", "corner", "(III)I"⟩, 30), (⟨"MadeLandModel", "isPlace", "(I)Z"⟩, 30), (⟨"MadeLandModel", "lay", "()V"⟩, 30), (⟨"MadeLandModel", "layWater", "()V"⟩, 30), (⟨"MadeLandModel", "isSea", "(I)Z"⟩, 30), (⟨"MadeLandModel", "isRim", "(I)Z"⟩, 30), (⟨"MadeLandModel", "take", "(III)V"⟩, 30), (⟨"MadeLandModel", "lowest", "(I)I"⟩, 30)]
theorem lw_r2 : ∀ q ∈ lw_privs_2, lw_okq q := List.forall_mem_cons.mpr ⟨lw_p16, List.forall_mem_cons.mpr ⟨lw_p17, List.forall_mem_cons.mpr ⟨lw_p18, List.forall_mem_cons.mpr ⟨lw_p19, List.forall_mem_cons.mpr ⟨lw_p20, List.forall_mem_cons.mpr ⟨lw_p21, List.forall_mem_cons.mpr ⟨lw_p22, List.forall_mem_cons.mpr ⟨lw_p23, List.forall_mem_cons.mpr ⟨lw_p24, List.forall_mem_cons.mpr ⟨lw_p25, List.forall_mem_cons.mpr ⟨lw_p26, List.forall_mem_cons.mpr ⟨lw_p27, List.forall_mem_cons.mpr ⟨lw_p28, List.forall_mem_cons.mpr ⟨lw_p29, List.forall_mem_cons.mpr ⟨lw_p30, List.forall_mem_cons.mpr ⟨lw_p31, fun _ h => absurd h List.not_mem_nil⟩⟩⟩⟩⟩⟩⟩⟩⟩⟩⟩⟩⟩⟩⟩⟩
theorem lw_p32 : lw_okq (⟨"MadeLandModel", "beside", "(II)I"⟩, 30) := ⟨⟨by decide +kernel, by decide +kernel⟩, List.mem_of_getElem? (i := 627) (by decide +kernel), List.mem_of_getElem? (i := 811) (by decide +kernel), List.mem_of_getElem? (i := 812) (by decide +kernel)⟩
theorem lw_p33 : lw_okq (⟨"MadeLandModel", "water", "(II)I"⟩, 30) := ⟨⟨by decide +kernel, by decide +kernel⟩, List.mem_of_getElem? (i := 627) (by decide +kernel), List.mem_of_getElem? (i := 815) (by decide +kernel), List.mem_of_getElem? (i := 816) (by decide +kernel)⟩
theorem lw_p34 : lw_okq (⟨"MadeLandModel", "layTowns", "()V"⟩, 30) := ⟨⟨by decide +kernel, by decide +kernel⟩, List.mem_of_getElem? (i := 627) (by decide +kernel), List.mem_of_getElem? (i := 819) (by decide +kernel), List.mem_of_getElem? (i := 820) (by decide +kernel)⟩
theorem lw_p35 : lw_okq (⟨"MadeLandModel", "isFar", "(I)Z"⟩, 30) := ⟨⟨by decide +kernel, by decide +kernel⟩, List.mem_of_getElem? (i := 627) (by decide +kernel), List.mem_of_getElem? (i := 823) (by decide +kernel), List.mem_of_getElem? (i := 824) (by decide +kernel)⟩
theorem lw_p36 : lw_okq (⟨"MadeLandModel", "worth", "(I)I"⟩, 30) := ⟨⟨by decide +kernel, by decide +kernel⟩, List.mem_of_getElem? (i := 627) (by decide +kernel), List.mem_of_getElem? (i := 827) (by decide +kernel), List.mem_of_getElem? (i := 828) (by decide +kernel)⟩
theorem lw_p37 : lw_okq (⟨"MadeLandModel", "layNet", "()V"⟩, 30) := ⟨⟨by decide +kernel, by decide +kernel⟩, List.mem_of_getElem? (i := 627) (by decide +kernel), List.mem_of_getElem? (i := 831) (by decide +kernel), List.mem_of_getElem? (i := 832) (by decide +kernel)⟩
theorem lw_p38 : lw_okq (⟨"MadeLandModel", "reckon", "(I)V"⟩, 30) := ⟨⟨by decide +kernel, by decide +kernel⟩, List.mem_of_getElem? (i := 627) (by decide +kernel), List.mem_of_getElem? (i := 835) (by decide +kernel), List.mem_of_getElem? (i := 836) (by decide +kernel)⟩
theorem lw_p39 : lw_okq (⟨"MadeLandModel", "isWay", "(I)Z"⟩, 30) := ⟨⟨by decide +kernel, by decide +kernel⟩, List.mem_of_getElem? (i := 627) (by decide +kernel), List.mem_of_getElem? (i := 839) (by decide +kernel), List.mem_of_getElem? (i := 840) (by decide +kernel)⟩
theorem lw_p40 : lw_okq (⟨"MadeLandModel", "stepCost", "(II)I"⟩, 30) := ⟨⟨by decide +kernel, by decide +kernel⟩, List.mem_of_getElem? (i := 627) (by decide +kernel), List.mem_of_getElem? (i := 843) (by decide +kernel), List.mem_of_getElem? (i := 844) (by decide +kernel)⟩
theorem lw_p41 : lw_okq (⟨"MadeLandModel", "next", "(I)I"⟩, 30) := ⟨⟨by decide +kernel, by decide +kernel⟩, List.mem_of_getElem? (i := 627) (by decide +kernel), List.mem_of_getElem? (i := 847) (by decide +kernel), List.mem_of_getElem? (i := 848) (by decide +kernel)⟩
theorem lw_p42 : lw_okq (⟨"MadeLandModel", "outletOf", "(I)I"⟩, 30) := ⟨⟨by decide +kernel, by decide +kernel⟩, List.mem_of_getElem? (i := 627) (by decide +kernel), List.mem_of_getElem? (i := 851) (by decide +kernel), List.mem_of_getElem? (i := 852) (by decide +kernel)⟩
theorem lw_p43 : lw_okq (⟨"MadeLandModel", "isAll", "(I)I"⟩, 30) := ⟨⟨by decide +kernel, by decide +kernel⟩, List.mem_of_getElem? (i := 627) (by decide +kernel), List.mem_of_getElem? (i := 859) (by decide +kernel), List.mem_of_getElem? (i := 860) (by decide +kernel)⟩
theorem lw_p44 : lw_okq (⟨"MadeLandModel", "layMarks", "()V"⟩, 30) := ⟨⟨by decide +kernel, by decide +kernel⟩, List.mem_of_getElem? (i := 627) (by decide +kernel), List.mem_of_getElem? (i := 871) (by decide +kernel), List.mem_of_getElem? (i := 872) (by decide +kernel)⟩
theorem lw_p45 : lw_okq (⟨"MadeLandModel", "isTown", "(I)Z"⟩, 30) := ⟨⟨by decide +kernel, by decide +kernel⟩, List.mem_of_getElem? (i := 627) (by decide +kernel), List.mem_of_getElem? (i := 887) (by decide +kernel), List.mem_of_getElem? (i := 888) (by decide +kernel)⟩
def lw_privs_3 : List (MethodName × Nat) := [(⟨"MadeLandModel", "beside", "(II)I"⟩, 30), (⟨"MadeLandModel", "water", "(II)I"⟩, 30), (⟨"MadeLandModel", "layTowns", "()V"⟩, 30), (⟨"MadeLandModel", "isFar", "(I)Z"⟩, 30), (⟨"MadeLandModel", "worth", "(I)I"⟩, 30), (⟨"MadeLandModel", "layNet", "()V"⟩, 30), (⟨"MadeLandModel", "reckon", "(I)V"⟩, 30), (⟨"MadeLandModel", "isWay", "(I)Z"⟩, 30), (⟨"MadeLandModel", "stepCost", "(II)I"⟩, 30), (⟨"MadeLandModel", "next", "(I)I"⟩, 30), (⟨"MadeLandModel", "outletOf", "(I)I"⟩, 30), (⟨"MadeLandModel", "isAll", "(I)I"⟩, 30), (⟨"MadeLandModel", "layMarks", "()V"⟩, 30), (⟨"MadeLandModel", "isTown", "(I)Z"⟩, 30)]
theorem lw_r3 : ∀ q ∈ lw_privs_3, lw_okq q := List.forall_mem_cons.mpr ⟨lw_p32, List.forall_mem_cons.mpr ⟨lw_p33, List.forall_mem_cons.mpr ⟨lw_p34, List.forall_mem_cons.mpr ⟨lw_p35, List.forall_mem_cons.mpr ⟨lw_p36, List.forall_mem_cons.mpr ⟨lw_p37, List.forall_mem_cons.mpr ⟨lw_p38, List.forall_mem_cons.mpr ⟨lw_p39, List.forall_mem_cons.mpr ⟨lw_p40, List.forall_mem_cons.mpr ⟨lw_p41, List.forall_mem_cons.mpr ⟨lw_p42, List.forall_mem_cons.mpr ⟨lw_p43, List.forall_mem_cons.mpr ⟨lw_p44, List.forall_mem_cons.mpr ⟨lw_p45, fun _ h => absurd h List.not_mem_nil⟩⟩⟩⟩⟩⟩⟩⟩⟩⟩⟩⟩⟩⟩
def lw_privs : List (MethodName × Nat) := lw_privs_1 ++ (lw_privs_2 ++ (lw_privs_3))
def lw_tbl : List Cond := k2_sels lw_privs ++ tables_1
theorem lw_privs_ok : ∀ q ∈ lw_privs, lw_okq q := by
  show ∀ q ∈ lw_privs_1 ++ (lw_privs_2 ++ (lw_privs_3)), lw_okq q
  exact List.forall_mem_append.mpr ⟨lw_r1, List.forall_mem_append.mpr ⟨lw_r2, lw_r3⟩⟩
def RX0 : String := "MadeLand$Heap"
def TX0 : u_T := fun k => match k with
  | 0 => ("MadeLand$Heap", "keys", "LMadeLand$Row;", true)
  | 1 => ("MadeLand$Heap", "count", "I", false)
  | _ => ("MadeLand$Heap", "lastKey", "I", false)
def tyX0 : Nat → FieldType := fun k => match k with
  | 0 => .object "MadeLand$Row"
  | 1 => .int
  | _ => .int
theorem nmX0 : ∀ a, a < 3 → ∀ b, b < 3 → a ≠ b → (TX0 a).2.1 ≠ (TX0 b).2.1 := by decide +kernel
theorem tyX0_ok : ∀ k, k < 3 → parseFieldDescriptor (TX0 k).2.2.1 = some (tyX0 k) := by decide +kernel
abbrev cX0_init : ByteArray := prog_2_method_1_code
def yX0_init : MethodName := ⟨RX0, "<init>", "()V"⟩
abbrev cX0_empty : ByteArray := prog_2_method_2_code
def yX0_empty : MethodName := ⟨RX0, "empty", "()V"⟩
abbrev cX0_insert : ByteArray := prog_2_method_3_code
def yX0_insert : MethodName := ⟨RX0, "insert", "(II)V"⟩
abbrev cX0_remove : ByteArray := prog_2_method_4_code
def yX0_remove : MethodName := ⟨RX0, "remove", "()Z"⟩
abbrev cX0_removedPlace : ByteArray := prog_2_method_5_code
def yX0_removedPlace : MethodName := ⟨RX0, "removedPlace", "()I"⟩
abbrev cX0_removedRank : ByteArray := prog_2_method_6_code
def yX0_removedRank : MethodName := ⟨RX0, "removedRank", "()I"⟩
abbrev cX0_sink : ByteArray := prog_2_method_7_code
def yX0_sink : MethodName := ⟨RX0, "sink", "(I)V"⟩
def RX1 : String := "MadeLand$Network"
def TX1 : u_T := fun k => match k with
  | 0 => ("MadeLand$Network", "costs", "LMadeLand$Row;", true)
  | 1 => ("MadeLand$Network", "over", "LMadeLand$Row;", true)
  | 2 => ("MadeLand$Network", "isMember", "LMadeLand$Row;", true)
  | 3 => ("MadeLand$Network", "roadEnds", "LMadeLand$Row;", true)
  | 4 => ("MadeLand$Network", "bridge", "I", false)
  | 5 => ("MadeLand$Network", "members", "I", false)
  | 6 => ("MadeLand$Network", "total", "I", false)
  | _ => ("MadeLand$Network", "roadCount", "I", false)
def tyX1 : Nat → FieldType := fun k => match k with
  | 0 => .object "MadeLand$Row"
  | 1 => .object "MadeLand$Row"
  | 2 => .object "MadeLand$Row"
  | 3 => .object "MadeLand$Row"
  | 4 => .int
  | 5 => .int
  | 6 => .int
  | _ => .int
theorem nmX1 : ∀ a, a < 8 → ∀ b, b < 8 → a ≠ b → (TX1 a).2.1 ≠ (TX1 b).2.1 := by decide +kernel
theorem tyX1_ok : ∀ k, k < 8 → parseFieldDescriptor (TX1 k).2.2.1 = some (tyX1 k) := by decide +kernel
abbrev cX1_init : ByteArray := prog_3_method_1_code
def yX1_init : MethodName := ⟨RX1, "<init>", "()V"⟩
abbrev cX1_build : ByteArray := prog_3_method_2_code
def yX1_build : MethodName := ⟨RX1, "build", "(LMadeLand$Terrain;LMadeLand$Water;LMadeLand$Settlements;LMadeLand$Heap;I)V"⟩
abbrev cX1_costOf : ByteArray := prog_3_method_3_code
def yX1_costOf : MethodName := ⟨RX1, "costOf", "(II)I"⟩
abbrev cX1_findCosts : ByteArray := prog_3_method_4_code
def yX1_findCosts : MethodName := ⟨RX1, "findCosts", "(LMadeLand$Terrain;LMadeLand$Water;LMadeLand$Heap;II)V"⟩
abbrev cX1_spreadCosts : ByteArray := prog_3_method_5_code
def yX1_spreadCosts : MethodName := ⟨RX1, "spreadCosts", "(LMadeLand$Terrain;LMadeLand$Water;LMadeLand$Heap;II)V"⟩
abbrev cX1_stepCost : ByteArray := prog_3_method_6_code
def yX1_stepCost : MethodName := ⟨RX1, "stepCost", "(LMadeLand$Terrain;LMadeLand$Water;II)I"⟩
abbrev cX1_nextPlace : ByteArray := prog_3_method_7_code
def yX1_nextPlace : MethodName := ⟨RX1, "nextPlace", "(LMadeLand$Terrain;LMadeLand$Water;II)I"⟩
abbrev cX1_placeOfWay : ByteArray := prog_3_method_8_code
def yX1_placeOfWay : MethodName := ⟨RX1, "placeOfWay", "(LMadeLand$Terrain;LMadeLand$Water;III)I"⟩
abbrev cX1_joinCheapest : ByteArray := prog_3_method_9_code
def yX1_joinCheapest : MethodName := ⟨RX1, "joinCheapest", "(LMadeLand$Settlements;)V"⟩
abbrev cX1_layRoad : ByteArray := prog_3_method_10_code
def yX1_layRoad : MethodName := ⟨RX1, "layRoad", "(LMadeLand$Terrain;LMadeLand$Water;II)V"⟩
abbrev cX1_endOfRoad : ByteArray := prog_3_method_11_code
def yX1_endOfRoad : MethodName := ⟨RX1, "endOfRoad", "(I)I"⟩
def RX2 : String := "MadeLand$Pools"
def TX2 : u_T := fun k => match k with
  | 0 => ("MadeLand$Pools", "pool", "LMadeLand$Row;", true)
  | 1 => ("MadeLand$Pools", "extent", "LMadeLand$Row;", true)
  | 2 => ("MadeLand$Pools", "reached", "LMadeLand$Row;", true)
  | _ => ("MadeLand$Pools", "count", "I", false)
def tyX2 : Nat → FieldType := fun k => match k with
  | 0 => .object "MadeLand$Row"
  | 1 => .object "MadeLand$Row"
  | 2 => .object "MadeLand$Row"
  | _ => .int
theorem nmX2 : ∀ a, a < 4 → ∀ b, b < 4 → a ≠ b → (TX2 a).2.1 ≠ (TX2 b).2.1 := by decide +kernel
theorem tyX2_ok : ∀ k, k < 4 → parseFieldDescriptor (TX2 k).2.2.1 = some (tyX2 k) := by decide +kernel
abbrev cX2_init : ByteArray := prog_4_method_1_code
def yX2_init : MethodName := ⟨RX2, "<init>", "()V"⟩
abbrev cX2_gather : ByteArray := prog_4_method_2_code
def yX2_gather : MethodName := ⟨RX2, "gather", "(LMadeLand$Terrain;LMadeLand$Water;)V"⟩
abbrev cX2_spread : ByteArray := prog_4_method_3_code
def yX2_spread : MethodName := ⟨RX2, "spread", "(LMadeLand$Terrain;LMadeLand$Water;I)I"⟩
abbrev cX2_placesAt : ByteArray := prog_4_method_4_code
def yX2_placesAt : MethodName := ⟨RX2, "placesAt", "(I)I"⟩
def RX3 : String := "MadeLand$Row"
def TX3 : u_T := fun k => match k with
  | _ => ("MadeLand$Row", "cells", "[I", true)
def tyX3 : Nat → FieldType := fun k => match k with
  | _ => .array .int
theorem nmX3 : ∀ a, a < 1 → ∀ b, b < 1 → a ≠ b → (TX3 a).2.1 ≠ (TX3 b).2.1 := by decide +kernel
theorem tyX3_ok : ∀ k, k < 1 → parseFieldDescriptor (TX3 k).2.2.1 = some (tyX3 k) := by decide +kernel
abbrev cX3_init : ByteArray := prog_5_method_1_code
def yX3_init : MethodName := ⟨RX3, "<init>", "(I)V"⟩
abbrev cX3_at : ByteArray := prog_5_method_2_code
def yX3_at : MethodName := ⟨RX3, "at", "(I)I"⟩
abbrev cX3_put : ByteArray := prog_5_method_3_code
def yX3_put : MethodName := ⟨RX3, "put", "(II)V"⟩
abbrev cX3_add : ByteArray := prog_5_method_4_code
def yX3_add : MethodName := ⟨RX3, "add", "(II)V"⟩
abbrev cX3_fill : ByteArray := prog_5_method_5_code
def yX3_fill : MethodName := ⟨RX3, "fill", "(I)V"⟩
def RX4 : String := "MadeLand$Settlements"
def TX4 : u_T := fun k => match k with
  | 0 => ("MadeLand$Settlements", "worth", "LMadeLand$Row;", true)
  | 1 => ("MadeLand$Settlements", "place", "LMadeLand$Row;", true)
  | _ => ("MadeLand$Settlements", "count", "I", false)
def tyX4 : Nat → FieldType := fun k => match k with
  | 0 => .object "MadeLand$Row"
  | 1 => .object "MadeLand$Row"
  | _ => .int
theorem nmX4 : ∀ a, a < 3 → ∀ b, b < 3 → a ≠ b → (TX4 a).2.1 ≠ (TX4 b).2.1 := by decide +kernel
theorem tyX4_ok : ∀ k, k < 3 → parseFieldDescriptor (TX4 k).2.2.1 = some (tyX4 k) := by decide +kernel
abbrev cX4_init : ByteArray := prog_6_method_1_code
def yX4_init : MethodName := ⟨RX4, "<init>", "()V"⟩
abbrev cX4_found : ByteArray := prog_6_method_2_code
def yX4_found : MethodName := ⟨RX4, "found", "(LMadeLand$Terrain;LMadeLand$Water;II)V"⟩
abbrev cX4_worthOf : ByteArray := prog_6_method_3_code
def yX4_worthOf : MethodName := ⟨RX4, "worthOf", "(LMadeLand$Terrain;LMadeLand$Water;I)I"⟩
abbrev cX4_bestPlace : ByteArray := prog_6_method_4_code
def yX4_bestPlace : MethodName := ⟨RX4, "bestPlace", "(LMadeLand$Terrain;I)I"⟩
abbrev cX4_isFarFromAll : ByteArray := prog_6_method_5_code
def yX4_isFarFromAll : MethodName := ⟨RX4, "isFarFromAll", "(LMadeLand$Terrain;II)Z"⟩
abbrev cX4_isAt : ByteArray := prog_6_method_6_code
def yX4_isAt : MethodName := ⟨RX4, "isAt", "(I)Z"⟩
def RX5 : String := "MadeLand$Terrain"
def TX5 : u_T := fun k => match k with
  | 0 => ("MadeLand$Terrain", "seed", "I", false)
  | 1 => ("MadeLand$Terrain", "side", "I", false)
  | 2 => ("MadeLand$Terrain", "places", "I", false)
  | 3 => ("MadeLand$Terrain", "left", "I", false)
  | 4 => ("MadeLand$Terrain", "top", "I", false)
  | 5 => ("MadeLand$Terrain", "changes", "I", false)
  | 6 => ("MadeLand$Terrain", "changeX", "LMadeLand$Row;", true)
  | 7 => ("MadeLand$Terrain", "changeY", "LMadeLand$Row;", true)
  | 8 => ("MadeLand$Terrain", "changeBy", "LMadeLand$Row;", true)
  | 9 => ("MadeLand$Terrain", "column", "LMadeLand$Row;", true)
  | 10 => ("MadeLand$Terrain", "line", "LMadeLand$Row;", true)
  | 11 => ("MadeLand$Terrain", "bare", "LMadeLand$Row;", true)
  | _ => ("MadeLand$Terrain", "height", "LMadeLand$Row;", true)
def tyX5 : Nat → FieldType := fun k => match k with
  | 0 => .int
  | 1 => .int
  | 2 => .int
  | 3 => .int
  | 4 => .int
  | 5 => .int
  | 6 => .object "MadeLand$Row"
  | 7 => .object "MadeLand$Row"
  | 8 => .object "MadeLand$Row"
  | 9 => .object "MadeLand$Row"
  | 10 => .object "MadeLand$Row"
  | 11 => .object "MadeLand$Row"
  | _ => .object "MadeLand$Row"
theorem nmX5 : ∀ a, a < 13 → ∀ b, b < 13 → a ≠ b → (TX5 a).2.1 ≠ (TX5 b).2.1 := by decide +kernel
theorem tyX5_ok : ∀ k, k < 13 → parseFieldDescriptor (TX5 k).2.2.1 = some (tyX5 k) := by decide +kernel
abbrev cX5_init : ByteArray := prog_7_method_1_code
def yX5_init : MethodName := ⟨RX5, "<init>", "()V"⟩
abbrev cX5_hasPlace : ByteArray := prog_7_method_2_code
def yX5_hasPlace : MethodName := ⟨RX5, "hasPlace", "(I)Z"⟩
abbrev cX5_growGround : ByteArray := prog_7_method_3_code
def yX5_growGround : MethodName := ⟨RX5, "growGround", "()V"⟩
abbrev cX5_groundOf : ByteArray := prog_7_method_4_code
def yX5_groundOf : MethodName := ⟨RX5, "groundOf", "(II)I"⟩
abbrev cX5_layerOf : ByteArray := prog_7_method_5_code
def yX5_layerOf : MethodName := ⟨RX5, "layerOf", "(III)I"⟩
abbrev cX5_cornerOf : ByteArray := prog_7_method_6_code
def yX5_cornerOf : MethodName := ⟨RX5, "cornerOf", "(III)I"⟩
abbrev cX5_addChange : ByteArray := prog_7_method_7_code
def yX5_addChange : MethodName := ⟨RX5, "addChange", "(II)V"⟩
abbrev cX5_raiseHeights : ByteArray := prog_7_method_8_code
def yX5_raiseHeights : MethodName := ⟨RX5, "raiseHeights", "()V"⟩
abbrev cX5_beside : ByteArray := prog_7_method_9_code
def yX5_beside : MethodName := ⟨RX5, "beside", "(II)I"⟩
abbrev cX5_isRim : ByteArray := prog_7_method_10_code
def yX5_isRim : MethodName := ⟨RX5, "isRim", "(I)Z"⟩
abbrev cX5_rowsAndColumnsBetween : ByteArray := prog_7_method_11_code
def yX5_rowsAndColumnsBetween : MethodName := ⟨RX5, "rowsAndColumnsBetween", "(II)I"⟩
def RX6 : String := "MadeLand$Water"
def TX6 : u_T := fun k => match k with
  | 0 => ("MadeLand$Water", "level", "LMadeLand$Row;", true)
  | 1 => ("MadeLand$Water", "down", "LMadeLand$Row;", true)
  | 2 => ("MadeLand$Water", "flow", "LMadeLand$Row;", true)
  | 3 => ("MadeLand$Water", "outlet", "LMadeLand$Row;", true)
  | 4 => ("MadeLand$Water", "turn", "LMadeLand$Row;", true)
  | 5 => ("MadeLand$Water", "takenAt", "LMadeLand$Row;", true)
  | 6 => ("MadeLand$Water", "leastBeside", "LMadeLand$Row;", true)
  | 7 => ("MadeLand$Water", "kind", "LMadeLand$Row;", true)
  | _ => ("MadeLand$Water", "taken", "I", false)
def tyX6 : Nat → FieldType := fun k => match k with
  | 0 => .object "MadeLand$Row"
  | 1 => .object "MadeLand$Row"
  | 2 => .object "MadeLand$Row"
  | 3 => .object "MadeLand$Row"
  | 4 => .object "MadeLand$Row"
  | 5 => .object "MadeLand$Row"
  | 6 => .object "MadeLand$Row"
  | 7 => .object "MadeLand$Row"
  | _ => .int
theorem nmX6 : ∀ a, a < 9 → ∀ b, b < 9 → a ≠ b → (TX6 a).2.1 ≠ (TX6 b).2.1 := by decide +kernel
theorem tyX6_ok : ∀ k, k < 9 → parseFieldDescriptor (TX6 k).2.2.1 = some (tyX6 k) := by decide +kernel
abbrev cX6_init : ByteArray := prog_8_method_1_code
def yX6_init : MethodName := ⟨RX6, "<init>", "()V"⟩
abbrev cX6_run : ByteArray := prog_8_method_2_code
def yX6_run : MethodName := ⟨RX6, "run", "(LMadeLand$Terrain;LMadeLand$Heap;II)V"⟩
abbrev cX6_takeOutlets : ByteArray := prog_8_method_3_code
def yX6_takeOutlets : MethodName := ⟨RX6, "takeOutlets", "(LMadeLand$Terrain;LMadeLand$Heap;I)V"⟩
abbrev cX6_takeOthers : ByteArray := prog_8_method_4_code
def yX6_takeOthers : MethodName := ⟨RX6, "takeOthers", "(LMadeLand$Terrain;LMadeLand$Heap;)V"⟩
abbrev cX6_take : ByteArray := prog_8_method_5_code
def yX6_take : MethodName := ⟨RX6, "take", "(LMadeLand$Terrain;LMadeLand$Heap;I)V"⟩
abbrev cX6_firstTakenBeside : ByteArray := prog_8_method_6_code
def yX6_firstTakenBeside : MethodName := ⟨RX6, "firstTakenBeside", "(LMadeLand$Terrain;I)I"⟩
abbrev cX6_gatherFlow : ByteArray := prog_8_method_7_code
def yX6_gatherFlow : MethodName := ⟨RX6, "gatherFlow", "(LMadeLand$Terrain;)V"⟩
abbrev cX6_kindOf : ByteArray := prog_8_method_8_code
def yX6_kindOf : MethodName := ⟨RX6, "kindOf", "(IIII)I"⟩
abbrev cX6_isPassable : ByteArray := prog_8_method_9_code
def yX6_isPassable : MethodName := ⟨RX6, "isPassable", "(I)Z"⟩
def RX7 : String := "MadeLand"
def TX7 : u_T := fun k => match k with
  | 0 => ("MadeLand", "terrain", "LMadeLand$Terrain;", true)
  | 1 => ("MadeLand", "water", "LMadeLand$Water;", true)
  | 2 => ("MadeLand", "pools", "LMadeLand$Pools;", true)
  | 3 => ("MadeLand", "settlements", "LMadeLand$Settlements;", true)
  | 4 => ("MadeLand", "network", "LMadeLand$Network;", true)
  | 5 => ("MadeLand", "heap", "LMadeLand$Heap;", true)
  | 6 => ("MadeLand", "rules", "LMadeLand$Row;", true)
  | 7 => ("MadeLand", "wanted", "I", false)
  | _ => ("MadeLand", "made", "I", false)
def tyX7 : Nat → FieldType := fun k => match k with
  | 0 => .object "MadeLand$Terrain"
  | 1 => .object "MadeLand$Water"
  | 2 => .object "MadeLand$Pools"
  | 3 => .object "MadeLand$Settlements"
  | 4 => .object "MadeLand$Network"
  | 5 => .object "MadeLand$Heap"
  | 6 => .object "MadeLand$Row"
  | 7 => .int
  | _ => .int
theorem nmX7 : ∀ a, a < 9 → ∀ b, b < 9 → a ≠ b → (TX7 a).2.1 ≠ (TX7 b).2.1 := by decide +kernel
theorem tyX7_ok : ∀ k, k < 9 → parseFieldDescriptor (TX7 k).2.2.1 = some (tyX7 k) := by decide +kernel
abbrev cX7_init : ByteArray := prog_1_method_1_code
def yX7_init : MethodName := ⟨RX7, "<init>", "()V"⟩
abbrev cX7_seed : ByteArray := prog_1_method_2_code
def yX7_seed : MethodName := ⟨RX7, "seed", "(I)I"⟩
abbrev cX7_ground : ByteArray := prog_1_method_3_code
def yX7_ground : MethodName := ⟨RX7, "ground", "(II)I"⟩
abbrev cX7_size : ByteArray := prog_1_method_4_code
def yX7_size : MethodName := ⟨RX7, "size", "(I)I"⟩
abbrev cX7_window : ByteArray := prog_1_method_5_code
def yX7_window : MethodName := ⟨RX7, "window", "(II)I"⟩
abbrev cX7_change : ByteArray := prog_1_method_6_code
def yX7_change : MethodName := ⟨RX7, "change", "(II)I"⟩
abbrev cX7_changed : ByteArray := prog_1_method_7_code
def yX7_changed : MethodName := ⟨RX7, "changed", "(II)I"⟩
abbrev cX7_undo : ByteArray := prog_1_method_8_code
def yX7_undo : MethodName := ⟨RX7, "undo", "()I"⟩
abbrev cX7_rule : ByteArray := prog_1_method_9_code
def yX7_rule : MethodName := ⟨RX7, "rule", "(II)I"⟩
abbrev cX7_about : ByteArray := prog_1_method_10_code
def yX7_about : MethodName := ⟨RX7, "about", "(II)I"⟩
abbrev cX7_is : ByteArray := prog_1_method_11_code
def yX7_is : MethodName := ⟨RX7, "is", "(I)I"⟩
abbrev cX7_many : ByteArray := prog_1_method_12_code
def yX7_many : MethodName := ⟨RX7, "many", "(I)I"⟩
abbrev cX7_lakes : ByteArray := prog_1_method_13_code
def yX7_lakes : MethodName := ⟨RX7, "lakes", "()I"⟩
abbrev cX7_lake : ByteArray := prog_1_method_14_code
def yX7_lake : MethodName := ⟨RX7, "lake", "(I)I"⟩
abbrev cX7_towns : ByteArray := prog_1_method_15_code
def yX7_towns : MethodName := ⟨RX7, "towns", "(I)I"⟩
abbrev cX7_town : ByteArray := prog_1_method_16_code
def yX7_town : MethodName := ⟨RX7, "town", "(I)I"⟩
abbrev cX7_cost : ByteArray := prog_1_method_17_code
def yX7_cost : MethodName := ⟨RX7, "cost", "(II)I"⟩
abbrev cX7_way : ByteArray := prog_1_method_18_code
def yX7_way : MethodName := ⟨RX7, "way", "(III)I"⟩
abbrev cX7_net : ByteArray := prog_1_method_19_code
def yX7_net : MethodName := ⟨RX7, "net", "(I)I"⟩
abbrev cX7_roads : ByteArray := prog_1_method_20_code
def yX7_roads : MethodName := ⟨RX7, "roads", "(I)I"⟩
abbrev cX7_told : ByteArray := prog_1_method_21_code
def yX7_told : MethodName := ⟨RX7, "told", "(I)I"⟩
abbrev cX7_within : ByteArray := prog_1_method_22_code
def yX7_within : MethodName := ⟨RX7, "within", "(III)Z"⟩
abbrev cX7_stageAhead : ByteArray := prog_1_method_23_code
def yX7_stageAhead : MethodName := ⟨RX7, "stageAhead", "(I)I"⟩
abbrev cX7_keepUpTo : ByteArray := prog_1_method_24_code
def yX7_keepUpTo : MethodName := ⟨RX7, "keepUpTo", "(I)V"⟩
abbrev cX7_makeUpTo : ByteArray := prog_1_method_25_code
def yX7_makeUpTo : MethodName := ⟨RX7, "makeUpTo", "(I)V"⟩
abbrev cX7_isTown : ByteArray := prog_1_method_26_code
def yX7_isTown : MethodName := ⟨RX7, "isTown", "(I)Z"⟩
abbrev cX7_signsOf : ByteArray := prog_1_method_27_code
def yX7_signsOf : MethodName := ⟨RX7, "signsOf", "(I)I"⟩
def RX8 : String := "MadeLandModel"
def TX8 : u_T := fun k => match k with
  | 0 => ("MadeLandModel", "seed", "I", false)
  | 1 => ("MadeLandModel", "n", "I", false)
  | 2 => ("MadeLandModel", "atX", "I", false)
  | 3 => ("MadeLandModel", "atY", "I", false)
  | 4 => ("MadeLandModel", "rule", "[I", true)
  | 5 => ("MadeLandModel", "wanted", "I", false)
  | 6 => ("MadeLandModel", "changes", "I", false)
  | 7 => ("MadeLandModel", "changeX", "[I", true)
  | 8 => ("MadeLandModel", "changeY", "[I", true)
  | 9 => ("MadeLandModel", "changeBy", "[I", true)
  | 10 => ("MadeLandModel", "isLaid", "Z", false)
  | 11 => ("MadeLandModel", "height", "[I", true)
  | 12 => ("MadeLandModel", "level", "[I", true)
  | 13 => ("MadeLandModel", "down", "[I", true)
  | 14 => ("MadeLandModel", "order", "[I", true)
  | 15 => ("MadeLandModel", "turn", "[I", true)
  | 16 => ("MadeLandModel", "flow", "[I", true)
  | 17 => ("MadeLandModel", "kind", "[I", true)
  | 18 => ("MadeLandModel", "taken", "I", false)
  | 19 => ("MadeLandModel", "towns", "I", false)
  | 20 => ("MadeLandModel", "town", "[I", true)
  | 21 => ("MadeLandModel", "inNet", "I", false)
  | 22 => ("MadeLandModel", "netCost", "I", false)
  | 23 => ("MadeLandModel", "netRoads", "I", false)
  | 24 => ("MadeLandModel", "roadFrom", "[I", true)
  | 25 => ("MadeLandModel", "roadTo", "[I", true)
  | 26 => ("MadeLandModel", "roads", "[I", true)
  | 27 => ("MadeLandModel", "left", "[I", true)
  | 28 => ("MadeLandModel", "isDone", "[Z", true)
  | _ => ("MadeLandModel", "mark", "[I", true)
def tyX8 : Nat → FieldType := fun k => match k with
  | 0 => .int
  | 1 => .int
  | 2 => .int
  | 3 => .int
  | 4 => .array .int
  | 5 => .int
  | 6 => .int
  | 7 => .array .int
  | 8 => .array .int
  | 9 => .array .int
  | 10 => .boolean
  | 11 => .array .int
  | 12 => .array .int
  | 13 => .array .int
  | 14 => .array .int
  | 15 => .array .int
  | 16 => .array .int
  | 17 => .array .int
  | 18 => .int
  | 19 => .int
  | 20 => .array .int
  | 21 => .int
  | 22 => .int
  | 23 => .int
  | 24 => .array .int
  | 25 => .array .int
  | 26 => .array .int
  | 27 => .array .int
  | 28 => .array .boolean
  | _ => .array .int
theorem nmX8 : ∀ a, a < 30 → ∀ b, b < 30 → a ≠ b → (TX8 a).2.1 ≠ (TX8 b).2.1 := by decide +kernel
theorem tyX8_ok : ∀ k, k < 30 → parseFieldDescriptor (TX8 k).2.2.1 = some (tyX8 k) := by decide +kernel
abbrev cX8_init : ByteArray := prog_10_method_1_code
def yX8_init : MethodName := ⟨RX8, "<init>", "()V"⟩
abbrev cX8_in : ByteArray := prog_10_method_2_code
def yX8_in : MethodName := ⟨RX8, "in", "(III)Z"⟩
abbrev cX8_isPlace : ByteArray := prog_10_method_3_code
def yX8_isPlace : MethodName := ⟨RX8, "isPlace", "(I)Z"⟩
abbrev cX8_seed : ByteArray := prog_10_method_4_code
def yX8_seed : MethodName := ⟨RX8, "seed", "(I)I"⟩
abbrev cX8_corner : ByteArray := prog_10_method_5_code
def yX8_corner : MethodName := ⟨RX8, "corner", "(III)I"⟩
abbrev cX8_layer : ByteArray := prog_10_method_6_code
def yX8_layer : MethodName := ⟨RX8, "layer", "(III)I"⟩
abbrev cX8_groundAt : ByteArray := prog_10_method_7_code
def yX8_groundAt : MethodName := ⟨RX8, "groundAt", "(II)I"⟩
abbrev cX8_ground : ByteArray := prog_10_method_8_code
def yX8_ground : MethodName := ⟨RX8, "ground", "(II)I"⟩
abbrev cX8_size : ByteArray := prog_10_method_9_code
def yX8_size : MethodName := ⟨RX8, "size", "(I)I"⟩
abbrev cX8_window : ByteArray := prog_10_method_10_code
def yX8_window : MethodName := ⟨RX8, "window", "(II)I"⟩
abbrev cX8_change : ByteArray := prog_10_method_11_code
def yX8_change : MethodName := ⟨RX8, "change", "(II)I"⟩
abbrev cX8_changed : ByteArray := prog_10_method_12_code
def yX8_changed : MethodName := ⟨RX8, "changed", "(II)I"⟩
abbrev cX8_undo : ByteArray := prog_10_method_13_code
def yX8_undo : MethodName := ⟨RX8, "undo", "()I"⟩
abbrev cX8_rule : ByteArray := prog_10_method_14_code
def yX8_rule : MethodName := ⟨RX8, "rule", "(II)I"⟩
abbrev cX8_beside : ByteArray := prog_10_method_15_code
def yX8_beside : MethodName := ⟨RX8, "beside", "(II)I"⟩
abbrev cX8_isSea : ByteArray := prog_10_method_16_code
def yX8_isSea : MethodName := ⟨RX8, "isSea", "(I)Z"⟩
abbrev cX8_isRim : ByteArray := prog_10_method_17_code
def yX8_isRim : MethodName := ⟨RX8, "isRim", "(I)Z"⟩
abbrev cX8_take : ByteArray := prog_10_method_18_code
def yX8_take : MethodName := ⟨RX8, "take", "(III)V"⟩
abbrev cX8_lowest : ByteArray := prog_10_method_19_code
def yX8_lowest : MethodName := ⟨RX8, "lowest", "(I)I"⟩
abbrev cX8_water : ByteArray := prog_10_method_20_code
def yX8_water : MethodName := ⟨RX8, "water", "(II)I"⟩
abbrev cX8_layWater : ByteArray := prog_10_method_21_code
def yX8_layWater : MethodName := ⟨RX8, "layWater", "()V"⟩
abbrev cX8_worth : ByteArray := prog_10_method_22_code
def yX8_worth : MethodName := ⟨RX8, "worth", "(I)I"⟩
abbrev cX8_isFar : ByteArray := prog_10_method_23_code
def yX8_isFar : MethodName := ⟨RX8, "isFar", "(I)Z"⟩
abbrev cX8_layTowns : ByteArray := prog_10_method_24_code
def yX8_layTowns : MethodName := ⟨RX8, "layTowns", "()V"⟩
abbrev cX8_stepCost : ByteArray := prog_10_method_25_code
def yX8_stepCost : MethodName := ⟨RX8, "stepCost", "(II)I"⟩
abbrev cX8_isWay : ByteArray := prog_10_method_26_code
def yX8_isWay : MethodName := ⟨RX8, "isWay", "(I)Z"⟩
abbrev cX8_reckon : ByteArray := prog_10_method_27_code
def yX8_reckon : MethodName := ⟨RX8, "reckon", "(I)V"⟩
abbrev cX8_next : ByteArray := prog_10_method_28_code
def yX8_next : MethodName := ⟨RX8, "next", "(I)I"⟩
abbrev cX8_layNet : ByteArray := prog_10_method_29_code
def yX8_layNet : MethodName := ⟨RX8, "layNet", "()V"⟩
abbrev cX8_lay : ByteArray := prog_10_method_30_code
def yX8_lay : MethodName := ⟨RX8, "lay", "()V"⟩
abbrev cX8_outletOf : ByteArray := prog_10_method_31_code
def yX8_outletOf : MethodName := ⟨RX8, "outletOf", "(I)I"⟩
abbrev cX8_about : ByteArray := prog_10_method_32_code
def yX8_about : MethodName := ⟨RX8, "about", "(II)I"⟩
abbrev cX8_isAll : ByteArray := prog_10_method_33_code
def yX8_isAll : MethodName := ⟨RX8, "isAll", "(I)I"⟩
abbrev cX8_is : ByteArray := prog_10_method_34_code
def yX8_is : MethodName := ⟨RX8, "is", "(I)I"⟩
abbrev cX8_many : ByteArray := prog_10_method_35_code
def yX8_many : MethodName := ⟨RX8, "many", "(I)I"⟩
abbrev cX8_layMarks : ByteArray := prog_10_method_36_code
def yX8_layMarks : MethodName := ⟨RX8, "layMarks", "()V"⟩
abbrev cX8_lakes : ByteArray := prog_10_method_37_code
def yX8_lakes : MethodName := ⟨RX8, "lakes", "()I"⟩
abbrev cX8_lake : ByteArray := prog_10_method_38_code
def yX8_lake : MethodName := ⟨RX8, "lake", "(I)I"⟩
abbrev cX8_towns : ByteArray := prog_10_method_39_code
def yX8_towns : MethodName := ⟨RX8, "towns", "(I)I"⟩
abbrev cX8_isTown : ByteArray := prog_10_method_40_code
def yX8_isTown : MethodName := ⟨RX8, "isTown", "(I)Z"⟩
abbrev cX8_town : ByteArray := prog_10_method_41_code
def yX8_town : MethodName := ⟨RX8, "town", "(I)I"⟩
abbrev cX8_cost : ByteArray := prog_10_method_42_code
def yX8_cost : MethodName := ⟨RX8, "cost", "(II)I"⟩
abbrev cX8_way : ByteArray := prog_10_method_43_code
def yX8_way : MethodName := ⟨RX8, "way", "(III)I"⟩
abbrev cX8_net : ByteArray := prog_10_method_44_code
def yX8_net : MethodName := ⟨RX8, "net", "(I)I"⟩
abbrev cX8_roads : ByteArray := prog_10_method_45_code
def yX8_roads : MethodName := ⟨RX8, "roads", "(I)I"⟩
abbrev cX8_told : ByteArray := prog_10_method_46_code
def yX8_told : MethodName := ⟨RX8, "told", "(I)I"⟩
def RJ6 : String := "java/lang/Integer"
abbrev cJ6_bitCount_0f7a4 : ByteArray := prog_11_method_49_code
def yJ6_bitCount_0f7a4 : MethodName := ⟨RJ6, "bitCount", "(I)I"⟩
def RJ9 : String := "java/lang/Math"
abbrev cJ9_abs_0f7a4 : ByteArray := prog_12_method_59_code
def yJ9_abs_0f7a4 : MethodName := ⟨RJ9, "abs", "(I)I"⟩
abbrev cJ9_max_7cf53 : ByteArray := prog_12_method_65_code
def yJ9_max_7cf53 : MethodName := ⟨RJ9, "max", "(II)I"⟩
abbrev cJ9_min_7cf53 : ByteArray := prog_12_method_69_code
def yJ9_min_7cf53 : MethodName := ⟨RJ9, "min", "(II)I"⟩
def RJ7 : String := "java/util/Arrays"
abbrev cJ7_fill_53178 : ByteArray := prog_13_method_103_code
def yJ7_fill_53178 : MethodName := ⟨RJ7, "fill", "([II)V"⟩
def RL : String := "MadeLandLaw"
abbrev cL_law : ByteArray := code
def yL_law : MethodName := ⟨RL, "law", "([I)Z"⟩
abbrev vwCl : List vw_C := [(RX0, TX0, 3), (RX1, TX1, 8), (RX2, TX2, 4), (RX3, TX3, 1), (RX4, TX4, 3), (RX5, TX5, 13), (RX6, TX6, 9), (RX7, TX7, 9), (RX8, TX8, 30)]
