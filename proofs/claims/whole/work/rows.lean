section
-- ===== PART A: goes FIRST, ahead of the names: the tables' words, and 'selects' of the private methods out of them =====
/-- a private method of a class that the tables say can be made, by its rows of tables_1 -/
def lw_okq (q : MethodName × Nat) : Prop := (q.1.cls ≠ "java/lang/invoke/MethodHandle" ∧ q.1.cls ≠ "java/lang/invoke/VarHandle") ∧ Cond.instantiable q.1.cls q.2 ∈ tables_1 ∧ Cond.privateMethod q.1 ∈ tables_1 ∧ Cond.instanceMethod q.1 ∈ tables_1
theorem lw_p0 : lw_okq (⟨"MadeLand", "keepUpTo", "(I)V"⟩, 9) := ⟨⟨by decide +kernel, by decide +kernel⟩, List.mem_of_getElem? (i := 14) (by decide +kernel), List.mem_of_getElem? (i := 286) (by decide +kernel), List.mem_of_getElem? (i := 287) (by decide +kernel)⟩
theorem lw_p1 : lw_okq (⟨"MadeLand$Terrain", "layerOf", "(III)I"⟩, 13) := ⟨⟨by decide +kernel, by decide +kernel⟩, List.mem_of_getElem? (i := 22) (by decide +kernel), List.mem_of_getElem? (i := 305) (by decide +kernel), List.mem_of_getElem? (i := 306) (by decide +kernel)⟩
theorem lw_p2 : lw_okq (⟨"MadeLand$Terrain", "cornerOf", "(III)I"⟩, 13) := ⟨⟨by decide +kernel, by decide +kernel⟩, List.mem_of_getElem? (i := 22) (by decide +kernel), List.mem_of_getElem? (i := 309) (by decide +kernel), List.mem_of_getElem? (i := 310) (by decide +kernel)⟩
theorem lw_p3 : lw_okq (⟨"MadeLand", "makeUpTo", "(I)V"⟩, 9) := ⟨⟨by decide +kernel, by decide +kernel⟩, List.mem_of_getElem? (i := 14) (by decide +kernel), List.mem_of_getElem? (i := 335) (by decide +kernel), List.mem_of_getElem? (i := 336) (by decide +kernel)⟩
theorem lw_p4 : lw_okq (⟨"MadeLand$Water", "takeOutlets", "(LMadeLand$Terrain;LMadeLand$Heap;I)V"⟩, 9) := ⟨⟨by decide +kernel, by decide +kernel⟩, List.mem_of_getElem? (i := 99) (by decide +kernel), List.mem_of_getElem? (i := 379) (by decide +kernel), List.mem_of_getElem? (i := 380) (by decide +kernel)⟩
theorem lw_p5 : lw_okq (⟨"MadeLand$Water", "take", "(LMadeLand$Terrain;LMadeLand$Heap;I)V"⟩, 9) := ⟨⟨by decide +kernel, by decide +kernel⟩, List.mem_of_getElem? (i := 99) (by decide +kernel), List.mem_of_getElem? (i := 389) (by decide +kernel), List.mem_of_getElem? (i := 390) (by decide +kernel)⟩
theorem lw_p6 : lw_okq (⟨"MadeLand$Water", "takeOthers", "(LMadeLand$Terrain;LMadeLand$Heap;)V"⟩, 9) := ⟨⟨by decide +kernel, by decide +kernel⟩, List.mem_of_getElem? (i := 99) (by decide +kernel), List.mem_of_getElem? (i := 404) (by decide +kernel), List.mem_of_getElem? (i := 405) (by decide +kernel)⟩
theorem lw_p7 : lw_okq (⟨"MadeLand$Heap", "sink", "(I)V"⟩, 3) := ⟨⟨by decide +kernel, by decide +kernel⟩, List.mem_of_getElem? (i := 228) (by decide +kernel), List.mem_of_getElem? (i := 412) (by decide +kernel), List.mem_of_getElem? (i := 413) (by decide +kernel)⟩
theorem lw_p8 : lw_okq (⟨"MadeLand$Water", "firstTakenBeside", "(LMadeLand$Terrain;I)I"⟩, 9) := ⟨⟨by decide +kernel, by decide +kernel⟩, List.mem_of_getElem? (i := 99) (by decide +kernel), List.mem_of_getElem? (i := 424) (by decide +kernel), List.mem_of_getElem? (i := 425) (by decide +kernel)⟩
theorem lw_p9 : lw_okq (⟨"MadeLand$Water", "gatherFlow", "(LMadeLand$Terrain;)V"⟩, 9) := ⟨⟨by decide +kernel, by decide +kernel⟩, List.mem_of_getElem? (i := 99) (by decide +kernel), List.mem_of_getElem? (i := 428) (by decide +kernel), List.mem_of_getElem? (i := 429) (by decide +kernel)⟩
theorem lw_p10 : lw_okq (⟨"MadeLand$Water", "kindOf", "(IIII)I"⟩, 9) := ⟨⟨by decide +kernel, by decide +kernel⟩, List.mem_of_getElem? (i := 99) (by decide +kernel), List.mem_of_getElem? (i := 433) (by decide +kernel), List.mem_of_getElem? (i := 434) (by decide +kernel)⟩
theorem lw_p11 : lw_okq (⟨"MadeLand$Pools", "spread", "(LMadeLand$Terrain;LMadeLand$Water;I)I"⟩, 4) := ⟨⟨by decide +kernel, by decide +kernel⟩, List.mem_of_getElem? (i := 146) (by decide +kernel), List.mem_of_getElem? (i := 443) (by decide +kernel), List.mem_of_getElem? (i := 444) (by decide +kernel)⟩
theorem lw_p12 : lw_okq (⟨"MadeLand$Settlements", "bestPlace", "(LMadeLand$Terrain;I)I"⟩, 3) := ⟨⟨by decide +kernel, by decide +kernel⟩, List.mem_of_getElem? (i := 168) (by decide +kernel), List.mem_of_getElem? (i := 461) (by decide +kernel), List.mem_of_getElem? (i := 462) (by decide +kernel)⟩
theorem lw_p13 : lw_okq (⟨"MadeLand$Settlements", "isFarFromAll", "(LMadeLand$Terrain;II)Z"⟩, 3) := ⟨⟨by decide +kernel, by decide +kernel⟩, List.mem_of_getElem? (i := 168) (by decide +kernel), List.mem_of_getElem? (i := 465) (by decide +kernel), List.mem_of_getElem? (i := 466) (by decide +kernel)⟩
theorem lw_p14 : lw_okq (⟨"MadeLand$Network", "findCosts", "(LMadeLand$Terrain;LMadeLand$Water;LMadeLand$Heap;II)V"⟩, 8) := ⟨⟨by decide +kernel, by decide +kernel⟩, List.mem_of_getElem? (i := 191) (by decide +kernel), List.mem_of_getElem? (i := 481) (by decide +kernel), List.mem_of_getElem? (i := 482) (by decide +kernel)⟩
theorem lw_p15 : lw_okq (⟨"MadeLand$Network", "spreadCosts", "(LMadeLand$Terrain;LMadeLand$Water;LMadeLand$Heap;II)V"⟩, 8) := ⟨⟨by decide +kernel, by decide +kernel⟩, List.mem_of_getElem? (i := 191) (by decide +kernel), List.mem_of_getElem? (i := 491) (by decide +kernel), List.mem_of_getElem? (i := 492) (by decide +kernel)⟩
def lw_privs_1 : List (MethodName × Nat) := [(⟨"MadeLand", "keepUpTo", "(I)V"⟩, 9), (⟨"MadeLand$Terrain", "layerOf", "(III)I"⟩, 13), (⟨"MadeLand$Terrain", "cornerOf", "(III)I"⟩, 13), (⟨"MadeLand", "makeUpTo", "(I)V"⟩, 9), (⟨"MadeLand$Water", "takeOutlets", "(LMadeLand$Terrain;LMadeLand$Heap;I)V"⟩, 9), (⟨"MadeLand$Water", "take", "(LMadeLand$Terrain;LMadeLand$Heap;I)V"⟩, 9), (⟨"MadeLand$Water", "takeOthers", "(LMadeLand$Terrain;LMadeLand$Heap;)V"⟩, 9), (⟨"MadeLand$Heap", "sink", "(I)V"⟩, 3), (⟨"MadeLand$Water", "firstTakenBeside", "(LMadeLand$Terrain;I)I"⟩, 9), (⟨"MadeLand$Water", "gatherFlow", "(LMadeLand$Terrain;)V"⟩, 9), (⟨"MadeLand$Water", "kindOf", "(IIII)I"⟩, 9), (⟨"MadeLand$Pools", "spread", "(LMadeLand$Terrain;LMadeLand$Water;I)I"⟩, 4), (⟨"MadeLand$Settlements", "bestPlace", "(LMadeLand$Terrain;I)I"⟩, 3), (⟨"MadeLand$Settlements", "isFarFromAll", "(LMadeLand$Terrain;II)Z"⟩, 3), (⟨"MadeLand$Network", "findCosts", "(LMadeLand$Terrain;LMadeLand$Water;LMadeLand$Heap;II)V"⟩, 8), (⟨"MadeLand$Network", "spreadCosts", "(LMadeLand$Terrain;LMadeLand$Water;LMadeLand$Heap;II)V"⟩, 8)]
theorem lw_r1 : ∀ q ∈ lw_privs_1, lw_okq q := List.forall_mem_cons.mpr ⟨lw_p0, List.forall_mem_cons.mpr ⟨lw_p1, List.forall_mem_cons.mpr ⟨lw_p2, List.forall_mem_cons.mpr ⟨lw_p3, List.forall_mem_cons.mpr ⟨lw_p4, List.forall_mem_cons.mpr ⟨lw_p5, List.forall_mem_cons.mpr ⟨lw_p6, List.forall_mem_cons.mpr ⟨lw_p7, List.forall_mem_cons.mpr ⟨lw_p8, List.forall_mem_cons.mpr ⟨lw_p9, List.forall_mem_cons.mpr ⟨lw_p10, List.forall_mem_cons.mpr ⟨lw_p11, List.forall_mem_cons.mpr ⟨lw_p12, List.forall_mem_cons.mpr ⟨lw_p13, List.forall_mem_cons.mpr ⟨lw_p14, List.forall_mem_cons.mpr ⟨lw_p15, fun _ h => absurd h List.not_mem_nil⟩⟩⟩⟩⟩⟩⟩⟩⟩⟩⟩⟩⟩⟩⟩⟩
theorem lw_p16 : lw_okq (⟨"MadeLand$Network", "stepCost", "(LMadeLand$Terrain;LMadeLand$Water;II)I"⟩, 8) := ⟨⟨by decide +kernel, by decide +kernel⟩, List.mem_of_getElem? (i := 191) (by decide +kernel), List.mem_of_getElem? (i := 500) (by decide +kernel), List.mem_of_getElem? (i := 501) (by decide +kernel)⟩
theorem lw_p17 : lw_okq (⟨"MadeLand$Network", "joinCheapest", "(LMadeLand$Settlements;)V"⟩, 8) := ⟨⟨by decide +kernel, by decide +kernel⟩, List.mem_of_getElem? (i := 191) (by decide +kernel), List.mem_of_getElem? (i := 506) (by decide +kernel), List.mem_of_getElem? (i := 507) (by decide +kernel)⟩
theorem lw_p18 : lw_okq (⟨"MadeLand$Network", "layRoad", "(LMadeLand$Terrain;LMadeLand$Water;II)V"⟩, 8) := ⟨⟨by decide +kernel, by decide +kernel⟩, List.mem_of_getElem? (i := 191) (by decide +kernel), List.mem_of_getElem? (i := 515) (by decide +kernel), List.mem_of_getElem? (i := 516) (by decide +kernel)⟩
theorem lw_p19 : lw_okq (⟨"MadeLand$Network", "nextPlace", "(LMadeLand$Terrain;LMadeLand$Water;II)I"⟩, 8) := ⟨⟨by decide +kernel, by decide +kernel⟩, List.mem_of_getElem? (i := 191) (by decide +kernel), List.mem_of_getElem? (i := 520) (by decide +kernel), List.mem_of_getElem? (i := 521) (by decide +kernel)⟩
theorem lw_p20 : lw_okq (⟨"MadeLand", "signsOf", "(I)I"⟩, 9) := ⟨⟨by decide +kernel, by decide +kernel⟩, List.mem_of_getElem? (i := 14) (by decide +kernel), List.mem_of_getElem? (i := 556) (by decide +kernel), List.mem_of_getElem? (i := 557) (by decide +kernel)⟩
theorem lw_p21 : lw_okq (⟨"MadeLand", "isTown", "(I)Z"⟩, 9) := ⟨⟨by decide +kernel, by decide +kernel⟩, List.mem_of_getElem? (i := 14) (by decide +kernel), List.mem_of_getElem? (i := 594) (by decide +kernel), List.mem_of_getElem? (i := 595) (by decide +kernel)⟩
theorem lw_p22 : lw_okq (⟨"MadeLandModel", "groundAt", "(II)I"⟩, 30) := ⟨⟨by decide +kernel, by decide +kernel⟩, List.mem_of_getElem? (i := 627) (by decide +kernel), List.mem_of_getElem? (i := 737) (by decide +kernel), List.mem_of_getElem? (i := 738) (by decide +kernel)⟩
theorem lw_p23 : lw_okq (⟨"MadeLandModel", "layer", "(III)I"⟩, 30) := ⟨⟨by decide +kernel, by decide +kernel⟩, List.mem_of_getElem? (i := 627) (by decide +kernel), List.mem_of_getElem? (i := 741) (by decide +kernel), List.mem_of_getElem? (i := 742) (by decide +kernel)⟩
theorem lw_p24 : lw_okq (⟨"MadeLandModel", "corner", "(III)I"⟩, 30) := ⟨⟨by decide +kernel, by decide +kernel⟩, List.mem_of_getElem? (i := 627) (by decide +kernel), List.mem_of_getElem? (i := 745) (by decide +kernel), List.mem_of_getElem? (i := 746) (by decide +kernel)⟩
theorem lw_p25 : lw_okq (⟨"MadeLandModel", "isPlace", "(I)Z"⟩, 30) := ⟨⟨by decide +kernel, by decide +kernel⟩, List.mem_of_getElem? (i := 627) (by decide +kernel), List.mem_of_getElem? (i := 767) (by decide +kernel), List.mem_of_getElem? (i := 768) (by decide +kernel)⟩
theorem lw_p26 : lw_okq (⟨"MadeLandModel", "lay", "()V"⟩, 30) := ⟨⟨by decide +kernel, by decide +kernel⟩, List.mem_of_getElem? (i := 627) (by decide +kernel), List.mem_of_getElem? (i := 787) (by decide +kernel), List.mem_of_getElem? (i := 788) (by decide +kernel)⟩
theorem lw_p27 : lw_okq (⟨"MadeLandModel", "layWater", "()V"⟩, 30) := ⟨⟨by decide +kernel, by decide +kernel⟩, List.mem_of_getElem? (i := 627) (by decide +kernel), List.mem_of_getElem? (i := 791) (by decide +kernel), List.mem_of_getElem? (i := 792) (by decide +kernel)⟩
theorem lw_p28 : lw_okq (⟨"MadeLandModel", "isSea", "(I)Z"⟩, 30) := ⟨⟨by decide +kernel, by decide +kernel⟩, List.mem_of_getElem? (i := 627) (by decide +kernel), List.mem_of_getElem? (i := 795) (by decide +kernel), List.mem_of_getElem? (i := 796) (by decide +kernel)⟩
theorem lw_p29 : lw_okq (⟨"MadeLandModel", "isRim", "(I)Z"⟩, 30) := ⟨⟨by decide +kernel, by decide +kernel⟩, List.mem_of_getElem? (i := 627) (by decide +kernel), List.mem_of_getElem? (i := 799) (by decide +kernel), List.mem_of_getElem? (i := 800) (by decide +kernel)⟩
theorem lw_p30 : lw_okq (⟨"MadeLandModel", "take", "(III)V"⟩, 30) := ⟨⟨by decide +kernel, by decide +kernel⟩, List.mem_of_getElem? (i := 627) (by decide +kernel), List.mem_of_getElem? (i := 803) (by decide +kernel), List.mem_of_getElem? (i := 804) (by decide +kernel)⟩
theorem lw_p31 : lw_okq (⟨"MadeLandModel", "lowest", "(I)I"⟩, 30) := ⟨⟨by decide +kernel, by decide +kernel⟩, List.mem_of_getElem? (i := 627) (by decide +kernel), List.mem_of_getElem? (i := 807) (by decide +kernel), List.mem_of_getElem? (i := 808) (by decide +kernel)⟩
def lw_privs_2 : List (MethodName × Nat) := [(⟨"MadeLand$Network", "stepCost", "(LMadeLand$Terrain;LMadeLand$Water;II)I"⟩, 8), (⟨"MadeLand$Network", "joinCheapest", "(LMadeLand$Settlements;)V"⟩, 8), (⟨"MadeLand$Network", "layRoad", "(LMadeLand$Terrain;LMadeLand$Water;II)V"⟩, 8), (⟨"MadeLand$Network", "nextPlace", "(LMadeLand$Terrain;LMadeLand$Water;II)I"⟩, 8), (⟨"MadeLand", "signsOf", "(I)I"⟩, 9), (⟨"MadeLand", "isTown", "(I)Z"⟩, 9), (⟨"MadeLandModel", "groundAt", "(II)I"⟩, 30), (⟨"MadeLandModel", "layer", "(III)I"⟩, 30), (⟨"MadeLandModel", "corner", "(III)I"⟩, 30), (⟨"MadeLandModel", "isPlace", "(I)Z"⟩, 30), (⟨"MadeLandModel", "lay", "()V"⟩, 30), (⟨"MadeLandModel", "layWater", "()V"⟩, 30), (⟨"MadeLandModel", "isSea", "(I)Z"⟩, 30), (⟨"MadeLandModel", "isRim", "(I)Z"⟩, 30), (⟨"MadeLandModel", "take", "(III)V"⟩, 30), (⟨"MadeLandModel", "lowest", "(I)I"⟩, 30)]
theorem lw_r2 : ∀ q ∈ lw_privs_2, lw_okq q := List.forall_mem_cons.mpr ⟨lw_p16, List.forall_mem_cons.mpr ⟨lw_p17, List.forall_mem_cons.mpr ⟨lw_p18, List.forall_mem_cons.mpr ⟨lw_p19, List.forall_mem_cons.mpr ⟨lw_p20, List.forall_mem_cons.mpr ⟨lw_p21, List.forall_mem_cons.mpr ⟨lw_p22, List.forall_mem_cons.mpr ⟨lw_p23, List.forall_mem_cons.mpr ⟨lw_p24, List.forall_mem_cons.mpr ⟨lw_p25, List.forall_mem_cons.mpr ⟨lw_p26, List.forall_mem_cons.mpr ⟨lw_p27, List.forall_mem_cons.mpr ⟨lw_p28, List.forall_mem_cons.mpr ⟨lw_p29, List.forall_mem_cons.mpr ⟨lw_p30, List.forall_mem_cons.mpr ⟨lw_p31, fun _ h => absurd h List.not_mem_nil⟩⟩⟩⟩⟩⟩⟩⟩⟩⟩⟩⟩⟩⟩⟩⟩
theorem lw_p32 : lw_okq (⟨"MadeLandModel", "beside", "(II)I"⟩, 30) := ⟨⟨by decide +kernel, by decide +kernel⟩, List.mem_of_getElem? (i := 627) (by decide +kernel), List.mem_of_getElem? (i := 811) (by decide +kernel), List.mem_of_getElem? (i := 812) (by decide +kernel)⟩
theorem lw_p33 : lw_okq (⟨"MadeLandModel", "water", "(II)I"⟩, 30) := ⟨⟨by decide +kernel, by decide +kernel⟩, List.mem_of_getElem? (i := 627) (by decide +kernel), List.mem_of_getElem? (i := 815) (by decide +kernel), List.mem_of_getElem? (i := 816) (by decide +kernel)⟩
theorem lw_p34 : lw_okq (⟨"MadeLandModel", "layTowns", "()V"⟩, 30) := ⟨⟨by decide +kernel, by decide +kernel⟩, List.mem_of_getElem? (i := 627) (by decide +kernel), List.mem_of_getElem? (i := 819) (by decide +kernel), List.mem_of_getElem? (i := 820) (by decide +kernel)⟩
theorem lw_p35 : lw_okq (⟨"MadeLandModel", "isFar", "(I)Z"⟩, 30) := ⟨⟨by decide +kernel, by decide +kernel⟩, List.mem_of_getElem? (i := 627) (by decide +kernel), List.mem_of_getElem? (i := 823) (by decide +kernel), List.mem_of_getElem? (i := 824) (by decide +kernel)⟩
theorem lw_p36 : lw_okq (⟨"MadeLandModel", "worth", "(I)I"⟩, 30) := ⟨⟨by decide +kernel, by decide +kernel⟩, List.mem_of_getElem? (i := 627) (by decide +kernel), List.mem_of_getElem? (i := 827) (by decide +kernel), List.mem_of_getElem? (i := 828) (by decide +kernel)⟩
theorem lw_p37 : lw_okq (⟨"MadeLandModel", "layNet", "()V"⟩, 30) := ⟨⟨by decide +kernel, by decide +kernel⟩, List.mem_of_getElem? (i := 627) (by decide +kernel), List.mem_of_getElem? (i := 831) (by decide +kernel), List.mem_of_getElem? (i := 832) (by decide +kernel)⟩
theorem lw_p38 : lw_okq (⟨"MadeLandModel", "reckon", "(I)V"⟩, 30) := ⟨⟨by decide +kernel, by decide +kernel⟩, List.mem_of_getElem? (i := 627) (by decide +kernel), List.mem_of_getElem? (i := 835) (by decide +kernel), List.mem_of_getElem? (i := 836) (by decide +kernel)⟩
theorem lw_p39 : lw_okq (⟨"MadeLandModel", "isWay", "(I)Z"⟩, 30) := ⟨⟨by decide +kernel, by decide +kernel⟩, List.mem_of_getElem? (i := 627) (by decide +kernel), List.mem_of_getElem? (i := 839) (by decide +kernel), List.mem_of_getElem? (i := 840) (by decide +kernel)⟩
theorem lw_p40 : lw_okq (⟨"MadeLandModel", "stepCost", "(II)I"⟩, 30) := ⟨⟨by decide +kernel, by decide +kernel⟩, List.mem_of_getElem? (i := 627) (by decide +kernel), List.mem_of_getElem? (i := 843) (by decide +kernel), List.mem_of_getElem? (i := 844) (by decide +kernel)⟩
theorem lw_p41 : lw_okq (⟨"MadeLandModel", "next", "(I)I"⟩, 30) := ⟨⟨by decide +kernel, by decide +kernel⟩, List.mem_of_getElem? (i := 627) (by decide +kernel), List.mem_of_getElem? (i := 847) (by decide +kernel), List.mem_of_getElem? (i := 848) (by decide +kernel)⟩
theorem lw_p42 : lw_okq (⟨"MadeLandModel", "outletOf", "(I)I"⟩, 30) := ⟨⟨by decide +kernel, by decide +kernel⟩, List.mem_of_getElem? (i := 627) (by decide +kernel), List.mem_of_getElem? (i := 851) (by decide +kernel), List.mem_of_getElem? (i := 852) (by decide +kernel)⟩
theorem lw_p43 : lw_okq (⟨"MadeLandModel", "isAll", "(I)I"⟩, 30) := ⟨⟨by decide +kernel, by decide +kernel⟩, List.mem_of_getElem? (i := 627) (by decide +kernel), List.mem_of_getElem? (i := 859) (by decide +kernel), List.mem_of_getElem? (i := 860) (by decide +kernel)⟩
theorem lw_p44 : lw_okq (⟨"MadeLandModel", "layMarks", "()V"⟩, 30) := ⟨⟨by decide +kernel, by decide +kernel⟩, List.mem_of_getElem? (i := 627) (by decide +kernel), List.mem_of_getElem? (i := 871) (by decide +kernel), List.mem_of_getElem? (i := 872) (by decide +kernel)⟩
theorem lw_p45 : lw_okq (⟨"MadeLandModel", "isTown", "(I)Z"⟩, 30) := ⟨⟨by decide +kernel, by decide +kernel⟩, List.mem_of_getElem? (i := 627) (by decide +kernel), List.mem_of_getElem? (i := 887) (by decide +kernel), List.mem_of_getElem? (i := 888) (by decide +kernel)⟩
def lw_privs_3 : List (MethodName × Nat) := [(⟨"MadeLandModel", "beside", "(II)I"⟩, 30), (⟨"MadeLandModel", "water", "(II)I"⟩, 30), (⟨"MadeLandModel", "layTowns", "()V"⟩, 30), (⟨"MadeLandModel", "isFar", "(I)Z"⟩, 30), (⟨"MadeLandModel", "worth", "(I)I"⟩, 30), (⟨"MadeLandModel", "layNet", "()V"⟩, 30), (⟨"MadeLandModel", "reckon", "(I)V"⟩, 30), (⟨"MadeLandModel", "isWay", "(I)Z"⟩, 30), (⟨"MadeLandModel", "stepCost", "(II)I"⟩, 30), (⟨"MadeLandModel", "next", "(I)I"⟩, 30), (⟨"MadeLandModel", "outletOf", "(I)I"⟩, 30), (⟨"MadeLandModel", "isAll", "(I)I"⟩, 30), (⟨"MadeLandModel", "layMarks", "()V"⟩, 30), (⟨"MadeLandModel", "isTown", "(I)Z"⟩, 30)]
theorem lw_r3 : ∀ q ∈ lw_privs_3, lw_okq q := List.forall_mem_cons.mpr ⟨lw_p32, List.forall_mem_cons.mpr ⟨lw_p33, List.forall_mem_cons.mpr ⟨lw_p34, List.forall_mem_cons.mpr ⟨lw_p35, List.forall_mem_cons.mpr ⟨lw_p36, List.forall_mem_cons.mpr ⟨lw_p37, List.forall_mem_cons.mpr ⟨lw_p38, List.forall_mem_cons.mpr ⟨lw_p39, List.forall_mem_cons.mpr ⟨lw_p40, List.forall_mem_cons.mpr ⟨lw_p41, List.forall_mem_cons.mpr ⟨lw_p42, List.forall_mem_cons.mpr ⟨lw_p43, List.forall_mem_cons.mpr ⟨lw_p44, List.forall_mem_cons.mpr ⟨lw_p45, fun _ h => absurd h List.not_mem_nil⟩⟩⟩⟩⟩⟩⟩⟩⟩⟩⟩⟩⟩⟩
def lw_privs : List (MethodName × Nat) := lw_privs_1 ++ (lw_privs_2 ++ (lw_privs_3))
def lw_tbl : List Cond := k2_sels lw_privs ++ tables_1
theorem lw_privs_ok : ∀ q ∈ lw_privs, lw_okq q := by
  show ∀ q ∈ lw_privs_1 ++ (lw_privs_2 ++ (lw_privs_3)), lw_okq q
  exact List.forall_mem_append.mpr ⟨lw_r1, List.forall_mem_append.mpr ⟨lw_r2, lw_r3⟩⟩
def RX0 : String := "MadeLand$Heap"
def TX0 : u_T := fun k => match k with
  | 0 => ("MadeLand$Heap", "keys", "LMadeLand$Row;", true)
  | 1 => ("MadeLand$Heap", "count", "I", false)
  | _ => ("MadeLand$Heap", "lastKey", "I", false)
def tyX0 : Nat → FieldType := fun k => match k with
  | 0 => .object "MadeLand$Row"
  | 1 => .int
  | _ => .int
theorem nmX0 : ∀ a, a < 3 → ∀ b, b < 3 → a ≠ b → (TX0 a).2.1 ≠ (TX0 b).2.1 := by decide +kernel
theorem tyX0_ok : ∀ k, k < 3 → parseFieldDescriptor (TX0 k).2.2.1 = some (tyX0 k) := by decide +kernel
abbrev cX0_init : ByteArray := prog_2_method_1_code
def yX0_init : MethodName := ⟨RX0, "<init>", "()V"⟩
abbrev cX0_empty : ByteArray := prog_2_method_2_code
def yX0_empty : MethodName := ⟨RX0, "empty", "()V"⟩
abbrev cX0_insert : ByteArray := prog_2_method_3_code
def yX0_insert : MethodName := ⟨RX0, "insert", "(II)V"⟩
abbrev cX0_remove : ByteArray := prog_2_method_4_code
def yX0_remove : MethodName := ⟨RX0, "remove", "()Z"⟩
abbrev cX0_removedPlace : ByteArray := prog_2_method_5_code
def yX0_removedPlace : MethodName := ⟨RX0, "removedPlace", "()I"⟩
abbrev cX0_removedRank : ByteArray := prog_2_method_6_code
def yX0_removedRank : MethodName := ⟨RX0, "removedRank", "()I"⟩
abbrev cX0_sink : ByteArray := prog_2_method_7_code
def yX0_sink : MethodName := ⟨RX0, "sink", "(I)V"⟩
def RX1 : String := "MadeLand$Network"
def TX1 : u_T := fun k => match k with
  | 0 => ("MadeLand$Network", "costs", "LMadeLand$Row;", true)
  | 1 => ("MadeLand$Network", "over", "LMadeLand$Row;", true)
  | 2 => ("MadeLand$Network", "isMember", "LMadeLand$Row;", true)
  | 3 => ("MadeLand$Network", "roadEnds", "LMadeLand$Row;", true)
  | 4 => ("MadeLand$Network", "bridge", "I", false)
  | 5 => ("MadeLand$Network", "members", "I", false)
  | 6 => ("MadeLand$Network", "total", "I", false)
  | _ => ("MadeLand$Network", "roadCount", "I", false)
def tyX1 : Nat → FieldType := fun k => match k with
  | 0 => .object "MadeLand$Row"
  | 1 => .object "MadeLand$Row"
  | 2 => .object "MadeLand$Row"
  | 3 => .object "MadeLand$Row"
  | 4 => .int
  | 5 => .int
  | 6 => .int
  | _ => .int
theorem nmX1 : ∀ a, a < 8 → ∀ b, b < 8 → a ≠ b → (TX1 a).2.1 ≠ (TX1 b).2.1 := by decide +kernel
theorem tyX1_ok : ∀ k, k < 8 → parseFieldDescriptor (TX1 k).2.2.1 = some (tyX1 k) := by decide +kernel
abbrev cX1_init : ByteArray := prog_3_method_1_code
def yX1_init : MethodName := ⟨RX1, "<init>", "()V"⟩
abbrev cX1_build : ByteArray := prog_3_method_2_code
def yX1_build : MethodName := ⟨RX1, "build", "(LMadeLand$Terrain;LMadeLand$Water;LMadeLand$Settlements;LMadeLand$Heap;I)V"⟩
abbrev cX1_costOf : ByteArray := prog_3_method_3_code
def yX1_costOf : MethodName := ⟨RX1, "costOf", "(II)I"⟩
abbrev cX1_findCosts : ByteArray := prog_3_method_4_code
def yX1_findCosts : MethodName := ⟨RX1, "findCosts", "(LMadeLand$Terrain;LMadeLand$Water;LMadeLand$Heap;II)V"⟩
abbrev cX1_spreadCosts : ByteArray := prog_3_method_5_code
def yX1_spreadCosts : MethodName := ⟨RX1, "spreadCosts", "(LMadeLand$Terrain;LMadeLand$Water;LMadeLand$Heap;II)V"⟩
abbrev cX1_stepCost : ByteArray := prog_3_method_6_code
def yX1_stepCost : MethodName := ⟨RX1, "stepCost", "(LMadeLand$Terrain;LMadeLand$Water;II)I"⟩
abbrev cX1_nextPlace : ByteArray := prog_3_method_7_code
def yX1_nextPlace : MethodName := ⟨RX1, "nextPlace", "(LMadeLand$Terrain;LMadeLand$Water;II)I"⟩
abbrev cX1_placeOfWay : ByteArray := prog_3_method_8_code
def yX1_placeOfWay : MethodName := ⟨RX1, "placeOfWay", "(LMadeLand$Terrain;LMadeLand$Water;III)I"⟩
abbrev cX1_joinCheapest : ByteArray := prog_3_method_9_code
def yX1_joinCheapest : MethodName := ⟨RX1, "joinCheapest", "(LMadeLand$Settlements;)V"⟩
abbrev cX1_layRoad : ByteArray := prog_3_method_10_code
def yX1_layRoad : MethodName := ⟨RX1, "layRoad", "(LMadeLand$Terrain;LMadeLand$Water;II)V"⟩
abbrev cX1_endOfRoad : ByteArray := prog_3_method_11_code
def yX1_endOfRoad : MethodName := ⟨RX1, "endOfRoad", "(I)I"⟩
def RX2 : String := "MadeLand$Pools"
def TX2 : u_T := fun k => match k with
  | 0 => ("MadeLand$Pools", "pool", "LMadeLand$Row;", true)
  | 1 => ("MadeLand$Pools", "extent", "LMadeLand$Row;", true)
  | 2 => ("MadeLand$Pools", "reached", "LMadeLand$Row;", true)
  | _ => ("MadeLand$Pools", "count", "I", false)
def tyX2 : Nat → FieldType := fun k => match k with
  | 0 => .object "MadeLand$Row"
  | 1 => .object "MadeLand$Row"
  | 2 => .object "MadeLand$Row"
  | _ => .int
theorem nmX2 : ∀ a, a < 4 → ∀ b, b < 4 → a ≠ b → (TX2 a).2.1 ≠ (TX2 b).2.1 := by decide +kernel
theorem tyX2_ok : ∀ k, k < 4 → parseFieldDescriptor (TX2 k).2.2.1 = some (tyX2 k) := by decide +kernel
abbrev cX2_init : ByteArray := prog_4_method_1_code
def yX2_init : MethodName := ⟨RX2, "<init>", "()V"⟩
abbrev cX2_gather : ByteArray := prog_4_method_2_code
def yX2_gather : MethodName := ⟨RX2, "gather", "(LMadeLand$Terrain;LMadeLand$Water;)V"⟩
abbrev cX2_spread : ByteArray := prog_4_method_3_code
def yX2_spread : MethodName := ⟨RX2, "spread", "(LMadeLand$Terrain;LMadeLand$Water;I)I"⟩
abbrev cX2_placesAt : ByteArray := prog_4_method_4_code
def yX2_placesAt : MethodName := ⟨RX2, "placesAt", "(I)I"⟩
def RX3 : String := "MadeLand$Row"
def TX3 : u_T := fun k => match k with
  | _ => ("MadeLand$Row", "cells", "[I", true)
def tyX3 : Nat → FieldType := fun k => match k with
  | _ => .array .int
theorem nmX3 : ∀ a, a < 1 → ∀ b, b < 1 → a ≠ b → (TX3 a).2.1 ≠ (TX3 b).2.1 := by decide +kernel
theorem tyX3_ok : ∀ k, k < 1 → parseFieldDescriptor (TX3 k).2.2.1 = some (tyX3 k) := by decide +kernel
abbrev cX3_init : ByteArray := prog_5_method_1_code
def yX3_init : MethodName := ⟨RX3, "<init>", "(I)V"⟩
abbrev cX3_at : ByteArray := prog_5_method_2_code
def yX3_at : MethodName := ⟨RX3, "at", "(I)I"⟩
abbrev cX3_put : ByteArray := prog_5_method_3_code
def yX3_put : MethodName := ⟨RX3, "put", "(II)V"⟩
abbrev cX3_add : ByteArray := prog_5_method_4_code
def yX3_add : MethodName := ⟨RX3, "add", "(II)V"⟩
abbrev cX3_fill : ByteArray := prog_5_method_5_code
def yX3_fill : MethodName := ⟨RX3, "fill", "(I)V"⟩
def RX4 : String := "MadeLand$Settlements"
def TX4 : u_T := fun k => match k with
  | 0 => ("MadeLand$Settlements", "worth", "LMadeLand$Row;", true)
  | 1 => ("MadeLand$Settlements", "place", "LMadeLand$Row;", true)
  | _ => ("MadeLand$Settlements", "count", "I", false)
def tyX4 : Nat → FieldType := fun k => match k with
  | 0 => .object "MadeLand$Row"
  | 1 => .object "MadeLand$Row"
  | _ => .int
theorem nmX4 : ∀ a, a < 3 → ∀ b, b < 3 → a ≠ b → (TX4 a).2.1 ≠ (TX4 b).2.1 := by decide +kernel
theorem tyX4_ok : ∀ k, k < 3 → parseFieldDescriptor (TX4 k).2.2.1 = some (tyX4 k) := by decide +kernel
abbrev cX4_init : ByteArray := prog_6_method_1_code
def yX4_init : MethodName := ⟨RX4, "<init>", "()V"⟩
abbrev cX4_found : ByteArray := prog_6_method_2_code
def yX4_found : MethodName := ⟨RX4, "found", "(LMadeLand$Terrain;LMadeLand$Water;II)V"⟩
abbrev cX4_worthOf : ByteArray := prog_6_method_3_code
def yX4_worthOf : MethodName := ⟨RX4, "worthOf", "(LMadeLand$Terrain;LMadeLand$Water;I)I"⟩
abbrev cX4_bestPlace : ByteArray := prog_6_method_4_code
def yX4_bestPlace : MethodName := ⟨RX4, "bestPlace", "(LMadeLand$Terrain;I)I"⟩
abbrev cX4_isFarFromAll : ByteArray := prog_6_method_5_code
def yX4_isFarFromAll : MethodName := ⟨RX4, "isFarFromAll", "(LMadeLand$Terrain;II)Z"⟩
abbrev cX4_isAt : ByteArray := prog_6_method_6_code
def yX4_isAt : MethodName := ⟨RX4, "isAt", "(I)Z"⟩
def RX5 : String := "MadeLand$Terrain"
def TX5 : u_T := fun k => match k with
  | 0 => ("MadeLand$Terrain", "seed", "I", false)
  | 1 => ("MadeLand$Terrain", "side", "I", false)
  | 2 => ("MadeLand$Terrain", "places", "I", false)
  | 3 => ("MadeLand$Terrain", "left", "I", false)
  | 4 => ("MadeLand$Terrain", "top", "I", false)
  | 5 => ("MadeLand$Terrain", "changes", "I", false)
  | 6 => ("MadeLand$Terrain", "changeX", "LMadeLand$Row;", true)
  | 7 => ("MadeLand$Terrain", "changeY", "LMadeLand$Row;", true)
  | 8 => ("MadeLand$Terrain", "changeBy", "LMadeLand$Row;", true)
  | 9 => ("MadeLand$Terrain", "column", "LMadeLand$Row;", true)
  | 10 => ("MadeLand$Terrain", "line", "LMadeLand$Row;", true)
  | 11 => ("MadeLand$Terrain", "bare", "LMadeLand$Row;", true)
  | _ => ("MadeLand$Terrain", "height", "LMadeLand$Row;", true)
def tyX5 : Nat → FieldType := fun k => match k with
  | 0 => .int
  | 1 => .int
  | 2 => .int
  | 3 => .int
  | 4 => .int
  | 5 => .int
  | 6 => .object "MadeLand$Row"
  | 7 => .object "MadeLand$Row"
  | 8 => .object "MadeLand$Row"
  | 9 => .object "MadeLand$Row"
  | 10 => .object "MadeLand$Row"
  | 11 => .object "MadeLand$Row"
  | _ => .object "MadeLand$Row"
theorem nmX5 : ∀ a, a < 13 → ∀ b, b < 13 → a ≠ b → (TX5 a).2.1 ≠ (TX5 b).2.1 := by decide +kernel
theorem tyX5_ok : ∀ k, k < 13 → parseFieldDescriptor (TX5 k).2.2.1 = some (tyX5 k) := by decide +kernel
abbrev cX5_init : ByteArray := prog_7_method_1_code
def yX5_init : MethodName := ⟨RX5, "<init>", "()V"⟩
abbrev cX5_hasPlace : ByteArray := prog_7_method_2_code
def yX5_hasPlace : MethodName := ⟨RX5, "hasPlace", "(I)Z"⟩
abbrev cX5_growGround : ByteArray := prog_7_method_3_code
def yX5_growGround : MethodName := ⟨RX5, "growGround", "()V"⟩
abbrev cX5_groundOf : ByteArray := prog_7_method_4_code
def yX5_groundOf : MethodName := ⟨RX5, "groundOf", "(II)I"⟩
abbrev cX5_layerOf : ByteArray := prog_7_method_5_code
def yX5_layerOf : MethodName := ⟨RX5, "layerOf", "(III)I"⟩
abbrev cX5_cornerOf : ByteArray := prog_7_method_6_code
def yX5_cornerOf : MethodName := ⟨RX5, "cornerOf", "(III)I"⟩
abbrev cX5_addChange : ByteArray := prog_7_method_7_code
def yX5_addChange : MethodName := ⟨RX5, "addChange", "(II)V"⟩
abbrev cX5_raiseHeights : ByteArray := prog_7_method_8_code
def yX5_raiseHeights : MethodName := ⟨RX5, "raiseHeights", "()V"⟩
abbrev cX5_beside : ByteArray := prog_7_method_9_code
def yX5_beside : MethodName := ⟨RX5, "beside", "(II)I"⟩
abbrev cX5_isRim : ByteArray := prog_7_method_10_code
def yX5_isRim : MethodName := ⟨RX5, "isRim", "(I)Z"⟩
abbrev cX5_rowsAndColumnsBetween : ByteArray := prog_7_method_11_code
def yX5_rowsAndColumnsBetween : MethodName := ⟨RX5, "rowsAndColumnsBetween", "(II)I"⟩
def RX6 : String := "MadeLand$Water"
def TX6 : u_T := fun k => match k with
  | 0 => ("MadeLand$Water", "level", "LMadeLand$Row;", true)
  | 1 => ("MadeLand$Water", "down", "LMadeLand$Row;", true)
  | 2 => ("MadeLand$Water", "flow", "LMadeLand$Row;", true)
  | 3 => ("MadeLand$Water", "outlet", "LMadeLand$Row;", true)
  | 4 => ("MadeLand$Water", "turn", "LMadeLand$Row;", true)
  | 5 => ("MadeLand$Water", "takenAt", "LMadeLand$Row;", true)
  | 6 => ("MadeLand$Water", "leastBeside", "LMadeLand$Row;", true)
  | 7 => ("MadeLand$Water", "kind", "LMadeLand$Row;", true)
  | _ => ("MadeLand$Water", "taken", "I", false)
def tyX6 : Nat → FieldType := fun k => match k with
  | 0 => .object "MadeLand$Row"
  | 1 => .object "MadeLand$Row"
  | 2 => .object "MadeLand$Row"
  | 3 => .object "MadeLand$Row"
  | 4 => .object "MadeLand$Row"
  | 5 => .object "MadeLand$Row"
  | 6 => .object "MadeLand$Row"
  | 7 => .object "MadeLand$Row"
  | _ => .int
theorem nmX6 : ∀ a, a < 9 → ∀ b, b < 9 → a ≠ b → (TX6 a).2.1 ≠ (TX6 b).2.1 := by decide +kernel
theorem tyX6_ok : ∀ k, k < 9 → parseFieldDescriptor (TX6 k).2.2.1 = some (tyX6 k) := by decide +kernel
abbrev cX6_init : ByteArray := prog_8_method_1_code
def yX6_init : MethodName := ⟨RX6, "<init>", "()V"⟩
abbrev cX6_run : ByteArray := prog_8_method_2_code
def yX6_run : MethodName := ⟨RX6, "run", "(LMadeLand$Terrain;LMadeLand$Heap;II)V"⟩
abbrev cX6_takeOutlets : ByteArray := prog_8_method_3_code
def yX6_takeOutlets : MethodName := ⟨RX6, "takeOutlets", "(LMadeLand$Terrain;LMadeLand$Heap;I)V"⟩
abbrev cX6_takeOthers : ByteArray := prog_8_method_4_code
def yX6_takeOthers : MethodName := ⟨RX6, "takeOthers", "(LMadeLand$Terrain;LMadeLand$Heap;)V"⟩
abbrev cX6_take : ByteArray := prog_8_method_5_code
def yX6_take : MethodName := ⟨RX6, "take", "(LMadeLand$Terrain;LMadeLand$Heap;I)V"⟩
abbrev cX6_firstTakenBeside : ByteArray := prog_8_method_6_code
def yX6_firstTakenBeside : MethodName := ⟨RX6, "firstTakenBeside", "(LMadeLand$Terrain;I)I"⟩
abbrev cX6_gatherFlow : ByteArray := prog_8_method_7_code
def yX6_gatherFlow : MethodName := ⟨RX6, "gatherFlow", "(LMadeLand$Terrain;)V"⟩
abbrev cX6_kindOf : ByteArray := prog_8_method_8_code
def yX6_kindOf : MethodName := ⟨RX6, "kindOf", "(IIII)I"⟩
abbrev cX6_isPassable : ByteArray := prog_8_method_9_code
def yX6_isPassable : MethodName := ⟨RX6, "isPassable", "(I)Z"⟩
def RX7 : String := "MadeLand"
def TX7 : u_T := fun k => match k with
  | 0 => ("MadeLand", "terrain", "LMadeLand$Terrain;", true)
  | 1 => ("MadeLand", "water", "LMadeLand$Water;", true)
  | 2 => ("MadeLand", "pools", "LMadeLand$Pools;", true)
  | 3 => ("MadeLand", "settlements", "LMadeLand$Settlements;", true)
  | 4 => ("MadeLand", "network", "LMadeLand$Network;", true)
  | 5 => ("MadeLand", "heap", "LMadeLand$Heap;", true)
  | 6 => ("MadeLand", "rules", "LMadeLand$Row;", true)
  | 7 => ("MadeLand", "wanted", "I", false)
  | _ => ("MadeLand", "made", "I", false)
def tyX7 : Nat → FieldType := fun k => match k with
  | 0 => .object "MadeLand$Terrain"
  | 1 => .object "MadeLand$Water"
  | 2 => .object "MadeLand$Pools"
  | 3 => .object "MadeLand$Settlements"
  | 4 => .object "MadeLand$Network"
  | 5 => .object "MadeLand$Heap"
  | 6 => .object "MadeLand$Row"
  | 7 => .int
  | _ => .int
theorem nmX7 : ∀ a, a < 9 → ∀ b, b < 9 → a ≠ b → (TX7 a).2.1 ≠ (TX7 b).2.1 := by decide +kernel
theorem tyX7_ok : ∀ k, k < 9 → parseFieldDescriptor (TX7 k).2.2.1 = some (tyX7 k) := by decide +kernel
abbrev cX7_init : ByteArray := prog_1_method_1_code
def yX7_init : MethodName := ⟨RX7, "<init>", "()V"⟩
abbrev cX7_seed : ByteArray := prog_1_method_2_code
def yX7_seed : MethodName := ⟨RX7, "seed", "(I)I"⟩
abbrev cX7_ground : ByteArray := prog_1_method_3_code
def yX7_ground : MethodName := ⟨RX7, "ground", "(II)I"⟩
abbrev cX7_size : ByteArray := prog_1_method_4_code
def yX7_size : MethodName := ⟨RX7, "size", "(I)I"⟩
abbrev cX7_window : ByteArray := prog_1_method_5_code
def yX7_window : MethodName := ⟨RX7, "window", "(II)I"⟩
abbrev cX7_change : ByteArray := prog_1_method_6_code
def yX7_change : MethodName := ⟨RX7, "change", "(II)I"⟩
abbrev cX7_changed : ByteArray := prog_1_method_7_code
def yX7_changed : MethodName := ⟨RX7, "changed", "(II)I"⟩
abbrev cX7_undo : ByteArray := prog_1_method_8_code
def yX7_undo : MethodName := ⟨RX7, "undo", "()I"⟩
abbrev cX7_rule : ByteArray := prog_1_method_9_code
def yX7_rule : MethodName := ⟨RX7, "rule", "(II)I"⟩
abbrev cX7_about : ByteArray := prog_1_method_10_code
def yX7_about : MethodName := ⟨RX7, "about", "(II)I"⟩
abbrev cX7_is : ByteArray := prog_1_method_11_code
def yX7_is : MethodName := ⟨RX7, "is", "(I)I"⟩
abbrev cX7_many : ByteArray := prog_1_method_12_code
def yX7_many : MethodName := ⟨RX7, "many", "(I)I"⟩
abbrev cX7_lakes : ByteArray := prog_1_method_13_code
def yX7_lakes : MethodName := ⟨RX7, "lakes", "()I"⟩
abbrev cX7_lake : ByteArray := prog_1_method_14_code
def yX7_lake : MethodName := ⟨RX7, "lake", "(I)I"⟩
abbrev cX7_towns : ByteArray := prog_1_method_15_code
def yX7_towns : MethodName := ⟨RX7, "towns", "(I)I"⟩
abbrev cX7_town : ByteArray := prog_1_method_16_code
def yX7_town : MethodName := ⟨RX7, "town", "(I)I"⟩
abbrev cX7_cost : ByteArray := prog_1_method_17_code
def yX7_cost : MethodName := ⟨RX7, "cost", "(II)I"⟩
abbrev cX7_way : ByteArray := prog_1_method_18_code
def yX7_way : MethodName := ⟨RX7, "way", "(III)I"⟩
abbrev cX7_net : ByteArray := prog_1_method_19_code
def yX7_net : MethodName := ⟨RX7, "net", "(I)I"⟩
abbrev cX7_roads : ByteArray := prog_1_method_20_code
def yX7_roads : MethodName := ⟨RX7, "roads", "(I)I"⟩
abbrev cX7_told : ByteArray := prog_1_method_21_code
def yX7_told : MethodName := ⟨RX7, "told", "(I)I"⟩
abbrev cX7_within : ByteArray := prog_1_method_22_code
def yX7_within : MethodName := ⟨RX7, "within", "(III)Z"⟩
abbrev cX7_stageAhead : ByteArray := prog_1_method_23_code
def yX7_stageAhead : MethodName := ⟨RX7, "stageAhead", "(I)I"⟩
abbrev cX7_keepUpTo : ByteArray := prog_1_method_24_code
def yX7_keepUpTo : MethodName := ⟨RX7, "keepUpTo", "(I)V"⟩
abbrev cX7_makeUpTo : ByteArray := prog_1_method_25_code
def yX7_makeUpTo : MethodName := ⟨RX7, "makeUpTo", "(I)V"⟩
abbrev cX7_isTown : ByteArray := prog_1_method_26_code
def yX7_isTown : MethodName := ⟨RX7, "isTown", "(I)Z"⟩
abbrev cX7_signsOf : ByteArray := prog_1_method_27_code
def yX7_signsOf : MethodName := ⟨RX7, "signsOf", "(I)I"⟩
def RX8 : String := "MadeLandModel"
def TX8 : u_T := fun k => match k with
  | 0 => ("MadeLandModel", "seed", "I", false)
  | 1 => ("MadeLandModel", "n", "I", false)
  | 2 => ("MadeLandModel", "atX", "I", false)
  | 3 => ("MadeLandModel", "atY", "I", false)
  | 4 => ("MadeLandModel", "rule", "[I", true)
  | 5 => ("MadeLandModel", "wanted", "I", false)
  | 6 => ("MadeLandModel", "changes", "I", false)
  | 7 => ("MadeLandModel", "changeX", "[I", true)
  | 8 => ("MadeLandModel", "changeY", "[I", true)
  | 9 => ("MadeLandModel", "changeBy", "[I", true)
  | 10 => ("MadeLandModel", "isLaid", "Z", false)
  | 11 => ("MadeLandModel", "height", "[I", true)
  | 12 => ("MadeLandModel", "level", "[I", true)
  | 13 => ("MadeLandModel", "down", "[I", true)
  | 14 => ("MadeLandModel", "order", "[I", true)
  | 15 => ("MadeLandModel", "turn", "[I", true)
  | 16 => ("MadeLandModel", "flow", "[I", true)
  | 17 => ("MadeLandModel", "kind", "[I", true)
  | 18 => ("MadeLandModel", "taken", "I", false)
  | 19 => ("MadeLandModel", "towns", "I", false)
  | 20 => ("MadeLandModel", "town", "[I", true)
  | 21 => ("MadeLandModel", "inNet", "I", false)
  | 22 => ("MadeLandModel", "netCost", "I", false)
  | 23 => ("MadeLandModel", "netRoads", "I", false)
  | 24 => ("MadeLandModel", "roadFrom", "[I", true)
  | 25 => ("MadeLandModel", "roadTo", "[I", true)
  | 26 => ("MadeLandModel", "roads", "[I", true)
  | 27 => ("MadeLandModel", "left", "[I", true)
  | 28 => ("MadeLandModel", "isDone", "[Z", true)
  | _ => ("MadeLandModel", "mark", "[I", true)
def tyX8 : Nat → FieldType := fun k => match k with
  | 0 => .int
  | 1 => .int
  | 2 => .int
  | 3 => .int
  | 4 => .array .int
  | 5 => .int
  | 6 => .int
  | 7 => .array .int
  | 8 => .array .int
  | 9 => .array .int
  | 10 => .boolean
  | 11 => .array .int
  | 12 => .array .int
  | 13 => .array .int
  | 14 => .array .int
  | 15 => .array .int
  | 16 => .array .int
  | 17 => .array .int
  | 18 => .int
  | 19 => .int
  | 20 => .array .int
  | 21 => .int
  | 22 => .int
  | 23 => .int
  | 24 => .array .int
  | 25 => .array .int
  | 26 => .array .int
  | 27 => .array .int
  | 28 => .array .boolean
  | _ => .array .int
theorem nmX8 : ∀ a, a < 30 → ∀ b, b < 30 → a ≠ b → (TX8 a).2.1 ≠ (TX8 b).2.1 := by decide +kernel
theorem tyX8_ok : ∀ k, k < 30 → parseFieldDescriptor (TX8 k).2.2.1 = some (tyX8 k) := by decide +kernel
abbrev cX8_init : ByteArray := prog_10_method_1_code
def yX8_init : MethodName := ⟨RX8, "<init>", "()V"⟩
abbrev cX8_in : ByteArray := prog_10_method_2_code
def yX8_in : MethodName := ⟨RX8, "in", "(III)Z"⟩
abbrev cX8_isPlace : ByteArray := prog_10_method_3_code
def yX8_isPlace : MethodName := ⟨RX8, "isPlace", "(I)Z"⟩
abbrev cX8_seed : ByteArray := prog_10_method_4_code
def yX8_seed : MethodName := ⟨RX8, "seed", "(I)I"⟩
abbrev cX8_corner : ByteArray := prog_10_method_5_code
def yX8_corner : MethodName := ⟨RX8, "corner", "(III)I"⟩
abbrev cX8_layer : ByteArray := prog_10_method_6_code
def yX8_layer : MethodName := ⟨RX8, "layer", "(III)I"⟩
abbrev cX8_groundAt : ByteArray := prog_10_method_7_code
def yX8_groundAt : MethodName := ⟨RX8, "groundAt", "(II)I"⟩
abbrev cX8_ground : ByteArray := prog_10_method_8_code
def yX8_ground : MethodName := ⟨RX8, "ground", "(II)I"⟩
abbrev cX8_size : ByteArray := prog_10_method_9_code
def yX8_size : MethodName := ⟨RX8, "size", "(I)I"⟩
abbrev cX8_window : ByteArray := prog_10_method_10_code
def yX8_window : MethodName := ⟨RX8, "window", "(II)I"⟩
abbrev cX8_change : ByteArray := prog_10_method_11_code
def yX8_change : MethodName := ⟨RX8, "change", "(II)I"⟩
abbrev cX8_changed : ByteArray := prog_10_method_12_code
def yX8_changed : MethodName := ⟨RX8, "changed", "(II)I"⟩
abbrev cX8_undo : ByteArray := prog_10_method_13_code
def yX8_undo : MethodName := ⟨RX8, "undo", "()I"⟩
abbrev cX8_rule : ByteArray := prog_10_method_14_code
def yX8_rule : MethodName := ⟨RX8, "rule", "(II)I"⟩
abbrev cX8_beside : ByteArray := prog_10_method_15_code
def yX8_beside : MethodName := ⟨RX8, "beside", "(II)I"⟩
abbrev cX8_isSea : ByteArray := prog_10_method_16_code
def yX8_isSea : MethodName := ⟨RX8, "isSea", "(I)Z"⟩
abbrev cX8_isRim : ByteArray := prog_10_method_17_code
def yX8_isRim : MethodName := ⟨RX8, "isRim", "(I)Z"⟩
abbrev cX8_take : ByteArray := prog_10_method_18_code
def yX8_take : MethodName := ⟨RX8, "take", "(III)V"⟩
abbrev cX8_lowest : ByteArray := prog_10_method_19_code
def yX8_lowest : MethodName := ⟨RX8, "lowest", "(I)I"⟩
abbrev cX8_water : ByteArray := prog_10_method_20_code
def yX8_water : MethodName := ⟨RX8, "water", "(II)I"⟩
abbrev cX8_layWater : ByteArray := prog_10_method_21_code
def yX8_layWater : MethodName := ⟨RX8, "layWater", "()V"⟩
abbrev cX8_worth : ByteArray := prog_10_method_22_code
def yX8_worth : MethodName := ⟨RX8, "worth", "(I)I"⟩
abbrev cX8_isFar : ByteArray := prog_10_method_23_code
def yX8_isFar : MethodName := ⟨RX8, "isFar", "(I)Z"⟩
abbrev cX8_layTowns : ByteArray := prog_10_method_24_code
def yX8_layTowns : MethodName := ⟨RX8, "layTowns", "()V"⟩
abbrev cX8_stepCost : ByteArray := prog_10_method_25_code
def yX8_stepCost : MethodName := ⟨RX8, "stepCost", "(II)I"⟩
abbrev cX8_isWay : ByteArray := prog_10_method_26_code
def yX8_isWay : MethodName := ⟨RX8, "isWay", "(I)Z"⟩
abbrev cX8_reckon : ByteArray := prog_10_method_27_code
def yX8_reckon : MethodName := ⟨RX8, "reckon", "(I)V"⟩
abbrev cX8_next : ByteArray := prog_10_method_28_code
def yX8_next : MethodName := ⟨RX8, "next", "(I)I"⟩
abbrev cX8_layNet : ByteArray := prog_10_method_29_code
def yX8_layNet : MethodName := ⟨RX8, "layNet", "()V"⟩
abbrev cX8_lay : ByteArray := prog_10_method_30_code
def yX8_lay : MethodName := ⟨RX8, "lay", "()V"⟩
abbrev cX8_outletOf : ByteArray := prog_10_method_31_code
def yX8_outletOf : MethodName := ⟨RX8, "outletOf", "(I)I"⟩
abbrev cX8_about : ByteArray := prog_10_method_32_code
def yX8_about : MethodName := ⟨RX8, "about", "(II)I"⟩
abbrev cX8_isAll : ByteArray := prog_10_method_33_code
def yX8_isAll : MethodName := ⟨RX8, "isAll", "(I)I"⟩
abbrev cX8_is : ByteArray := prog_10_method_34_code
def yX8_is : MethodName := ⟨RX8, "is", "(I)I"⟩
abbrev cX8_many : ByteArray := prog_10_method_35_code
def yX8_many : MethodName := ⟨RX8, "many", "(I)I"⟩
abbrev cX8_layMarks : ByteArray := prog_10_method_36_code
def yX8_layMarks : MethodName := ⟨RX8, "layMarks", "()V"⟩
abbrev cX8_lakes : ByteArray := prog_10_method_37_code
def yX8_lakes : MethodName := ⟨RX8, "lakes", "()I"⟩
abbrev cX8_lake : ByteArray := prog_10_method_38_code
def yX8_lake : MethodName := ⟨RX8, "lake", "(I)I"⟩
abbrev cX8_towns : ByteArray := prog_10_method_39_code
def yX8_towns : MethodName := ⟨RX8, "towns", "(I)I"⟩
abbrev cX8_isTown : ByteArray := prog_10_method_40_code
def yX8_isTown : MethodName := ⟨RX8, "isTown", "(I)Z"⟩
abbrev cX8_town : ByteArray := prog_10_method_41_code
def yX8_town : MethodName := ⟨RX8, "town", "(I)I"⟩
abbrev cX8_cost : ByteArray := prog_10_method_42_code
def yX8_cost : MethodName := ⟨RX8, "cost", "(II)I"⟩
abbrev cX8_way : ByteArray := prog_10_method_43_code
def yX8_way : MethodName := ⟨RX8, "way", "(III)I"⟩
abbrev cX8_net : ByteArray := prog_10_method_44_code
def yX8_net : MethodName := ⟨RX8, "net", "(I)I"⟩
abbrev cX8_roads : ByteArray := prog_10_method_45_code
def yX8_roads : MethodName := ⟨RX8, "roads", "(I)I"⟩
abbrev cX8_told : ByteArray := prog_10_method_46_code
def yX8_told : MethodName := ⟨RX8, "told", "(I)I"⟩
def RJ6 : String := "java/lang/Integer"
abbrev cJ6_bitCount_0f7a4 : ByteArray := prog_11_method_49_code
def yJ6_bitCount_0f7a4 : MethodName := ⟨RJ6, "bitCount", "(I)I"⟩
def RJ9 : String := "java/lang/Math"
abbrev cJ9_abs_0f7a4 : ByteArray := prog_12_method_59_code
def yJ9_abs_0f7a4 : MethodName := ⟨RJ9, "abs", "(I)I"⟩
abbrev cJ9_max_7cf53 : ByteArray := prog_12_method_65_code
def yJ9_max_7cf53 : MethodName := ⟨RJ9, "max", "(II)I"⟩
abbrev cJ9_min_7cf53 : ByteArray := prog_12_method_69_code
def yJ9_min_7cf53 : MethodName := ⟨RJ9, "min", "(II)I"⟩
def RJ7 : String := "java/util/Arrays"
abbrev cJ7_fill_53178 : ByteArray := prog_13_method_103_code
def yJ7_fill_53178 : MethodName := ⟨RJ7, "fill", "([II)V"⟩
def RL : String := "MadeLandLaw"
abbrev cL_law : ByteArray := code
def yL_law : MethodName := ⟨RL, "law", "([I)Z"⟩
abbrev vwCl : List vw_C := [(RX0, TX0, 3), (RX1, TX1, 8), (RX2, TX2, 4), (RX3, TX3, 1), (RX4, TX4, 3), (RX5, TX5, 13), (RX6, TX6, 9), (RX7, TX7, 9), (RX8, TX8, 30)]
end
section
theorem dX0_init_0 : decode cX0_init 0 = .ok (.aload_n 0, 1) := by decide +kernel
theorem dX0_init_1 : decode cX0_init 1 = .ok (.invokespecial 3, 3) := by decide +kernel
theorem dX0_init_4 : decode cX0_init 4 = .ok (.aload_n 0, 1) := by decide +kernel
theorem dX0_init_5 : decode cX0_init 5 = .ok (.new 9, 3) := by decide +kernel
theorem dX0_init_8 : decode cX0_init 8 = .ok (.dup, 1) := by decide +kernel
theorem dX0_init_9 : decode cX0_init 9 = .ok (.sipush 2308, 3) := by decide +kernel
theorem dX0_init_12 : decode cX0_init 12 = .ok (.invokespecial 13, 3) := by decide +kernel
theorem dX0_init_15 : decode cX0_init 15 = .ok (.putfield 16, 3) := by decide +kernel
theorem dX0_init_18 : decode cX0_init 18 = .ok (.aload_n 0, 1) := by decide +kernel
theorem dX0_init_19 : decode cX0_init 19 = .ok (.iconst 0, 1) := by decide +kernel
theorem dX0_init_20 : decode cX0_init 20 = .ok (.putfield 20, 3) := by decide +kernel
theorem dX0_init_23 : decode cX0_init 23 = .ok (.aload_n 0, 1) := by decide +kernel
theorem dX0_init_24 : decode cX0_init 24 = .ok (.iconst 0, 1) := by decide +kernel
theorem dX0_init_25 : decode cX0_init 25 = .ok (.putfield 24, 3) := by decide +kernel
theorem dX0_init_28 : decode cX0_init 28 = .ok (.return_, 1) := by decide +kernel
theorem dX0_empty_0 : decode cX0_empty 0 = .ok (.aload_n 0, 1) := by decide +kernel
theorem dX0_empty_1 : decode cX0_empty 1 = .ok (.iconst 0, 1) := by decide +kernel
theorem dX0_empty_2 : decode cX0_empty 2 = .ok (.putfield 20, 3) := by decide +kernel
theorem dX0_empty_5 : decode cX0_empty 5 = .ok (.return_, 1) := by decide +kernel
theorem dX0_insert_0 : decode cX0_insert 0 = .ok (.aload_n 0, 1) := by decide +kernel
theorem dX0_insert_1 : decode cX0_insert 1 = .ok (.getfield 20, 3) := by decide +kernel
theorem dX0_insert_4 : decode cX0_insert 4 = .ok (.sipush 2308, 3) := by decide +kernel
theorem dX0_insert_7 : decode cX0_insert 7 = .ok (.if_icmp .lt 4, 3) := by decide +kernel
theorem dX0_insert_10 : decode cX0_insert 10 = .ok (.return_, 1) := by decide +kernel
theorem dX0_insert_11 : decode cX0_insert 11 = .ok (.iload_n 1, 1) := by decide +kernel
theorem dX0_insert_12 : decode cX0_insert 12 = .ok (.bipush 10, 2) := by decide +kernel
theorem dX0_insert_14 : decode cX0_insert 14 = .ok (.ishl, 1) := by decide +kernel
theorem dX0_insert_15 : decode cX0_insert 15 = .ok (.iload_n 2, 1) := by decide +kernel
theorem dX0_insert_16 : decode cX0_insert 16 = .ok (.sipush 1023, 3) := by decide +kernel
theorem dX0_insert_19 : decode cX0_insert 19 = .ok (.iand, 1) := by decide +kernel
theorem dX0_insert_20 : decode cX0_insert 20 = .ok (.ior, 1) := by decide +kernel
theorem dX0_insert_21 : decode cX0_insert 21 = .ok (.istore_n 3, 1) := by decide +kernel
theorem dX0_insert_22 : decode cX0_insert 22 = .ok (.aload_n 0, 1) := by decide +kernel
theorem dX0_insert_23 : decode cX0_insert 23 = .ok (.getfield 20, 3) := by decide +kernel
theorem dX0_insert_26 : decode cX0_insert 26 = .ok (.istore 4, 2) := by decide +kernel
theorem dX0_insert_28 : decode cX0_insert 28 = .ok (.aload_n 0, 1) := by decide +kernel
theorem dX0_insert_29 : decode cX0_insert 29 = .ok (.dup, 1) := by decide +kernel
theorem dX0_insert_30 : decode cX0_insert 30 = .ok (.getfield 20, 3) := by decide +kernel
theorem dX0_insert_33 : decode cX0_insert 33 = .ok (.iconst 1, 1) := by decide +kernel
theorem dX0_insert_34 : decode cX0_insert 34 = .ok (.iadd, 1) := by decide +kernel
theorem dX0_insert_35 : decode cX0_insert 35 = .ok (.putfield 20, 3) := by decide +kernel
theorem dX0_insert_38 : decode cX0_insert 38 = .ok (.iload 4, 2) := by decide +kernel
theorem dX0_insert_40 : decode cX0_insert 40 = .ok (.ifCond .le 53, 3) := by decide +kernel
theorem dX0_insert_43 : decode cX0_insert 43 = .ok (.aload_n 0, 1) := by decide +kernel
theorem dX0_insert_44 : decode cX0_insert 44 = .ok (.getfield 16, 3) := by decide +kernel
theorem dX0_insert_47 : decode cX0_insert 47 = .ok (.iload 4, 2) := by decide +kernel
theorem dX0_insert_49 : decode cX0_insert 49 = .ok (.iconst 1, 1) := by decide +kernel
theorem dX0_insert_50 : decode cX0_insert 50 = .ok (.isub, 1) := by decide +kernel
theorem dX0_insert_51 : decode cX0_insert 51 = .ok (.iconst 1, 1) := by decide +kernel
theorem dX0_insert_52 : decode cX0_insert 52 = .ok (.ishr, 1) := by decide +kernel
theorem dX0_insert_53 : decode cX0_insert 53 = .ok (.invokevirtual 27, 3) := by decide +kernel
theorem dX0_insert_56 : decode cX0_insert 56 = .ok (.iload_n 3, 1) := by decide +kernel
theorem dX0_insert_57 : decode cX0_insert 57 = .ok (.if_icmp .le 36, 3) := by decide +kernel
theorem dX0_insert_60 : decode cX0_insert 60 = .ok (.aload_n 0, 1) := by decide +kernel
theorem dX0_insert_61 : decode cX0_insert 61 = .ok (.getfield 16, 3) := by decide +kernel
theorem dX0_insert_64 : decode cX0_insert 64 = .ok (.iload 4, 2) := by decide +kernel
theorem dX0_insert_66 : decode cX0_insert 66 = .ok (.aload_n 0, 1) := by decide +kernel
theorem dX0_insert_67 : decode cX0_insert 67 = .ok (.getfield 16, 3) := by decide +kernel
theorem dX0_insert_70 : decode cX0_insert 70 = .ok (.iload 4, 2) := by decide +kernel
theorem dX0_insert_72 : decode cX0_insert 72 = .ok (.iconst 1, 1) := by decide +kernel
theorem dX0_insert_73 : decode cX0_insert 73 = .ok (.isub, 1) := by decide +kernel
theorem dX0_insert_74 : decode cX0_insert 74 = .ok (.iconst 1, 1) := by decide +kernel
theorem dX0_insert_75 : decode cX0_insert 75 = .ok (.ishr, 1) := by decide +kernel
theorem dX0_insert_76 : decode cX0_insert 76 = .ok (.invokevirtual 27, 3) := by decide +kernel
theorem dX0_insert_79 : decode cX0_insert 79 = .ok (.invokevirtual 31, 3) := by decide +kernel
theorem dX0_insert_82 : decode cX0_insert 82 = .ok (.iload 4, 2) := by decide +kernel
theorem dX0_insert_84 : decode cX0_insert 84 = .ok (.iconst 1, 1) := by decide +kernel
theorem dX0_insert_85 : decode cX0_insert 85 = .ok (.isub, 1) := by decide +kernel
theorem dX0_insert_86 : decode cX0_insert 86 = .ok (.iconst 1, 1) := by decide +kernel
theorem dX0_insert_87 : decode cX0_insert 87 = .ok (.ishr, 1) := by decide +kernel
theorem dX0_insert_88 : decode cX0_insert 88 = .ok (.istore 4, 2) := by decide +kernel
theorem dX0_insert_90 : decode cX0_insert 90 = .ok (.goto (-52), 3) := by decide +kernel
theorem dX0_insert_93 : decode cX0_insert 93 = .ok (.aload_n 0, 1) := by decide +kernel
theorem dX0_insert_94 : decode cX0_insert 94 = .ok (.getfield 16, 3) := by decide +kernel
theorem dX0_insert_97 : decode cX0_insert 97 = .ok (.iload 4, 2) := by decide +kernel
theorem dX0_insert_99 : decode cX0_insert 99 = .ok (.iload_n 3, 1) := by decide +kernel
theorem dX0_insert_100 : decode cX0_insert 100 = .ok (.invokevirtual 31, 3) := by decide +kernel
theorem dX0_insert_103 : decode cX0_insert 103 = .ok (.return_, 1) := by decide +kernel
theorem dX0_remove_0 : decode cX0_remove 0 = .ok (.aload_n 0, 1) := by decide +kernel
theorem dX0_remove_1 : decode cX0_remove 1 = .ok (.getfield 20, 3) := by decide +kernel
theorem dX0_remove_4 : decode cX0_remove 4 = .ok (.ifCond .gt 5, 3) := by decide +kernel
theorem dX0_remove_7 : decode cX0_remove 7 = .ok (.iconst 0, 1) := by decide +kernel
theorem dX0_remove_8 : decode cX0_remove 8 = .ok (.ireturn, 1) := by decide +kernel
theorem dX0_remove_9 : decode cX0_remove 9 = .ok (.aload_n 0, 1) := by decide +kernel
theorem dX0_remove_10 : decode cX0_remove 10 = .ok (.aload_n 0, 1) := by decide +kernel
theorem dX0_remove_11 : decode cX0_remove 11 = .ok (.getfield 16, 3) := by decide +kernel
theorem dX0_remove_14 : decode cX0_remove 14 = .ok (.iconst 0, 1) := by decide +kernel
theorem dX0_remove_15 : decode cX0_remove 15 = .ok (.invokevirtual 27, 3) := by decide +kernel
theorem dX0_remove_18 : decode cX0_remove 18 = .ok (.putfield 24, 3) := by decide +kernel
theorem dX0_remove_21 : decode cX0_remove 21 = .ok (.aload_n 0, 1) := by decide +kernel
theorem dX0_remove_22 : decode cX0_remove 22 = .ok (.dup, 1) := by decide +kernel
theorem dX0_remove_23 : decode cX0_remove 23 = .ok (.getfield 20, 3) := by decide +kernel
theorem dX0_remove_26 : decode cX0_remove 26 = .ok (.iconst 1, 1) := by decide +kernel
theorem dX0_remove_27 : decode cX0_remove 27 = .ok (.isub, 1) := by decide +kernel
theorem dX0_remove_28 : decode cX0_remove 28 = .ok (.putfield 20, 3) := by decide +kernel
theorem dX0_remove_31 : decode cX0_remove 31 = .ok (.aload_n 0, 1) := by decide +kernel
theorem dX0_remove_32 : decode cX0_remove 32 = .ok (.aload_n 0, 1) := by decide +kernel
theorem dX0_remove_33 : decode cX0_remove 33 = .ok (.getfield 16, 3) := by decide +kernel
theorem dX0_remove_36 : decode cX0_remove 36 = .ok (.aload_n 0, 1) := by decide +kernel
theorem dX0_remove_37 : decode cX0_remove 37 = .ok (.getfield 20, 3) := by decide +kernel
theorem dX0_remove_40 : decode cX0_remove 40 = .ok (.invokevirtual 27, 3) := by decide +kernel
theorem dX0_remove_43 : decode cX0_remove 43 = .ok (.invokevirtual 35, 3) := by decide +kernel
theorem dX0_remove_46 : decode cX0_remove 46 = .ok (.iconst 1, 1) := by decide +kernel
theorem dX0_remove_47 : decode cX0_remove 47 = .ok (.ireturn, 1) := by decide +kernel
theorem dX0_removedPlace_0 : decode cX0_removedPlace 0 = .ok (.aload_n 0, 1) := by decide +kernel
theorem dX0_removedPlace_1 : decode cX0_removedPlace 1 = .ok (.getfield 24, 3) := by decide +kernel
theorem dX0_removedPlace_4 : decode cX0_removedPlace 4 = .ok (.sipush 1023, 3) := by decide +kernel
theorem dX0_removedPlace_7 : decode cX0_removedPlace 7 = .ok (.iand, 1) := by decide +kernel
theorem dX0_removedPlace_8 : decode cX0_removedPlace 8 = .ok (.ireturn, 1) := by decide +kernel
theorem dX0_removedRank_0 : decode cX0_removedRank 0 = .ok (.aload_n 0, 1) := by decide +kernel
theorem dX0_removedRank_1 : decode cX0_removedRank 1 = .ok (.getfield 24, 3) := by decide +kernel
theorem dX0_removedRank_4 : decode cX0_removedRank 4 = .ok (.bipush 10, 2) := by decide +kernel
theorem dX0_removedRank_6 : decode cX0_removedRank 6 = .ok (.ishr, 1) := by decide +kernel
theorem dX0_removedRank_7 : decode cX0_removedRank 7 = .ok (.ireturn, 1) := by decide +kernel
theorem dX0_sink_0 : decode cX0_sink 0 = .ok (.iconst 0, 1) := by decide +kernel
theorem dX0_sink_1 : decode cX0_sink 1 = .ok (.istore_n 2, 1) := by decide +kernel
theorem dX0_sink_2 : decode cX0_sink 2 = .ok (.iconst 1, 1) := by decide +kernel
theorem dX0_sink_3 : decode cX0_sink 3 = .ok (.istore_n 3, 1) := by decide +kernel
theorem dX0_sink_4 : decode cX0_sink 4 = .ok (.iload_n 3, 1) := by decide +kernel
theorem dX0_sink_5 : decode cX0_sink 5 = .ok (.aload_n 0, 1) := by decide +kernel
theorem dX0_sink_6 : decode cX0_sink 6 = .ok (.getfield 20, 3) := by decide +kernel
theorem dX0_sink_9 : decode cX0_sink 9 = .ok (.if_icmp .ge 79, 3) := by decide +kernel
theorem dX0_sink_12 : decode cX0_sink 12 = .ok (.iload_n 3, 1) := by decide +kernel
theorem dX0_sink_13 : decode cX0_sink 13 = .ok (.iconst 1, 1) := by decide +kernel
theorem dX0_sink_14 : decode cX0_sink 14 = .ok (.iadd, 1) := by decide +kernel
theorem dX0_sink_15 : decode cX0_sink 15 = .ok (.aload_n 0, 1) := by decide +kernel
theorem dX0_sink_16 : decode cX0_sink 16 = .ok (.getfield 20, 3) := by decide +kernel
theorem dX0_sink_19 : decode cX0_sink 19 = .ok (.if_icmp .ge 27, 3) := by decide +kernel
theorem dX0_sink_22 : decode cX0_sink 22 = .ok (.aload_n 0, 1) := by decide +kernel
theorem dX0_sink_23 : decode cX0_sink 23 = .ok (.getfield 16, 3) := by decide +kernel
theorem dX0_sink_26 : decode cX0_sink 26 = .ok (.iload_n 3, 1) := by decide +kernel
theorem dX0_sink_27 : decode cX0_sink 27 = .ok (.iconst 1, 1) := by decide +kernel
theorem dX0_sink_28 : decode cX0_sink 28 = .ok (.iadd, 1) := by decide +kernel
theorem dX0_sink_29 : decode cX0_sink 29 = .ok (.invokevirtual 27, 3) := by decide +kernel
theorem dX0_sink_32 : decode cX0_sink 32 = .ok (.aload_n 0, 1) := by decide +kernel
theorem dX0_sink_33 : decode cX0_sink 33 = .ok (.getfield 16, 3) := by decide +kernel
theorem dX0_sink_36 : decode cX0_sink 36 = .ok (.iload_n 3, 1) := by decide +kernel
theorem dX0_sink_37 : decode cX0_sink 37 = .ok (.invokevirtual 27, 3) := by decide +kernel
theorem dX0_sink_40 : decode cX0_sink 40 = .ok (.if_icmp .ge 6, 3) := by decide +kernel
theorem dX0_sink_43 : decode cX0_sink 43 = .ok (.iinc 3 1, 3) := by decide +kernel
theorem dX0_sink_46 : decode cX0_sink 46 = .ok (.aload_n 0, 1) := by decide +kernel
theorem dX0_sink_47 : decode cX0_sink 47 = .ok (.getfield 16, 3) := by decide +kernel
theorem dX0_sink_50 : decode cX0_sink 50 = .ok (.iload_n 3, 1) := by decide +kernel
theorem dX0_sink_51 : decode cX0_sink 51 = .ok (.invokevirtual 27, 3) := by decide +kernel
theorem dX0_sink_54 : decode cX0_sink 54 = .ok (.iload_n 1, 1) := by decide +kernel
theorem dX0_sink_55 : decode cX0_sink 55 = .ok (.if_icmp .lt 6, 3) := by decide +kernel
theorem dX0_sink_58 : decode cX0_sink 58 = .ok (.goto 30, 3) := by decide +kernel
theorem dX0_sink_61 : decode cX0_sink 61 = .ok (.aload_n 0, 1) := by decide +kernel
theorem dX0_sink_62 : decode cX0_sink 62 = .ok (.getfield 16, 3) := by decide +kernel
theorem dX0_sink_65 : decode cX0_sink 65 = .ok (.iload_n 2, 1) := by decide +kernel
theorem dX0_sink_66 : decode cX0_sink 66 = .ok (.aload_n 0, 1) := by decide +kernel
theorem dX0_sink_67 : decode cX0_sink 67 = .ok (.getfield 16, 3) := by decide +kernel
theorem dX0_sink_70 : decode cX0_sink 70 = .ok (.iload_n 3, 1) := by decide +kernel
theorem dX0_sink_71 : decode cX0_sink 71 = .ok (.invokevirtual 27, 3) := by decide +kernel
theorem dX0_sink_74 : decode cX0_sink 74 = .ok (.invokevirtual 31, 3) := by decide +kernel
theorem dX0_sink_77 : decode cX0_sink 77 = .ok (.iload_n 3, 1) := by decide +kernel
theorem dX0_sink_78 : decode cX0_sink 78 = .ok (.istore_n 2, 1) := by decide +kernel
theorem dX0_sink_79 : decode cX0_sink 79 = .ok (.iconst 2, 1) := by decide +kernel
theorem dX0_sink_80 : decode cX0_sink 80 = .ok (.iload_n 2, 1) := by decide +kernel
theorem dX0_sink_81 : decode cX0_sink 81 = .ok (.imul, 1) := by decide +kernel
theorem dX0_sink_82 : decode cX0_sink 82 = .ok (.iconst 1, 1) := by decide +kernel
theorem dX0_sink_83 : decode cX0_sink 83 = .ok (.iadd, 1) := by decide +kernel
theorem dX0_sink_84 : decode cX0_sink 84 = .ok (.istore_n 3, 1) := by decide +kernel
theorem dX0_sink_85 : decode cX0_sink 85 = .ok (.goto (-81), 3) := by decide +kernel
theorem dX0_sink_88 : decode cX0_sink 88 = .ok (.aload_n 0, 1) := by decide +kernel
theorem dX0_sink_89 : decode cX0_sink 89 = .ok (.getfield 16, 3) := by decide +kernel
theorem dX0_sink_92 : decode cX0_sink 92 = .ok (.iload_n 2, 1) := by decide +kernel
theorem dX0_sink_93 : decode cX0_sink 93 = .ok (.iload_n 1, 1) := by decide +kernel
theorem dX0_sink_94 : decode cX0_sink 94 = .ok (.invokevirtual 31, 3) := by decide +kernel
theorem dX0_sink_97 : decode cX0_sink 97 = .ok (.return_, 1) := by decide +kernel
theorem dX1_init_0 : decode cX1_init 0 = .ok (.aload_n 0, 1) := by decide +kernel
theorem dX1_init_1 : decode cX1_init 1 = .ok (.invokespecial 3, 3) := by decide +kernel
theorem dX1_init_4 : decode cX1_init 4 = .ok (.aload_n 0, 1) := by decide +kernel
theorem dX1_init_5 : decode cX1_init 5 = .ok (.new 9, 3) := by decide +kernel
theorem dX1_init_8 : decode cX1_init 8 = .ok (.dup, 1) := by decide +kernel
theorem dX1_init_9 : decode cX1_init 9 = .ok (.sipush 3456, 3) := by decide +kernel
theorem dX1_init_12 : decode cX1_init 12 = .ok (.invokespecial 11, 3) := by decide +kernel
theorem dX1_init_15 : decode cX1_init 15 = .ok (.putfield 14, 3) := by decide +kernel
theorem dX1_init_18 : decode cX1_init 18 = .ok (.aload_n 0, 1) := by decide +kernel
theorem dX1_init_19 : decode cX1_init 19 = .ok (.new 9, 3) := by decide +kernel
theorem dX1_init_22 : decode cX1_init 22 = .ok (.dup, 1) := by decide +kernel
theorem dX1_init_23 : decode cX1_init 23 = .ok (.sipush 576, 3) := by decide +kernel
theorem dX1_init_26 : decode cX1_init 26 = .ok (.invokespecial 11, 3) := by decide +kernel
theorem dX1_init_29 : decode cX1_init 29 = .ok (.putfield 20, 3) := by decide +kernel
theorem dX1_init_32 : decode cX1_init 32 = .ok (.aload_n 0, 1) := by decide +kernel
theorem dX1_init_33 : decode cX1_init 33 = .ok (.new 9, 3) := by decide +kernel
theorem dX1_init_36 : decode cX1_init 36 = .ok (.dup, 1) := by decide +kernel
theorem dX1_init_37 : decode cX1_init 37 = .ok (.bipush 6, 2) := by decide +kernel
theorem dX1_init_39 : decode cX1_init 39 = .ok (.invokespecial 11, 3) := by decide +kernel
theorem dX1_init_42 : decode cX1_init 42 = .ok (.putfield 23, 3) := by decide +kernel
theorem dX1_init_45 : decode cX1_init 45 = .ok (.aload_n 0, 1) := by decide +kernel
theorem dX1_init_46 : decode cX1_init 46 = .ok (.new 9, 3) := by decide +kernel
theorem dX1_init_49 : decode cX1_init 49 = .ok (.dup, 1) := by decide +kernel
theorem dX1_init_50 : decode cX1_init 50 = .ok (.bipush 12, 2) := by decide +kernel
theorem dX1_init_52 : decode cX1_init 52 = .ok (.invokespecial 11, 3) := by decide +kernel
theorem dX1_init_55 : decode cX1_init 55 = .ok (.putfield 26, 3) := by decide +kernel
theorem dX1_init_58 : decode cX1_init 58 = .ok (.aload_n 0, 1) := by decide +kernel
theorem dX1_init_59 : decode cX1_init 59 = .ok (.iconst 0, 1) := by decide +kernel
theorem dX1_init_60 : decode cX1_init 60 = .ok (.putfield 29, 3) := by decide +kernel
theorem dX1_init_63 : decode cX1_init 63 = .ok (.aload_n 0, 1) := by decide +kernel
theorem dX1_init_64 : decode cX1_init 64 = .ok (.iconst 0, 1) := by decide +kernel
theorem dX1_init_65 : decode cX1_init 65 = .ok (.putfield 33, 3) := by decide +kernel
theorem dX1_init_68 : decode cX1_init 68 = .ok (.aload_n 0, 1) := by decide +kernel
theorem dX1_init_69 : decode cX1_init 69 = .ok (.iconst 0, 1) := by decide +kernel
theorem dX1_init_70 : decode cX1_init 70 = .ok (.putfield 36, 3) := by decide +kernel
theorem dX1_init_73 : decode cX1_init 73 = .ok (.aload_n 0, 1) := by decide +kernel
theorem dX1_init_74 : decode cX1_init 74 = .ok (.iconst 0, 1) := by decide +kernel
theorem dX1_init_75 : decode cX1_init 75 = .ok (.putfield 39, 3) := by decide +kernel
theorem dX1_init_78 : decode cX1_init 78 = .ok (.return_, 1) := by decide +kernel
theorem dX1_build_0 : decode cX1_build 0 = .ok (.aload_n 0, 1) := by decide +kernel
theorem dX1_build_1 : decode cX1_build 1 = .ok (.iload 5, 2) := by decide +kernel
theorem dX1_build_3 : decode cX1_build 3 = .ok (.putfield 29, 3) := by decide +kernel
theorem dX1_build_6 : decode cX1_build 6 = .ok (.iconst 0, 1) := by decide +kernel
theorem dX1_build_7 : decode cX1_build 7 = .ok (.istore 6, 2) := by decide +kernel
theorem dX1_build_9 : decode cX1_build 9 = .ok (.iload 6, 2) := by decide +kernel
theorem dX1_build_11 : decode cX1_build 11 = .ok (.aload_n 3, 1) := by decide +kernel
theorem dX1_build_12 : decode cX1_build 12 = .ok (.getfield 42, 3) := by decide +kernel
theorem dX1_build_15 : decode cX1_build 15 = .ok (.if_icmp .ge 28, 3) := by decide +kernel
theorem dX1_build_18 : decode cX1_build 18 = .ok (.aload_n 0, 1) := by decide +kernel
theorem dX1_build_19 : decode cX1_build 19 = .ok (.aload_n 1, 1) := by decide +kernel
theorem dX1_build_20 : decode cX1_build 20 = .ok (.aload_n 2, 1) := by decide +kernel
theorem dX1_build_21 : decode cX1_build 21 = .ok (.aload 4, 2) := by decide +kernel
theorem dX1_build_23 : decode cX1_build 23 = .ok (.iload 6, 2) := by decide +kernel
theorem dX1_build_25 : decode cX1_build 25 = .ok (.aload_n 3, 1) := by decide +kernel
theorem dX1_build_26 : decode cX1_build 26 = .ok (.getfield 47, 3) := by decide +kernel
theorem dX1_build_29 : decode cX1_build 29 = .ok (.iload 6, 2) := by decide +kernel
theorem dX1_build_31 : decode cX1_build 31 = .ok (.invokevirtual 50, 3) := by decide +kernel
theorem dX1_build_34 : decode cX1_build 34 = .ok (.invokevirtual 54, 3) := by decide +kernel
theorem dX1_build_37 : decode cX1_build 37 = .ok (.iinc 6 1, 3) := by decide +kernel
theorem dX1_build_40 : decode cX1_build 40 = .ok (.goto (-31), 3) := by decide +kernel
theorem dX1_build_43 : decode cX1_build 43 = .ok (.aload_n 0, 1) := by decide +kernel
theorem dX1_build_44 : decode cX1_build 44 = .ok (.aload_n 3, 1) := by decide +kernel
theorem dX1_build_45 : decode cX1_build 45 = .ok (.getfield 42, 3) := by decide +kernel
theorem dX1_build_48 : decode cX1_build 48 = .ok (.ifCond .le 7, 3) := by decide +kernel
theorem dX1_build_51 : decode cX1_build 51 = .ok (.iconst 1, 1) := by decide +kernel
theorem dX1_build_52 : decode cX1_build 52 = .ok (.goto 4, 3) := by decide +kernel
theorem dX1_build_55 : decode cX1_build 55 = .ok (.iconst 0, 1) := by decide +kernel
theorem dX1_build_56 : decode cX1_build 56 = .ok (.putfield 33, 3) := by decide +kernel
theorem dX1_build_59 : decode cX1_build 59 = .ok (.aload_n 0, 1) := by decide +kernel
theorem dX1_build_60 : decode cX1_build 60 = .ok (.iconst 0, 1) := by decide +kernel
theorem dX1_build_61 : decode cX1_build 61 = .ok (.putfield 36, 3) := by decide +kernel
theorem dX1_build_64 : decode cX1_build 64 = .ok (.aload_n 0, 1) := by decide +kernel
theorem dX1_build_65 : decode cX1_build 65 = .ok (.iconst 0, 1) := by decide +kernel
theorem dX1_build_66 : decode cX1_build 66 = .ok (.putfield 39, 3) := by decide +kernel
theorem dX1_build_69 : decode cX1_build 69 = .ok (.aload_n 0, 1) := by decide +kernel
theorem dX1_build_70 : decode cX1_build 70 = .ok (.getfield 23, 3) := by decide +kernel
theorem dX1_build_73 : decode cX1_build 73 = .ok (.iconst 0, 1) := by decide +kernel
theorem dX1_build_74 : decode cX1_build 74 = .ok (.invokevirtual 58, 3) := by decide +kernel
theorem dX1_build_77 : decode cX1_build 77 = .ok (.aload_n 0, 1) := by decide +kernel
theorem dX1_build_78 : decode cX1_build 78 = .ok (.getfield 23, 3) := by decide +kernel
theorem dX1_build_81 : decode cX1_build 81 = .ok (.iconst 0, 1) := by decide +kernel
theorem dX1_build_82 : decode cX1_build 82 = .ok (.iconst 1, 1) := by decide +kernel
theorem dX1_build_83 : decode cX1_build 83 = .ok (.invokevirtual 61, 3) := by decide +kernel
theorem dX1_build_86 : decode cX1_build 86 = .ok (.iconst 1, 1) := by decide +kernel
theorem dX1_build_87 : decode cX1_build 87 = .ok (.istore 6, 2) := by decide +kernel
theorem dX1_build_89 : decode cX1_build 89 = .ok (.iload 6, 2) := by decide +kernel
theorem dX1_build_91 : decode cX1_build 91 = .ok (.aload_n 3, 1) := by decide +kernel
theorem dX1_build_92 : decode cX1_build 92 = .ok (.getfield 42, 3) := by decide +kernel
theorem dX1_build_95 : decode cX1_build 95 = .ok (.if_icmp .ge 14, 3) := by decide +kernel
theorem dX1_build_98 : decode cX1_build 98 = .ok (.aload_n 0, 1) := by decide +kernel
theorem dX1_build_99 : decode cX1_build 99 = .ok (.aload_n 3, 1) := by decide +kernel
theorem dX1_build_100 : decode cX1_build 100 = .ok (.invokevirtual 65, 3) := by decide +kernel
theorem dX1_build_103 : decode cX1_build 103 = .ok (.iinc 6 1, 3) := by decide +kernel
theorem dX1_build_106 : decode cX1_build 106 = .ok (.goto (-17), 3) := by decide +kernel
theorem dX1_build_109 : decode cX1_build 109 = .ok (.aload_n 0, 1) := by decide +kernel
theorem dX1_build_110 : decode cX1_build 110 = .ok (.getfield 20, 3) := by decide +kernel
theorem dX1_build_113 : decode cX1_build 113 = .ok (.iconst 0, 1) := by decide +kernel
theorem dX1_build_114 : decode cX1_build 114 = .ok (.invokevirtual 58, 3) := by decide +kernel
theorem dX1_build_117 : decode cX1_build 117 = .ok (.iconst 0, 1) := by decide +kernel
theorem dX1_build_118 : decode cX1_build 118 = .ok (.istore 6, 2) := by decide +kernel
theorem dX1_build_120 : decode cX1_build 120 = .ok (.iload 6, 2) := by decide +kernel
theorem dX1_build_122 : decode cX1_build 122 = .ok (.aload_n 0, 1) := by decide +kernel
theorem dX1_build_123 : decode cX1_build 123 = .ok (.getfield 39, 3) := by decide +kernel
theorem dX1_build_126 : decode cX1_build 126 = .ok (.if_icmp .ge 46, 3) := by decide +kernel
theorem dX1_build_129 : decode cX1_build 129 = .ok (.aload_n 0, 1) := by decide +kernel
theorem dX1_build_130 : decode cX1_build 130 = .ok (.aload_n 1, 1) := by decide +kernel
theorem dX1_build_131 : decode cX1_build 131 = .ok (.aload_n 2, 1) := by decide +kernel
theorem dX1_build_132 : decode cX1_build 132 = .ok (.aload_n 3, 1) := by decide +kernel
theorem dX1_build_133 : decode cX1_build 133 = .ok (.getfield 47, 3) := by decide +kernel
theorem dX1_build_136 : decode cX1_build 136 = .ok (.aload_n 0, 1) := by decide +kernel
theorem dX1_build_137 : decode cX1_build 137 = .ok (.getfield 26, 3) := by decide +kernel
theorem dX1_build_140 : decode cX1_build 140 = .ok (.iconst 2, 1) := by decide +kernel
theorem dX1_build_141 : decode cX1_build 141 = .ok (.iload 6, 2) := by decide +kernel
theorem dX1_build_143 : decode cX1_build 143 = .ok (.imul, 1) := by decide +kernel
theorem dX1_build_144 : decode cX1_build 144 = .ok (.invokevirtual 50, 3) := by decide +kernel
theorem dX1_build_147 : decode cX1_build 147 = .ok (.invokevirtual 50, 3) := by decide +kernel
theorem dX1_build_150 : decode cX1_build 150 = .ok (.aload_n 0, 1) := by decide +kernel
theorem dX1_build_151 : decode cX1_build 151 = .ok (.getfield 26, 3) := by decide +kernel
theorem dX1_build_154 : decode cX1_build 154 = .ok (.iconst 2, 1) := by decide +kernel
theorem dX1_build_155 : decode cX1_build 155 = .ok (.iload 6, 2) := by decide +kernel
theorem dX1_build_157 : decode cX1_build 157 = .ok (.imul, 1) := by decide +kernel
theorem dX1_build_158 : decode cX1_build 158 = .ok (.iconst 1, 1) := by decide +kernel
theorem dX1_build_159 : decode cX1_build 159 = .ok (.iadd, 1) := by decide +kernel
theorem dX1_build_160 : decode cX1_build 160 = .ok (.invokevirtual 50, 3) := by decide +kernel
theorem dX1_build_163 : decode cX1_build 163 = .ok (.invokevirtual 69, 3) := by decide +kernel
theorem dX1_build_166 : decode cX1_build 166 = .ok (.iinc 6 1, 3) := by decide +kernel
theorem dX1_build_169 : decode cX1_build 169 = .ok (.goto (-49), 3) := by decide +kernel
theorem dX1_build_172 : decode cX1_build 172 = .ok (.return_, 1) := by decide +kernel
theorem dX1_costOf_0 : decode cX1_costOf 0 = .ok (.aload_n 0, 1) := by decide +kernel
theorem dX1_costOf_1 : decode cX1_costOf 1 = .ok (.getfield 14, 3) := by decide +kernel
theorem dX1_costOf_4 : decode cX1_costOf 4 = .ok (.sipush 576, 3) := by decide +kernel
theorem dX1_costOf_7 : decode cX1_costOf 7 = .ok (.iload_n 2, 1) := by decide +kernel
theorem dX1_costOf_8 : decode cX1_costOf 8 = .ok (.imul, 1) := by decide +kernel
theorem dX1_costOf_9 : decode cX1_costOf 9 = .ok (.iload_n 1, 1) := by decide +kernel
theorem dX1_costOf_10 : decode cX1_costOf 10 = .ok (.iadd, 1) := by decide +kernel
theorem dX1_costOf_11 : decode cX1_costOf 11 = .ok (.invokevirtual 50, 3) := by decide +kernel
theorem dX1_costOf_14 : decode cX1_costOf 14 = .ok (.ireturn, 1) := by decide +kernel
theorem dX1_findCosts_0 : decode cX1_findCosts 0 = .ok (.sipush 576, 3) := by decide +kernel
theorem dX1_findCosts_3 : decode cX1_findCosts 3 = .ok (.iload 4, 2) := by decide +kernel
theorem dX1_findCosts_5 : decode cX1_findCosts 5 = .ok (.imul, 1) := by decide +kernel
theorem dX1_findCosts_6 : decode cX1_findCosts 6 = .ok (.istore 6, 2) := by decide +kernel
theorem dX1_findCosts_8 : decode cX1_findCosts 8 = .ok (.iconst 0, 1) := by decide +kernel
theorem dX1_findCosts_9 : decode cX1_findCosts 9 = .ok (.istore 7, 2) := by decide +kernel
theorem dX1_findCosts_11 : decode cX1_findCosts 11 = .ok (.iload 7, 2) := by decide +kernel
theorem dX1_findCosts_13 : decode cX1_findCosts 13 = .ok (.aload_n 1, 1) := by decide +kernel
theorem dX1_findCosts_14 : decode cX1_findCosts 14 = .ok (.getfield 73, 3) := by decide +kernel
theorem dX1_findCosts_17 : decode cX1_findCosts 17 = .ok (.if_icmp .ge 23, 3) := by decide +kernel
theorem dX1_findCosts_20 : decode cX1_findCosts 20 = .ok (.aload_n 0, 1) := by decide +kernel
theorem dX1_findCosts_21 : decode cX1_findCosts 21 = .ok (.getfield 14, 3) := by decide +kernel
theorem dX1_findCosts_24 : decode cX1_findCosts 24 = .ok (.iload 6, 2) := by decide +kernel
theorem dX1_findCosts_26 : decode cX1_findCosts 26 = .ok (.iload 7, 2) := by decide +kernel
theorem dX1_findCosts_28 : decode cX1_findCosts 28 = .ok (.iadd, 1) := by decide +kernel
theorem dX1_findCosts_29 : decode cX1_findCosts 29 = .ok (.bipush (-6), 2) := by decide +kernel
theorem dX1_findCosts_31 : decode cX1_findCosts 31 = .ok (.invokevirtual 61, 3) := by decide +kernel
theorem dX1_findCosts_34 : decode cX1_findCosts 34 = .ok (.iinc 7 1, 3) := by decide +kernel
theorem dX1_findCosts_37 : decode cX1_findCosts 37 = .ok (.goto (-26), 3) := by decide +kernel
theorem dX1_findCosts_40 : decode cX1_findCosts 40 = .ok (.aload_n 3, 1) := by decide +kernel
theorem dX1_findCosts_41 : decode cX1_findCosts 41 = .ok (.invokevirtual 78, 3) := by decide +kernel
theorem dX1_findCosts_44 : decode cX1_findCosts 44 = .ok (.aload_n 0, 1) := by decide +kernel
theorem dX1_findCosts_45 : decode cX1_findCosts 45 = .ok (.getfield 14, 3) := by decide +kernel
theorem dX1_findCosts_48 : decode cX1_findCosts 48 = .ok (.iload 6, 2) := by decide +kernel
theorem dX1_findCosts_50 : decode cX1_findCosts 50 = .ok (.iload 5, 2) := by decide +kernel
theorem dX1_findCosts_52 : decode cX1_findCosts 52 = .ok (.iadd, 1) := by decide +kernel
theorem dX1_findCosts_53 : decode cX1_findCosts 53 = .ok (.iconst 0, 1) := by decide +kernel
theorem dX1_findCosts_54 : decode cX1_findCosts 54 = .ok (.invokevirtual 61, 3) := by decide +kernel
theorem dX1_findCosts_57 : decode cX1_findCosts 57 = .ok (.aload_n 3, 1) := by decide +kernel
theorem dX1_findCosts_58 : decode cX1_findCosts 58 = .ok (.iconst 0, 1) := by decide +kernel
theorem dX1_findCosts_59 : decode cX1_findCosts 59 = .ok (.iload 5, 2) := by decide +kernel
theorem dX1_findCosts_61 : decode cX1_findCosts 61 = .ok (.invokevirtual 83, 3) := by decide +kernel
theorem dX1_findCosts_64 : decode cX1_findCosts 64 = .ok (.iconst 0, 1) := by decide +kernel
theorem dX1_findCosts_65 : decode cX1_findCosts 65 = .ok (.istore 7, 2) := by decide +kernel
theorem dX1_findCosts_67 : decode cX1_findCosts 67 = .ok (.iload 7, 2) := by decide +kernel
theorem dX1_findCosts_69 : decode cX1_findCosts 69 = .ok (.sipush 2308, 3) := by decide +kernel
theorem dX1_findCosts_72 : decode cX1_findCosts 72 = .ok (.if_icmp .ge 56, 3) := by decide +kernel
theorem dX1_findCosts_75 : decode cX1_findCosts 75 = .ok (.aload_n 3, 1) := by decide +kernel
theorem dX1_findCosts_76 : decode cX1_findCosts 76 = .ok (.invokevirtual 86, 3) := by decide +kernel
theorem dX1_findCosts_79 : decode cX1_findCosts 79 = .ok (.ifCond .eq 49, 3) := by decide +kernel
theorem dX1_findCosts_82 : decode cX1_findCosts 82 = .ok (.aload_n 3, 1) := by decide +kernel
theorem dX1_findCosts_83 : decode cX1_findCosts 83 = .ok (.invokevirtual 90, 3) := by decide +kernel
theorem dX1_findCosts_86 : decode cX1_findCosts 86 = .ok (.istore 8, 2) := by decide +kernel
theorem dX1_findCosts_88 : decode cX1_findCosts 88 = .ok (.aload_n 3, 1) := by decide +kernel
theorem dX1_findCosts_89 : decode cX1_findCosts 89 = .ok (.invokevirtual 94, 3) := by decide +kernel
theorem dX1_findCosts_92 : decode cX1_findCosts 92 = .ok (.istore 9, 2) := by decide +kernel
theorem dX1_findCosts_94 : decode cX1_findCosts 94 = .ok (.iload 9, 2) := by decide +kernel
theorem dX1_findCosts_96 : decode cX1_findCosts 96 = .ok (.aload_n 0, 1) := by decide +kernel
theorem dX1_findCosts_97 : decode cX1_findCosts 97 = .ok (.getfield 14, 3) := by decide +kernel
theorem dX1_findCosts_100 : decode cX1_findCosts 100 = .ok (.iload 6, 2) := by decide +kernel
theorem dX1_findCosts_102 : decode cX1_findCosts 102 = .ok (.iload 8, 2) := by decide +kernel
theorem dX1_findCosts_104 : decode cX1_findCosts 104 = .ok (.iadd, 1) := by decide +kernel
theorem dX1_findCosts_105 : decode cX1_findCosts 105 = .ok (.invokevirtual 50, 3) := by decide +kernel
theorem dX1_findCosts_108 : decode cX1_findCosts 108 = .ok (.if_icmp .ne 14, 3) := by decide +kernel
theorem dX1_findCosts_111 : decode cX1_findCosts 111 = .ok (.aload_n 0, 1) := by decide +kernel
theorem dX1_findCosts_112 : decode cX1_findCosts 112 = .ok (.aload_n 1, 1) := by decide +kernel
theorem dX1_findCosts_113 : decode cX1_findCosts 113 = .ok (.aload_n 2, 1) := by decide +kernel
theorem dX1_findCosts_114 : decode cX1_findCosts 114 = .ok (.aload_n 3, 1) := by decide +kernel
theorem dX1_findCosts_115 : decode cX1_findCosts 115 = .ok (.iload 6, 2) := by decide +kernel
theorem dX1_findCosts_117 : decode cX1_findCosts 117 = .ok (.iload 8, 2) := by decide +kernel
theorem dX1_findCosts_119 : decode cX1_findCosts 119 = .ok (.invokevirtual 97, 3) := by decide +kernel
theorem dX1_findCosts_122 : decode cX1_findCosts 122 = .ok (.iinc 7 1, 3) := by decide +kernel
theorem dX1_findCosts_125 : decode cX1_findCosts 125 = .ok (.goto (-58), 3) := by decide +kernel
theorem dX1_findCosts_128 : decode cX1_findCosts 128 = .ok (.return_, 1) := by decide +kernel
theorem dX1_spreadCosts_0 : decode cX1_spreadCosts 0 = .ok (.iconst 0, 1) := by decide +kernel
theorem dX1_spreadCosts_1 : decode cX1_spreadCosts 1 = .ok (.istore 6, 2) := by decide +kernel
theorem dX1_spreadCosts_3 : decode cX1_spreadCosts 3 = .ok (.iload 6, 2) := by decide +kernel
theorem dX1_spreadCosts_5 : decode cX1_spreadCosts 5 = .ok (.iconst 4, 1) := by decide +kernel
theorem dX1_spreadCosts_6 : decode cX1_spreadCosts 6 = .ok (.if_icmp .ge 110, 3) := by decide +kernel
theorem dX1_spreadCosts_9 : decode cX1_spreadCosts 9 = .ok (.aload_n 1, 1) := by decide +kernel
theorem dX1_spreadCosts_10 : decode cX1_spreadCosts 10 = .ok (.iload 5, 2) := by decide +kernel
theorem dX1_spreadCosts_12 : decode cX1_spreadCosts 12 = .ok (.iload 6, 2) := by decide +kernel
theorem dX1_spreadCosts_14 : decode cX1_spreadCosts 14 = .ok (.invokevirtual 100, 3) := by decide +kernel
theorem dX1_spreadCosts_17 : decode cX1_spreadCosts 17 = .ok (.istore 7, 2) := by decide +kernel
theorem dX1_spreadCosts_19 : decode cX1_spreadCosts 19 = .ok (.iload 7, 2) := by decide +kernel
theorem dX1_spreadCosts_21 : decode cX1_spreadCosts 21 = .ok (.bipush (-6), 2) := by decide +kernel
theorem dX1_spreadCosts_23 : decode cX1_spreadCosts 23 = .ok (.if_icmp .eq 87, 3) := by decide +kernel
theorem dX1_spreadCosts_26 : decode cX1_spreadCosts 26 = .ok (.aload_n 2, 1) := by decide +kernel
theorem dX1_spreadCosts_27 : decode cX1_spreadCosts 27 = .ok (.iload 7, 2) := by decide +kernel
theorem dX1_spreadCosts_29 : decode cX1_spreadCosts 29 = .ok (.invokevirtual 104, 3) := by decide +kernel
theorem dX1_spreadCosts_32 : decode cX1_spreadCosts 32 = .ok (.ifCond .eq 78, 3) := by decide +kernel
theorem dX1_spreadCosts_35 : decode cX1_spreadCosts 35 = .ok (.aload_n 0, 1) := by decide +kernel
theorem dX1_spreadCosts_36 : decode cX1_spreadCosts 36 = .ok (.getfield 14, 3) := by decide +kernel
theorem dX1_spreadCosts_39 : decode cX1_spreadCosts 39 = .ok (.iload 4, 2) := by decide +kernel
theorem dX1_spreadCosts_41 : decode cX1_spreadCosts 41 = .ok (.iload 5, 2) := by decide +kernel
theorem dX1_spreadCosts_43 : decode cX1_spreadCosts 43 = .ok (.iadd, 1) := by decide +kernel
theorem dX1_spreadCosts_44 : decode cX1_spreadCosts 44 = .ok (.invokevirtual 50, 3) := by decide +kernel
theorem dX1_spreadCosts_47 : decode cX1_spreadCosts 47 = .ok (.aload_n 0, 1) := by decide +kernel
theorem dX1_spreadCosts_48 : decode cX1_spreadCosts 48 = .ok (.aload_n 1, 1) := by decide +kernel
theorem dX1_spreadCosts_49 : decode cX1_spreadCosts 49 = .ok (.aload_n 2, 1) := by decide +kernel
theorem dX1_spreadCosts_50 : decode cX1_spreadCosts 50 = .ok (.iload 5, 2) := by decide +kernel
theorem dX1_spreadCosts_52 : decode cX1_spreadCosts 52 = .ok (.iload 7, 2) := by decide +kernel
theorem dX1_spreadCosts_54 : decode cX1_spreadCosts 54 = .ok (.invokevirtual 110, 3) := by decide +kernel
theorem dX1_spreadCosts_57 : decode cX1_spreadCosts 57 = .ok (.iadd, 1) := by decide +kernel
theorem dX1_spreadCosts_58 : decode cX1_spreadCosts 58 = .ok (.istore 8, 2) := by decide +kernel
theorem dX1_spreadCosts_60 : decode cX1_spreadCosts 60 = .ok (.aload_n 0, 1) := by decide +kernel
theorem dX1_spreadCosts_61 : decode cX1_spreadCosts 61 = .ok (.getfield 14, 3) := by decide +kernel
theorem dX1_spreadCosts_64 : decode cX1_spreadCosts 64 = .ok (.iload 4, 2) := by decide +kernel
theorem dX1_spreadCosts_66 : decode cX1_spreadCosts 66 = .ok (.iload 7, 2) := by decide +kernel
theorem dX1_spreadCosts_68 : decode cX1_spreadCosts 68 = .ok (.iadd, 1) := by decide +kernel
theorem dX1_spreadCosts_69 : decode cX1_spreadCosts 69 = .ok (.invokevirtual 50, 3) := by decide +kernel
theorem dX1_spreadCosts_72 : decode cX1_spreadCosts 72 = .ok (.istore 9, 2) := by decide +kernel
theorem dX1_spreadCosts_74 : decode cX1_spreadCosts 74 = .ok (.iload 9, 2) := by decide +kernel
theorem dX1_spreadCosts_76 : decode cX1_spreadCosts 76 = .ok (.bipush (-6), 2) := by decide +kernel
theorem dX1_spreadCosts_78 : decode cX1_spreadCosts 78 = .ok (.if_icmp .eq 10, 3) := by decide +kernel
theorem dX1_spreadCosts_81 : decode cX1_spreadCosts 81 = .ok (.iload 8, 2) := by decide +kernel
theorem dX1_spreadCosts_83 : decode cX1_spreadCosts 83 = .ok (.iload 9, 2) := by decide +kernel
theorem dX1_spreadCosts_85 : decode cX1_spreadCosts 85 = .ok (.if_icmp .ge 25, 3) := by decide +kernel
theorem dX1_spreadCosts_88 : decode cX1_spreadCosts 88 = .ok (.aload_n 0, 1) := by decide +kernel
theorem dX1_spreadCosts_89 : decode cX1_spreadCosts 89 = .ok (.getfield 14, 3) := by decide +kernel
theorem dX1_spreadCosts_92 : decode cX1_spreadCosts 92 = .ok (.iload 4, 2) := by decide +kernel
theorem dX1_spreadCosts_94 : decode cX1_spreadCosts 94 = .ok (.iload 7, 2) := by decide +kernel
theorem dX1_spreadCosts_96 : decode cX1_spreadCosts 96 = .ok (.iadd, 1) := by decide +kernel
theorem dX1_spreadCosts_97 : decode cX1_spreadCosts 97 = .ok (.iload 8, 2) := by decide +kernel
theorem dX1_spreadCosts_99 : decode cX1_spreadCosts 99 = .ok (.invokevirtual 61, 3) := by decide +kernel
theorem dX1_spreadCosts_102 : decode cX1_spreadCosts 102 = .ok (.aload_n 3, 1) := by decide +kernel
theorem dX1_spreadCosts_103 : decode cX1_spreadCosts 103 = .ok (.iload 8, 2) := by decide +kernel
theorem dX1_spreadCosts_105 : decode cX1_spreadCosts 105 = .ok (.iload 7, 2) := by decide +kernel
theorem dX1_spreadCosts_107 : decode cX1_spreadCosts 107 = .ok (.invokevirtual 83, 3) := by decide +kernel
theorem dX1_spreadCosts_110 : decode cX1_spreadCosts 110 = .ok (.iinc 6 1, 3) := by decide +kernel
theorem dX1_spreadCosts_113 : decode cX1_spreadCosts 113 = .ok (.goto (-110), 3) := by decide +kernel
theorem dX1_spreadCosts_116 : decode cX1_spreadCosts 116 = .ok (.return_, 1) := by decide +kernel
theorem dX1_stepCost_0 : decode cX1_stepCost 0 = .ok (.aload_n 2, 1) := by decide +kernel
theorem dX1_stepCost_1 : decode cX1_stepCost 1 = .ok (.getfield 114, 3) := by decide +kernel
theorem dX1_stepCost_4 : decode cX1_stepCost 4 = .ok (.iload_n 3, 1) := by decide +kernel
theorem dX1_stepCost_5 : decode cX1_stepCost 5 = .ok (.invokevirtual 50, 3) := by decide +kernel
theorem dX1_stepCost_8 : decode cX1_stepCost 8 = .ok (.iconst 4, 1) := by decide +kernel
theorem dX1_stepCost_9 : decode cX1_stepCost 9 = .ok (.if_icmp .eq 16, 3) := by decide +kernel
theorem dX1_stepCost_12 : decode cX1_stepCost 12 = .ok (.aload_n 2, 1) := by decide +kernel
theorem dX1_stepCost_13 : decode cX1_stepCost 13 = .ok (.getfield 114, 3) := by decide +kernel
theorem dX1_stepCost_16 : decode cX1_stepCost 16 = .ok (.iload 4, 2) := by decide +kernel
theorem dX1_stepCost_18 : decode cX1_stepCost 18 = .ok (.invokevirtual 50, 3) := by decide +kernel
theorem dX1_stepCost_21 : decode cX1_stepCost 21 = .ok (.iconst 4, 1) := by decide +kernel
theorem dX1_stepCost_22 : decode cX1_stepCost 22 = .ok (.if_icmp .ne 7, 3) := by decide +kernel
theorem dX1_stepCost_25 : decode cX1_stepCost 25 = .ok (.iconst 1, 1) := by decide +kernel
theorem dX1_stepCost_26 : decode cX1_stepCost 26 = .ok (.goto 4, 3) := by decide +kernel
theorem dX1_stepCost_29 : decode cX1_stepCost 29 = .ok (.iconst 0, 1) := by decide +kernel
theorem dX1_stepCost_30 : decode cX1_stepCost 30 = .ok (.istore 5, 2) := by decide +kernel
theorem dX1_stepCost_32 : decode cX1_stepCost 32 = .ok (.bipush 10, 2) := by decide +kernel
theorem dX1_stepCost_34 : decode cX1_stepCost 34 = .ok (.aload_n 1, 1) := by decide +kernel
theorem dX1_stepCost_35 : decode cX1_stepCost 35 = .ok (.getfield 117, 3) := by decide +kernel
theorem dX1_stepCost_38 : decode cX1_stepCost 38 = .ok (.iload_n 3, 1) := by decide +kernel
theorem dX1_stepCost_39 : decode cX1_stepCost 39 = .ok (.invokevirtual 50, 3) := by decide +kernel
theorem dX1_stepCost_42 : decode cX1_stepCost 42 = .ok (.aload_n 1, 1) := by decide +kernel
theorem dX1_stepCost_43 : decode cX1_stepCost 43 = .ok (.getfield 117, 3) := by decide +kernel
theorem dX1_stepCost_46 : decode cX1_stepCost 46 = .ok (.iload 4, 2) := by decide +kernel
theorem dX1_stepCost_48 : decode cX1_stepCost 48 = .ok (.invokevirtual 50, 3) := by decide +kernel
theorem dX1_stepCost_51 : decode cX1_stepCost 51 = .ok (.isub, 1) := by decide +kernel
theorem dX1_stepCost_52 : decode cX1_stepCost 52 = .ok (.invokestatic 120, 3) := by decide +kernel
theorem dX1_stepCost_55 : decode cX1_stepCost 55 = .ok (.iadd, 1) := by decide +kernel
theorem dX1_stepCost_56 : decode cX1_stepCost 56 = .ok (.iload 5, 2) := by decide +kernel
theorem dX1_stepCost_58 : decode cX1_stepCost 58 = .ok (.ifCond .eq 10, 3) := by decide +kernel
theorem dX1_stepCost_61 : decode cX1_stepCost 61 = .ok (.aload_n 0, 1) := by decide +kernel
theorem dX1_stepCost_62 : decode cX1_stepCost 62 = .ok (.getfield 29, 3) := by decide +kernel
theorem dX1_stepCost_65 : decode cX1_stepCost 65 = .ok (.goto 4, 3) := by decide +kernel
theorem dX1_stepCost_68 : decode cX1_stepCost 68 = .ok (.iconst 0, 1) := by decide +kernel
theorem dX1_stepCost_69 : decode cX1_stepCost 69 = .ok (.iadd, 1) := by decide +kernel
theorem dX1_stepCost_70 : decode cX1_stepCost 70 = .ok (.ireturn, 1) := by decide +kernel
theorem dX1_nextPlace_0 : decode cX1_nextPlace 0 = .ok (.iconst 0, 1) := by decide +kernel
theorem dX1_nextPlace_1 : decode cX1_nextPlace 1 = .ok (.istore 5, 2) := by decide +kernel
theorem dX1_nextPlace_3 : decode cX1_nextPlace 3 = .ok (.iload 5, 2) := by decide +kernel
theorem dX1_nextPlace_5 : decode cX1_nextPlace 5 = .ok (.iconst 4, 1) := by decide +kernel
theorem dX1_nextPlace_6 : decode cX1_nextPlace 6 = .ok (.if_icmp .ge 78, 3) := by decide +kernel
theorem dX1_nextPlace_9 : decode cX1_nextPlace 9 = .ok (.aload_n 1, 1) := by decide +kernel
theorem dX1_nextPlace_10 : decode cX1_nextPlace 10 = .ok (.iload_n 3, 1) := by decide +kernel
theorem dX1_nextPlace_11 : decode cX1_nextPlace 11 = .ok (.iload 5, 2) := by decide +kernel
theorem dX1_nextPlace_13 : decode cX1_nextPlace 13 = .ok (.invokevirtual 100, 3) := by decide +kernel
theorem dX1_nextPlace_16 : decode cX1_nextPlace 16 = .ok (.istore 6, 2) := by decide +kernel
theorem dX1_nextPlace_18 : decode cX1_nextPlace 18 = .ok (.iload 6, 2) := by decide +kernel
theorem dX1_nextPlace_20 : decode cX1_nextPlace 20 = .ok (.bipush (-6), 2) := by decide +kernel
theorem dX1_nextPlace_22 : decode cX1_nextPlace 22 = .ok (.if_icmp .eq 56, 3) := by decide +kernel
theorem dX1_nextPlace_25 : decode cX1_nextPlace 25 = .ok (.aload_n 2, 1) := by decide +kernel
theorem dX1_nextPlace_26 : decode cX1_nextPlace 26 = .ok (.iload 6, 2) := by decide +kernel
theorem dX1_nextPlace_28 : decode cX1_nextPlace 28 = .ok (.invokevirtual 104, 3) := by decide +kernel
theorem dX1_nextPlace_31 : decode cX1_nextPlace 31 = .ok (.ifCond .eq 47, 3) := by decide +kernel
theorem dX1_nextPlace_34 : decode cX1_nextPlace 34 = .ok (.aload_n 0, 1) := by decide +kernel
theorem dX1_nextPlace_35 : decode cX1_nextPlace 35 = .ok (.iload 6, 2) := by decide +kernel
theorem dX1_nextPlace_37 : decode cX1_nextPlace 37 = .ok (.iload 4, 2) := by decide +kernel
theorem dX1_nextPlace_39 : decode cX1_nextPlace 39 = .ok (.invokevirtual 125, 3) := by decide +kernel
theorem dX1_nextPlace_42 : decode cX1_nextPlace 42 = .ok (.bipush (-6), 2) := by decide +kernel
theorem dX1_nextPlace_44 : decode cX1_nextPlace 44 = .ok (.if_icmp .eq 34, 3) := by decide +kernel
theorem dX1_nextPlace_47 : decode cX1_nextPlace 47 = .ok (.aload_n 0, 1) := by decide +kernel
theorem dX1_nextPlace_48 : decode cX1_nextPlace 48 = .ok (.iload 6, 2) := by decide +kernel
theorem dX1_nextPlace_50 : decode cX1_nextPlace 50 = .ok (.iload 4, 2) := by decide +kernel
theorem dX1_nextPlace_52 : decode cX1_nextPlace 52 = .ok (.invokevirtual 125, 3) := by decide +kernel
theorem dX1_nextPlace_55 : decode cX1_nextPlace 55 = .ok (.aload_n 0, 1) := by decide +kernel
theorem dX1_nextPlace_56 : decode cX1_nextPlace 56 = .ok (.aload_n 1, 1) := by decide +kernel
theorem dX1_nextPlace_57 : decode cX1_nextPlace 57 = .ok (.aload_n 2, 1) := by decide +kernel
theorem dX1_nextPlace_58 : decode cX1_nextPlace 58 = .ok (.iload_n 3, 1) := by decide +kernel
theorem dX1_nextPlace_59 : decode cX1_nextPlace 59 = .ok (.iload 6, 2) := by decide +kernel
theorem dX1_nextPlace_61 : decode cX1_nextPlace 61 = .ok (.invokevirtual 110, 3) := by decide +kernel
theorem dX1_nextPlace_64 : decode cX1_nextPlace 64 = .ok (.iadd, 1) := by decide +kernel
theorem dX1_nextPlace_65 : decode cX1_nextPlace 65 = .ok (.aload_n 0, 1) := by decide +kernel
theorem dX1_nextPlace_66 : decode cX1_nextPlace 66 = .ok (.iload_n 3, 1) := by decide +kernel
theorem dX1_nextPlace_67 : decode cX1_nextPlace 67 = .ok (.iload 4, 2) := by decide +kernel
theorem dX1_nextPlace_69 : decode cX1_nextPlace 69 = .ok (.invokevirtual 125, 3) := by decide +kernel
theorem dX1_nextPlace_72 : decode cX1_nextPlace 72 = .ok (.if_icmp .ne 6, 3) := by decide +kernel
theorem dX1_nextPlace_75 : decode cX1_nextPlace 75 = .ok (.iload 6, 2) := by decide +kernel
theorem dX1_nextPlace_77 : decode cX1_nextPlace 77 = .ok (.ireturn, 1) := by decide +kernel
theorem dX1_nextPlace_78 : decode cX1_nextPlace 78 = .ok (.iinc 5 1, 3) := by decide +kernel
theorem dX1_nextPlace_81 : decode cX1_nextPlace 81 = .ok (.goto (-78), 3) := by decide +kernel
theorem dX1_nextPlace_84 : decode cX1_nextPlace 84 = .ok (.bipush (-6), 2) := by decide +kernel
theorem dX1_nextPlace_86 : decode cX1_nextPlace 86 = .ok (.ireturn, 1) := by decide +kernel
theorem dX1_placeOfWay_0 : decode cX1_placeOfWay 0 = .ok (.iload 5, 2) := by decide +kernel
theorem dX1_placeOfWay_2 : decode cX1_placeOfWay 2 = .ok (.ifCond .lt 24, 3) := by decide +kernel
theorem dX1_placeOfWay_5 : decode cX1_placeOfWay 5 = .ok (.iload 5, 2) := by decide +kernel
theorem dX1_placeOfWay_7 : decode cX1_placeOfWay 7 = .ok (.aload_n 1, 1) := by decide +kernel
theorem dX1_placeOfWay_8 : decode cX1_placeOfWay 8 = .ok (.getfield 73, 3) := by decide +kernel
theorem dX1_placeOfWay_11 : decode cX1_placeOfWay 11 = .ok (.if_icmp .ge 15, 3) := by decide +kernel
theorem dX1_placeOfWay_14 : decode cX1_placeOfWay 14 = .ok (.aload_n 0, 1) := by decide +kernel
theorem dX1_placeOfWay_15 : decode cX1_placeOfWay 15 = .ok (.iload_n 3, 1) := by decide +kernel
theorem dX1_placeOfWay_16 : decode cX1_placeOfWay 16 = .ok (.iload 4, 2) := by decide +kernel
theorem dX1_placeOfWay_18 : decode cX1_placeOfWay 18 = .ok (.invokevirtual 125, 3) := by decide +kernel
theorem dX1_placeOfWay_21 : decode cX1_placeOfWay 21 = .ok (.bipush (-6), 2) := by decide +kernel
theorem dX1_placeOfWay_23 : decode cX1_placeOfWay 23 = .ok (.if_icmp .ne 6, 3) := by decide +kernel
theorem dX1_placeOfWay_26 : decode cX1_placeOfWay 26 = .ok (.bipush (-6), 2) := by decide +kernel
theorem dX1_placeOfWay_28 : decode cX1_placeOfWay 28 = .ok (.ireturn, 1) := by decide +kernel
theorem dX1_placeOfWay_29 : decode cX1_placeOfWay 29 = .ok (.iload_n 3, 1) := by decide +kernel
theorem dX1_placeOfWay_30 : decode cX1_placeOfWay 30 = .ok (.istore 6, 2) := by decide +kernel
theorem dX1_placeOfWay_32 : decode cX1_placeOfWay 32 = .ok (.iconst 0, 1) := by decide +kernel
theorem dX1_placeOfWay_33 : decode cX1_placeOfWay 33 = .ok (.istore 7, 2) := by decide +kernel
theorem dX1_placeOfWay_35 : decode cX1_placeOfWay 35 = .ok (.iload 7, 2) := by decide +kernel
theorem dX1_placeOfWay_37 : decode cX1_placeOfWay 37 = .ok (.iload 5, 2) := by decide +kernel
theorem dX1_placeOfWay_39 : decode cX1_placeOfWay 39 = .ok (.if_icmp .ge 28, 3) := by decide +kernel
theorem dX1_placeOfWay_42 : decode cX1_placeOfWay 42 = .ok (.iload 6, 2) := by decide +kernel
theorem dX1_placeOfWay_44 : decode cX1_placeOfWay 44 = .ok (.bipush (-6), 2) := by decide +kernel
theorem dX1_placeOfWay_46 : decode cX1_placeOfWay 46 = .ok (.if_icmp .eq 21, 3) := by decide +kernel
theorem dX1_placeOfWay_49 : decode cX1_placeOfWay 49 = .ok (.aload_n 0, 1) := by decide +kernel
theorem dX1_placeOfWay_50 : decode cX1_placeOfWay 50 = .ok (.aload_n 1, 1) := by decide +kernel
theorem dX1_placeOfWay_51 : decode cX1_placeOfWay 51 = .ok (.aload_n 2, 1) := by decide +kernel
theorem dX1_placeOfWay_52 : decode cX1_placeOfWay 52 = .ok (.iload 6, 2) := by decide +kernel
theorem dX1_placeOfWay_54 : decode cX1_placeOfWay 54 = .ok (.iload 4, 2) := by decide +kernel
theorem dX1_placeOfWay_56 : decode cX1_placeOfWay 56 = .ok (.invokevirtual 128, 3) := by decide +kernel
theorem dX1_placeOfWay_59 : decode cX1_placeOfWay 59 = .ok (.istore 6, 2) := by decide +kernel
theorem dX1_placeOfWay_61 : decode cX1_placeOfWay 61 = .ok (.iinc 7 1, 3) := by decide +kernel
theorem dX1_placeOfWay_64 : decode cX1_placeOfWay 64 = .ok (.goto (-29), 3) := by decide +kernel
theorem dX1_placeOfWay_67 : decode cX1_placeOfWay 67 = .ok (.iload 6, 2) := by decide +kernel
theorem dX1_placeOfWay_69 : decode cX1_placeOfWay 69 = .ok (.ireturn, 1) := by decide +kernel
theorem dX1_joinCheapest_0 : decode cX1_joinCheapest 0 = .ok (.bipush (-6), 2) := by decide +kernel
theorem dX1_joinCheapest_2 : decode cX1_joinCheapest 2 = .ok (.istore_n 2, 1) := by decide +kernel
theorem dX1_joinCheapest_3 : decode cX1_joinCheapest 3 = .ok (.bipush (-6), 2) := by decide +kernel
theorem dX1_joinCheapest_5 : decode cX1_joinCheapest 5 = .ok (.istore_n 3, 1) := by decide +kernel
theorem dX1_joinCheapest_6 : decode cX1_joinCheapest 6 = .ok (.ldc 133, 2) := by decide +kernel
theorem dX1_joinCheapest_8 : decode cX1_joinCheapest 8 = .ok (.istore 4, 2) := by decide +kernel
theorem dX1_joinCheapest_10 : decode cX1_joinCheapest 10 = .ok (.iconst 0, 1) := by decide +kernel
theorem dX1_joinCheapest_11 : decode cX1_joinCheapest 11 = .ok (.istore 5, 2) := by decide +kernel
theorem dX1_joinCheapest_13 : decode cX1_joinCheapest 13 = .ok (.iload 5, 2) := by decide +kernel
theorem dX1_joinCheapest_15 : decode cX1_joinCheapest 15 = .ok (.aload_n 1, 1) := by decide +kernel
theorem dX1_joinCheapest_16 : decode cX1_joinCheapest 16 = .ok (.getfield 42, 3) := by decide +kernel
theorem dX1_joinCheapest_19 : decode cX1_joinCheapest 19 = .ok (.if_icmp .ge 93, 3) := by decide +kernel
theorem dX1_joinCheapest_22 : decode cX1_joinCheapest 22 = .ok (.iconst 0, 1) := by decide +kernel
theorem dX1_joinCheapest_23 : decode cX1_joinCheapest 23 = .ok (.istore 6, 2) := by decide +kernel
theorem dX1_joinCheapest_25 : decode cX1_joinCheapest 25 = .ok (.iload 6, 2) := by decide +kernel
theorem dX1_joinCheapest_27 : decode cX1_joinCheapest 27 = .ok (.aload_n 1, 1) := by decide +kernel
theorem dX1_joinCheapest_28 : decode cX1_joinCheapest 28 = .ok (.getfield 42, 3) := by decide +kernel
theorem dX1_joinCheapest_31 : decode cX1_joinCheapest 31 = .ok (.if_icmp .ge 75, 3) := by decide +kernel
theorem dX1_joinCheapest_34 : decode cX1_joinCheapest 34 = .ok (.aload_n 0, 1) := by decide +kernel
theorem dX1_joinCheapest_35 : decode cX1_joinCheapest 35 = .ok (.aload_n 1, 1) := by decide +kernel
theorem dX1_joinCheapest_36 : decode cX1_joinCheapest 36 = .ok (.getfield 47, 3) := by decide +kernel
theorem dX1_joinCheapest_39 : decode cX1_joinCheapest 39 = .ok (.iload 5, 2) := by decide +kernel
theorem dX1_joinCheapest_41 : decode cX1_joinCheapest 41 = .ok (.invokevirtual 50, 3) := by decide +kernel
theorem dX1_joinCheapest_44 : decode cX1_joinCheapest 44 = .ok (.iload 6, 2) := by decide +kernel
theorem dX1_joinCheapest_46 : decode cX1_joinCheapest 46 = .ok (.invokevirtual 125, 3) := by decide +kernel
theorem dX1_joinCheapest_49 : decode cX1_joinCheapest 49 = .ok (.istore 7, 2) := by decide +kernel
theorem dX1_joinCheapest_51 : decode cX1_joinCheapest 51 = .ok (.aload_n 0, 1) := by decide +kernel
theorem dX1_joinCheapest_52 : decode cX1_joinCheapest 52 = .ok (.getfield 23, 3) := by decide +kernel
theorem dX1_joinCheapest_55 : decode cX1_joinCheapest 55 = .ok (.iload 5, 2) := by decide +kernel
theorem dX1_joinCheapest_57 : decode cX1_joinCheapest 57 = .ok (.invokevirtual 50, 3) := by decide +kernel
theorem dX1_joinCheapest_60 : decode cX1_joinCheapest 60 = .ok (.iconst 1, 1) := by decide +kernel
theorem dX1_joinCheapest_61 : decode cX1_joinCheapest 61 = .ok (.if_icmp .ne 39, 3) := by decide +kernel
theorem dX1_joinCheapest_64 : decode cX1_joinCheapest 64 = .ok (.aload_n 0, 1) := by decide +kernel
theorem dX1_joinCheapest_65 : decode cX1_joinCheapest 65 = .ok (.getfield 23, 3) := by decide +kernel
theorem dX1_joinCheapest_68 : decode cX1_joinCheapest 68 = .ok (.iload 6, 2) := by decide +kernel
theorem dX1_joinCheapest_70 : decode cX1_joinCheapest 70 = .ok (.invokevirtual 50, 3) := by decide +kernel
theorem dX1_joinCheapest_73 : decode cX1_joinCheapest 73 = .ok (.ifCond .ne 27, 3) := by decide +kernel
theorem dX1_joinCheapest_76 : decode cX1_joinCheapest 76 = .ok (.iload 7, 2) := by decide +kernel
theorem dX1_joinCheapest_78 : decode cX1_joinCheapest 78 = .ok (.bipush (-6), 2) := by decide +kernel
theorem dX1_joinCheapest_80 : decode cX1_joinCheapest 80 = .ok (.if_icmp .eq 20, 3) := by decide +kernel
theorem dX1_joinCheapest_83 : decode cX1_joinCheapest 83 = .ok (.iload 7, 2) := by decide +kernel
theorem dX1_joinCheapest_85 : decode cX1_joinCheapest 85 = .ok (.iload 4, 2) := by decide +kernel
theorem dX1_joinCheapest_87 : decode cX1_joinCheapest 87 = .ok (.if_icmp .ge 13, 3) := by decide +kernel
theorem dX1_joinCheapest_90 : decode cX1_joinCheapest 90 = .ok (.iload 5, 2) := by decide +kernel
theorem dX1_joinCheapest_92 : decode cX1_joinCheapest 92 = .ok (.istore_n 2, 1) := by decide +kernel
theorem dX1_joinCheapest_93 : decode cX1_joinCheapest 93 = .ok (.iload 6, 2) := by decide +kernel
theorem dX1_joinCheapest_95 : decode cX1_joinCheapest 95 = .ok (.istore_n 3, 1) := by decide +kernel
theorem dX1_joinCheapest_96 : decode cX1_joinCheapest 96 = .ok (.iload 7, 2) := by decide +kernel
theorem dX1_joinCheapest_98 : decode cX1_joinCheapest 98 = .ok (.istore 4, 2) := by decide +kernel
theorem dX1_joinCheapest_100 : decode cX1_joinCheapest 100 = .ok (.iinc 6 1, 3) := by decide +kernel
theorem dX1_joinCheapest_103 : decode cX1_joinCheapest 103 = .ok (.goto (-78), 3) := by decide +kernel
theorem dX1_joinCheapest_106 : decode cX1_joinCheapest 106 = .ok (.iinc 5 1, 3) := by decide +kernel
theorem dX1_joinCheapest_109 : decode cX1_joinCheapest 109 = .ok (.goto (-96), 3) := by decide +kernel
theorem dX1_joinCheapest_112 : decode cX1_joinCheapest 112 = .ok (.iload_n 2, 1) := by decide +kernel
theorem dX1_joinCheapest_113 : decode cX1_joinCheapest 113 = .ok (.bipush (-6), 2) := by decide +kernel
theorem dX1_joinCheapest_115 : decode cX1_joinCheapest 115 = .ok (.if_icmp .eq 73, 3) := by decide +kernel
theorem dX1_joinCheapest_118 : decode cX1_joinCheapest 118 = .ok (.aload_n 0, 1) := by decide +kernel
theorem dX1_joinCheapest_119 : decode cX1_joinCheapest 119 = .ok (.getfield 23, 3) := by decide +kernel
theorem dX1_joinCheapest_122 : decode cX1_joinCheapest 122 = .ok (.iload_n 3, 1) := by decide +kernel
theorem dX1_joinCheapest_123 : decode cX1_joinCheapest 123 = .ok (.iconst 1, 1) := by decide +kernel
theorem dX1_joinCheapest_124 : decode cX1_joinCheapest 124 = .ok (.invokevirtual 61, 3) := by decide +kernel
theorem dX1_joinCheapest_127 : decode cX1_joinCheapest 127 = .ok (.aload_n 0, 1) := by decide +kernel
theorem dX1_joinCheapest_128 : decode cX1_joinCheapest 128 = .ok (.dup, 1) := by decide +kernel
theorem dX1_joinCheapest_129 : decode cX1_joinCheapest 129 = .ok (.getfield 33, 3) := by decide +kernel
theorem dX1_joinCheapest_132 : decode cX1_joinCheapest 132 = .ok (.iconst 1, 1) := by decide +kernel
theorem dX1_joinCheapest_133 : decode cX1_joinCheapest 133 = .ok (.iadd, 1) := by decide +kernel
theorem dX1_joinCheapest_134 : decode cX1_joinCheapest 134 = .ok (.putfield 33, 3) := by decide +kernel
theorem dX1_joinCheapest_137 : decode cX1_joinCheapest 137 = .ok (.aload_n 0, 1) := by decide +kernel
theorem dX1_joinCheapest_138 : decode cX1_joinCheapest 138 = .ok (.dup, 1) := by decide +kernel
theorem dX1_joinCheapest_139 : decode cX1_joinCheapest 139 = .ok (.getfield 36, 3) := by decide +kernel
theorem dX1_joinCheapest_142 : decode cX1_joinCheapest 142 = .ok (.iload 4, 2) := by decide +kernel
theorem dX1_joinCheapest_144 : decode cX1_joinCheapest 144 = .ok (.iadd, 1) := by decide +kernel
theorem dX1_joinCheapest_145 : decode cX1_joinCheapest 145 = .ok (.putfield 36, 3) := by decide +kernel
theorem dX1_joinCheapest_148 : decode cX1_joinCheapest 148 = .ok (.aload_n 0, 1) := by decide +kernel
theorem dX1_joinCheapest_149 : decode cX1_joinCheapest 149 = .ok (.getfield 26, 3) := by decide +kernel
theorem dX1_joinCheapest_152 : decode cX1_joinCheapest 152 = .ok (.iconst 2, 1) := by decide +kernel
theorem dX1_joinCheapest_153 : decode cX1_joinCheapest 153 = .ok (.aload_n 0, 1) := by decide +kernel
theorem dX1_joinCheapest_154 : decode cX1_joinCheapest 154 = .ok (.getfield 39, 3) := by decide +kernel
theorem dX1_joinCheapest_157 : decode cX1_joinCheapest 157 = .ok (.imul, 1) := by decide +kernel
theorem dX1_joinCheapest_158 : decode cX1_joinCheapest 158 = .ok (.iload_n 2, 1) := by decide +kernel
theorem dX1_joinCheapest_159 : decode cX1_joinCheapest 159 = .ok (.invokevirtual 61, 3) := by decide +kernel
theorem dX1_joinCheapest_162 : decode cX1_joinCheapest 162 = .ok (.aload_n 0, 1) := by decide +kernel
theorem dX1_joinCheapest_163 : decode cX1_joinCheapest 163 = .ok (.getfield 26, 3) := by decide +kernel
theorem dX1_joinCheapest_166 : decode cX1_joinCheapest 166 = .ok (.iconst 2, 1) := by decide +kernel
theorem dX1_joinCheapest_167 : decode cX1_joinCheapest 167 = .ok (.aload_n 0, 1) := by decide +kernel
theorem dX1_joinCheapest_168 : decode cX1_joinCheapest 168 = .ok (.getfield 39, 3) := by decide +kernel
theorem dX1_joinCheapest_171 : decode cX1_joinCheapest 171 = .ok (.imul, 1) := by decide +kernel
theorem dX1_joinCheapest_172 : decode cX1_joinCheapest 172 = .ok (.iconst 1, 1) := by decide +kernel
theorem dX1_joinCheapest_173 : decode cX1_joinCheapest 173 = .ok (.iadd, 1) := by decide +kernel
theorem dX1_joinCheapest_174 : decode cX1_joinCheapest 174 = .ok (.iload_n 3, 1) := by decide +kernel
theorem dX1_joinCheapest_175 : decode cX1_joinCheapest 175 = .ok (.invokevirtual 61, 3) := by decide +kernel
theorem dX1_joinCheapest_178 : decode cX1_joinCheapest 178 = .ok (.aload_n 0, 1) := by decide +kernel
theorem dX1_joinCheapest_179 : decode cX1_joinCheapest 179 = .ok (.dup, 1) := by decide +kernel
theorem dX1_joinCheapest_180 : decode cX1_joinCheapest 180 = .ok (.getfield 39, 3) := by decide +kernel
theorem dX1_joinCheapest_183 : decode cX1_joinCheapest 183 = .ok (.iconst 1, 1) := by decide +kernel
theorem dX1_joinCheapest_184 : decode cX1_joinCheapest 184 = .ok (.iadd, 1) := by decide +kernel
theorem dX1_joinCheapest_185 : decode cX1_joinCheapest 185 = .ok (.putfield 39, 3) := by decide +kernel
theorem dX1_joinCheapest_188 : decode cX1_joinCheapest 188 = .ok (.return_, 1) := by decide +kernel
theorem dX1_layRoad_0 : decode cX1_layRoad 0 = .ok (.iload_n 3, 1) := by decide +kernel
theorem dX1_layRoad_1 : decode cX1_layRoad 1 = .ok (.istore 5, 2) := by decide +kernel
theorem dX1_layRoad_3 : decode cX1_layRoad 3 = .ok (.iconst 0, 1) := by decide +kernel
theorem dX1_layRoad_4 : decode cX1_layRoad 4 = .ok (.istore 6, 2) := by decide +kernel
theorem dX1_layRoad_6 : decode cX1_layRoad 6 = .ok (.iload 6, 2) := by decide +kernel
theorem dX1_layRoad_8 : decode cX1_layRoad 8 = .ok (.aload_n 1, 1) := by decide +kernel
theorem dX1_layRoad_9 : decode cX1_layRoad 9 = .ok (.getfield 73, 3) := by decide +kernel
theorem dX1_layRoad_12 : decode cX1_layRoad 12 = .ok (.if_icmp .ge 38, 3) := by decide +kernel
theorem dX1_layRoad_15 : decode cX1_layRoad 15 = .ok (.iload 5, 2) := by decide +kernel
theorem dX1_layRoad_17 : decode cX1_layRoad 17 = .ok (.bipush (-6), 2) := by decide +kernel
theorem dX1_layRoad_19 : decode cX1_layRoad 19 = .ok (.if_icmp .eq 31, 3) := by decide +kernel
theorem dX1_layRoad_22 : decode cX1_layRoad 22 = .ok (.aload_n 0, 1) := by decide +kernel
theorem dX1_layRoad_23 : decode cX1_layRoad 23 = .ok (.getfield 20, 3) := by decide +kernel
theorem dX1_layRoad_26 : decode cX1_layRoad 26 = .ok (.iload 5, 2) := by decide +kernel
theorem dX1_layRoad_28 : decode cX1_layRoad 28 = .ok (.iconst 1, 1) := by decide +kernel
theorem dX1_layRoad_29 : decode cX1_layRoad 29 = .ok (.invokevirtual 134, 3) := by decide +kernel
theorem dX1_layRoad_32 : decode cX1_layRoad 32 = .ok (.aload_n 0, 1) := by decide +kernel
theorem dX1_layRoad_33 : decode cX1_layRoad 33 = .ok (.aload_n 1, 1) := by decide +kernel
theorem dX1_layRoad_34 : decode cX1_layRoad 34 = .ok (.aload_n 2, 1) := by decide +kernel
theorem dX1_layRoad_35 : decode cX1_layRoad 35 = .ok (.iload 5, 2) := by decide +kernel
theorem dX1_layRoad_37 : decode cX1_layRoad 37 = .ok (.iload 4, 2) := by decide +kernel
theorem dX1_layRoad_39 : decode cX1_layRoad 39 = .ok (.invokevirtual 128, 3) := by decide +kernel
theorem dX1_layRoad_42 : decode cX1_layRoad 42 = .ok (.istore 5, 2) := by decide +kernel
theorem dX1_layRoad_44 : decode cX1_layRoad 44 = .ok (.iinc 6 1, 3) := by decide +kernel
theorem dX1_layRoad_47 : decode cX1_layRoad 47 = .ok (.goto (-41), 3) := by decide +kernel
theorem dX1_layRoad_50 : decode cX1_layRoad 50 = .ok (.return_, 1) := by decide +kernel
theorem dX1_endOfRoad_0 : decode cX1_endOfRoad 0 = .ok (.iload_n 1, 1) := by decide +kernel
theorem dX1_endOfRoad_1 : decode cX1_endOfRoad 1 = .ok (.iconst 2, 1) := by decide +kernel
theorem dX1_endOfRoad_2 : decode cX1_endOfRoad 2 = .ok (.aload_n 0, 1) := by decide +kernel
theorem dX1_endOfRoad_3 : decode cX1_endOfRoad 3 = .ok (.getfield 39, 3) := by decide +kernel
theorem dX1_endOfRoad_6 : decode cX1_endOfRoad 6 = .ok (.imul, 1) := by decide +kernel
theorem dX1_endOfRoad_7 : decode cX1_endOfRoad 7 = .ok (.if_icmp .ge 14, 3) := by decide +kernel
theorem dX1_endOfRoad_10 : decode cX1_endOfRoad 10 = .ok (.aload_n 0, 1) := by decide +kernel
theorem dX1_endOfRoad_11 : decode cX1_endOfRoad 11 = .ok (.getfield 26, 3) := by decide +kernel
theorem dX1_endOfRoad_14 : decode cX1_endOfRoad 14 = .ok (.iload_n 1, 1) := by decide +kernel
theorem dX1_endOfRoad_15 : decode cX1_endOfRoad 15 = .ok (.invokevirtual 50, 3) := by decide +kernel
theorem dX1_endOfRoad_18 : decode cX1_endOfRoad 18 = .ok (.goto 5, 3) := by decide +kernel
theorem dX1_endOfRoad_21 : decode cX1_endOfRoad 21 = .ok (.bipush (-6), 2) := by decide +kernel
theorem dX1_endOfRoad_23 : decode cX1_endOfRoad 23 = .ok (.ireturn, 1) := by decide +kernel
theorem dX2_init_0 : decode cX2_init 0 = .ok (.aload_n 0, 1) := by decide +kernel
theorem dX2_init_1 : decode cX2_init 1 = .ok (.invokespecial 3, 3) := by decide +kernel
theorem dX2_init_4 : decode cX2_init 4 = .ok (.aload_n 0, 1) := by decide +kernel
theorem dX2_init_5 : decode cX2_init 5 = .ok (.new 9, 3) := by decide +kernel
theorem dX2_init_8 : decode cX2_init 8 = .ok (.dup, 1) := by decide +kernel
theorem dX2_init_9 : decode cX2_init 9 = .ok (.sipush 576, 3) := by decide +kernel
theorem dX2_init_12 : decode cX2_init 12 = .ok (.invokespecial 11, 3) := by decide +kernel
theorem dX2_init_15 : decode cX2_init 15 = .ok (.putfield 14, 3) := by decide +kernel
theorem dX2_init_18 : decode cX2_init 18 = .ok (.aload_n 0, 1) := by decide +kernel
theorem dX2_init_19 : decode cX2_init 19 = .ok (.new 9, 3) := by decide +kernel
theorem dX2_init_22 : decode cX2_init 22 = .ok (.dup, 1) := by decide +kernel
theorem dX2_init_23 : decode cX2_init 23 = .ok (.sipush 576, 3) := by decide +kernel
theorem dX2_init_26 : decode cX2_init 26 = .ok (.invokespecial 11, 3) := by decide +kernel
theorem dX2_init_29 : decode cX2_init 29 = .ok (.putfield 20, 3) := by decide +kernel
theorem dX2_init_32 : decode cX2_init 32 = .ok (.aload_n 0, 1) := by decide +kernel
theorem dX2_init_33 : decode cX2_init 33 = .ok (.new 9, 3) := by decide +kernel
theorem dX2_init_36 : decode cX2_init 36 = .ok (.dup, 1) := by decide +kernel
theorem dX2_init_37 : decode cX2_init 37 = .ok (.sipush 576, 3) := by decide +kernel
theorem dX2_init_40 : decode cX2_init 40 = .ok (.invokespecial 11, 3) := by decide +kernel
theorem dX2_init_43 : decode cX2_init 43 = .ok (.putfield 23, 3) := by decide +kernel
theorem dX2_init_46 : decode cX2_init 46 = .ok (.aload_n 0, 1) := by decide +kernel
theorem dX2_init_47 : decode cX2_init 47 = .ok (.iconst 0, 1) := by decide +kernel
theorem dX2_init_48 : decode cX2_init 48 = .ok (.putfield 26, 3) := by decide +kernel
theorem dX2_init_51 : decode cX2_init 51 = .ok (.return_, 1) := by decide +kernel
theorem dX2_gather_0 : decode cX2_gather 0 = .ok (.aload_n 0, 1) := by decide +kernel
theorem dX2_gather_1 : decode cX2_gather 1 = .ok (.iconst 0, 1) := by decide +kernel
theorem dX2_gather_2 : decode cX2_gather 2 = .ok (.putfield 26, 3) := by decide +kernel
theorem dX2_gather_5 : decode cX2_gather 5 = .ok (.aload_n 0, 1) := by decide +kernel
theorem dX2_gather_6 : decode cX2_gather 6 = .ok (.getfield 14, 3) := by decide +kernel
theorem dX2_gather_9 : decode cX2_gather 9 = .ok (.bipush (-6), 2) := by decide +kernel
theorem dX2_gather_11 : decode cX2_gather 11 = .ok (.invokevirtual 30, 3) := by decide +kernel
theorem dX2_gather_14 : decode cX2_gather 14 = .ok (.iconst 0, 1) := by decide +kernel
theorem dX2_gather_15 : decode cX2_gather 15 = .ok (.istore_n 3, 1) := by decide +kernel
theorem dX2_gather_16 : decode cX2_gather 16 = .ok (.iload_n 3, 1) := by decide +kernel
theorem dX2_gather_17 : decode cX2_gather 17 = .ok (.aload_n 1, 1) := by decide +kernel
theorem dX2_gather_18 : decode cX2_gather 18 = .ok (.getfield 33, 3) := by decide +kernel
theorem dX2_gather_21 : decode cX2_gather 21 = .ok (.if_icmp .ge 62, 3) := by decide +kernel
theorem dX2_gather_24 : decode cX2_gather 24 = .ok (.aload_n 2, 1) := by decide +kernel
theorem dX2_gather_25 : decode cX2_gather 25 = .ok (.getfield 38, 3) := by decide +kernel
theorem dX2_gather_28 : decode cX2_gather 28 = .ok (.iload_n 3, 1) := by decide +kernel
theorem dX2_gather_29 : decode cX2_gather 29 = .ok (.invokevirtual 43, 3) := by decide +kernel
theorem dX2_gather_32 : decode cX2_gather 32 = .ok (.iconst 2, 1) := by decide +kernel
theorem dX2_gather_33 : decode cX2_gather 33 = .ok (.if_icmp .ne 44, 3) := by decide +kernel
theorem dX2_gather_36 : decode cX2_gather 36 = .ok (.aload_n 0, 1) := by decide +kernel
theorem dX2_gather_37 : decode cX2_gather 37 = .ok (.getfield 14, 3) := by decide +kernel
theorem dX2_gather_40 : decode cX2_gather 40 = .ok (.iload_n 3, 1) := by decide +kernel
theorem dX2_gather_41 : decode cX2_gather 41 = .ok (.invokevirtual 43, 3) := by decide +kernel
theorem dX2_gather_44 : decode cX2_gather 44 = .ok (.bipush (-6), 2) := by decide +kernel
theorem dX2_gather_46 : decode cX2_gather 46 = .ok (.if_icmp .ne 31, 3) := by decide +kernel
theorem dX2_gather_49 : decode cX2_gather 49 = .ok (.aload_n 0, 1) := by decide +kernel
theorem dX2_gather_50 : decode cX2_gather 50 = .ok (.getfield 20, 3) := by decide +kernel
theorem dX2_gather_53 : decode cX2_gather 53 = .ok (.aload_n 0, 1) := by decide +kernel
theorem dX2_gather_54 : decode cX2_gather 54 = .ok (.getfield 26, 3) := by decide +kernel
theorem dX2_gather_57 : decode cX2_gather 57 = .ok (.aload_n 0, 1) := by decide +kernel
theorem dX2_gather_58 : decode cX2_gather 58 = .ok (.aload_n 1, 1) := by decide +kernel
theorem dX2_gather_59 : decode cX2_gather 59 = .ok (.aload_n 2, 1) := by decide +kernel
theorem dX2_gather_60 : decode cX2_gather 60 = .ok (.iload_n 3, 1) := by decide +kernel
theorem dX2_gather_61 : decode cX2_gather 61 = .ok (.invokevirtual 47, 3) := by decide +kernel
theorem dX2_gather_64 : decode cX2_gather 64 = .ok (.invokevirtual 51, 3) := by decide +kernel
theorem dX2_gather_67 : decode cX2_gather 67 = .ok (.aload_n 0, 1) := by decide +kernel
theorem dX2_gather_68 : decode cX2_gather 68 = .ok (.dup, 1) := by decide +kernel
theorem dX2_gather_69 : decode cX2_gather 69 = .ok (.getfield 26, 3) := by decide +kernel
theorem dX2_gather_72 : decode cX2_gather 72 = .ok (.iconst 1, 1) := by decide +kernel
theorem dX2_gather_73 : decode cX2_gather 73 = .ok (.iadd, 1) := by decide +kernel
theorem dX2_gather_74 : decode cX2_gather 74 = .ok (.putfield 26, 3) := by decide +kernel
theorem dX2_gather_77 : decode cX2_gather 77 = .ok (.iinc 3 1, 3) := by decide +kernel
theorem dX2_gather_80 : decode cX2_gather 80 = .ok (.goto (-64), 3) := by decide +kernel
theorem dX2_gather_83 : decode cX2_gather 83 = .ok (.return_, 1) := by decide +kernel
theorem dX2_spread_0 : decode cX2_spread 0 = .ok (.aload_n 0, 1) := by decide +kernel
theorem dX2_spread_1 : decode cX2_spread 1 = .ok (.getfield 14, 3) := by decide +kernel
theorem dX2_spread_4 : decode cX2_spread 4 = .ok (.iload_n 3, 1) := by decide +kernel
theorem dX2_spread_5 : decode cX2_spread 5 = .ok (.aload_n 0, 1) := by decide +kernel
theorem dX2_spread_6 : decode cX2_spread 6 = .ok (.getfield 26, 3) := by decide +kernel
theorem dX2_spread_9 : decode cX2_spread 9 = .ok (.invokevirtual 51, 3) := by decide +kernel
theorem dX2_spread_12 : decode cX2_spread 12 = .ok (.aload_n 0, 1) := by decide +kernel
theorem dX2_spread_13 : decode cX2_spread 13 = .ok (.getfield 23, 3) := by decide +kernel
theorem dX2_spread_16 : decode cX2_spread 16 = .ok (.iconst 0, 1) := by decide +kernel
theorem dX2_spread_17 : decode cX2_spread 17 = .ok (.iload_n 3, 1) := by decide +kernel
theorem dX2_spread_18 : decode cX2_spread 18 = .ok (.invokevirtual 51, 3) := by decide +kernel
theorem dX2_spread_21 : decode cX2_spread 21 = .ok (.iconst 1, 1) := by decide +kernel
theorem dX2_spread_22 : decode cX2_spread 22 = .ok (.istore 4, 2) := by decide +kernel
theorem dX2_spread_24 : decode cX2_spread 24 = .ok (.iconst 0, 1) := by decide +kernel
theorem dX2_spread_25 : decode cX2_spread 25 = .ok (.istore 5, 2) := by decide +kernel
theorem dX2_spread_27 : decode cX2_spread 27 = .ok (.iload 5, 2) := by decide +kernel
theorem dX2_spread_29 : decode cX2_spread 29 = .ok (.iload 4, 2) := by decide +kernel
theorem dX2_spread_31 : decode cX2_spread 31 = .ok (.if_icmp .ge 134, 3) := by decide +kernel
theorem dX2_spread_34 : decode cX2_spread 34 = .ok (.iload 5, 2) := by decide +kernel
theorem dX2_spread_36 : decode cX2_spread 36 = .ok (.sipush 576, 3) := by decide +kernel
theorem dX2_spread_39 : decode cX2_spread 39 = .ok (.if_icmp .ge 126, 3) := by decide +kernel
theorem dX2_spread_42 : decode cX2_spread 42 = .ok (.aload_n 0, 1) := by decide +kernel
theorem dX2_spread_43 : decode cX2_spread 43 = .ok (.getfield 23, 3) := by decide +kernel
theorem dX2_spread_46 : decode cX2_spread 46 = .ok (.iload 5, 2) := by decide +kernel
theorem dX2_spread_48 : decode cX2_spread 48 = .ok (.invokevirtual 43, 3) := by decide +kernel
theorem dX2_spread_51 : decode cX2_spread 51 = .ok (.istore 6, 2) := by decide +kernel
theorem dX2_spread_53 : decode cX2_spread 53 = .ok (.iconst 0, 1) := by decide +kernel
theorem dX2_spread_54 : decode cX2_spread 54 = .ok (.istore 7, 2) := by decide +kernel
theorem dX2_spread_56 : decode cX2_spread 56 = .ok (.iload 7, 2) := by decide +kernel
theorem dX2_spread_58 : decode cX2_spread 58 = .ok (.iconst 4, 1) := by decide +kernel
theorem dX2_spread_59 : decode cX2_spread 59 = .ok (.if_icmp .ge 100, 3) := by decide +kernel
theorem dX2_spread_62 : decode cX2_spread 62 = .ok (.aload_n 1, 1) := by decide +kernel
theorem dX2_spread_63 : decode cX2_spread 63 = .ok (.iload 6, 2) := by decide +kernel
theorem dX2_spread_65 : decode cX2_spread 65 = .ok (.iload 7, 2) := by decide +kernel
theorem dX2_spread_67 : decode cX2_spread 67 = .ok (.invokevirtual 55, 3) := by decide +kernel
theorem dX2_spread_70 : decode cX2_spread 70 = .ok (.istore 8, 2) := by decide +kernel
theorem dX2_spread_72 : decode cX2_spread 72 = .ok (.iload 8, 2) := by decide +kernel
theorem dX2_spread_74 : decode cX2_spread 74 = .ok (.bipush (-6), 2) := by decide +kernel
theorem dX2_spread_76 : decode cX2_spread 76 = .ok (.if_icmp .eq 77, 3) := by decide +kernel
theorem dX2_spread_79 : decode cX2_spread 79 = .ok (.aload_n 0, 1) := by decide +kernel
theorem dX2_spread_80 : decode cX2_spread 80 = .ok (.getfield 14, 3) := by decide +kernel
theorem dX2_spread_83 : decode cX2_spread 83 = .ok (.iload 8, 2) := by decide +kernel
theorem dX2_spread_85 : decode cX2_spread 85 = .ok (.invokevirtual 43, 3) := by decide +kernel
theorem dX2_spread_88 : decode cX2_spread 88 = .ok (.bipush (-6), 2) := by decide +kernel
theorem dX2_spread_90 : decode cX2_spread 90 = .ok (.if_icmp .ne 63, 3) := by decide +kernel
theorem dX2_spread_93 : decode cX2_spread 93 = .ok (.aload_n 2, 1) := by decide +kernel
theorem dX2_spread_94 : decode cX2_spread 94 = .ok (.getfield 38, 3) := by decide +kernel
theorem dX2_spread_97 : decode cX2_spread 97 = .ok (.iload 8, 2) := by decide +kernel
theorem dX2_spread_99 : decode cX2_spread 99 = .ok (.invokevirtual 43, 3) := by decide +kernel
theorem dX2_spread_102 : decode cX2_spread 102 = .ok (.iconst 2, 1) := by decide +kernel
theorem dX2_spread_103 : decode cX2_spread 103 = .ok (.if_icmp .ne 50, 3) := by decide +kernel
theorem dX2_spread_106 : decode cX2_spread 106 = .ok (.aload_n 2, 1) := by decide +kernel
theorem dX2_spread_107 : decode cX2_spread 107 = .ok (.getfield 59, 3) := by decide +kernel
theorem dX2_spread_110 : decode cX2_spread 110 = .ok (.iload 8, 2) := by decide +kernel
theorem dX2_spread_112 : decode cX2_spread 112 = .ok (.invokevirtual 43, 3) := by decide +kernel
theorem dX2_spread_115 : decode cX2_spread 115 = .ok (.aload_n 2, 1) := by decide +kernel
theorem dX2_spread_116 : decode cX2_spread 116 = .ok (.getfield 59, 3) := by decide +kernel
theorem dX2_spread_119 : decode cX2_spread 119 = .ok (.iload_n 3, 1) := by decide +kernel
theorem dX2_spread_120 : decode cX2_spread 120 = .ok (.invokevirtual 43, 3) := by decide +kernel
theorem dX2_spread_123 : decode cX2_spread 123 = .ok (.if_icmp .ne 30, 3) := by decide +kernel
theorem dX2_spread_126 : decode cX2_spread 126 = .ok (.aload_n 0, 1) := by decide +kernel
theorem dX2_spread_127 : decode cX2_spread 127 = .ok (.getfield 14, 3) := by decide +kernel
theorem dX2_spread_130 : decode cX2_spread 130 = .ok (.iload 8, 2) := by decide +kernel
theorem dX2_spread_132 : decode cX2_spread 132 = .ok (.aload_n 0, 1) := by decide +kernel
theorem dX2_spread_133 : decode cX2_spread 133 = .ok (.getfield 26, 3) := by decide +kernel
theorem dX2_spread_136 : decode cX2_spread 136 = .ok (.invokevirtual 51, 3) := by decide +kernel
theorem dX2_spread_139 : decode cX2_spread 139 = .ok (.aload_n 0, 1) := by decide +kernel
theorem dX2_spread_140 : decode cX2_spread 140 = .ok (.getfield 23, 3) := by decide +kernel
theorem dX2_spread_143 : decode cX2_spread 143 = .ok (.iload 4, 2) := by decide +kernel
theorem dX2_spread_145 : decode cX2_spread 145 = .ok (.iload 8, 2) := by decide +kernel
theorem dX2_spread_147 : decode cX2_spread 147 = .ok (.invokevirtual 51, 3) := by decide +kernel
theorem dX2_spread_150 : decode cX2_spread 150 = .ok (.iinc 4 1, 3) := by decide +kernel
theorem dX2_spread_153 : decode cX2_spread 153 = .ok (.iinc 7 1, 3) := by decide +kernel
theorem dX2_spread_156 : decode cX2_spread 156 = .ok (.goto (-100), 3) := by decide +kernel
theorem dX2_spread_159 : decode cX2_spread 159 = .ok (.iinc 5 1, 3) := by decide +kernel
theorem dX2_spread_162 : decode cX2_spread 162 = .ok (.goto (-135), 3) := by decide +kernel
theorem dX2_spread_165 : decode cX2_spread 165 = .ok (.iload 4, 2) := by decide +kernel
theorem dX2_spread_167 : decode cX2_spread 167 = .ok (.ireturn, 1) := by decide +kernel
theorem dX2_placesAt_0 : decode cX2_placesAt 0 = .ok (.aload_n 0, 1) := by decide +kernel
theorem dX2_placesAt_1 : decode cX2_placesAt 1 = .ok (.getfield 14, 3) := by decide +kernel
theorem dX2_placesAt_4 : decode cX2_placesAt 4 = .ok (.iload_n 1, 1) := by decide +kernel
theorem dX2_placesAt_5 : decode cX2_placesAt 5 = .ok (.invokevirtual 43, 3) := by decide +kernel
theorem dX2_placesAt_8 : decode cX2_placesAt 8 = .ok (.bipush (-6), 2) := by decide +kernel
theorem dX2_placesAt_10 : decode cX2_placesAt 10 = .ok (.if_icmp .ne 7, 3) := by decide +kernel
theorem dX2_placesAt_13 : decode cX2_placesAt 13 = .ok (.iconst 0, 1) := by decide +kernel
theorem dX2_placesAt_14 : decode cX2_placesAt 14 = .ok (.goto 18, 3) := by decide +kernel
theorem dX2_placesAt_17 : decode cX2_placesAt 17 = .ok (.aload_n 0, 1) := by decide +kernel
theorem dX2_placesAt_18 : decode cX2_placesAt 18 = .ok (.getfield 20, 3) := by decide +kernel
theorem dX2_placesAt_21 : decode cX2_placesAt 21 = .ok (.aload_n 0, 1) := by decide +kernel
theorem dX2_placesAt_22 : decode cX2_placesAt 22 = .ok (.getfield 14, 3) := by decide +kernel
theorem dX2_placesAt_25 : decode cX2_placesAt 25 = .ok (.iload_n 1, 1) := by decide +kernel
theorem dX2_placesAt_26 : decode cX2_placesAt 26 = .ok (.invokevirtual 43, 3) := by decide +kernel
theorem dX2_placesAt_29 : decode cX2_placesAt 29 = .ok (.invokevirtual 43, 3) := by decide +kernel
theorem dX2_placesAt_32 : decode cX2_placesAt 32 = .ok (.ireturn, 1) := by decide +kernel
theorem dX3_init_0 : decode cX3_init 0 = .ok (.aload_n 0, 1) := by decide +kernel
theorem dX3_init_1 : decode cX3_init 1 = .ok (.invokespecial 3, 3) := by decide +kernel
theorem dX3_init_4 : decode cX3_init 4 = .ok (.aload_n 0, 1) := by decide +kernel
theorem dX3_init_5 : decode cX3_init 5 = .ok (.iload_n 1, 1) := by decide +kernel
theorem dX3_init_6 : decode cX3_init 6 = .ok (.iconst 0, 1) := by decide +kernel
theorem dX3_init_7 : decode cX3_init 7 = .ok (.invokestatic 9, 3) := by decide +kernel
theorem dX3_init_10 : decode cX3_init 10 = .ok (.newarray .int, 2) := by decide +kernel
theorem dX3_init_12 : decode cX3_init 12 = .ok (.putfield 15, 3) := by decide +kernel
theorem dX3_init_15 : decode cX3_init 15 = .ok (.return_, 1) := by decide +kernel
theorem dX3_at_0 : decode cX3_at 0 = .ok (.iload_n 1, 1) := by decide +kernel
theorem dX3_at_1 : decode cX3_at 1 = .ok (.ifCond .lt 21, 3) := by decide +kernel
theorem dX3_at_4 : decode cX3_at 4 = .ok (.iload_n 1, 1) := by decide +kernel
theorem dX3_at_5 : decode cX3_at 5 = .ok (.aload_n 0, 1) := by decide +kernel
theorem dX3_at_6 : decode cX3_at 6 = .ok (.getfield 15, 3) := by decide +kernel
theorem dX3_at_9 : decode cX3_at 9 = .ok (.arraylength, 1) := by decide +kernel
theorem dX3_at_10 : decode cX3_at 10 = .ok (.if_icmp .ge 12, 3) := by decide +kernel
theorem dX3_at_13 : decode cX3_at 13 = .ok (.aload_n 0, 1) := by decide +kernel
theorem dX3_at_14 : decode cX3_at 14 = .ok (.getfield 15, 3) := by decide +kernel
theorem dX3_at_17 : decode cX3_at 17 = .ok (.iload_n 1, 1) := by decide +kernel
theorem dX3_at_18 : decode cX3_at 18 = .ok (.iaload, 1) := by decide +kernel
theorem dX3_at_19 : decode cX3_at 19 = .ok (.goto 5, 3) := by decide +kernel
theorem dX3_at_22 : decode cX3_at 22 = .ok (.bipush (-6), 2) := by decide +kernel
theorem dX3_at_24 : decode cX3_at 24 = .ok (.ireturn, 1) := by decide +kernel
theorem dX3_put_0 : decode cX3_put 0 = .ok (.iload_n 1, 1) := by decide +kernel
theorem dX3_put_1 : decode cX3_put 1 = .ok (.ifCond .lt 19, 3) := by decide +kernel
theorem dX3_put_4 : decode cX3_put 4 = .ok (.iload_n 1, 1) := by decide +kernel
theorem dX3_put_5 : decode cX3_put 5 = .ok (.aload_n 0, 1) := by decide +kernel
theorem dX3_put_6 : decode cX3_put 6 = .ok (.getfield 15, 3) := by decide +kernel
theorem dX3_put_9 : decode cX3_put 9 = .ok (.arraylength, 1) := by decide +kernel
theorem dX3_put_10 : decode cX3_put 10 = .ok (.if_icmp .ge 10, 3) := by decide +kernel
theorem dX3_put_13 : decode cX3_put 13 = .ok (.aload_n 0, 1) := by decide +kernel
theorem dX3_put_14 : decode cX3_put 14 = .ok (.getfield 15, 3) := by decide +kernel
theorem dX3_put_17 : decode cX3_put 17 = .ok (.iload_n 1, 1) := by decide +kernel
theorem dX3_put_18 : decode cX3_put 18 = .ok (.iload_n 2, 1) := by decide +kernel
theorem dX3_put_19 : decode cX3_put 19 = .ok (.iastore, 1) := by decide +kernel
theorem dX3_put_20 : decode cX3_put 20 = .ok (.return_, 1) := by decide +kernel
theorem dX3_add_0 : decode cX3_add 0 = .ok (.aload_n 0, 1) := by decide +kernel
theorem dX3_add_1 : decode cX3_add 1 = .ok (.iload_n 1, 1) := by decide +kernel
theorem dX3_add_2 : decode cX3_add 2 = .ok (.aload_n 0, 1) := by decide +kernel
theorem dX3_add_3 : decode cX3_add 3 = .ok (.iload_n 1, 1) := by decide +kernel
theorem dX3_add_4 : decode cX3_add 4 = .ok (.invokevirtual 21, 3) := by decide +kernel
theorem dX3_add_7 : decode cX3_add 7 = .ok (.iload_n 2, 1) := by decide +kernel
theorem dX3_add_8 : decode cX3_add 8 = .ok (.iadd, 1) := by decide +kernel
theorem dX3_add_9 : decode cX3_add 9 = .ok (.invokevirtual 25, 3) := by decide +kernel
theorem dX3_add_12 : decode cX3_add 12 = .ok (.return_, 1) := by decide +kernel
theorem dX3_fill_0 : decode cX3_fill 0 = .ok (.aload_n 0, 1) := by decide +kernel
theorem dX3_fill_1 : decode cX3_fill 1 = .ok (.getfield 15, 3) := by decide +kernel
theorem dX3_fill_4 : decode cX3_fill 4 = .ok (.iload_n 1, 1) := by decide +kernel
theorem dX3_fill_5 : decode cX3_fill 5 = .ok (.invokestatic 29, 3) := by decide +kernel
theorem dX3_fill_8 : decode cX3_fill 8 = .ok (.return_, 1) := by decide +kernel
theorem dX4_init_0 : decode cX4_init 0 = .ok (.aload_n 0, 1) := by decide +kernel
theorem dX4_init_1 : decode cX4_init 1 = .ok (.invokespecial 3, 3) := by decide +kernel
theorem dX4_init_4 : decode cX4_init 4 = .ok (.aload_n 0, 1) := by decide +kernel
theorem dX4_init_5 : decode cX4_init 5 = .ok (.new 9, 3) := by decide +kernel
theorem dX4_init_8 : decode cX4_init 8 = .ok (.dup, 1) := by decide +kernel
theorem dX4_init_9 : decode cX4_init 9 = .ok (.sipush 576, 3) := by decide +kernel
theorem dX4_init_12 : decode cX4_init 12 = .ok (.invokespecial 11, 3) := by decide +kernel
theorem dX4_init_15 : decode cX4_init 15 = .ok (.putfield 14, 3) := by decide +kernel
theorem dX4_init_18 : decode cX4_init 18 = .ok (.aload_n 0, 1) := by decide +kernel
theorem dX4_init_19 : decode cX4_init 19 = .ok (.new 9, 3) := by decide +kernel
theorem dX4_init_22 : decode cX4_init 22 = .ok (.dup, 1) := by decide +kernel
theorem dX4_init_23 : decode cX4_init 23 = .ok (.bipush 6, 2) := by decide +kernel
theorem dX4_init_25 : decode cX4_init 25 = .ok (.invokespecial 11, 3) := by decide +kernel
theorem dX4_init_28 : decode cX4_init 28 = .ok (.putfield 20, 3) := by decide +kernel
theorem dX4_init_31 : decode cX4_init 31 = .ok (.aload_n 0, 1) := by decide +kernel
theorem dX4_init_32 : decode cX4_init 32 = .ok (.iconst 0, 1) := by decide +kernel
theorem dX4_init_33 : decode cX4_init 33 = .ok (.putfield 23, 3) := by decide +kernel
theorem dX4_init_36 : decode cX4_init 36 = .ok (.return_, 1) := by decide +kernel
theorem dX4_found_0 : decode cX4_found 0 = .ok (.iconst 0, 1) := by decide +kernel
theorem dX4_found_1 : decode cX4_found 1 = .ok (.istore 5, 2) := by decide +kernel
theorem dX4_found_3 : decode cX4_found 3 = .ok (.iload 5, 2) := by decide +kernel
theorem dX4_found_5 : decode cX4_found 5 = .ok (.aload_n 1, 1) := by decide +kernel
theorem dX4_found_6 : decode cX4_found 6 = .ok (.getfield 27, 3) := by decide +kernel
theorem dX4_found_9 : decode cX4_found 9 = .ok (.if_icmp .ge 25, 3) := by decide +kernel
theorem dX4_found_12 : decode cX4_found 12 = .ok (.aload_n 0, 1) := by decide +kernel
theorem dX4_found_13 : decode cX4_found 13 = .ok (.getfield 14, 3) := by decide +kernel
theorem dX4_found_16 : decode cX4_found 16 = .ok (.iload 5, 2) := by decide +kernel
theorem dX4_found_18 : decode cX4_found 18 = .ok (.aload_n 1, 1) := by decide +kernel
theorem dX4_found_19 : decode cX4_found 19 = .ok (.aload_n 2, 1) := by decide +kernel
theorem dX4_found_20 : decode cX4_found 20 = .ok (.iload 5, 2) := by decide +kernel
theorem dX4_found_22 : decode cX4_found 22 = .ok (.invokestatic 32, 3) := by decide +kernel
theorem dX4_found_25 : decode cX4_found 25 = .ok (.invokevirtual 36, 3) := by decide +kernel
theorem dX4_found_28 : decode cX4_found 28 = .ok (.iinc 5 1, 3) := by decide +kernel
theorem dX4_found_31 : decode cX4_found 31 = .ok (.goto (-28), 3) := by decide +kernel
theorem dX4_found_34 : decode cX4_found 34 = .ok (.aload_n 0, 1) := by decide +kernel
theorem dX4_found_35 : decode cX4_found 35 = .ok (.iconst 0, 1) := by decide +kernel
theorem dX4_found_36 : decode cX4_found 36 = .ok (.putfield 23, 3) := by decide +kernel
theorem dX4_found_39 : decode cX4_found 39 = .ok (.iconst 0, 1) := by decide +kernel
theorem dX4_found_40 : decode cX4_found 40 = .ok (.istore 5, 2) := by decide +kernel
theorem dX4_found_42 : decode cX4_found 42 = .ok (.iload 5, 2) := by decide +kernel
theorem dX4_found_44 : decode cX4_found 44 = .ok (.iload_n 3, 1) := by decide +kernel
theorem dX4_found_45 : decode cX4_found 45 = .ok (.if_icmp .ge 51, 3) := by decide +kernel
theorem dX4_found_48 : decode cX4_found 48 = .ok (.aload_n 0, 1) := by decide +kernel
theorem dX4_found_49 : decode cX4_found 49 = .ok (.aload_n 1, 1) := by decide +kernel
theorem dX4_found_50 : decode cX4_found 50 = .ok (.iload 4, 2) := by decide +kernel
theorem dX4_found_52 : decode cX4_found 52 = .ok (.invokevirtual 40, 3) := by decide +kernel
theorem dX4_found_55 : decode cX4_found 55 = .ok (.istore 6, 2) := by decide +kernel
theorem dX4_found_57 : decode cX4_found 57 = .ok (.iload 6, 2) := by decide +kernel
theorem dX4_found_59 : decode cX4_found 59 = .ok (.bipush (-6), 2) := by decide +kernel
theorem dX4_found_61 : decode cX4_found 61 = .ok (.if_icmp .ne 6, 3) := by decide +kernel
theorem dX4_found_64 : decode cX4_found 64 = .ok (.goto 32, 3) := by decide +kernel
theorem dX4_found_67 : decode cX4_found 67 = .ok (.aload_n 0, 1) := by decide +kernel
theorem dX4_found_68 : decode cX4_found 68 = .ok (.getfield 20, 3) := by decide +kernel
theorem dX4_found_71 : decode cX4_found 71 = .ok (.aload_n 0, 1) := by decide +kernel
theorem dX4_found_72 : decode cX4_found 72 = .ok (.getfield 23, 3) := by decide +kernel
theorem dX4_found_75 : decode cX4_found 75 = .ok (.iload 6, 2) := by decide +kernel
theorem dX4_found_77 : decode cX4_found 77 = .ok (.invokevirtual 36, 3) := by decide +kernel
theorem dX4_found_80 : decode cX4_found 80 = .ok (.aload_n 0, 1) := by decide +kernel
theorem dX4_found_81 : decode cX4_found 81 = .ok (.dup, 1) := by decide +kernel
theorem dX4_found_82 : decode cX4_found 82 = .ok (.getfield 23, 3) := by decide +kernel
theorem dX4_found_85 : decode cX4_found 85 = .ok (.iconst 1, 1) := by decide +kernel
theorem dX4_found_86 : decode cX4_found 86 = .ok (.iadd, 1) := by decide +kernel
theorem dX4_found_87 : decode cX4_found 87 = .ok (.putfield 23, 3) := by decide +kernel
theorem dX4_found_90 : decode cX4_found 90 = .ok (.iinc 5 1, 3) := by decide +kernel
theorem dX4_found_93 : decode cX4_found 93 = .ok (.goto (-51), 3) := by decide +kernel
theorem dX4_found_96 : decode cX4_found 96 = .ok (.return_, 1) := by decide +kernel
theorem dX4_worthOf_0 : decode cX4_worthOf 0 = .ok (.aload_n 1, 1) := by decide +kernel
theorem dX4_worthOf_1 : decode cX4_worthOf 1 = .ok (.getfield 44, 3) := by decide +kernel
theorem dX4_worthOf_4 : decode cX4_worthOf 4 = .ok (.iload_n 2, 1) := by decide +kernel
theorem dX4_worthOf_5 : decode cX4_worthOf 5 = .ok (.invokevirtual 49, 3) := by decide +kernel
theorem dX4_worthOf_8 : decode cX4_worthOf 8 = .ok (.bipush 8, 2) := by decide +kernel
theorem dX4_worthOf_10 : decode cX4_worthOf 10 = .ok (.if_icmp .eq 6, 3) := by decide +kernel
theorem dX4_worthOf_13 : decode cX4_worthOf 13 = .ok (.bipush (-6), 2) := by decide +kernel
theorem dX4_worthOf_15 : decode cX4_worthOf 15 = .ok (.ireturn, 1) := by decide +kernel
theorem dX4_worthOf_16 : decode cX4_worthOf 16 = .ok (.iconst 0, 1) := by decide +kernel
theorem dX4_worthOf_17 : decode cX4_worthOf 17 = .ok (.istore_n 3, 1) := by decide +kernel
theorem dX4_worthOf_18 : decode cX4_worthOf 18 = .ok (.iconst 0, 1) := by decide +kernel
theorem dX4_worthOf_19 : decode cX4_worthOf 19 = .ok (.istore 4, 2) := by decide +kernel
theorem dX4_worthOf_21 : decode cX4_worthOf 21 = .ok (.iload 4, 2) := by decide +kernel
theorem dX4_worthOf_23 : decode cX4_worthOf 23 = .ok (.iconst 4, 1) := by decide +kernel
theorem dX4_worthOf_24 : decode cX4_worthOf 24 = .ok (.if_icmp .ge 52, 3) := by decide +kernel
theorem dX4_worthOf_27 : decode cX4_worthOf 27 = .ok (.aload_n 0, 1) := by decide +kernel
theorem dX4_worthOf_28 : decode cX4_worthOf 28 = .ok (.iload_n 2, 1) := by decide +kernel
theorem dX4_worthOf_29 : decode cX4_worthOf 29 = .ok (.iload 4, 2) := by decide +kernel
theorem dX4_worthOf_31 : decode cX4_worthOf 31 = .ok (.invokevirtual 53, 3) := by decide +kernel
theorem dX4_worthOf_34 : decode cX4_worthOf 34 = .ok (.istore 5, 2) := by decide +kernel
theorem dX4_worthOf_36 : decode cX4_worthOf 36 = .ok (.iload 5, 2) := by decide +kernel
theorem dX4_worthOf_38 : decode cX4_worthOf 38 = .ok (.bipush (-6), 2) := by decide +kernel
theorem dX4_worthOf_40 : decode cX4_worthOf 40 = .ok (.if_icmp .eq 30, 3) := by decide +kernel
theorem dX4_worthOf_43 : decode cX4_worthOf 43 = .ok (.aload_n 1, 1) := by decide +kernel
theorem dX4_worthOf_44 : decode cX4_worthOf 44 = .ok (.getfield 44, 3) := by decide +kernel
theorem dX4_worthOf_47 : decode cX4_worthOf 47 = .ok (.iload 5, 2) := by decide +kernel
theorem dX4_worthOf_49 : decode cX4_worthOf 49 = .ok (.invokevirtual 49, 3) := by decide +kernel
theorem dX4_worthOf_52 : decode cX4_worthOf 52 = .ok (.iconst 4, 1) := by decide +kernel
theorem dX4_worthOf_53 : decode cX4_worthOf 53 = .ok (.if_icmp .ne 17, 3) := by decide +kernel
theorem dX4_worthOf_56 : decode cX4_worthOf 56 = .ok (.iload_n 3, 1) := by decide +kernel
theorem dX4_worthOf_57 : decode cX4_worthOf 57 = .ok (.aload_n 1, 1) := by decide +kernel
theorem dX4_worthOf_58 : decode cX4_worthOf 58 = .ok (.getfield 57, 3) := by decide +kernel
theorem dX4_worthOf_61 : decode cX4_worthOf 61 = .ok (.iload 5, 2) := by decide +kernel
theorem dX4_worthOf_63 : decode cX4_worthOf 63 = .ok (.invokevirtual 49, 3) := by decide +kernel
theorem dX4_worthOf_66 : decode cX4_worthOf 66 = .ok (.invokestatic 60, 3) := by decide +kernel
theorem dX4_worthOf_69 : decode cX4_worthOf 69 = .ok (.istore_n 3, 1) := by decide +kernel
theorem dX4_worthOf_70 : decode cX4_worthOf 70 = .ok (.iinc 4 1, 3) := by decide +kernel
theorem dX4_worthOf_73 : decode cX4_worthOf 73 = .ok (.goto (-52), 3) := by decide +kernel
theorem dX4_worthOf_76 : decode cX4_worthOf 76 = .ok (.sipush 500, 3) := by decide +kernel
theorem dX4_worthOf_79 : decode cX4_worthOf 79 = .ok (.aload_n 0, 1) := by decide +kernel
theorem dX4_worthOf_80 : decode cX4_worthOf 80 = .ok (.getfield 65, 3) := by decide +kernel
theorem dX4_worthOf_83 : decode cX4_worthOf 83 = .ok (.iload_n 2, 1) := by decide +kernel
theorem dX4_worthOf_84 : decode cX4_worthOf 84 = .ok (.invokevirtual 49, 3) := by decide +kernel
theorem dX4_worthOf_87 : decode cX4_worthOf 87 = .ok (.isub, 1) := by decide +kernel
theorem dX4_worthOf_88 : decode cX4_worthOf 88 = .ok (.iload_n 3, 1) := by decide +kernel
theorem dX4_worthOf_89 : decode cX4_worthOf 89 = .ok (.bipush 60, 2) := by decide +kernel
theorem dX4_worthOf_91 : decode cX4_worthOf 91 = .ok (.invokestatic 68, 3) := by decide +kernel
theorem dX4_worthOf_94 : decode cX4_worthOf 94 = .ok (.iadd, 1) := by decide +kernel
theorem dX4_worthOf_95 : decode cX4_worthOf 95 = .ok (.ireturn, 1) := by decide +kernel
theorem dX4_bestPlace_0 : decode cX4_bestPlace 0 = .ok (.bipush (-6), 2) := by decide +kernel
theorem dX4_bestPlace_2 : decode cX4_bestPlace 2 = .ok (.istore_n 3, 1) := by decide +kernel
theorem dX4_bestPlace_3 : decode cX4_bestPlace 3 = .ok (.iconst 0, 1) := by decide +kernel
theorem dX4_bestPlace_4 : decode cX4_bestPlace 4 = .ok (.istore 4, 2) := by decide +kernel
theorem dX4_bestPlace_6 : decode cX4_bestPlace 6 = .ok (.iload 4, 2) := by decide +kernel
theorem dX4_bestPlace_8 : decode cX4_bestPlace 8 = .ok (.aload_n 1, 1) := by decide +kernel
theorem dX4_bestPlace_9 : decode cX4_bestPlace 9 = .ok (.getfield 27, 3) := by decide +kernel
theorem dX4_bestPlace_12 : decode cX4_bestPlace 12 = .ok (.if_icmp .ge 63, 3) := by decide +kernel
theorem dX4_bestPlace_15 : decode cX4_bestPlace 15 = .ok (.aload_n 0, 1) := by decide +kernel
theorem dX4_bestPlace_16 : decode cX4_bestPlace 16 = .ok (.getfield 14, 3) := by decide +kernel
theorem dX4_bestPlace_19 : decode cX4_bestPlace 19 = .ok (.iload 4, 2) := by decide +kernel
theorem dX4_bestPlace_21 : decode cX4_bestPlace 21 = .ok (.invokevirtual 49, 3) := by decide +kernel
theorem dX4_bestPlace_24 : decode cX4_bestPlace 24 = .ok (.bipush (-6), 2) := by decide +kernel
theorem dX4_bestPlace_26 : decode cX4_bestPlace 26 = .ok (.if_icmp .eq 43, 3) := by decide +kernel
theorem dX4_bestPlace_29 : decode cX4_bestPlace 29 = .ok (.aload_n 0, 1) := by decide +kernel
theorem dX4_bestPlace_30 : decode cX4_bestPlace 30 = .ok (.aload_n 1, 1) := by decide +kernel
theorem dX4_bestPlace_31 : decode cX4_bestPlace 31 = .ok (.iload 4, 2) := by decide +kernel
theorem dX4_bestPlace_33 : decode cX4_bestPlace 33 = .ok (.iload_n 2, 1) := by decide +kernel
theorem dX4_bestPlace_34 : decode cX4_bestPlace 34 = .ok (.invokevirtual 71, 3) := by decide +kernel
theorem dX4_bestPlace_37 : decode cX4_bestPlace 37 = .ok (.ifCond .eq 32, 3) := by decide +kernel
theorem dX4_bestPlace_40 : decode cX4_bestPlace 40 = .ok (.iload_n 3, 1) := by decide +kernel
theorem dX4_bestPlace_41 : decode cX4_bestPlace 41 = .ok (.bipush (-6), 2) := by decide +kernel
theorem dX4_bestPlace_43 : decode cX4_bestPlace 43 = .ok (.if_icmp .eq 23, 3) := by decide +kernel
theorem dX4_bestPlace_46 : decode cX4_bestPlace 46 = .ok (.aload_n 0, 1) := by decide +kernel
theorem dX4_bestPlace_47 : decode cX4_bestPlace 47 = .ok (.getfield 14, 3) := by decide +kernel
theorem dX4_bestPlace_50 : decode cX4_bestPlace 50 = .ok (.iload 4, 2) := by decide +kernel
theorem dX4_bestPlace_52 : decode cX4_bestPlace 52 = .ok (.invokevirtual 49, 3) := by decide +kernel
theorem dX4_bestPlace_55 : decode cX4_bestPlace 55 = .ok (.aload_n 0, 1) := by decide +kernel
theorem dX4_bestPlace_56 : decode cX4_bestPlace 56 = .ok (.getfield 14, 3) := by decide +kernel
theorem dX4_bestPlace_59 : decode cX4_bestPlace 59 = .ok (.iload_n 3, 1) := by decide +kernel
theorem dX4_bestPlace_60 : decode cX4_bestPlace 60 = .ok (.invokevirtual 49, 3) := by decide +kernel
theorem dX4_bestPlace_63 : decode cX4_bestPlace 63 = .ok (.if_icmp .le 6, 3) := by decide +kernel
theorem dX4_bestPlace_66 : decode cX4_bestPlace 66 = .ok (.iload 4, 2) := by decide +kernel
theorem dX4_bestPlace_68 : decode cX4_bestPlace 68 = .ok (.istore_n 3, 1) := by decide +kernel
theorem dX4_bestPlace_69 : decode cX4_bestPlace 69 = .ok (.iinc 4 1, 3) := by decide +kernel
theorem dX4_bestPlace_72 : decode cX4_bestPlace 72 = .ok (.goto (-66), 3) := by decide +kernel
theorem dX4_bestPlace_75 : decode cX4_bestPlace 75 = .ok (.iload_n 3, 1) := by decide +kernel
theorem dX4_bestPlace_76 : decode cX4_bestPlace 76 = .ok (.ireturn, 1) := by decide +kernel
theorem dX4_isFarFromAll_0 : decode cX4_isFarFromAll 0 = .ok (.iconst 0, 1) := by decide +kernel
theorem dX4_isFarFromAll_1 : decode cX4_isFarFromAll 1 = .ok (.istore 4, 2) := by decide +kernel
theorem dX4_isFarFromAll_3 : decode cX4_isFarFromAll 3 = .ok (.iload 4, 2) := by decide +kernel
theorem dX4_isFarFromAll_5 : decode cX4_isFarFromAll 5 = .ok (.aload_n 0, 1) := by decide +kernel
theorem dX4_isFarFromAll_6 : decode cX4_isFarFromAll 6 = .ok (.getfield 23, 3) := by decide +kernel
theorem dX4_isFarFromAll_9 : decode cX4_isFarFromAll 9 = .ok (.if_icmp .ge 29, 3) := by decide +kernel
theorem dX4_isFarFromAll_12 : decode cX4_isFarFromAll 12 = .ok (.aload_n 1, 1) := by decide +kernel
theorem dX4_isFarFromAll_13 : decode cX4_isFarFromAll 13 = .ok (.iload_n 2, 1) := by decide +kernel
theorem dX4_isFarFromAll_14 : decode cX4_isFarFromAll 14 = .ok (.aload_n 0, 1) := by decide +kernel
theorem dX4_isFarFromAll_15 : decode cX4_isFarFromAll 15 = .ok (.getfield 20, 3) := by decide +kernel
theorem dX4_isFarFromAll_18 : decode cX4_isFarFromAll 18 = .ok (.iload 4, 2) := by decide +kernel
theorem dX4_isFarFromAll_20 : decode cX4_isFarFromAll 20 = .ok (.invokevirtual 49, 3) := by decide +kernel
theorem dX4_isFarFromAll_23 : decode cX4_isFarFromAll 23 = .ok (.invokevirtual 75, 3) := by decide +kernel
theorem dX4_isFarFromAll_26 : decode cX4_isFarFromAll 26 = .ok (.iload_n 3, 1) := by decide +kernel
theorem dX4_isFarFromAll_27 : decode cX4_isFarFromAll 27 = .ok (.if_icmp .ge 5, 3) := by decide +kernel
theorem dX4_isFarFromAll_30 : decode cX4_isFarFromAll 30 = .ok (.iconst 0, 1) := by decide +kernel
theorem dX4_isFarFromAll_31 : decode cX4_isFarFromAll 31 = .ok (.ireturn, 1) := by decide +kernel
theorem dX4_isFarFromAll_32 : decode cX4_isFarFromAll 32 = .ok (.iinc 4 1, 3) := by decide +kernel
theorem dX4_isFarFromAll_35 : decode cX4_isFarFromAll 35 = .ok (.goto (-32), 3) := by decide +kernel
theorem dX4_isFarFromAll_38 : decode cX4_isFarFromAll 38 = .ok (.iconst 1, 1) := by decide +kernel
theorem dX4_isFarFromAll_39 : decode cX4_isFarFromAll 39 = .ok (.ireturn, 1) := by decide +kernel
theorem dX4_isAt_0 : decode cX4_isAt 0 = .ok (.iconst 0, 1) := by decide +kernel
theorem dX4_isAt_1 : decode cX4_isAt 1 = .ok (.istore_n 2, 1) := by decide +kernel
theorem dX4_isAt_2 : decode cX4_isAt 2 = .ok (.iload_n 2, 1) := by decide +kernel
theorem dX4_isAt_3 : decode cX4_isAt 3 = .ok (.aload_n 0, 1) := by decide +kernel
theorem dX4_isAt_4 : decode cX4_isAt 4 = .ok (.getfield 23, 3) := by decide +kernel
theorem dX4_isAt_7 : decode cX4_isAt 7 = .ok (.if_icmp .ge 23, 3) := by decide +kernel
theorem dX4_isAt_10 : decode cX4_isAt 10 = .ok (.aload_n 0, 1) := by decide +kernel
theorem dX4_isAt_11 : decode cX4_isAt 11 = .ok (.getfield 20, 3) := by decide +kernel
theorem dX4_isAt_14 : decode cX4_isAt 14 = .ok (.iload_n 2, 1) := by decide +kernel
theorem dX4_isAt_15 : decode cX4_isAt 15 = .ok (.invokevirtual 49, 3) := by decide +kernel
theorem dX4_isAt_18 : decode cX4_isAt 18 = .ok (.iload_n 1, 1) := by decide +kernel
theorem dX4_isAt_19 : decode cX4_isAt 19 = .ok (.if_icmp .ne 5, 3) := by decide +kernel
theorem dX4_isAt_22 : decode cX4_isAt 22 = .ok (.iconst 1, 1) := by decide +kernel
theorem dX4_isAt_23 : decode cX4_isAt 23 = .ok (.ireturn, 1) := by decide +kernel
theorem dX4_isAt_24 : decode cX4_isAt 24 = .ok (.iinc 2 1, 3) := by decide +kernel
theorem dX4_isAt_27 : decode cX4_isAt 27 = .ok (.goto (-25), 3) := by decide +kernel
theorem dX4_isAt_30 : decode cX4_isAt 30 = .ok (.iconst 0, 1) := by decide +kernel
theorem dX4_isAt_31 : decode cX4_isAt 31 = .ok (.ireturn, 1) := by decide +kernel
theorem dX5_init_0 : decode cX5_init 0 = .ok (.aload_n 0, 1) := by decide +kernel
theorem dX5_init_1 : decode cX5_init 1 = .ok (.invokespecial 3, 3) := by decide +kernel
theorem dX5_init_4 : decode cX5_init 4 = .ok (.aload_n 0, 1) := by decide +kernel
theorem dX5_init_5 : decode cX5_init 5 = .ok (.iconst 0, 1) := by decide +kernel
theorem dX5_init_6 : decode cX5_init 6 = .ok (.putfield 9, 3) := by decide +kernel
theorem dX5_init_9 : decode cX5_init 9 = .ok (.aload_n 0, 1) := by decide +kernel
theorem dX5_init_10 : decode cX5_init 10 = .ok (.bipush 12, 2) := by decide +kernel
theorem dX5_init_12 : decode cX5_init 12 = .ok (.putfield 15, 3) := by decide +kernel
theorem dX5_init_15 : decode cX5_init 15 = .ok (.aload_n 0, 1) := by decide +kernel
theorem dX5_init_16 : decode cX5_init 16 = .ok (.sipush 144, 3) := by decide +kernel
theorem dX5_init_19 : decode cX5_init 19 = .ok (.putfield 18, 3) := by decide +kernel
theorem dX5_init_22 : decode cX5_init 22 = .ok (.aload_n 0, 1) := by decide +kernel
theorem dX5_init_23 : decode cX5_init 23 = .ok (.iconst 0, 1) := by decide +kernel
theorem dX5_init_24 : decode cX5_init 24 = .ok (.putfield 21, 3) := by decide +kernel
theorem dX5_init_27 : decode cX5_init 27 = .ok (.aload_n 0, 1) := by decide +kernel
theorem dX5_init_28 : decode cX5_init 28 = .ok (.iconst 0, 1) := by decide +kernel
theorem dX5_init_29 : decode cX5_init 29 = .ok (.putfield 24, 3) := by decide +kernel
theorem dX5_init_32 : decode cX5_init 32 = .ok (.aload_n 0, 1) := by decide +kernel
theorem dX5_init_33 : decode cX5_init 33 = .ok (.iconst 0, 1) := by decide +kernel
theorem dX5_init_34 : decode cX5_init 34 = .ok (.putfield 27, 3) := by decide +kernel
theorem dX5_init_37 : decode cX5_init 37 = .ok (.aload_n 0, 1) := by decide +kernel
theorem dX5_init_38 : decode cX5_init 38 = .ok (.new 30, 3) := by decide +kernel
theorem dX5_init_41 : decode cX5_init 41 = .ok (.dup, 1) := by decide +kernel
theorem dX5_init_42 : decode cX5_init 42 = .ok (.bipush 30, 2) := by decide +kernel
theorem dX5_init_44 : decode cX5_init 44 = .ok (.invokespecial 32, 3) := by decide +kernel
theorem dX5_init_47 : decode cX5_init 47 = .ok (.putfield 35, 3) := by decide +kernel
theorem dX5_init_50 : decode cX5_init 50 = .ok (.aload_n 0, 1) := by decide +kernel
theorem dX5_init_51 : decode cX5_init 51 = .ok (.new 30, 3) := by decide +kernel
theorem dX5_init_54 : decode cX5_init 54 = .ok (.dup, 1) := by decide +kernel
theorem dX5_init_55 : decode cX5_init 55 = .ok (.bipush 30, 2) := by decide +kernel
theorem dX5_init_57 : decode cX5_init 57 = .ok (.invokespecial 32, 3) := by decide +kernel
theorem dX5_init_60 : decode cX5_init 60 = .ok (.putfield 39, 3) := by decide +kernel
theorem dX5_init_63 : decode cX5_init 63 = .ok (.aload_n 0, 1) := by decide +kernel
theorem dX5_init_64 : decode cX5_init 64 = .ok (.new 30, 3) := by decide +kernel
theorem dX5_init_67 : decode cX5_init 67 = .ok (.dup, 1) := by decide +kernel
theorem dX5_init_68 : decode cX5_init 68 = .ok (.bipush 30, 2) := by decide +kernel
theorem dX5_init_70 : decode cX5_init 70 = .ok (.invokespecial 32, 3) := by decide +kernel
theorem dX5_init_73 : decode cX5_init 73 = .ok (.putfield 42, 3) := by decide +kernel
theorem dX5_init_76 : decode cX5_init 76 = .ok (.aload_n 0, 1) := by decide +kernel
theorem dX5_init_77 : decode cX5_init 77 = .ok (.new 30, 3) := by decide +kernel
theorem dX5_init_80 : decode cX5_init 80 = .ok (.dup, 1) := by decide +kernel
theorem dX5_init_81 : decode cX5_init 81 = .ok (.sipush 576, 3) := by decide +kernel
theorem dX5_init_84 : decode cX5_init 84 = .ok (.invokespecial 32, 3) := by decide +kernel
theorem dX5_init_87 : decode cX5_init 87 = .ok (.putfield 45, 3) := by decide +kernel
theorem dX5_init_90 : decode cX5_init 90 = .ok (.aload_n 0, 1) := by decide +kernel
theorem dX5_init_91 : decode cX5_init 91 = .ok (.new 30, 3) := by decide +kernel
theorem dX5_init_94 : decode cX5_init 94 = .ok (.dup, 1) := by decide +kernel
theorem dX5_init_95 : decode cX5_init 95 = .ok (.sipush 576, 3) := by decide +kernel
theorem dX5_init_98 : decode cX5_init 98 = .ok (.invokespecial 32, 3) := by decide +kernel
theorem dX5_init_101 : decode cX5_init 101 = .ok (.putfield 48, 3) := by decide +kernel
theorem dX5_init_104 : decode cX5_init 104 = .ok (.aload_n 0, 1) := by decide +kernel
theorem dX5_init_105 : decode cX5_init 105 = .ok (.new 30, 3) := by decide +kernel
theorem dX5_init_108 : decode cX5_init 108 = .ok (.dup, 1) := by decide +kernel
theorem dX5_init_109 : decode cX5_init 109 = .ok (.sipush 576, 3) := by decide +kernel
theorem dX5_init_112 : decode cX5_init 112 = .ok (.invokespecial 32, 3) := by decide +kernel
theorem dX5_init_115 : decode cX5_init 115 = .ok (.putfield 51, 3) := by decide +kernel
theorem dX5_init_118 : decode cX5_init 118 = .ok (.aload_n 0, 1) := by decide +kernel
theorem dX5_init_119 : decode cX5_init 119 = .ok (.new 30, 3) := by decide +kernel
theorem dX5_init_122 : decode cX5_init 122 = .ok (.dup, 1) := by decide +kernel
theorem dX5_init_123 : decode cX5_init 123 = .ok (.sipush 576, 3) := by decide +kernel
theorem dX5_init_126 : decode cX5_init 126 = .ok (.invokespecial 32, 3) := by decide +kernel
theorem dX5_init_129 : decode cX5_init 129 = .ok (.putfield 54, 3) := by decide +kernel
theorem dX5_init_132 : decode cX5_init 132 = .ok (.return_, 1) := by decide +kernel
theorem dX5_hasPlace_0 : decode cX5_hasPlace 0 = .ok (.iload_n 1, 1) := by decide +kernel
theorem dX5_hasPlace_1 : decode cX5_hasPlace 1 = .ok (.ifCond .lt 15, 3) := by decide +kernel
theorem dX5_hasPlace_4 : decode cX5_hasPlace 4 = .ok (.iload_n 1, 1) := by decide +kernel
theorem dX5_hasPlace_5 : decode cX5_hasPlace 5 = .ok (.aload_n 0, 1) := by decide +kernel
theorem dX5_hasPlace_6 : decode cX5_hasPlace 6 = .ok (.getfield 18, 3) := by decide +kernel
theorem dX5_hasPlace_9 : decode cX5_hasPlace 9 = .ok (.if_icmp .ge 7, 3) := by decide +kernel
theorem dX5_hasPlace_12 : decode cX5_hasPlace 12 = .ok (.iconst 1, 1) := by decide +kernel
theorem dX5_hasPlace_13 : decode cX5_hasPlace 13 = .ok (.goto 4, 3) := by decide +kernel
theorem dX5_hasPlace_16 : decode cX5_hasPlace 16 = .ok (.iconst 0, 1) := by decide +kernel
theorem dX5_hasPlace_17 : decode cX5_hasPlace 17 = .ok (.ireturn, 1) := by decide +kernel
theorem dX5_growGround_0 : decode cX5_growGround 0 = .ok (.iconst 0, 1) := by decide +kernel
theorem dX5_growGround_1 : decode cX5_growGround 1 = .ok (.istore_n 1, 1) := by decide +kernel
theorem dX5_growGround_2 : decode cX5_growGround 2 = .ok (.iload_n 1, 1) := by decide +kernel
theorem dX5_growGround_3 : decode cX5_growGround 3 = .ok (.aload_n 0, 1) := by decide +kernel
theorem dX5_growGround_4 : decode cX5_growGround 4 = .ok (.getfield 15, 3) := by decide +kernel
theorem dX5_growGround_7 : decode cX5_growGround 7 = .ok (.if_icmp .ge 76, 3) := by decide +kernel
theorem dX5_growGround_10 : decode cX5_growGround 10 = .ok (.iconst 0, 1) := by decide +kernel
theorem dX5_growGround_11 : decode cX5_growGround 11 = .ok (.istore_n 2, 1) := by decide +kernel
theorem dX5_growGround_12 : decode cX5_growGround 12 = .ok (.iload_n 2, 1) := by decide +kernel
theorem dX5_growGround_13 : decode cX5_growGround 13 = .ok (.aload_n 0, 1) := by decide +kernel
theorem dX5_growGround_14 : decode cX5_growGround 14 = .ok (.getfield 15, 3) := by decide +kernel
theorem dX5_growGround_17 : decode cX5_growGround 17 = .ok (.if_icmp .ge 60, 3) := by decide +kernel
theorem dX5_growGround_20 : decode cX5_growGround 20 = .ok (.aload_n 0, 1) := by decide +kernel
theorem dX5_growGround_21 : decode cX5_growGround 21 = .ok (.getfield 15, 3) := by decide +kernel
theorem dX5_growGround_24 : decode cX5_growGround 24 = .ok (.iload_n 1, 1) := by decide +kernel
theorem dX5_growGround_25 : decode cX5_growGround 25 = .ok (.imul, 1) := by decide +kernel
theorem dX5_growGround_26 : decode cX5_growGround 26 = .ok (.iload_n 2, 1) := by decide +kernel
theorem dX5_growGround_27 : decode cX5_growGround 27 = .ok (.iadd, 1) := by decide +kernel
theorem dX5_growGround_28 : decode cX5_growGround 28 = .ok (.istore_n 3, 1) := by decide +kernel
theorem dX5_growGround_29 : decode cX5_growGround 29 = .ok (.aload_n 0, 1) := by decide +kernel
theorem dX5_growGround_30 : decode cX5_growGround 30 = .ok (.getfield 45, 3) := by decide +kernel
theorem dX5_growGround_33 : decode cX5_growGround 33 = .ok (.iload_n 3, 1) := by decide +kernel
theorem dX5_growGround_34 : decode cX5_growGround 34 = .ok (.iload_n 2, 1) := by decide +kernel
theorem dX5_growGround_35 : decode cX5_growGround 35 = .ok (.invokevirtual 57, 3) := by decide +kernel
theorem dX5_growGround_38 : decode cX5_growGround 38 = .ok (.aload_n 0, 1) := by decide +kernel
theorem dX5_growGround_39 : decode cX5_growGround 39 = .ok (.getfield 48, 3) := by decide +kernel
theorem dX5_growGround_42 : decode cX5_growGround 42 = .ok (.iload_n 3, 1) := by decide +kernel
theorem dX5_growGround_43 : decode cX5_growGround 43 = .ok (.iload_n 1, 1) := by decide +kernel
theorem dX5_growGround_44 : decode cX5_growGround 44 = .ok (.invokevirtual 57, 3) := by decide +kernel
theorem dX5_growGround_47 : decode cX5_growGround 47 = .ok (.aload_n 0, 1) := by decide +kernel
theorem dX5_growGround_48 : decode cX5_growGround 48 = .ok (.getfield 51, 3) := by decide +kernel
theorem dX5_growGround_51 : decode cX5_growGround 51 = .ok (.iload_n 3, 1) := by decide +kernel
theorem dX5_growGround_52 : decode cX5_growGround 52 = .ok (.aload_n 0, 1) := by decide +kernel
theorem dX5_growGround_53 : decode cX5_growGround 53 = .ok (.aload_n 0, 1) := by decide +kernel
theorem dX5_growGround_54 : decode cX5_growGround 54 = .ok (.getfield 21, 3) := by decide +kernel
theorem dX5_growGround_57 : decode cX5_growGround 57 = .ok (.iload_n 2, 1) := by decide +kernel
theorem dX5_growGround_58 : decode cX5_growGround 58 = .ok (.iadd, 1) := by decide +kernel
theorem dX5_growGround_59 : decode cX5_growGround 59 = .ok (.aload_n 0, 1) := by decide +kernel
theorem dX5_growGround_60 : decode cX5_growGround 60 = .ok (.getfield 24, 3) := by decide +kernel
theorem dX5_growGround_63 : decode cX5_growGround 63 = .ok (.iload_n 1, 1) := by decide +kernel
theorem dX5_growGround_64 : decode cX5_growGround 64 = .ok (.iadd, 1) := by decide +kernel
theorem dX5_growGround_65 : decode cX5_growGround 65 = .ok (.invokevirtual 61, 3) := by decide +kernel
theorem dX5_growGround_68 : decode cX5_growGround 68 = .ok (.invokevirtual 57, 3) := by decide +kernel
theorem dX5_growGround_71 : decode cX5_growGround 71 = .ok (.iinc 2 1, 3) := by decide +kernel
theorem dX5_growGround_74 : decode cX5_growGround 74 = .ok (.goto (-62), 3) := by decide +kernel
theorem dX5_growGround_77 : decode cX5_growGround 77 = .ok (.iinc 1 1, 3) := by decide +kernel
theorem dX5_growGround_80 : decode cX5_growGround 80 = .ok (.goto (-78), 3) := by decide +kernel
theorem dX5_growGround_83 : decode cX5_growGround 83 = .ok (.return_, 1) := by decide +kernel
theorem dX5_groundOf_0 : decode cX5_groundOf 0 = .ok (.iconst 4, 1) := by decide +kernel
theorem dX5_groundOf_1 : decode cX5_groundOf 1 = .ok (.aload_n 0, 1) := by decide +kernel
theorem dX5_groundOf_2 : decode cX5_groundOf 2 = .ok (.iconst 0, 1) := by decide +kernel
theorem dX5_groundOf_3 : decode cX5_groundOf 3 = .ok (.iload_n 1, 1) := by decide +kernel
theorem dX5_groundOf_4 : decode cX5_groundOf 4 = .ok (.iload_n 2, 1) := by decide +kernel
theorem dX5_groundOf_5 : decode cX5_groundOf 5 = .ok (.invokevirtual 65, 3) := by decide +kernel
theorem dX5_groundOf_8 : decode cX5_groundOf 8 = .ok (.imul, 1) := by decide +kernel
theorem dX5_groundOf_9 : decode cX5_groundOf 9 = .ok (.iconst 2, 1) := by decide +kernel
theorem dX5_groundOf_10 : decode cX5_groundOf 10 = .ok (.aload_n 0, 1) := by decide +kernel
theorem dX5_groundOf_11 : decode cX5_groundOf 11 = .ok (.iconst 1, 1) := by decide +kernel
theorem dX5_groundOf_12 : decode cX5_groundOf 12 = .ok (.iload_n 1, 1) := by decide +kernel
theorem dX5_groundOf_13 : decode cX5_groundOf 13 = .ok (.iload_n 2, 1) := by decide +kernel
theorem dX5_groundOf_14 : decode cX5_groundOf 14 = .ok (.invokevirtual 65, 3) := by decide +kernel
theorem dX5_groundOf_17 : decode cX5_groundOf 17 = .ok (.imul, 1) := by decide +kernel
theorem dX5_groundOf_18 : decode cX5_groundOf 18 = .ok (.iadd, 1) := by decide +kernel
theorem dX5_groundOf_19 : decode cX5_groundOf 19 = .ok (.aload_n 0, 1) := by decide +kernel
theorem dX5_groundOf_20 : decode cX5_groundOf 20 = .ok (.iconst 2, 1) := by decide +kernel
theorem dX5_groundOf_21 : decode cX5_groundOf 21 = .ok (.iload_n 1, 1) := by decide +kernel
theorem dX5_groundOf_22 : decode cX5_groundOf 22 = .ok (.iload_n 2, 1) := by decide +kernel
theorem dX5_groundOf_23 : decode cX5_groundOf 23 = .ok (.invokevirtual 65, 3) := by decide +kernel
theorem dX5_groundOf_26 : decode cX5_groundOf 26 = .ok (.iadd, 1) := by decide +kernel
theorem dX5_groundOf_27 : decode cX5_groundOf 27 = .ok (.bipush 7, 2) := by decide +kernel
theorem dX5_groundOf_29 : decode cX5_groundOf 29 = .ok (.idiv, 1) := by decide +kernel
theorem dX5_groundOf_30 : decode cX5_groundOf 30 = .ok (.ireturn, 1) := by decide +kernel
theorem dX5_layerOf_0 : decode cX5_layerOf 0 = .ok (.iconst 3, 1) := by decide +kernel
theorem dX5_layerOf_1 : decode cX5_layerOf 1 = .ok (.iload_n 1, 1) := by decide +kernel
theorem dX5_layerOf_2 : decode cX5_layerOf 2 = .ok (.isub, 1) := by decide +kernel
theorem dX5_layerOf_3 : decode cX5_layerOf 3 = .ok (.istore 4, 2) := by decide +kernel
theorem dX5_layerOf_5 : decode cX5_layerOf 5 = .ok (.iconst 1, 1) := by decide +kernel
theorem dX5_layerOf_6 : decode cX5_layerOf 6 = .ok (.iload 4, 2) := by decide +kernel
theorem dX5_layerOf_8 : decode cX5_layerOf 8 = .ok (.ishl, 1) := by decide +kernel
theorem dX5_layerOf_9 : decode cX5_layerOf 9 = .ok (.istore 5, 2) := by decide +kernel
theorem dX5_layerOf_11 : decode cX5_layerOf 11 = .ok (.iload_n 2, 1) := by decide +kernel
theorem dX5_layerOf_12 : decode cX5_layerOf 12 = .ok (.iload 4, 2) := by decide +kernel
theorem dX5_layerOf_14 : decode cX5_layerOf 14 = .ok (.ishr, 1) := by decide +kernel
theorem dX5_layerOf_15 : decode cX5_layerOf 15 = .ok (.istore 6, 2) := by decide +kernel
theorem dX5_layerOf_17 : decode cX5_layerOf 17 = .ok (.iload_n 3, 1) := by decide +kernel
theorem dX5_layerOf_18 : decode cX5_layerOf 18 = .ok (.iload 4, 2) := by decide +kernel
theorem dX5_layerOf_20 : decode cX5_layerOf 20 = .ok (.ishr, 1) := by decide +kernel
theorem dX5_layerOf_21 : decode cX5_layerOf 21 = .ok (.istore 7, 2) := by decide +kernel
theorem dX5_layerOf_23 : decode cX5_layerOf 23 = .ok (.iload_n 2, 1) := by decide +kernel
theorem dX5_layerOf_24 : decode cX5_layerOf 24 = .ok (.iload 5, 2) := by decide +kernel
theorem dX5_layerOf_26 : decode cX5_layerOf 26 = .ok (.iconst 1, 1) := by decide +kernel
theorem dX5_layerOf_27 : decode cX5_layerOf 27 = .ok (.isub, 1) := by decide +kernel
theorem dX5_layerOf_28 : decode cX5_layerOf 28 = .ok (.iand, 1) := by decide +kernel
theorem dX5_layerOf_29 : decode cX5_layerOf 29 = .ok (.istore 8, 2) := by decide +kernel
theorem dX5_layerOf_31 : decode cX5_layerOf 31 = .ok (.iload_n 3, 1) := by decide +kernel
theorem dX5_layerOf_32 : decode cX5_layerOf 32 = .ok (.iload 5, 2) := by decide +kernel
theorem dX5_layerOf_34 : decode cX5_layerOf 34 = .ok (.iconst 1, 1) := by decide +kernel
theorem dX5_layerOf_35 : decode cX5_layerOf 35 = .ok (.isub, 1) := by decide +kernel
theorem dX5_layerOf_36 : decode cX5_layerOf 36 = .ok (.iand, 1) := by decide +kernel
theorem dX5_layerOf_37 : decode cX5_layerOf 37 = .ok (.istore 9, 2) := by decide +kernel
theorem dX5_layerOf_39 : decode cX5_layerOf 39 = .ok (.aload_n 0, 1) := by decide +kernel
theorem dX5_layerOf_40 : decode cX5_layerOf 40 = .ok (.iload_n 1, 1) := by decide +kernel
theorem dX5_layerOf_41 : decode cX5_layerOf 41 = .ok (.iload 6, 2) := by decide +kernel
theorem dX5_layerOf_43 : decode cX5_layerOf 43 = .ok (.iload 7, 2) := by decide +kernel
theorem dX5_layerOf_45 : decode cX5_layerOf 45 = .ok (.invokevirtual 69, 3) := by decide +kernel
theorem dX5_layerOf_48 : decode cX5_layerOf 48 = .ok (.iload 5, 2) := by decide +kernel
theorem dX5_layerOf_50 : decode cX5_layerOf 50 = .ok (.iload 8, 2) := by decide +kernel
theorem dX5_layerOf_52 : decode cX5_layerOf 52 = .ok (.isub, 1) := by decide +kernel
theorem dX5_layerOf_53 : decode cX5_layerOf 53 = .ok (.imul, 1) := by decide +kernel
theorem dX5_layerOf_54 : decode cX5_layerOf 54 = .ok (.aload_n 0, 1) := by decide +kernel
theorem dX5_layerOf_55 : decode cX5_layerOf 55 = .ok (.iload_n 1, 1) := by decide +kernel
theorem dX5_layerOf_56 : decode cX5_layerOf 56 = .ok (.iload 6, 2) := by decide +kernel
theorem dX5_layerOf_58 : decode cX5_layerOf 58 = .ok (.iconst 1, 1) := by decide +kernel
theorem dX5_layerOf_59 : decode cX5_layerOf 59 = .ok (.iadd, 1) := by decide +kernel
theorem dX5_layerOf_60 : decode cX5_layerOf 60 = .ok (.iload 7, 2) := by decide +kernel
theorem dX5_layerOf_62 : decode cX5_layerOf 62 = .ok (.invokevirtual 69, 3) := by decide +kernel
theorem dX5_layerOf_65 : decode cX5_layerOf 65 = .ok (.iload 8, 2) := by decide +kernel
theorem dX5_layerOf_67 : decode cX5_layerOf 67 = .ok (.imul, 1) := by decide +kernel
theorem dX5_layerOf_68 : decode cX5_layerOf 68 = .ok (.iadd, 1) := by decide +kernel
theorem dX5_layerOf_69 : decode cX5_layerOf 69 = .ok (.istore 10, 2) := by decide +kernel
theorem dX5_layerOf_71 : decode cX5_layerOf 71 = .ok (.aload_n 0, 1) := by decide +kernel
theorem dX5_layerOf_72 : decode cX5_layerOf 72 = .ok (.iload_n 1, 1) := by decide +kernel
theorem dX5_layerOf_73 : decode cX5_layerOf 73 = .ok (.iload 6, 2) := by decide +kernel
theorem dX5_layerOf_75 : decode cX5_layerOf 75 = .ok (.iload 7, 2) := by decide +kernel
theorem dX5_layerOf_77 : decode cX5_layerOf 77 = .ok (.iconst 1, 1) := by decide +kernel
theorem dX5_layerOf_78 : decode cX5_layerOf 78 = .ok (.iadd, 1) := by decide +kernel
theorem dX5_layerOf_79 : decode cX5_layerOf 79 = .ok (.invokevirtual 69, 3) := by decide +kernel
theorem dX5_layerOf_82 : decode cX5_layerOf 82 = .ok (.iload 5, 2) := by decide +kernel
theorem dX5_layerOf_84 : decode cX5_layerOf 84 = .ok (.iload 8, 2) := by decide +kernel
theorem dX5_layerOf_86 : decode cX5_layerOf 86 = .ok (.isub, 1) := by decide +kernel
theorem dX5_layerOf_87 : decode cX5_layerOf 87 = .ok (.imul, 1) := by decide +kernel
theorem dX5_layerOf_88 : decode cX5_layerOf 88 = .ok (.aload_n 0, 1) := by decide +kernel
theorem dX5_layerOf_89 : decode cX5_layerOf 89 = .ok (.iload_n 1, 1) := by decide +kernel
theorem dX5_layerOf_90 : decode cX5_layerOf 90 = .ok (.iload 6, 2) := by decide +kernel
theorem dX5_layerOf_92 : decode cX5_layerOf 92 = .ok (.iconst 1, 1) := by decide +kernel
theorem dX5_layerOf_93 : decode cX5_layerOf 93 = .ok (.iadd, 1) := by decide +kernel
theorem dX5_layerOf_94 : decode cX5_layerOf 94 = .ok (.iload 7, 2) := by decide +kernel
theorem dX5_layerOf_96 : decode cX5_layerOf 96 = .ok (.iconst 1, 1) := by decide +kernel
theorem dX5_layerOf_97 : decode cX5_layerOf 97 = .ok (.iadd, 1) := by decide +kernel
theorem dX5_layerOf_98 : decode cX5_layerOf 98 = .ok (.invokevirtual 69, 3) := by decide +kernel
theorem dX5_layerOf_101 : decode cX5_layerOf 101 = .ok (.iload 8, 2) := by decide +kernel
theorem dX5_layerOf_103 : decode cX5_layerOf 103 = .ok (.imul, 1) := by decide +kernel
theorem dX5_layerOf_104 : decode cX5_layerOf 104 = .ok (.iadd, 1) := by decide +kernel
theorem dX5_layerOf_105 : decode cX5_layerOf 105 = .ok (.istore 11, 2) := by decide +kernel
theorem dX5_layerOf_107 : decode cX5_layerOf 107 = .ok (.iload 10, 2) := by decide +kernel
theorem dX5_layerOf_109 : decode cX5_layerOf 109 = .ok (.iload 5, 2) := by decide +kernel
theorem dX5_layerOf_111 : decode cX5_layerOf 111 = .ok (.iload 9, 2) := by decide +kernel
theorem dX5_layerOf_113 : decode cX5_layerOf 113 = .ok (.isub, 1) := by decide +kernel
theorem dX5_layerOf_114 : decode cX5_layerOf 114 = .ok (.imul, 1) := by decide +kernel
theorem dX5_layerOf_115 : decode cX5_layerOf 115 = .ok (.iload 11, 2) := by decide +kernel
theorem dX5_layerOf_117 : decode cX5_layerOf 117 = .ok (.iload 9, 2) := by decide +kernel
theorem dX5_layerOf_119 : decode cX5_layerOf 119 = .ok (.imul, 1) := by decide +kernel
theorem dX5_layerOf_120 : decode cX5_layerOf 120 = .ok (.iadd, 1) := by decide +kernel
theorem dX5_layerOf_121 : decode cX5_layerOf 121 = .ok (.iconst 2, 1) := by decide +kernel
theorem dX5_layerOf_122 : decode cX5_layerOf 122 = .ok (.iload 4, 2) := by decide +kernel
theorem dX5_layerOf_124 : decode cX5_layerOf 124 = .ok (.imul, 1) := by decide +kernel
theorem dX5_layerOf_125 : decode cX5_layerOf 125 = .ok (.ishr, 1) := by decide +kernel
theorem dX5_layerOf_126 : decode cX5_layerOf 126 = .ok (.ireturn, 1) := by decide +kernel
theorem dX5_cornerOf_0 : decode cX5_cornerOf 0 = .ok (.aload_n 0, 1) := by decide +kernel
theorem dX5_cornerOf_1 : decode cX5_cornerOf 1 = .ok (.getfield 9, 3) := by decide +kernel
theorem dX5_cornerOf_4 : decode cX5_cornerOf 4 = .ok (.ldc 72, 2) := by decide +kernel
theorem dX5_cornerOf_6 : decode cX5_cornerOf 6 = .ok (.imul, 1) := by decide +kernel
theorem dX5_cornerOf_7 : decode cX5_cornerOf 7 = .ok (.iload_n 1, 1) := by decide +kernel
theorem dX5_cornerOf_8 : decode cX5_cornerOf 8 = .ok (.ldc 73, 2) := by decide +kernel
theorem dX5_cornerOf_10 : decode cX5_cornerOf 10 = .ok (.imul, 1) := by decide +kernel
theorem dX5_cornerOf_11 : decode cX5_cornerOf 11 = .ok (.iadd, 1) := by decide +kernel
theorem dX5_cornerOf_12 : decode cX5_cornerOf 12 = .ok (.iload_n 2, 1) := by decide +kernel
theorem dX5_cornerOf_13 : decode cX5_cornerOf 13 = .ok (.ldc 74, 2) := by decide +kernel
theorem dX5_cornerOf_15 : decode cX5_cornerOf 15 = .ok (.imul, 1) := by decide +kernel
theorem dX5_cornerOf_16 : decode cX5_cornerOf 16 = .ok (.iadd, 1) := by decide +kernel
theorem dX5_cornerOf_17 : decode cX5_cornerOf 17 = .ok (.iload_n 3, 1) := by decide +kernel
theorem dX5_cornerOf_18 : decode cX5_cornerOf 18 = .ok (.ldc 75, 2) := by decide +kernel
theorem dX5_cornerOf_20 : decode cX5_cornerOf 20 = .ok (.imul, 1) := by decide +kernel
theorem dX5_cornerOf_21 : decode cX5_cornerOf 21 = .ok (.iadd, 1) := by decide +kernel
theorem dX5_cornerOf_22 : decode cX5_cornerOf 22 = .ok (.istore 4, 2) := by decide +kernel
theorem dX5_cornerOf_24 : decode cX5_cornerOf 24 = .ok (.iload 4, 2) := by decide +kernel
theorem dX5_cornerOf_26 : decode cX5_cornerOf 26 = .ok (.iload 4, 2) := by decide +kernel
theorem dX5_cornerOf_28 : decode cX5_cornerOf 28 = .ok (.bipush 15, 2) := by decide +kernel
theorem dX5_cornerOf_30 : decode cX5_cornerOf 30 = .ok (.iushr, 1) := by decide +kernel
theorem dX5_cornerOf_31 : decode cX5_cornerOf 31 = .ok (.ixor, 1) := by decide +kernel
theorem dX5_cornerOf_32 : decode cX5_cornerOf 32 = .ok (.ldc 76, 2) := by decide +kernel
theorem dX5_cornerOf_34 : decode cX5_cornerOf 34 = .ok (.imul, 1) := by decide +kernel
theorem dX5_cornerOf_35 : decode cX5_cornerOf 35 = .ok (.istore 4, 2) := by decide +kernel
theorem dX5_cornerOf_37 : decode cX5_cornerOf 37 = .ok (.iload 4, 2) := by decide +kernel
theorem dX5_cornerOf_39 : decode cX5_cornerOf 39 = .ok (.iload 4, 2) := by decide +kernel
theorem dX5_cornerOf_41 : decode cX5_cornerOf 41 = .ok (.bipush 15, 2) := by decide +kernel
theorem dX5_cornerOf_43 : decode cX5_cornerOf 43 = .ok (.iushr, 1) := by decide +kernel
theorem dX5_cornerOf_44 : decode cX5_cornerOf 44 = .ok (.ixor, 1) := by decide +kernel
theorem dX5_cornerOf_45 : decode cX5_cornerOf 45 = .ok (.ldc 76, 2) := by decide +kernel
theorem dX5_cornerOf_47 : decode cX5_cornerOf 47 = .ok (.imul, 1) := by decide +kernel
theorem dX5_cornerOf_48 : decode cX5_cornerOf 48 = .ok (.istore 4, 2) := by decide +kernel
theorem dX5_cornerOf_50 : decode cX5_cornerOf 50 = .ok (.iload 4, 2) := by decide +kernel
theorem dX5_cornerOf_52 : decode cX5_cornerOf 52 = .ok (.bipush 16, 2) := by decide +kernel
theorem dX5_cornerOf_54 : decode cX5_cornerOf 54 = .ok (.iushr, 1) := by decide +kernel
theorem dX5_cornerOf_55 : decode cX5_cornerOf 55 = .ok (.sipush 255, 3) := by decide +kernel
theorem dX5_cornerOf_58 : decode cX5_cornerOf 58 = .ok (.iand, 1) := by decide +kernel
theorem dX5_cornerOf_59 : decode cX5_cornerOf 59 = .ok (.ireturn, 1) := by decide +kernel
theorem dX5_addChange_0 : decode cX5_addChange 0 = .ok (.aload_n 0, 1) := by decide +kernel
theorem dX5_addChange_1 : decode cX5_addChange 1 = .ok (.getfield 35, 3) := by decide +kernel
theorem dX5_addChange_4 : decode cX5_addChange 4 = .ok (.aload_n 0, 1) := by decide +kernel
theorem dX5_addChange_5 : decode cX5_addChange 5 = .ok (.getfield 27, 3) := by decide +kernel
theorem dX5_addChange_8 : decode cX5_addChange 8 = .ok (.aload_n 0, 1) := by decide +kernel
theorem dX5_addChange_9 : decode cX5_addChange 9 = .ok (.getfield 21, 3) := by decide +kernel
theorem dX5_addChange_12 : decode cX5_addChange 12 = .ok (.aload_n 0, 1) := by decide +kernel
theorem dX5_addChange_13 : decode cX5_addChange 13 = .ok (.getfield 45, 3) := by decide +kernel
theorem dX5_addChange_16 : decode cX5_addChange 16 = .ok (.iload_n 1, 1) := by decide +kernel
theorem dX5_addChange_17 : decode cX5_addChange 17 = .ok (.invokevirtual 77, 3) := by decide +kernel
theorem dX5_addChange_20 : decode cX5_addChange 20 = .ok (.iadd, 1) := by decide +kernel
theorem dX5_addChange_21 : decode cX5_addChange 21 = .ok (.invokevirtual 57, 3) := by decide +kernel
theorem dX5_addChange_24 : decode cX5_addChange 24 = .ok (.aload_n 0, 1) := by decide +kernel
theorem dX5_addChange_25 : decode cX5_addChange 25 = .ok (.getfield 39, 3) := by decide +kernel
theorem dX5_addChange_28 : decode cX5_addChange 28 = .ok (.aload_n 0, 1) := by decide +kernel
theorem dX5_addChange_29 : decode cX5_addChange 29 = .ok (.getfield 27, 3) := by decide +kernel
theorem dX5_addChange_32 : decode cX5_addChange 32 = .ok (.aload_n 0, 1) := by decide +kernel
theorem dX5_addChange_33 : decode cX5_addChange 33 = .ok (.getfield 24, 3) := by decide +kernel
theorem dX5_addChange_36 : decode cX5_addChange 36 = .ok (.aload_n 0, 1) := by decide +kernel
theorem dX5_addChange_37 : decode cX5_addChange 37 = .ok (.getfield 48, 3) := by decide +kernel
theorem dX5_addChange_40 : decode cX5_addChange 40 = .ok (.iload_n 1, 1) := by decide +kernel
theorem dX5_addChange_41 : decode cX5_addChange 41 = .ok (.invokevirtual 77, 3) := by decide +kernel
theorem dX5_addChange_44 : decode cX5_addChange 44 = .ok (.iadd, 1) := by decide +kernel
theorem dX5_addChange_45 : decode cX5_addChange 45 = .ok (.invokevirtual 57, 3) := by decide +kernel
theorem dX5_addChange_48 : decode cX5_addChange 48 = .ok (.aload_n 0, 1) := by decide +kernel
theorem dX5_addChange_49 : decode cX5_addChange 49 = .ok (.getfield 42, 3) := by decide +kernel
theorem dX5_addChange_52 : decode cX5_addChange 52 = .ok (.aload_n 0, 1) := by decide +kernel
theorem dX5_addChange_53 : decode cX5_addChange 53 = .ok (.getfield 27, 3) := by decide +kernel
theorem dX5_addChange_56 : decode cX5_addChange 56 = .ok (.iload_n 2, 1) := by decide +kernel
theorem dX5_addChange_57 : decode cX5_addChange 57 = .ok (.invokevirtual 57, 3) := by decide +kernel
theorem dX5_addChange_60 : decode cX5_addChange 60 = .ok (.aload_n 0, 1) := by decide +kernel
theorem dX5_addChange_61 : decode cX5_addChange 61 = .ok (.dup, 1) := by decide +kernel
theorem dX5_addChange_62 : decode cX5_addChange 62 = .ok (.getfield 27, 3) := by decide +kernel
theorem dX5_addChange_65 : decode cX5_addChange 65 = .ok (.iconst 1, 1) := by decide +kernel
theorem dX5_addChange_66 : decode cX5_addChange 66 = .ok (.iadd, 1) := by decide +kernel
theorem dX5_addChange_67 : decode cX5_addChange 67 = .ok (.putfield 27, 3) := by decide +kernel
theorem dX5_addChange_70 : decode cX5_addChange 70 = .ok (.return_, 1) := by decide +kernel
theorem dX5_raiseHeights_0 : decode cX5_raiseHeights 0 = .ok (.iconst 0, 1) := by decide +kernel
theorem dX5_raiseHeights_1 : decode cX5_raiseHeights 1 = .ok (.istore_n 1, 1) := by decide +kernel
theorem dX5_raiseHeights_2 : decode cX5_raiseHeights 2 = .ok (.iload_n 1, 1) := by decide +kernel
theorem dX5_raiseHeights_3 : decode cX5_raiseHeights 3 = .ok (.aload_n 0, 1) := by decide +kernel
theorem dX5_raiseHeights_4 : decode cX5_raiseHeights 4 = .ok (.getfield 18, 3) := by decide +kernel
theorem dX5_raiseHeights_7 : decode cX5_raiseHeights 7 = .ok (.if_icmp .ge 25, 3) := by decide +kernel
theorem dX5_raiseHeights_10 : decode cX5_raiseHeights 10 = .ok (.aload_n 0, 1) := by decide +kernel
theorem dX5_raiseHeights_11 : decode cX5_raiseHeights 11 = .ok (.getfield 54, 3) := by decide +kernel
theorem dX5_raiseHeights_14 : decode cX5_raiseHeights 14 = .ok (.iload_n 1, 1) := by decide +kernel
theorem dX5_raiseHeights_15 : decode cX5_raiseHeights 15 = .ok (.aload_n 0, 1) := by decide +kernel
theorem dX5_raiseHeights_16 : decode cX5_raiseHeights 16 = .ok (.getfield 51, 3) := by decide +kernel
theorem dX5_raiseHeights_19 : decode cX5_raiseHeights 19 = .ok (.iload_n 1, 1) := by decide +kernel
theorem dX5_raiseHeights_20 : decode cX5_raiseHeights 20 = .ok (.invokevirtual 77, 3) := by decide +kernel
theorem dX5_raiseHeights_23 : decode cX5_raiseHeights 23 = .ok (.invokevirtual 57, 3) := by decide +kernel
theorem dX5_raiseHeights_26 : decode cX5_raiseHeights 26 = .ok (.iinc 1 1, 3) := by decide +kernel
theorem dX5_raiseHeights_29 : decode cX5_raiseHeights 29 = .ok (.goto (-27), 3) := by decide +kernel
theorem dX5_raiseHeights_32 : decode cX5_raiseHeights 32 = .ok (.iconst 0, 1) := by decide +kernel
theorem dX5_raiseHeights_33 : decode cX5_raiseHeights 33 = .ok (.istore_n 1, 1) := by decide +kernel
theorem dX5_raiseHeights_34 : decode cX5_raiseHeights 34 = .ok (.iload_n 1, 1) := by decide +kernel
theorem dX5_raiseHeights_35 : decode cX5_raiseHeights 35 = .ok (.aload_n 0, 1) := by decide +kernel
theorem dX5_raiseHeights_36 : decode cX5_raiseHeights 36 = .ok (.getfield 27, 3) := by decide +kernel
theorem dX5_raiseHeights_39 : decode cX5_raiseHeights 39 = .ok (.if_icmp .ge 88, 3) := by decide +kernel
theorem dX5_raiseHeights_42 : decode cX5_raiseHeights 42 = .ok (.aload_n 0, 1) := by decide +kernel
theorem dX5_raiseHeights_43 : decode cX5_raiseHeights 43 = .ok (.getfield 35, 3) := by decide +kernel
theorem dX5_raiseHeights_46 : decode cX5_raiseHeights 46 = .ok (.iload_n 1, 1) := by decide +kernel
theorem dX5_raiseHeights_47 : decode cX5_raiseHeights 47 = .ok (.invokevirtual 77, 3) := by decide +kernel
theorem dX5_raiseHeights_50 : decode cX5_raiseHeights 50 = .ok (.aload_n 0, 1) := by decide +kernel
theorem dX5_raiseHeights_51 : decode cX5_raiseHeights 51 = .ok (.getfield 21, 3) := by decide +kernel
theorem dX5_raiseHeights_54 : decode cX5_raiseHeights 54 = .ok (.isub, 1) := by decide +kernel
theorem dX5_raiseHeights_55 : decode cX5_raiseHeights 55 = .ok (.istore_n 2, 1) := by decide +kernel
theorem dX5_raiseHeights_56 : decode cX5_raiseHeights 56 = .ok (.aload_n 0, 1) := by decide +kernel
theorem dX5_raiseHeights_57 : decode cX5_raiseHeights 57 = .ok (.getfield 39, 3) := by decide +kernel
theorem dX5_raiseHeights_60 : decode cX5_raiseHeights 60 = .ok (.iload_n 1, 1) := by decide +kernel
theorem dX5_raiseHeights_61 : decode cX5_raiseHeights 61 = .ok (.invokevirtual 77, 3) := by decide +kernel
theorem dX5_raiseHeights_64 : decode cX5_raiseHeights 64 = .ok (.aload_n 0, 1) := by decide +kernel
theorem dX5_raiseHeights_65 : decode cX5_raiseHeights 65 = .ok (.getfield 24, 3) := by decide +kernel
theorem dX5_raiseHeights_68 : decode cX5_raiseHeights 68 = .ok (.isub, 1) := by decide +kernel
theorem dX5_raiseHeights_69 : decode cX5_raiseHeights 69 = .ok (.istore_n 3, 1) := by decide +kernel
theorem dX5_raiseHeights_70 : decode cX5_raiseHeights 70 = .ok (.iload_n 2, 1) := by decide +kernel
theorem dX5_raiseHeights_71 : decode cX5_raiseHeights 71 = .ok (.iconst 0, 1) := by decide +kernel
theorem dX5_raiseHeights_72 : decode cX5_raiseHeights 72 = .ok (.aload_n 0, 1) := by decide +kernel
theorem dX5_raiseHeights_73 : decode cX5_raiseHeights 73 = .ok (.getfield 15, 3) := by decide +kernel
theorem dX5_raiseHeights_76 : decode cX5_raiseHeights 76 = .ok (.iconst 1, 1) := by decide +kernel
theorem dX5_raiseHeights_77 : decode cX5_raiseHeights 77 = .ok (.isub, 1) := by decide +kernel
theorem dX5_raiseHeights_78 : decode cX5_raiseHeights 78 = .ok (.invokestatic 81, 3) := by decide +kernel
theorem dX5_raiseHeights_81 : decode cX5_raiseHeights 81 = .ok (.ifCond .eq 40, 3) := by decide +kernel
theorem dX5_raiseHeights_84 : decode cX5_raiseHeights 84 = .ok (.iload_n 3, 1) := by decide +kernel
theorem dX5_raiseHeights_85 : decode cX5_raiseHeights 85 = .ok (.iconst 0, 1) := by decide +kernel
theorem dX5_raiseHeights_86 : decode cX5_raiseHeights 86 = .ok (.aload_n 0, 1) := by decide +kernel
theorem dX5_raiseHeights_87 : decode cX5_raiseHeights 87 = .ok (.getfield 15, 3) := by decide +kernel
theorem dX5_raiseHeights_90 : decode cX5_raiseHeights 90 = .ok (.iconst 1, 1) := by decide +kernel
theorem dX5_raiseHeights_91 : decode cX5_raiseHeights 91 = .ok (.isub, 1) := by decide +kernel
theorem dX5_raiseHeights_92 : decode cX5_raiseHeights 92 = .ok (.invokestatic 81, 3) := by decide +kernel
theorem dX5_raiseHeights_95 : decode cX5_raiseHeights 95 = .ok (.ifCond .eq 26, 3) := by decide +kernel
theorem dX5_raiseHeights_98 : decode cX5_raiseHeights 98 = .ok (.aload_n 0, 1) := by decide +kernel
theorem dX5_raiseHeights_99 : decode cX5_raiseHeights 99 = .ok (.getfield 54, 3) := by decide +kernel
theorem dX5_raiseHeights_102 : decode cX5_raiseHeights 102 = .ok (.aload_n 0, 1) := by decide +kernel
theorem dX5_raiseHeights_103 : decode cX5_raiseHeights 103 = .ok (.getfield 15, 3) := by decide +kernel
theorem dX5_raiseHeights_106 : decode cX5_raiseHeights 106 = .ok (.iload_n 3, 1) := by decide +kernel
theorem dX5_raiseHeights_107 : decode cX5_raiseHeights 107 = .ok (.imul, 1) := by decide +kernel
theorem dX5_raiseHeights_108 : decode cX5_raiseHeights 108 = .ok (.iload_n 2, 1) := by decide +kernel
theorem dX5_raiseHeights_109 : decode cX5_raiseHeights 109 = .ok (.iadd, 1) := by decide +kernel
theorem dX5_raiseHeights_110 : decode cX5_raiseHeights 110 = .ok (.aload_n 0, 1) := by decide +kernel
theorem dX5_raiseHeights_111 : decode cX5_raiseHeights 111 = .ok (.getfield 42, 3) := by decide +kernel
theorem dX5_raiseHeights_114 : decode cX5_raiseHeights 114 = .ok (.iload_n 1, 1) := by decide +kernel
theorem dX5_raiseHeights_115 : decode cX5_raiseHeights 115 = .ok (.invokevirtual 77, 3) := by decide +kernel
theorem dX5_raiseHeights_118 : decode cX5_raiseHeights 118 = .ok (.invokevirtual 85, 3) := by decide +kernel
theorem dX5_raiseHeights_121 : decode cX5_raiseHeights 121 = .ok (.iinc 1 1, 3) := by decide +kernel
theorem dX5_raiseHeights_124 : decode cX5_raiseHeights 124 = .ok (.goto (-90), 3) := by decide +kernel
theorem dX5_raiseHeights_127 : decode cX5_raiseHeights 127 = .ok (.iconst 0, 1) := by decide +kernel
theorem dX5_raiseHeights_128 : decode cX5_raiseHeights 128 = .ok (.istore_n 1, 1) := by decide +kernel
theorem dX5_raiseHeights_129 : decode cX5_raiseHeights 129 = .ok (.iload_n 1, 1) := by decide +kernel
theorem dX5_raiseHeights_130 : decode cX5_raiseHeights 130 = .ok (.aload_n 0, 1) := by decide +kernel
theorem dX5_raiseHeights_131 : decode cX5_raiseHeights 131 = .ok (.getfield 18, 3) := by decide +kernel
theorem dX5_raiseHeights_134 : decode cX5_raiseHeights 134 = .ok (.if_icmp .ge 35, 3) := by decide +kernel
theorem dX5_raiseHeights_137 : decode cX5_raiseHeights 137 = .ok (.aload_n 0, 1) := by decide +kernel
theorem dX5_raiseHeights_138 : decode cX5_raiseHeights 138 = .ok (.getfield 54, 3) := by decide +kernel
theorem dX5_raiseHeights_141 : decode cX5_raiseHeights 141 = .ok (.iload_n 1, 1) := by decide +kernel
theorem dX5_raiseHeights_142 : decode cX5_raiseHeights 142 = .ok (.iconst 0, 1) := by decide +kernel
theorem dX5_raiseHeights_143 : decode cX5_raiseHeights 143 = .ok (.aload_n 0, 1) := by decide +kernel
theorem dX5_raiseHeights_144 : decode cX5_raiseHeights 144 = .ok (.getfield 54, 3) := by decide +kernel
theorem dX5_raiseHeights_147 : decode cX5_raiseHeights 147 = .ok (.iload_n 1, 1) := by decide +kernel
theorem dX5_raiseHeights_148 : decode cX5_raiseHeights 148 = .ok (.invokevirtual 77, 3) := by decide +kernel
theorem dX5_raiseHeights_151 : decode cX5_raiseHeights 151 = .ok (.sipush 400, 3) := by decide +kernel
theorem dX5_raiseHeights_154 : decode cX5_raiseHeights 154 = .ok (.invokestatic 88, 3) := by decide +kernel
theorem dX5_raiseHeights_157 : decode cX5_raiseHeights 157 = .ok (.invokestatic 93, 3) := by decide +kernel
theorem dX5_raiseHeights_160 : decode cX5_raiseHeights 160 = .ok (.invokevirtual 57, 3) := by decide +kernel
theorem dX5_raiseHeights_163 : decode cX5_raiseHeights 163 = .ok (.iinc 1 1, 3) := by decide +kernel
theorem dX5_raiseHeights_166 : decode cX5_raiseHeights 166 = .ok (.goto (-37), 3) := by decide +kernel
theorem dX5_raiseHeights_169 : decode cX5_raiseHeights 169 = .ok (.return_, 1) := by decide +kernel
theorem dX5_beside_0 : decode cX5_beside 0 = .ok (.iload_n 2, 1) := by decide +kernel
theorem dX5_beside_1 : decode cX5_beside 1 = .ok (.tableswitch 129 0 3 #[31, 54, 74, 100], 31) := by decide +kernel
theorem dX5_beside_32 : decode cX5_beside 32 = .ok (.aload_n 0, 1) := by decide +kernel
theorem dX5_beside_33 : decode cX5_beside 33 = .ok (.getfield 48, 3) := by decide +kernel
theorem dX5_beside_36 : decode cX5_beside 36 = .ok (.iload_n 1, 1) := by decide +kernel
theorem dX5_beside_37 : decode cX5_beside 37 = .ok (.invokevirtual 77, 3) := by decide +kernel
theorem dX5_beside_40 : decode cX5_beside 40 = .ok (.ifCond .le 12, 3) := by decide +kernel
theorem dX5_beside_43 : decode cX5_beside 43 = .ok (.iload_n 1, 1) := by decide +kernel
theorem dX5_beside_44 : decode cX5_beside 44 = .ok (.aload_n 0, 1) := by decide +kernel
theorem dX5_beside_45 : decode cX5_beside 45 = .ok (.getfield 15, 3) := by decide +kernel
theorem dX5_beside_48 : decode cX5_beside 48 = .ok (.isub, 1) := by decide +kernel
theorem dX5_beside_49 : decode cX5_beside 49 = .ok (.goto 5, 3) := by decide +kernel
theorem dX5_beside_52 : decode cX5_beside 52 = .ok (.bipush (-6), 2) := by decide +kernel
theorem dX5_beside_54 : decode cX5_beside 54 = .ok (.ireturn, 1) := by decide +kernel
theorem dX5_beside_55 : decode cX5_beside 55 = .ok (.aload_n 0, 1) := by decide +kernel
theorem dX5_beside_56 : decode cX5_beside 56 = .ok (.getfield 45, 3) := by decide +kernel
theorem dX5_beside_59 : decode cX5_beside 59 = .ok (.iload_n 1, 1) := by decide +kernel
theorem dX5_beside_60 : decode cX5_beside 60 = .ok (.invokevirtual 77, 3) := by decide +kernel
theorem dX5_beside_63 : decode cX5_beside 63 = .ok (.ifCond .le 9, 3) := by decide +kernel
theorem dX5_beside_66 : decode cX5_beside 66 = .ok (.iload_n 1, 1) := by decide +kernel
theorem dX5_beside_67 : decode cX5_beside 67 = .ok (.iconst 1, 1) := by decide +kernel
theorem dX5_beside_68 : decode cX5_beside 68 = .ok (.isub, 1) := by decide +kernel
theorem dX5_beside_69 : decode cX5_beside 69 = .ok (.goto 5, 3) := by decide +kernel
theorem dX5_beside_72 : decode cX5_beside 72 = .ok (.bipush (-6), 2) := by decide +kernel
theorem dX5_beside_74 : decode cX5_beside 74 = .ok (.ireturn, 1) := by decide +kernel
theorem dX5_beside_75 : decode cX5_beside 75 = .ok (.aload_n 0, 1) := by decide +kernel
theorem dX5_beside_76 : decode cX5_beside 76 = .ok (.getfield 45, 3) := by decide +kernel
theorem dX5_beside_79 : decode cX5_beside 79 = .ok (.iload_n 1, 1) := by decide +kernel
theorem dX5_beside_80 : decode cX5_beside 80 = .ok (.invokevirtual 77, 3) := by decide +kernel
theorem dX5_beside_83 : decode cX5_beside 83 = .ok (.aload_n 0, 1) := by decide +kernel
theorem dX5_beside_84 : decode cX5_beside 84 = .ok (.getfield 15, 3) := by decide +kernel
theorem dX5_beside_87 : decode cX5_beside 87 = .ok (.iconst 1, 1) := by decide +kernel
theorem dX5_beside_88 : decode cX5_beside 88 = .ok (.isub, 1) := by decide +kernel
theorem dX5_beside_89 : decode cX5_beside 89 = .ok (.if_icmp .ge 9, 3) := by decide +kernel
theorem dX5_beside_92 : decode cX5_beside 92 = .ok (.iload_n 1, 1) := by decide +kernel
theorem dX5_beside_93 : decode cX5_beside 93 = .ok (.iconst 1, 1) := by decide +kernel
theorem dX5_beside_94 : decode cX5_beside 94 = .ok (.iadd, 1) := by decide +kernel
theorem dX5_beside_95 : decode cX5_beside 95 = .ok (.goto 5, 3) := by decide +kernel
theorem dX5_beside_98 : decode cX5_beside 98 = .ok (.bipush (-6), 2) := by decide +kernel
theorem dX5_beside_100 : decode cX5_beside 100 = .ok (.ireturn, 1) := by decide +kernel
theorem dX5_beside_101 : decode cX5_beside 101 = .ok (.aload_n 0, 1) := by decide +kernel
theorem dX5_beside_102 : decode cX5_beside 102 = .ok (.getfield 48, 3) := by decide +kernel
theorem dX5_beside_105 : decode cX5_beside 105 = .ok (.iload_n 1, 1) := by decide +kernel
theorem dX5_beside_106 : decode cX5_beside 106 = .ok (.invokevirtual 77, 3) := by decide +kernel
theorem dX5_beside_109 : decode cX5_beside 109 = .ok (.aload_n 0, 1) := by decide +kernel
theorem dX5_beside_110 : decode cX5_beside 110 = .ok (.getfield 15, 3) := by decide +kernel
theorem dX5_beside_113 : decode cX5_beside 113 = .ok (.iconst 1, 1) := by decide +kernel
theorem dX5_beside_114 : decode cX5_beside 114 = .ok (.isub, 1) := by decide +kernel
theorem dX5_beside_115 : decode cX5_beside 115 = .ok (.if_icmp .ge 12, 3) := by decide +kernel
theorem dX5_beside_118 : decode cX5_beside 118 = .ok (.iload_n 1, 1) := by decide +kernel
theorem dX5_beside_119 : decode cX5_beside 119 = .ok (.aload_n 0, 1) := by decide +kernel
theorem dX5_beside_120 : decode cX5_beside 120 = .ok (.getfield 15, 3) := by decide +kernel
theorem dX5_beside_123 : decode cX5_beside 123 = .ok (.iadd, 1) := by decide +kernel
theorem dX5_beside_124 : decode cX5_beside 124 = .ok (.goto 5, 3) := by decide +kernel
theorem dX5_beside_127 : decode cX5_beside 127 = .ok (.bipush (-6), 2) := by decide +kernel
theorem dX5_beside_129 : decode cX5_beside 129 = .ok (.ireturn, 1) := by decide +kernel
theorem dX5_beside_130 : decode cX5_beside 130 = .ok (.bipush (-6), 2) := by decide +kernel
theorem dX5_beside_132 : decode cX5_beside 132 = .ok (.ireturn, 1) := by decide +kernel
theorem dX5_isRim_0 : decode cX5_isRim 0 = .ok (.aload_n 0, 1) := by decide +kernel
theorem dX5_isRim_1 : decode cX5_isRim 1 = .ok (.getfield 45, 3) := by decide +kernel
theorem dX5_isRim_4 : decode cX5_isRim 4 = .ok (.iload_n 1, 1) := by decide +kernel
theorem dX5_isRim_5 : decode cX5_isRim 5 = .ok (.invokevirtual 77, 3) := by decide +kernel
theorem dX5_isRim_8 : decode cX5_isRim 8 = .ok (.istore_n 2, 1) := by decide +kernel
theorem dX5_isRim_9 : decode cX5_isRim 9 = .ok (.aload_n 0, 1) := by decide +kernel
theorem dX5_isRim_10 : decode cX5_isRim 10 = .ok (.getfield 48, 3) := by decide +kernel
theorem dX5_isRim_13 : decode cX5_isRim 13 = .ok (.iload_n 1, 1) := by decide +kernel
theorem dX5_isRim_14 : decode cX5_isRim 14 = .ok (.invokevirtual 77, 3) := by decide +kernel
theorem dX5_isRim_17 : decode cX5_isRim 17 = .ok (.istore_n 3, 1) := by decide +kernel
theorem dX5_isRim_18 : decode cX5_isRim 18 = .ok (.iload_n 2, 1) := by decide +kernel
theorem dX5_isRim_19 : decode cX5_isRim 19 = .ok (.ifCond .eq 27, 3) := by decide +kernel
theorem dX5_isRim_22 : decode cX5_isRim 22 = .ok (.iload_n 3, 1) := by decide +kernel
theorem dX5_isRim_23 : decode cX5_isRim 23 = .ok (.ifCond .eq 23, 3) := by decide +kernel
theorem dX5_isRim_26 : decode cX5_isRim 26 = .ok (.iload_n 2, 1) := by decide +kernel
theorem dX5_isRim_27 : decode cX5_isRim 27 = .ok (.aload_n 0, 1) := by decide +kernel
theorem dX5_isRim_28 : decode cX5_isRim 28 = .ok (.getfield 15, 3) := by decide +kernel
theorem dX5_isRim_31 : decode cX5_isRim 31 = .ok (.iconst 1, 1) := by decide +kernel
theorem dX5_isRim_32 : decode cX5_isRim 32 = .ok (.isub, 1) := by decide +kernel
theorem dX5_isRim_33 : decode cX5_isRim 33 = .ok (.if_icmp .eq 13, 3) := by decide +kernel
theorem dX5_isRim_36 : decode cX5_isRim 36 = .ok (.iload_n 3, 1) := by decide +kernel
theorem dX5_isRim_37 : decode cX5_isRim 37 = .ok (.aload_n 0, 1) := by decide +kernel
theorem dX5_isRim_38 : decode cX5_isRim 38 = .ok (.getfield 15, 3) := by decide +kernel
theorem dX5_isRim_41 : decode cX5_isRim 41 = .ok (.iconst 1, 1) := by decide +kernel
theorem dX5_isRim_42 : decode cX5_isRim 42 = .ok (.isub, 1) := by decide +kernel
theorem dX5_isRim_43 : decode cX5_isRim 43 = .ok (.if_icmp .ne 7, 3) := by decide +kernel
theorem dX5_isRim_46 : decode cX5_isRim 46 = .ok (.iconst 1, 1) := by decide +kernel
theorem dX5_isRim_47 : decode cX5_isRim 47 = .ok (.goto 4, 3) := by decide +kernel
theorem dX5_isRim_50 : decode cX5_isRim 50 = .ok (.iconst 0, 1) := by decide +kernel
theorem dX5_isRim_51 : decode cX5_isRim 51 = .ok (.ireturn, 1) := by decide +kernel
theorem dX5_rowsAndColumnsBetween_0 : decode cX5_rowsAndColumnsBetween 0 = .ok (.aload_n 0, 1) := by decide +kernel
theorem dX5_rowsAndColumnsBetween_1 : decode cX5_rowsAndColumnsBetween 1 = .ok (.getfield 45, 3) := by decide +kernel
theorem dX5_rowsAndColumnsBetween_4 : decode cX5_rowsAndColumnsBetween 4 = .ok (.iload_n 1, 1) := by decide +kernel
theorem dX5_rowsAndColumnsBetween_5 : decode cX5_rowsAndColumnsBetween 5 = .ok (.invokevirtual 77, 3) := by decide +kernel
theorem dX5_rowsAndColumnsBetween_8 : decode cX5_rowsAndColumnsBetween 8 = .ok (.aload_n 0, 1) := by decide +kernel
theorem dX5_rowsAndColumnsBetween_9 : decode cX5_rowsAndColumnsBetween 9 = .ok (.getfield 45, 3) := by decide +kernel
theorem dX5_rowsAndColumnsBetween_12 : decode cX5_rowsAndColumnsBetween 12 = .ok (.iload_n 2, 1) := by decide +kernel
theorem dX5_rowsAndColumnsBetween_13 : decode cX5_rowsAndColumnsBetween 13 = .ok (.invokevirtual 77, 3) := by decide +kernel
theorem dX5_rowsAndColumnsBetween_16 : decode cX5_rowsAndColumnsBetween 16 = .ok (.isub, 1) := by decide +kernel
theorem dX5_rowsAndColumnsBetween_17 : decode cX5_rowsAndColumnsBetween 17 = .ok (.invokestatic 96, 3) := by decide +kernel
theorem dX5_rowsAndColumnsBetween_20 : decode cX5_rowsAndColumnsBetween 20 = .ok (.aload_n 0, 1) := by decide +kernel
theorem dX5_rowsAndColumnsBetween_21 : decode cX5_rowsAndColumnsBetween 21 = .ok (.getfield 48, 3) := by decide +kernel
theorem dX5_rowsAndColumnsBetween_24 : decode cX5_rowsAndColumnsBetween 24 = .ok (.iload_n 1, 1) := by decide +kernel
theorem dX5_rowsAndColumnsBetween_25 : decode cX5_rowsAndColumnsBetween 25 = .ok (.invokevirtual 77, 3) := by decide +kernel
theorem dX5_rowsAndColumnsBetween_28 : decode cX5_rowsAndColumnsBetween 28 = .ok (.aload_n 0, 1) := by decide +kernel
theorem dX5_rowsAndColumnsBetween_29 : decode cX5_rowsAndColumnsBetween 29 = .ok (.getfield 48, 3) := by decide +kernel
theorem dX5_rowsAndColumnsBetween_32 : decode cX5_rowsAndColumnsBetween 32 = .ok (.iload_n 2, 1) := by decide +kernel
theorem dX5_rowsAndColumnsBetween_33 : decode cX5_rowsAndColumnsBetween 33 = .ok (.invokevirtual 77, 3) := by decide +kernel
theorem dX5_rowsAndColumnsBetween_36 : decode cX5_rowsAndColumnsBetween 36 = .ok (.isub, 1) := by decide +kernel
theorem dX5_rowsAndColumnsBetween_37 : decode cX5_rowsAndColumnsBetween 37 = .ok (.invokestatic 96, 3) := by decide +kernel
theorem dX5_rowsAndColumnsBetween_40 : decode cX5_rowsAndColumnsBetween 40 = .ok (.iadd, 1) := by decide +kernel
theorem dX5_rowsAndColumnsBetween_41 : decode cX5_rowsAndColumnsBetween 41 = .ok (.ireturn, 1) := by decide +kernel
theorem dX6_init_0 : decode cX6_init 0 = .ok (.aload_n 0, 1) := by decide +kernel
theorem dX6_init_1 : decode cX6_init 1 = .ok (.invokespecial 3, 3) := by decide +kernel
theorem dX6_init_4 : decode cX6_init 4 = .ok (.aload_n 0, 1) := by decide +kernel
theorem dX6_init_5 : decode cX6_init 5 = .ok (.new 9, 3) := by decide +kernel
theorem dX6_init_8 : decode cX6_init 8 = .ok (.dup, 1) := by decide +kernel
theorem dX6_init_9 : decode cX6_init 9 = .ok (.sipush 576, 3) := by decide +kernel
theorem dX6_init_12 : decode cX6_init 12 = .ok (.invokespecial 11, 3) := by decide +kernel
theorem dX6_init_15 : decode cX6_init 15 = .ok (.putfield 14, 3) := by decide +kernel
theorem dX6_init_18 : decode cX6_init 18 = .ok (.aload_n 0, 1) := by decide +kernel
theorem dX6_init_19 : decode cX6_init 19 = .ok (.new 9, 3) := by decide +kernel
theorem dX6_init_22 : decode cX6_init 22 = .ok (.dup, 1) := by decide +kernel
theorem dX6_init_23 : decode cX6_init 23 = .ok (.sipush 576, 3) := by decide +kernel
theorem dX6_init_26 : decode cX6_init 26 = .ok (.invokespecial 11, 3) := by decide +kernel
theorem dX6_init_29 : decode cX6_init 29 = .ok (.putfield 20, 3) := by decide +kernel
theorem dX6_init_32 : decode cX6_init 32 = .ok (.aload_n 0, 1) := by decide +kernel
theorem dX6_init_33 : decode cX6_init 33 = .ok (.new 9, 3) := by decide +kernel
theorem dX6_init_36 : decode cX6_init 36 = .ok (.dup, 1) := by decide +kernel
theorem dX6_init_37 : decode cX6_init 37 = .ok (.sipush 576, 3) := by decide +kernel
theorem dX6_init_40 : decode cX6_init 40 = .ok (.invokespecial 11, 3) := by decide +kernel
theorem dX6_init_43 : decode cX6_init 43 = .ok (.putfield 23, 3) := by decide +kernel
theorem dX6_init_46 : decode cX6_init 46 = .ok (.aload_n 0, 1) := by decide +kernel
theorem dX6_init_47 : decode cX6_init 47 = .ok (.new 9, 3) := by decide +kernel
theorem dX6_init_50 : decode cX6_init 50 = .ok (.dup, 1) := by decide +kernel
theorem dX6_init_51 : decode cX6_init 51 = .ok (.sipush 576, 3) := by decide +kernel
theorem dX6_init_54 : decode cX6_init 54 = .ok (.invokespecial 11, 3) := by decide +kernel
theorem dX6_init_57 : decode cX6_init 57 = .ok (.putfield 26, 3) := by decide +kernel
theorem dX6_init_60 : decode cX6_init 60 = .ok (.aload_n 0, 1) := by decide +kernel
theorem dX6_init_61 : decode cX6_init 61 = .ok (.new 9, 3) := by decide +kernel
theorem dX6_init_64 : decode cX6_init 64 = .ok (.dup, 1) := by decide +kernel
theorem dX6_init_65 : decode cX6_init 65 = .ok (.sipush 576, 3) := by decide +kernel
theorem dX6_init_68 : decode cX6_init 68 = .ok (.invokespecial 11, 3) := by decide +kernel
theorem dX6_init_71 : decode cX6_init 71 = .ok (.putfield 29, 3) := by decide +kernel
theorem dX6_init_74 : decode cX6_init 74 = .ok (.aload_n 0, 1) := by decide +kernel
theorem dX6_init_75 : decode cX6_init 75 = .ok (.new 9, 3) := by decide +kernel
theorem dX6_init_78 : decode cX6_init 78 = .ok (.dup, 1) := by decide +kernel
theorem dX6_init_79 : decode cX6_init 79 = .ok (.sipush 576, 3) := by decide +kernel
theorem dX6_init_82 : decode cX6_init 82 = .ok (.invokespecial 11, 3) := by decide +kernel
theorem dX6_init_85 : decode cX6_init 85 = .ok (.putfield 32, 3) := by decide +kernel
theorem dX6_init_88 : decode cX6_init 88 = .ok (.aload_n 0, 1) := by decide +kernel
theorem dX6_init_89 : decode cX6_init 89 = .ok (.new 9, 3) := by decide +kernel
theorem dX6_init_92 : decode cX6_init 92 = .ok (.dup, 1) := by decide +kernel
theorem dX6_init_93 : decode cX6_init 93 = .ok (.sipush 576, 3) := by decide +kernel
theorem dX6_init_96 : decode cX6_init 96 = .ok (.invokespecial 11, 3) := by decide +kernel
theorem dX6_init_99 : decode cX6_init 99 = .ok (.putfield 35, 3) := by decide +kernel
theorem dX6_init_102 : decode cX6_init 102 = .ok (.aload_n 0, 1) := by decide +kernel
theorem dX6_init_103 : decode cX6_init 103 = .ok (.new 9, 3) := by decide +kernel
theorem dX6_init_106 : decode cX6_init 106 = .ok (.dup, 1) := by decide +kernel
theorem dX6_init_107 : decode cX6_init 107 = .ok (.sipush 576, 3) := by decide +kernel
theorem dX6_init_110 : decode cX6_init 110 = .ok (.invokespecial 11, 3) := by decide +kernel
theorem dX6_init_113 : decode cX6_init 113 = .ok (.putfield 38, 3) := by decide +kernel
theorem dX6_init_116 : decode cX6_init 116 = .ok (.aload_n 0, 1) := by decide +kernel
theorem dX6_init_117 : decode cX6_init 117 = .ok (.iconst 0, 1) := by decide +kernel
theorem dX6_init_118 : decode cX6_init 118 = .ok (.putfield 41, 3) := by decide +kernel
theorem dX6_init_121 : decode cX6_init 121 = .ok (.return_, 1) := by decide +kernel
theorem dX6_run_0 : decode cX6_run 0 = .ok (.aload_n 0, 1) := by decide +kernel
theorem dX6_run_1 : decode cX6_run 1 = .ok (.iconst 0, 1) := by decide +kernel
theorem dX6_run_2 : decode cX6_run 2 = .ok (.putfield 41, 3) := by decide +kernel
theorem dX6_run_5 : decode cX6_run 5 = .ok (.aload_n 2, 1) := by decide +kernel
theorem dX6_run_6 : decode cX6_run 6 = .ok (.invokevirtual 45, 3) := by decide +kernel
theorem dX6_run_9 : decode cX6_run 9 = .ok (.aload_n 0, 1) := by decide +kernel
theorem dX6_run_10 : decode cX6_run 10 = .ok (.getfield 29, 3) := by decide +kernel
theorem dX6_run_13 : decode cX6_run 13 = .ok (.bipush (-6), 2) := by decide +kernel
theorem dX6_run_15 : decode cX6_run 15 = .ok (.invokevirtual 50, 3) := by decide +kernel
theorem dX6_run_18 : decode cX6_run 18 = .ok (.aload_n 0, 1) := by decide +kernel
theorem dX6_run_19 : decode cX6_run 19 = .ok (.getfield 35, 3) := by decide +kernel
theorem dX6_run_22 : decode cX6_run 22 = .ok (.ldc 55, 2) := by decide +kernel
theorem dX6_run_24 : decode cX6_run 24 = .ok (.invokevirtual 50, 3) := by decide +kernel
theorem dX6_run_27 : decode cX6_run 27 = .ok (.aload_n 0, 1) := by decide +kernel
theorem dX6_run_28 : decode cX6_run 28 = .ok (.aload_n 1, 1) := by decide +kernel
theorem dX6_run_29 : decode cX6_run 29 = .ok (.aload_n 2, 1) := by decide +kernel
theorem dX6_run_30 : decode cX6_run 30 = .ok (.iload_n 3, 1) := by decide +kernel
theorem dX6_run_31 : decode cX6_run 31 = .ok (.invokevirtual 56, 3) := by decide +kernel
theorem dX6_run_34 : decode cX6_run 34 = .ok (.aload_n 0, 1) := by decide +kernel
theorem dX6_run_35 : decode cX6_run 35 = .ok (.aload_n 1, 1) := by decide +kernel
theorem dX6_run_36 : decode cX6_run 36 = .ok (.aload_n 2, 1) := by decide +kernel
theorem dX6_run_37 : decode cX6_run 37 = .ok (.invokevirtual 60, 3) := by decide +kernel
theorem dX6_run_40 : decode cX6_run 40 = .ok (.aload_n 0, 1) := by decide +kernel
theorem dX6_run_41 : decode cX6_run 41 = .ok (.aload_n 1, 1) := by decide +kernel
theorem dX6_run_42 : decode cX6_run 42 = .ok (.invokevirtual 64, 3) := by decide +kernel
theorem dX6_run_45 : decode cX6_run 45 = .ok (.iconst 0, 1) := by decide +kernel
theorem dX6_run_46 : decode cX6_run 46 = .ok (.istore 5, 2) := by decide +kernel
theorem dX6_run_48 : decode cX6_run 48 = .ok (.iload 5, 2) := by decide +kernel
theorem dX6_run_50 : decode cX6_run 50 = .ok (.aload_n 1, 1) := by decide +kernel
theorem dX6_run_51 : decode cX6_run 51 = .ok (.getfield 68, 3) := by decide +kernel
theorem dX6_run_54 : decode cX6_run 54 = .ok (.if_icmp .ge 36, 3) := by decide +kernel
theorem dX6_run_57 : decode cX6_run 57 = .ok (.aload_n 0, 1) := by decide +kernel
theorem dX6_run_58 : decode cX6_run 58 = .ok (.getfield 38, 3) := by decide +kernel
theorem dX6_run_61 : decode cX6_run 61 = .ok (.iload 5, 2) := by decide +kernel
theorem dX6_run_63 : decode cX6_run 63 = .ok (.aload_n 0, 1) := by decide +kernel
theorem dX6_run_64 : decode cX6_run 64 = .ok (.aload_n 1, 1) := by decide +kernel
theorem dX6_run_65 : decode cX6_run 65 = .ok (.getfield 73, 3) := by decide +kernel
theorem dX6_run_68 : decode cX6_run 68 = .ok (.iload 5, 2) := by decide +kernel
theorem dX6_run_70 : decode cX6_run 70 = .ok (.invokevirtual 76, 3) := by decide +kernel
theorem dX6_run_73 : decode cX6_run 73 = .ok (.iload 5, 2) := by decide +kernel
theorem dX6_run_75 : decode cX6_run 75 = .ok (.iload_n 3, 1) := by decide +kernel
theorem dX6_run_76 : decode cX6_run 76 = .ok (.iload 4, 2) := by decide +kernel
theorem dX6_run_78 : decode cX6_run 78 = .ok (.invokevirtual 80, 3) := by decide +kernel
theorem dX6_run_81 : decode cX6_run 81 = .ok (.invokevirtual 84, 3) := by decide +kernel
theorem dX6_run_84 : decode cX6_run 84 = .ok (.iinc 5 1, 3) := by decide +kernel
theorem dX6_run_87 : decode cX6_run 87 = .ok (.goto (-39), 3) := by decide +kernel
theorem dX6_run_90 : decode cX6_run 90 = .ok (.return_, 1) := by decide +kernel
theorem dX6_takeOutlets_0 : decode cX6_takeOutlets 0 = .ok (.iconst 0, 1) := by decide +kernel
theorem dX6_takeOutlets_1 : decode cX6_takeOutlets 1 = .ok (.istore 4, 2) := by decide +kernel
theorem dX6_takeOutlets_3 : decode cX6_takeOutlets 3 = .ok (.iload 4, 2) := by decide +kernel
theorem dX6_takeOutlets_5 : decode cX6_takeOutlets 5 = .ok (.aload_n 1, 1) := by decide +kernel
theorem dX6_takeOutlets_6 : decode cX6_takeOutlets 6 = .ok (.getfield 68, 3) := by decide +kernel
theorem dX6_takeOutlets_9 : decode cX6_takeOutlets 9 = .ok (.if_icmp .ge 86, 3) := by decide +kernel
theorem dX6_takeOutlets_12 : decode cX6_takeOutlets 12 = .ok (.aload_n 1, 1) := by decide +kernel
theorem dX6_takeOutlets_13 : decode cX6_takeOutlets 13 = .ok (.getfield 73, 3) := by decide +kernel
theorem dX6_takeOutlets_16 : decode cX6_takeOutlets 16 = .ok (.iload 4, 2) := by decide +kernel
theorem dX6_takeOutlets_18 : decode cX6_takeOutlets 18 = .ok (.invokevirtual 76, 3) := by decide +kernel
theorem dX6_takeOutlets_21 : decode cX6_takeOutlets 21 = .ok (.istore 5, 2) := by decide +kernel
theorem dX6_takeOutlets_23 : decode cX6_takeOutlets 23 = .ok (.iload 5, 2) := by decide +kernel
theorem dX6_takeOutlets_25 : decode cX6_takeOutlets 25 = .ok (.iload_n 3, 1) := by decide +kernel
theorem dX6_takeOutlets_26 : decode cX6_takeOutlets 26 = .ok (.if_icmp .lt 12, 3) := by decide +kernel
theorem dX6_takeOutlets_29 : decode cX6_takeOutlets 29 = .ok (.aload_n 1, 1) := by decide +kernel
theorem dX6_takeOutlets_30 : decode cX6_takeOutlets 30 = .ok (.iload 4, 2) := by decide +kernel
theorem dX6_takeOutlets_32 : decode cX6_takeOutlets 32 = .ok (.invokevirtual 88, 3) := by decide +kernel
theorem dX6_takeOutlets_35 : decode cX6_takeOutlets 35 = .ok (.ifCond .eq 54, 3) := by decide +kernel
theorem dX6_takeOutlets_38 : decode cX6_takeOutlets 38 = .ok (.aload_n 0, 1) := by decide +kernel
theorem dX6_takeOutlets_39 : decode cX6_takeOutlets 39 = .ok (.getfield 14, 3) := by decide +kernel
theorem dX6_takeOutlets_42 : decode cX6_takeOutlets 42 = .ok (.iload 4, 2) := by decide +kernel
theorem dX6_takeOutlets_44 : decode cX6_takeOutlets 44 = .ok (.iload 5, 2) := by decide +kernel
theorem dX6_takeOutlets_46 : decode cX6_takeOutlets 46 = .ok (.iload_n 3, 1) := by decide +kernel
theorem dX6_takeOutlets_47 : decode cX6_takeOutlets 47 = .ok (.if_icmp .ge 7, 3) := by decide +kernel
theorem dX6_takeOutlets_50 : decode cX6_takeOutlets 50 = .ok (.iload_n 3, 1) := by decide +kernel
theorem dX6_takeOutlets_51 : decode cX6_takeOutlets 51 = .ok (.goto 5, 3) := by decide +kernel
theorem dX6_takeOutlets_54 : decode cX6_takeOutlets 54 = .ok (.iload 5, 2) := by decide +kernel
theorem dX6_takeOutlets_56 : decode cX6_takeOutlets 56 = .ok (.invokevirtual 84, 3) := by decide +kernel
theorem dX6_takeOutlets_59 : decode cX6_takeOutlets 59 = .ok (.aload_n 0, 1) := by decide +kernel
theorem dX6_takeOutlets_60 : decode cX6_takeOutlets 60 = .ok (.getfield 20, 3) := by decide +kernel
theorem dX6_takeOutlets_63 : decode cX6_takeOutlets 63 = .ok (.iload 4, 2) := by decide +kernel
theorem dX6_takeOutlets_65 : decode cX6_takeOutlets 65 = .ok (.bipush (-6), 2) := by decide +kernel
theorem dX6_takeOutlets_67 : decode cX6_takeOutlets 67 = .ok (.invokevirtual 84, 3) := by decide +kernel
theorem dX6_takeOutlets_70 : decode cX6_takeOutlets 70 = .ok (.aload_n 0, 1) := by decide +kernel
theorem dX6_takeOutlets_71 : decode cX6_takeOutlets 71 = .ok (.getfield 26, 3) := by decide +kernel
theorem dX6_takeOutlets_74 : decode cX6_takeOutlets 74 = .ok (.iload 4, 2) := by decide +kernel
theorem dX6_takeOutlets_76 : decode cX6_takeOutlets 76 = .ok (.iload 4, 2) := by decide +kernel
theorem dX6_takeOutlets_78 : decode cX6_takeOutlets 78 = .ok (.invokevirtual 84, 3) := by decide +kernel
theorem dX6_takeOutlets_81 : decode cX6_takeOutlets 81 = .ok (.aload_n 0, 1) := by decide +kernel
theorem dX6_takeOutlets_82 : decode cX6_takeOutlets 82 = .ok (.aload_n 1, 1) := by decide +kernel
theorem dX6_takeOutlets_83 : decode cX6_takeOutlets 83 = .ok (.aload_n 2, 1) := by decide +kernel
theorem dX6_takeOutlets_84 : decode cX6_takeOutlets 84 = .ok (.iload 4, 2) := by decide +kernel
theorem dX6_takeOutlets_86 : decode cX6_takeOutlets 86 = .ok (.invokevirtual 92, 3) := by decide +kernel
theorem dX6_takeOutlets_89 : decode cX6_takeOutlets 89 = .ok (.iinc 4 1, 3) := by decide +kernel
theorem dX6_takeOutlets_92 : decode cX6_takeOutlets 92 = .ok (.goto (-89), 3) := by decide +kernel
theorem dX6_takeOutlets_95 : decode cX6_takeOutlets 95 = .ok (.return_, 1) := by decide +kernel
theorem dX6_takeOthers_0 : decode cX6_takeOthers 0 = .ok (.iconst 0, 1) := by decide +kernel
theorem dX6_takeOthers_1 : decode cX6_takeOthers 1 = .ok (.istore_n 3, 1) := by decide +kernel
theorem dX6_takeOthers_2 : decode cX6_takeOthers 2 = .ok (.iload_n 3, 1) := by decide +kernel
theorem dX6_takeOthers_3 : decode cX6_takeOthers 3 = .ok (.sipush 2308, 3) := by decide +kernel
theorem dX6_takeOthers_6 : decode cX6_takeOthers 6 = .ok (.if_icmp .ge 95, 3) := by decide +kernel
theorem dX6_takeOthers_9 : decode cX6_takeOthers 9 = .ok (.aload_n 2, 1) := by decide +kernel
theorem dX6_takeOthers_10 : decode cX6_takeOthers 10 = .ok (.invokevirtual 95, 3) := by decide +kernel
theorem dX6_takeOthers_13 : decode cX6_takeOthers 13 = .ok (.ifCond .eq 88, 3) := by decide +kernel
theorem dX6_takeOthers_16 : decode cX6_takeOthers 16 = .ok (.aload_n 2, 1) := by decide +kernel
theorem dX6_takeOthers_17 : decode cX6_takeOthers 17 = .ok (.invokevirtual 99, 3) := by decide +kernel
theorem dX6_takeOthers_20 : decode cX6_takeOthers 20 = .ok (.istore 4, 2) := by decide +kernel
theorem dX6_takeOthers_22 : decode cX6_takeOthers 22 = .ok (.aload_n 0, 1) := by decide +kernel
theorem dX6_takeOthers_23 : decode cX6_takeOthers 23 = .ok (.getfield 29, 3) := by decide +kernel
theorem dX6_takeOthers_26 : decode cX6_takeOthers 26 = .ok (.iload 4, 2) := by decide +kernel
theorem dX6_takeOthers_28 : decode cX6_takeOthers 28 = .ok (.invokevirtual 76, 3) := by decide +kernel
theorem dX6_takeOthers_31 : decode cX6_takeOthers 31 = .ok (.bipush (-6), 2) := by decide +kernel
theorem dX6_takeOthers_33 : decode cX6_takeOthers 33 = .ok (.if_icmp .ne 62, 3) := by decide +kernel
theorem dX6_takeOthers_36 : decode cX6_takeOthers 36 = .ok (.aload_n 0, 1) := by decide +kernel
theorem dX6_takeOthers_37 : decode cX6_takeOthers 37 = .ok (.getfield 14, 3) := by decide +kernel
theorem dX6_takeOthers_40 : decode cX6_takeOthers 40 = .ok (.iload 4, 2) := by decide +kernel
theorem dX6_takeOthers_42 : decode cX6_takeOthers 42 = .ok (.aload_n 2, 1) := by decide +kernel
theorem dX6_takeOthers_43 : decode cX6_takeOthers 43 = .ok (.invokevirtual 103, 3) := by decide +kernel
theorem dX6_takeOthers_46 : decode cX6_takeOthers 46 = .ok (.invokevirtual 84, 3) := by decide +kernel
theorem dX6_takeOthers_49 : decode cX6_takeOthers 49 = .ok (.aload_n 0, 1) := by decide +kernel
theorem dX6_takeOthers_50 : decode cX6_takeOthers 50 = .ok (.aload_n 1, 1) := by decide +kernel
theorem dX6_takeOthers_51 : decode cX6_takeOthers 51 = .ok (.iload 4, 2) := by decide +kernel
theorem dX6_takeOthers_53 : decode cX6_takeOthers 53 = .ok (.invokevirtual 106, 3) := by decide +kernel
theorem dX6_takeOthers_56 : decode cX6_takeOthers 56 = .ok (.istore 5, 2) := by decide +kernel
theorem dX6_takeOthers_58 : decode cX6_takeOthers 58 = .ok (.aload_n 0, 1) := by decide +kernel
theorem dX6_takeOthers_59 : decode cX6_takeOthers 59 = .ok (.getfield 20, 3) := by decide +kernel
theorem dX6_takeOthers_62 : decode cX6_takeOthers 62 = .ok (.iload 4, 2) := by decide +kernel
theorem dX6_takeOthers_64 : decode cX6_takeOthers 64 = .ok (.iload 5, 2) := by decide +kernel
theorem dX6_takeOthers_66 : decode cX6_takeOthers 66 = .ok (.invokevirtual 84, 3) := by decide +kernel
theorem dX6_takeOthers_69 : decode cX6_takeOthers 69 = .ok (.aload_n 0, 1) := by decide +kernel
theorem dX6_takeOthers_70 : decode cX6_takeOthers 70 = .ok (.getfield 26, 3) := by decide +kernel
theorem dX6_takeOthers_73 : decode cX6_takeOthers 73 = .ok (.iload 4, 2) := by decide +kernel
theorem dX6_takeOthers_75 : decode cX6_takeOthers 75 = .ok (.aload_n 0, 1) := by decide +kernel
theorem dX6_takeOthers_76 : decode cX6_takeOthers 76 = .ok (.getfield 26, 3) := by decide +kernel
theorem dX6_takeOthers_79 : decode cX6_takeOthers 79 = .ok (.iload 5, 2) := by decide +kernel
theorem dX6_takeOthers_81 : decode cX6_takeOthers 81 = .ok (.invokevirtual 76, 3) := by decide +kernel
theorem dX6_takeOthers_84 : decode cX6_takeOthers 84 = .ok (.invokevirtual 84, 3) := by decide +kernel
theorem dX6_takeOthers_87 : decode cX6_takeOthers 87 = .ok (.aload_n 0, 1) := by decide +kernel
theorem dX6_takeOthers_88 : decode cX6_takeOthers 88 = .ok (.aload_n 1, 1) := by decide +kernel
theorem dX6_takeOthers_89 : decode cX6_takeOthers 89 = .ok (.aload_n 2, 1) := by decide +kernel
theorem dX6_takeOthers_90 : decode cX6_takeOthers 90 = .ok (.iload 4, 2) := by decide +kernel
theorem dX6_takeOthers_92 : decode cX6_takeOthers 92 = .ok (.invokevirtual 92, 3) := by decide +kernel
theorem dX6_takeOthers_95 : decode cX6_takeOthers 95 = .ok (.iinc 3 1, 3) := by decide +kernel
theorem dX6_takeOthers_98 : decode cX6_takeOthers 98 = .ok (.goto (-96), 3) := by decide +kernel
theorem dX6_takeOthers_101 : decode cX6_takeOthers 101 = .ok (.return_, 1) := by decide +kernel
theorem dX6_take_0 : decode cX6_take 0 = .ok (.aload_n 0, 1) := by decide +kernel
theorem dX6_take_1 : decode cX6_take 1 = .ok (.getfield 29, 3) := by decide +kernel
theorem dX6_take_4 : decode cX6_take 4 = .ok (.iload_n 3, 1) := by decide +kernel
theorem dX6_take_5 : decode cX6_take 5 = .ok (.aload_n 0, 1) := by decide +kernel
theorem dX6_take_6 : decode cX6_take 6 = .ok (.getfield 41, 3) := by decide +kernel
theorem dX6_take_9 : decode cX6_take 9 = .ok (.invokevirtual 84, 3) := by decide +kernel
theorem dX6_take_12 : decode cX6_take 12 = .ok (.aload_n 0, 1) := by decide +kernel
theorem dX6_take_13 : decode cX6_take 13 = .ok (.getfield 32, 3) := by decide +kernel
theorem dX6_take_16 : decode cX6_take 16 = .ok (.aload_n 0, 1) := by decide +kernel
theorem dX6_take_17 : decode cX6_take 17 = .ok (.getfield 41, 3) := by decide +kernel
theorem dX6_take_20 : decode cX6_take 20 = .ok (.iload_n 3, 1) := by decide +kernel
theorem dX6_take_21 : decode cX6_take 21 = .ok (.invokevirtual 84, 3) := by decide +kernel
theorem dX6_take_24 : decode cX6_take 24 = .ok (.aload_n 0, 1) := by decide +kernel
theorem dX6_take_25 : decode cX6_take 25 = .ok (.dup, 1) := by decide +kernel
theorem dX6_take_26 : decode cX6_take 26 = .ok (.getfield 41, 3) := by decide +kernel
theorem dX6_take_29 : decode cX6_take 29 = .ok (.iconst 1, 1) := by decide +kernel
theorem dX6_take_30 : decode cX6_take 30 = .ok (.iadd, 1) := by decide +kernel
theorem dX6_take_31 : decode cX6_take 31 = .ok (.putfield 41, 3) := by decide +kernel
theorem dX6_take_34 : decode cX6_take 34 = .ok (.iconst 0, 1) := by decide +kernel
theorem dX6_take_35 : decode cX6_take 35 = .ok (.istore 4, 2) := by decide +kernel
theorem dX6_take_37 : decode cX6_take 37 = .ok (.iload 4, 2) := by decide +kernel
end
section
theorem dX6_take_39 : decode cX6_take 39 = .ok (.iconst 4, 1) := by decide +kernel
theorem dX6_take_40 : decode cX6_take 40 = .ok (.if_icmp .ge 102, 3) := by decide +kernel
theorem dX6_take_43 : decode cX6_take 43 = .ok (.aload_n 1, 1) := by decide +kernel
theorem dX6_take_44 : decode cX6_take 44 = .ok (.iload_n 3, 1) := by decide +kernel
theorem dX6_take_45 : decode cX6_take 45 = .ok (.iload 4, 2) := by decide +kernel
theorem dX6_take_47 : decode cX6_take 47 = .ok (.invokevirtual 110, 3) := by decide +kernel
theorem dX6_take_50 : decode cX6_take 50 = .ok (.istore 5, 2) := by decide +kernel
theorem dX6_take_52 : decode cX6_take 52 = .ok (.iload 5, 2) := by decide +kernel
theorem dX6_take_54 : decode cX6_take 54 = .ok (.bipush (-6), 2) := by decide +kernel
theorem dX6_take_56 : decode cX6_take 56 = .ok (.if_icmp .eq 80, 3) := by decide +kernel
theorem dX6_take_59 : decode cX6_take 59 = .ok (.aload_n 0, 1) := by decide +kernel
theorem dX6_take_60 : decode cX6_take 60 = .ok (.getfield 29, 3) := by decide +kernel
theorem dX6_take_63 : decode cX6_take 63 = .ok (.iload 5, 2) := by decide +kernel
theorem dX6_take_65 : decode cX6_take 65 = .ok (.invokevirtual 76, 3) := by decide +kernel
theorem dX6_take_68 : decode cX6_take 68 = .ok (.bipush (-6), 2) := by decide +kernel
theorem dX6_take_70 : decode cX6_take 70 = .ok (.if_icmp .ne 66, 3) := by decide +kernel
theorem dX6_take_73 : decode cX6_take 73 = .ok (.aload_n 0, 1) := by decide +kernel
theorem dX6_take_74 : decode cX6_take 74 = .ok (.getfield 14, 3) := by decide +kernel
theorem dX6_take_77 : decode cX6_take 77 = .ok (.iload_n 3, 1) := by decide +kernel
theorem dX6_take_78 : decode cX6_take 78 = .ok (.invokevirtual 76, 3) := by decide +kernel
theorem dX6_take_81 : decode cX6_take 81 = .ok (.aload_n 0, 1) := by decide +kernel
theorem dX6_take_82 : decode cX6_take 82 = .ok (.getfield 35, 3) := by decide +kernel
theorem dX6_take_85 : decode cX6_take 85 = .ok (.iload 5, 2) := by decide +kernel
theorem dX6_take_87 : decode cX6_take 87 = .ok (.invokevirtual 76, 3) := by decide +kernel
theorem dX6_take_90 : decode cX6_take 90 = .ok (.if_icmp .ge 46, 3) := by decide +kernel
theorem dX6_take_93 : decode cX6_take 93 = .ok (.aload_n 0, 1) := by decide +kernel
theorem dX6_take_94 : decode cX6_take 94 = .ok (.getfield 35, 3) := by decide +kernel
theorem dX6_take_97 : decode cX6_take 97 = .ok (.iload 5, 2) := by decide +kernel
theorem dX6_take_99 : decode cX6_take 99 = .ok (.aload_n 0, 1) := by decide +kernel
theorem dX6_take_100 : decode cX6_take 100 = .ok (.getfield 14, 3) := by decide +kernel
theorem dX6_take_103 : decode cX6_take 103 = .ok (.iload_n 3, 1) := by decide +kernel
theorem dX6_take_104 : decode cX6_take 104 = .ok (.invokevirtual 76, 3) := by decide +kernel
theorem dX6_take_107 : decode cX6_take 107 = .ok (.invokevirtual 84, 3) := by decide +kernel
theorem dX6_take_110 : decode cX6_take 110 = .ok (.aload_n 2, 1) := by decide +kernel
theorem dX6_take_111 : decode cX6_take 111 = .ok (.aload_n 0, 1) := by decide +kernel
theorem dX6_take_112 : decode cX6_take 112 = .ok (.getfield 14, 3) := by decide +kernel
theorem dX6_take_115 : decode cX6_take 115 = .ok (.iload_n 3, 1) := by decide +kernel
theorem dX6_take_116 : decode cX6_take 116 = .ok (.invokevirtual 76, 3) := by decide +kernel
theorem dX6_take_119 : decode cX6_take 119 = .ok (.aload_n 1, 1) := by decide +kernel
theorem dX6_take_120 : decode cX6_take 120 = .ok (.getfield 73, 3) := by decide +kernel
theorem dX6_take_123 : decode cX6_take 123 = .ok (.iload 5, 2) := by decide +kernel
theorem dX6_take_125 : decode cX6_take 125 = .ok (.invokevirtual 76, 3) := by decide +kernel
theorem dX6_take_128 : decode cX6_take 128 = .ok (.invokestatic 114, 3) := by decide +kernel
theorem dX6_take_131 : decode cX6_take 131 = .ok (.iload 5, 2) := by decide +kernel
theorem dX6_take_133 : decode cX6_take 133 = .ok (.invokevirtual 119, 3) := by decide +kernel
theorem dX6_take_136 : decode cX6_take 136 = .ok (.iinc 4 1, 3) := by decide +kernel
theorem dX6_take_139 : decode cX6_take 139 = .ok (.goto (-102), 3) := by decide +kernel
theorem dX6_take_142 : decode cX6_take 142 = .ok (.return_, 1) := by decide +kernel
theorem dX6_firstTakenBeside_0 : decode cX6_firstTakenBeside 0 = .ok (.bipush (-6), 2) := by decide +kernel
theorem dX6_firstTakenBeside_2 : decode cX6_firstTakenBeside 2 = .ok (.istore_n 3, 1) := by decide +kernel
theorem dX6_firstTakenBeside_3 : decode cX6_firstTakenBeside 3 = .ok (.iconst 0, 1) := by decide +kernel
theorem dX6_firstTakenBeside_4 : decode cX6_firstTakenBeside 4 = .ok (.istore 4, 2) := by decide +kernel
theorem dX6_firstTakenBeside_6 : decode cX6_firstTakenBeside 6 = .ok (.iload 4, 2) := by decide +kernel
theorem dX6_firstTakenBeside_8 : decode cX6_firstTakenBeside 8 = .ok (.iconst 4, 1) := by decide +kernel
theorem dX6_firstTakenBeside_9 : decode cX6_firstTakenBeside 9 = .ok (.if_icmp .ge 88, 3) := by decide +kernel
theorem dX6_firstTakenBeside_12 : decode cX6_firstTakenBeside 12 = .ok (.aload_n 1, 1) := by decide +kernel
theorem dX6_firstTakenBeside_13 : decode cX6_firstTakenBeside 13 = .ok (.iload_n 2, 1) := by decide +kernel
theorem dX6_firstTakenBeside_14 : decode cX6_firstTakenBeside 14 = .ok (.iload 4, 2) := by decide +kernel
theorem dX6_firstTakenBeside_16 : decode cX6_firstTakenBeside 16 = .ok (.invokevirtual 110, 3) := by decide +kernel
theorem dX6_firstTakenBeside_19 : decode cX6_firstTakenBeside 19 = .ok (.istore 5, 2) := by decide +kernel
theorem dX6_firstTakenBeside_21 : decode cX6_firstTakenBeside 21 = .ok (.iload 5, 2) := by decide +kernel
theorem dX6_firstTakenBeside_23 : decode cX6_firstTakenBeside 23 = .ok (.bipush (-6), 2) := by decide +kernel
theorem dX6_firstTakenBeside_25 : decode cX6_firstTakenBeside 25 = .ok (.if_icmp .eq 66, 3) := by decide +kernel
theorem dX6_firstTakenBeside_28 : decode cX6_firstTakenBeside 28 = .ok (.aload_n 0, 1) := by decide +kernel
theorem dX6_firstTakenBeside_29 : decode cX6_firstTakenBeside 29 = .ok (.getfield 29, 3) := by decide +kernel
theorem dX6_firstTakenBeside_32 : decode cX6_firstTakenBeside 32 = .ok (.iload 5, 2) := by decide +kernel
theorem dX6_firstTakenBeside_34 : decode cX6_firstTakenBeside 34 = .ok (.invokevirtual 76, 3) := by decide +kernel
theorem dX6_firstTakenBeside_37 : decode cX6_firstTakenBeside 37 = .ok (.bipush (-6), 2) := by decide +kernel
theorem dX6_firstTakenBeside_39 : decode cX6_firstTakenBeside 39 = .ok (.if_icmp .eq 52, 3) := by decide +kernel
theorem dX6_firstTakenBeside_42 : decode cX6_firstTakenBeside 42 = .ok (.aload_n 0, 1) := by decide +kernel
theorem dX6_firstTakenBeside_43 : decode cX6_firstTakenBeside 43 = .ok (.getfield 14, 3) := by decide +kernel
theorem dX6_firstTakenBeside_46 : decode cX6_firstTakenBeside 46 = .ok (.iload 5, 2) := by decide +kernel
theorem dX6_firstTakenBeside_48 : decode cX6_firstTakenBeside 48 = .ok (.invokevirtual 76, 3) := by decide +kernel
theorem dX6_firstTakenBeside_51 : decode cX6_firstTakenBeside 51 = .ok (.aload_n 0, 1) := by decide +kernel
theorem dX6_firstTakenBeside_52 : decode cX6_firstTakenBeside 52 = .ok (.getfield 35, 3) := by decide +kernel
theorem dX6_firstTakenBeside_55 : decode cX6_firstTakenBeside 55 = .ok (.iload_n 2, 1) := by decide +kernel
theorem dX6_firstTakenBeside_56 : decode cX6_firstTakenBeside 56 = .ok (.invokevirtual 76, 3) := by decide +kernel
theorem dX6_firstTakenBeside_59 : decode cX6_firstTakenBeside 59 = .ok (.if_icmp .ne 32, 3) := by decide +kernel
theorem dX6_firstTakenBeside_62 : decode cX6_firstTakenBeside 62 = .ok (.iload_n 3, 1) := by decide +kernel
theorem dX6_firstTakenBeside_63 : decode cX6_firstTakenBeside 63 = .ok (.bipush (-6), 2) := by decide +kernel
theorem dX6_firstTakenBeside_65 : decode cX6_firstTakenBeside 65 = .ok (.if_icmp .eq 23, 3) := by decide +kernel
theorem dX6_firstTakenBeside_68 : decode cX6_firstTakenBeside 68 = .ok (.aload_n 0, 1) := by decide +kernel
theorem dX6_firstTakenBeside_69 : decode cX6_firstTakenBeside 69 = .ok (.getfield 29, 3) := by decide +kernel
theorem dX6_firstTakenBeside_72 : decode cX6_firstTakenBeside 72 = .ok (.iload 5, 2) := by decide +kernel
theorem dX6_firstTakenBeside_74 : decode cX6_firstTakenBeside 74 = .ok (.invokevirtual 76, 3) := by decide +kernel
theorem dX6_firstTakenBeside_77 : decode cX6_firstTakenBeside 77 = .ok (.aload_n 0, 1) := by decide +kernel
theorem dX6_firstTakenBeside_78 : decode cX6_firstTakenBeside 78 = .ok (.getfield 29, 3) := by decide +kernel
theorem dX6_firstTakenBeside_81 : decode cX6_firstTakenBeside 81 = .ok (.iload_n 3, 1) := by decide +kernel
theorem dX6_firstTakenBeside_82 : decode cX6_firstTakenBeside 82 = .ok (.invokevirtual 76, 3) := by decide +kernel
theorem dX6_firstTakenBeside_85 : decode cX6_firstTakenBeside 85 = .ok (.if_icmp .ge 6, 3) := by decide +kernel
theorem dX6_firstTakenBeside_88 : decode cX6_firstTakenBeside 88 = .ok (.iload 5, 2) := by decide +kernel
theorem dX6_firstTakenBeside_90 : decode cX6_firstTakenBeside 90 = .ok (.istore_n 3, 1) := by decide +kernel
theorem dX6_firstTakenBeside_91 : decode cX6_firstTakenBeside 91 = .ok (.iinc 4 1, 3) := by decide +kernel
theorem dX6_firstTakenBeside_94 : decode cX6_firstTakenBeside 94 = .ok (.goto (-88), 3) := by decide +kernel
theorem dX6_firstTakenBeside_97 : decode cX6_firstTakenBeside 97 = .ok (.iload_n 3, 1) := by decide +kernel
theorem dX6_firstTakenBeside_98 : decode cX6_firstTakenBeside 98 = .ok (.ireturn, 1) := by decide +kernel
theorem dX6_gatherFlow_0 : decode cX6_gatherFlow 0 = .ok (.aload_n 0, 1) := by decide +kernel
theorem dX6_gatherFlow_1 : decode cX6_gatherFlow 1 = .ok (.getfield 23, 3) := by decide +kernel
theorem dX6_gatherFlow_4 : decode cX6_gatherFlow 4 = .ok (.iconst 1, 1) := by decide +kernel
theorem dX6_gatherFlow_5 : decode cX6_gatherFlow 5 = .ok (.invokevirtual 50, 3) := by decide +kernel
theorem dX6_gatherFlow_8 : decode cX6_gatherFlow 8 = .ok (.aload_n 0, 1) := by decide +kernel
theorem dX6_gatherFlow_9 : decode cX6_gatherFlow 9 = .ok (.getfield 41, 3) := by decide +kernel
theorem dX6_gatherFlow_12 : decode cX6_gatherFlow 12 = .ok (.iconst 1, 1) := by decide +kernel
theorem dX6_gatherFlow_13 : decode cX6_gatherFlow 13 = .ok (.isub, 1) := by decide +kernel
theorem dX6_gatherFlow_14 : decode cX6_gatherFlow 14 = .ok (.istore_n 2, 1) := by decide +kernel
theorem dX6_gatherFlow_15 : decode cX6_gatherFlow 15 = .ok (.iload_n 2, 1) := by decide +kernel
theorem dX6_gatherFlow_16 : decode cX6_gatherFlow 16 = .ok (.ifCond .lt 54, 3) := by decide +kernel
theorem dX6_gatherFlow_19 : decode cX6_gatherFlow 19 = .ok (.aload_n 0, 1) := by decide +kernel
theorem dX6_gatherFlow_20 : decode cX6_gatherFlow 20 = .ok (.getfield 32, 3) := by decide +kernel
theorem dX6_gatherFlow_23 : decode cX6_gatherFlow 23 = .ok (.iload_n 2, 1) := by decide +kernel
theorem dX6_gatherFlow_24 : decode cX6_gatherFlow 24 = .ok (.invokevirtual 76, 3) := by decide +kernel
theorem dX6_gatherFlow_27 : decode cX6_gatherFlow 27 = .ok (.istore_n 3, 1) := by decide +kernel
theorem dX6_gatherFlow_28 : decode cX6_gatherFlow 28 = .ok (.aload_n 0, 1) := by decide +kernel
theorem dX6_gatherFlow_29 : decode cX6_gatherFlow 29 = .ok (.getfield 20, 3) := by decide +kernel
theorem dX6_gatherFlow_32 : decode cX6_gatherFlow 32 = .ok (.iload_n 3, 1) := by decide +kernel
theorem dX6_gatherFlow_33 : decode cX6_gatherFlow 33 = .ok (.invokevirtual 76, 3) := by decide +kernel
theorem dX6_gatherFlow_36 : decode cX6_gatherFlow 36 = .ok (.bipush (-6), 2) := by decide +kernel
theorem dX6_gatherFlow_38 : decode cX6_gatherFlow 38 = .ok (.if_icmp .eq 26, 3) := by decide +kernel
theorem dX6_gatherFlow_41 : decode cX6_gatherFlow 41 = .ok (.aload_n 0, 1) := by decide +kernel
theorem dX6_gatherFlow_42 : decode cX6_gatherFlow 42 = .ok (.getfield 23, 3) := by decide +kernel
theorem dX6_gatherFlow_45 : decode cX6_gatherFlow 45 = .ok (.aload_n 0, 1) := by decide +kernel
theorem dX6_gatherFlow_46 : decode cX6_gatherFlow 46 = .ok (.getfield 20, 3) := by decide +kernel
theorem dX6_gatherFlow_49 : decode cX6_gatherFlow 49 = .ok (.iload_n 3, 1) := by decide +kernel
theorem dX6_gatherFlow_50 : decode cX6_gatherFlow 50 = .ok (.invokevirtual 76, 3) := by decide +kernel
theorem dX6_gatherFlow_53 : decode cX6_gatherFlow 53 = .ok (.aload_n 0, 1) := by decide +kernel
theorem dX6_gatherFlow_54 : decode cX6_gatherFlow 54 = .ok (.getfield 23, 3) := by decide +kernel
theorem dX6_gatherFlow_57 : decode cX6_gatherFlow 57 = .ok (.iload_n 3, 1) := by decide +kernel
theorem dX6_gatherFlow_58 : decode cX6_gatherFlow 58 = .ok (.invokevirtual 76, 3) := by decide +kernel
theorem dX6_gatherFlow_61 : decode cX6_gatherFlow 61 = .ok (.invokevirtual 122, 3) := by decide +kernel
theorem dX6_gatherFlow_64 : decode cX6_gatherFlow 64 = .ok (.iinc 2 (-1), 3) := by decide +kernel
theorem dX6_gatherFlow_67 : decode cX6_gatherFlow 67 = .ok (.goto (-52), 3) := by decide +kernel
theorem dX6_gatherFlow_70 : decode cX6_gatherFlow 70 = .ok (.return_, 1) := by decide +kernel
theorem dX6_kindOf_0 : decode cX6_kindOf 0 = .ok (.iload_n 1, 1) := by decide +kernel
theorem dX6_kindOf_1 : decode cX6_kindOf 1 = .ok (.iload_n 3, 1) := by decide +kernel
theorem dX6_kindOf_2 : decode cX6_kindOf 2 = .ok (.if_icmp .ge 5, 3) := by decide +kernel
theorem dX6_kindOf_5 : decode cX6_kindOf 5 = .ok (.iconst 1, 1) := by decide +kernel
theorem dX6_kindOf_6 : decode cX6_kindOf 6 = .ok (.ireturn, 1) := by decide +kernel
theorem dX6_kindOf_7 : decode cX6_kindOf 7 = .ok (.aload_n 0, 1) := by decide +kernel
theorem dX6_kindOf_8 : decode cX6_kindOf 8 = .ok (.getfield 14, 3) := by decide +kernel
theorem dX6_kindOf_11 : decode cX6_kindOf 11 = .ok (.iload_n 2, 1) := by decide +kernel
theorem dX6_kindOf_12 : decode cX6_kindOf 12 = .ok (.invokevirtual 76, 3) := by decide +kernel
theorem dX6_kindOf_15 : decode cX6_kindOf 15 = .ok (.iload_n 1, 1) := by decide +kernel
theorem dX6_kindOf_16 : decode cX6_kindOf 16 = .ok (.if_icmp .le 5, 3) := by decide +kernel
theorem dX6_kindOf_19 : decode cX6_kindOf 19 = .ok (.iconst 2, 1) := by decide +kernel
theorem dX6_kindOf_20 : decode cX6_kindOf 20 = .ok (.ireturn, 1) := by decide +kernel
theorem dX6_kindOf_21 : decode cX6_kindOf 21 = .ok (.aload_n 0, 1) := by decide +kernel
theorem dX6_kindOf_22 : decode cX6_kindOf 22 = .ok (.getfield 23, 3) := by decide +kernel
theorem dX6_kindOf_25 : decode cX6_kindOf 25 = .ok (.iload_n 2, 1) := by decide +kernel
theorem dX6_kindOf_26 : decode cX6_kindOf 26 = .ok (.invokevirtual 76, 3) := by decide +kernel
theorem dX6_kindOf_29 : decode cX6_kindOf 29 = .ok (.iload 4, 2) := by decide +kernel
theorem dX6_kindOf_31 : decode cX6_kindOf 31 = .ok (.if_icmp .lt 7, 3) := by decide +kernel
theorem dX6_kindOf_34 : decode cX6_kindOf 34 = .ok (.iconst 4, 1) := by decide +kernel
theorem dX6_kindOf_35 : decode cX6_kindOf 35 = .ok (.goto 5, 3) := by decide +kernel
theorem dX6_kindOf_38 : decode cX6_kindOf 38 = .ok (.bipush 8, 2) := by decide +kernel
theorem dX6_kindOf_40 : decode cX6_kindOf 40 = .ok (.ireturn, 1) := by decide +kernel
theorem dX6_isPassable_0 : decode cX6_isPassable 0 = .ok (.aload_n 0, 1) := by decide +kernel
theorem dX6_isPassable_1 : decode cX6_isPassable 1 = .ok (.getfield 38, 3) := by decide +kernel
theorem dX6_isPassable_4 : decode cX6_isPassable 4 = .ok (.iload_n 1, 1) := by decide +kernel
theorem dX6_isPassable_5 : decode cX6_isPassable 5 = .ok (.invokevirtual 76, 3) := by decide +kernel
theorem dX6_isPassable_8 : decode cX6_isPassable 8 = .ok (.iconst 4, 1) := by decide +kernel
theorem dX6_isPassable_9 : decode cX6_isPassable 9 = .ok (.if_icmp .eq 16, 3) := by decide +kernel
theorem dX6_isPassable_12 : decode cX6_isPassable 12 = .ok (.aload_n 0, 1) := by decide +kernel
theorem dX6_isPassable_13 : decode cX6_isPassable 13 = .ok (.getfield 38, 3) := by decide +kernel
theorem dX6_isPassable_16 : decode cX6_isPassable 16 = .ok (.iload_n 1, 1) := by decide +kernel
theorem dX6_isPassable_17 : decode cX6_isPassable 17 = .ok (.invokevirtual 76, 3) := by decide +kernel
theorem dX6_isPassable_20 : decode cX6_isPassable 20 = .ok (.bipush 8, 2) := by decide +kernel
theorem dX6_isPassable_22 : decode cX6_isPassable 22 = .ok (.if_icmp .ne 7, 3) := by decide +kernel
theorem dX6_isPassable_25 : decode cX6_isPassable 25 = .ok (.iconst 1, 1) := by decide +kernel
theorem dX6_isPassable_26 : decode cX6_isPassable 26 = .ok (.goto 4, 3) := by decide +kernel
theorem dX6_isPassable_29 : decode cX6_isPassable 29 = .ok (.iconst 0, 1) := by decide +kernel
theorem dX6_isPassable_30 : decode cX6_isPassable 30 = .ok (.ireturn, 1) := by decide +kernel
theorem dX7_init_0 : decode cX7_init 0 = .ok (.aload_n 0, 1) := by decide +kernel
theorem dX7_init_1 : decode cX7_init 1 = .ok (.invokespecial 3, 3) := by decide +kernel
theorem dX7_init_4 : decode cX7_init 4 = .ok (.aload_n 0, 1) := by decide +kernel
theorem dX7_init_5 : decode cX7_init 5 = .ok (.new 9, 3) := by decide +kernel
theorem dX7_init_8 : decode cX7_init 8 = .ok (.dup, 1) := by decide +kernel
theorem dX7_init_9 : decode cX7_init 9 = .ok (.invokespecial 11, 3) := by decide +kernel
theorem dX7_init_12 : decode cX7_init 12 = .ok (.putfield 12, 3) := by decide +kernel
theorem dX7_init_15 : decode cX7_init 15 = .ok (.aload_n 0, 1) := by decide +kernel
theorem dX7_init_16 : decode cX7_init 16 = .ok (.new 16, 3) := by decide +kernel
theorem dX7_init_19 : decode cX7_init 19 = .ok (.dup, 1) := by decide +kernel
theorem dX7_init_20 : decode cX7_init 20 = .ok (.invokespecial 18, 3) := by decide +kernel
theorem dX7_init_23 : decode cX7_init 23 = .ok (.putfield 19, 3) := by decide +kernel
theorem dX7_init_26 : decode cX7_init 26 = .ok (.aload_n 0, 1) := by decide +kernel
theorem dX7_init_27 : decode cX7_init 27 = .ok (.new 23, 3) := by decide +kernel
theorem dX7_init_30 : decode cX7_init 30 = .ok (.dup, 1) := by decide +kernel
theorem dX7_init_31 : decode cX7_init 31 = .ok (.invokespecial 25, 3) := by decide +kernel
theorem dX7_init_34 : decode cX7_init 34 = .ok (.putfield 26, 3) := by decide +kernel
theorem dX7_init_37 : decode cX7_init 37 = .ok (.aload_n 0, 1) := by decide +kernel
theorem dX7_init_38 : decode cX7_init 38 = .ok (.new 30, 3) := by decide +kernel
theorem dX7_init_41 : decode cX7_init 41 = .ok (.dup, 1) := by decide +kernel
theorem dX7_init_42 : decode cX7_init 42 = .ok (.invokespecial 32, 3) := by decide +kernel
theorem dX7_init_45 : decode cX7_init 45 = .ok (.putfield 33, 3) := by decide +kernel
theorem dX7_init_48 : decode cX7_init 48 = .ok (.aload_n 0, 1) := by decide +kernel
theorem dX7_init_49 : decode cX7_init 49 = .ok (.new 37, 3) := by decide +kernel
theorem dX7_init_52 : decode cX7_init 52 = .ok (.dup, 1) := by decide +kernel
theorem dX7_init_53 : decode cX7_init 53 = .ok (.invokespecial 39, 3) := by decide +kernel
theorem dX7_init_56 : decode cX7_init 56 = .ok (.putfield 40, 3) := by decide +kernel
theorem dX7_init_59 : decode cX7_init 59 = .ok (.aload_n 0, 1) := by decide +kernel
theorem dX7_init_60 : decode cX7_init 60 = .ok (.new 44, 3) := by decide +kernel
theorem dX7_init_63 : decode cX7_init 63 = .ok (.dup, 1) := by decide +kernel
theorem dX7_init_64 : decode cX7_init 64 = .ok (.invokespecial 46, 3) := by decide +kernel
theorem dX7_init_67 : decode cX7_init 67 = .ok (.putfield 47, 3) := by decide +kernel
theorem dX7_init_70 : decode cX7_init 70 = .ok (.aload_n 0, 1) := by decide +kernel
theorem dX7_init_71 : decode cX7_init 71 = .ok (.new 51, 3) := by decide +kernel
theorem dX7_init_74 : decode cX7_init 74 = .ok (.dup, 1) := by decide +kernel
theorem dX7_init_75 : decode cX7_init 75 = .ok (.iconst 4, 1) := by decide +kernel
theorem dX7_init_76 : decode cX7_init 76 = .ok (.invokespecial 53, 3) := by decide +kernel
theorem dX7_init_79 : decode cX7_init 79 = .ok (.putfield 56, 3) := by decide +kernel
theorem dX7_init_82 : decode cX7_init 82 = .ok (.aload_n 0, 1) := by decide +kernel
theorem dX7_init_83 : decode cX7_init 83 = .ok (.iconst 0, 1) := by decide +kernel
theorem dX7_init_84 : decode cX7_init 84 = .ok (.putfield 60, 3) := by decide +kernel
theorem dX7_init_87 : decode cX7_init 87 = .ok (.aload_n 0, 1) := by decide +kernel
theorem dX7_init_88 : decode cX7_init 88 = .ok (.iconst 0, 1) := by decide +kernel
theorem dX7_init_89 : decode cX7_init 89 = .ok (.putfield 64, 3) := by decide +kernel
theorem dX7_init_92 : decode cX7_init 92 = .ok (.iconst 0, 1) := by decide +kernel
theorem dX7_init_93 : decode cX7_init 93 = .ok (.istore_n 1, 1) := by decide +kernel
theorem dX7_init_94 : decode cX7_init 94 = .ok (.iload_n 1, 1) := by decide +kernel
theorem dX7_init_95 : decode cX7_init 95 = .ok (.getstatic 67, 3) := by decide +kernel
theorem dX7_init_98 : decode cX7_init 98 = .ok (.arraylength, 1) := by decide +kernel
theorem dX7_init_99 : decode cX7_init 99 = .ok (.if_icmp .ge 22, 3) := by decide +kernel
theorem dX7_init_102 : decode cX7_init 102 = .ok (.aload_n 0, 1) := by decide +kernel
theorem dX7_init_103 : decode cX7_init 103 = .ok (.getfield 56, 3) := by decide +kernel
theorem dX7_init_106 : decode cX7_init 106 = .ok (.iload_n 1, 1) := by decide +kernel
theorem dX7_init_107 : decode cX7_init 107 = .ok (.getstatic 67, 3) := by decide +kernel
theorem dX7_init_110 : decode cX7_init 110 = .ok (.iload_n 1, 1) := by decide +kernel
theorem dX7_init_111 : decode cX7_init 111 = .ok (.iaload, 1) := by decide +kernel
theorem dX7_init_112 : decode cX7_init 112 = .ok (.invokevirtual 71, 3) := by decide +kernel
theorem dX7_init_115 : decode cX7_init 115 = .ok (.iinc 1 1, 3) := by decide +kernel
theorem dX7_init_118 : decode cX7_init 118 = .ok (.goto (-24), 3) := by decide +kernel
theorem dX7_init_121 : decode cX7_init 121 = .ok (.return_, 1) := by decide +kernel
theorem dX7_seed_0 : decode cX7_seed 0 = .ok (.aload_n 0, 1) := by decide +kernel
theorem dX7_seed_1 : decode cX7_seed 1 = .ok (.getfield 12, 3) := by decide +kernel
theorem dX7_seed_4 : decode cX7_seed 4 = .ok (.getfield 75, 3) := by decide +kernel
theorem dX7_seed_7 : decode cX7_seed 7 = .ok (.istore_n 2, 1) := by decide +kernel
theorem dX7_seed_8 : decode cX7_seed 8 = .ok (.aload_n 0, 1) := by decide +kernel
theorem dX7_seed_9 : decode cX7_seed 9 = .ok (.getfield 12, 3) := by decide +kernel
theorem dX7_seed_12 : decode cX7_seed 12 = .ok (.iload_n 1, 1) := by decide +kernel
theorem dX7_seed_13 : decode cX7_seed 13 = .ok (.putfield 75, 3) := by decide +kernel
theorem dX7_seed_16 : decode cX7_seed 16 = .ok (.aload_n 0, 1) := by decide +kernel
theorem dX7_seed_17 : decode cX7_seed 17 = .ok (.iconst 0, 1) := by decide +kernel
theorem dX7_seed_18 : decode cX7_seed 18 = .ok (.invokevirtual 78, 3) := by decide +kernel
theorem dX7_seed_21 : decode cX7_seed 21 = .ok (.iload_n 2, 1) := by decide +kernel
theorem dX7_seed_22 : decode cX7_seed 22 = .ok (.ireturn, 1) := by decide +kernel
theorem dX7_ground_0 : decode cX7_ground 0 = .ok (.iload_n 1, 1) := by decide +kernel
theorem dX7_ground_1 : decode cX7_ground 1 = .ok (.iconst 0, 1) := by decide +kernel
theorem dX7_ground_2 : decode cX7_ground 2 = .ok (.ldc 81, 2) := by decide +kernel
theorem dX7_ground_4 : decode cX7_ground 4 = .ok (.invokestatic 82, 3) := by decide +kernel
theorem dX7_ground_7 : decode cX7_ground 7 = .ok (.ifCond .eq 13, 3) := by decide +kernel
theorem dX7_ground_10 : decode cX7_ground 10 = .ok (.iload_n 2, 1) := by decide +kernel
theorem dX7_ground_11 : decode cX7_ground 11 = .ok (.iconst 0, 1) := by decide +kernel
theorem dX7_ground_12 : decode cX7_ground 12 = .ok (.ldc 81, 2) := by decide +kernel
theorem dX7_ground_14 : decode cX7_ground 14 = .ok (.invokestatic 82, 3) := by decide +kernel
theorem dX7_ground_17 : decode cX7_ground 17 = .ok (.ifCond .ne 6, 3) := by decide +kernel
theorem dX7_ground_20 : decode cX7_ground 20 = .ok (.bipush (-2), 2) := by decide +kernel
theorem dX7_ground_22 : decode cX7_ground 22 = .ok (.ireturn, 1) := by decide +kernel
theorem dX7_ground_23 : decode cX7_ground 23 = .ok (.aload_n 0, 1) := by decide +kernel
theorem dX7_ground_24 : decode cX7_ground 24 = .ok (.getfield 12, 3) := by decide +kernel
theorem dX7_ground_27 : decode cX7_ground 27 = .ok (.iload_n 1, 1) := by decide +kernel
theorem dX7_ground_28 : decode cX7_ground 28 = .ok (.iload_n 2, 1) := by decide +kernel
theorem dX7_ground_29 : decode cX7_ground 29 = .ok (.invokevirtual 86, 3) := by decide +kernel
theorem dX7_ground_32 : decode cX7_ground 32 = .ok (.ireturn, 1) := by decide +kernel
theorem dX7_size_0 : decode cX7_size 0 = .ok (.iload_n 1, 1) := by decide +kernel
theorem dX7_size_1 : decode cX7_size 1 = .ok (.iconst 4, 1) := by decide +kernel
theorem dX7_size_2 : decode cX7_size 2 = .ok (.bipush 24, 2) := by decide +kernel
theorem dX7_size_4 : decode cX7_size 4 = .ok (.invokestatic 82, 3) := by decide +kernel
theorem dX7_size_7 : decode cX7_size 7 = .ok (.ifCond .ne 6, 3) := by decide +kernel
theorem dX7_size_10 : decode cX7_size 10 = .ok (.bipush (-2), 2) := by decide +kernel
theorem dX7_size_12 : decode cX7_size 12 = .ok (.ireturn, 1) := by decide +kernel
theorem dX7_size_13 : decode cX7_size 13 = .ok (.aload_n 0, 1) := by decide +kernel
theorem dX7_size_14 : decode cX7_size 14 = .ok (.getfield 12, 3) := by decide +kernel
theorem dX7_size_17 : decode cX7_size 17 = .ok (.getfield 90, 3) := by decide +kernel
theorem dX7_size_20 : decode cX7_size 20 = .ok (.istore_n 2, 1) := by decide +kernel
theorem dX7_size_21 : decode cX7_size 21 = .ok (.aload_n 0, 1) := by decide +kernel
theorem dX7_size_22 : decode cX7_size 22 = .ok (.getfield 12, 3) := by decide +kernel
theorem dX7_size_25 : decode cX7_size 25 = .ok (.iload_n 1, 1) := by decide +kernel
theorem dX7_size_26 : decode cX7_size 26 = .ok (.putfield 90, 3) := by decide +kernel
theorem dX7_size_29 : decode cX7_size 29 = .ok (.aload_n 0, 1) := by decide +kernel
theorem dX7_size_30 : decode cX7_size 30 = .ok (.getfield 12, 3) := by decide +kernel
theorem dX7_size_33 : decode cX7_size 33 = .ok (.iload_n 1, 1) := by decide +kernel
theorem dX7_size_34 : decode cX7_size 34 = .ok (.iload_n 1, 1) := by decide +kernel
theorem dX7_size_35 : decode cX7_size 35 = .ok (.imul, 1) := by decide +kernel
theorem dX7_size_36 : decode cX7_size 36 = .ok (.putfield 93, 3) := by decide +kernel
theorem dX7_size_39 : decode cX7_size 39 = .ok (.aload_n 0, 1) := by decide +kernel
theorem dX7_size_40 : decode cX7_size 40 = .ok (.iconst 0, 1) := by decide +kernel
theorem dX7_size_41 : decode cX7_size 41 = .ok (.invokevirtual 78, 3) := by decide +kernel
theorem dX7_size_44 : decode cX7_size 44 = .ok (.iload_n 2, 1) := by decide +kernel
theorem dX7_size_45 : decode cX7_size 45 = .ok (.ireturn, 1) := by decide +kernel
theorem dX7_window_0 : decode cX7_window 0 = .ok (.iload_n 1, 1) := by decide +kernel
theorem dX7_window_1 : decode cX7_window 1 = .ok (.iconst 0, 1) := by decide +kernel
theorem dX7_window_2 : decode cX7_window 2 = .ok (.ldc 96, 2) := by decide +kernel
theorem dX7_window_4 : decode cX7_window 4 = .ok (.invokestatic 82, 3) := by decide +kernel
theorem dX7_window_7 : decode cX7_window 7 = .ok (.ifCond .eq 13, 3) := by decide +kernel
theorem dX7_window_10 : decode cX7_window 10 = .ok (.iload_n 2, 1) := by decide +kernel
theorem dX7_window_11 : decode cX7_window 11 = .ok (.iconst 0, 1) := by decide +kernel
theorem dX7_window_12 : decode cX7_window 12 = .ok (.ldc 96, 2) := by decide +kernel
theorem dX7_window_14 : decode cX7_window 14 = .ok (.invokestatic 82, 3) := by decide +kernel
theorem dX7_window_17 : decode cX7_window 17 = .ok (.ifCond .ne 6, 3) := by decide +kernel
theorem dX7_window_20 : decode cX7_window 20 = .ok (.bipush (-2), 2) := by decide +kernel
theorem dX7_window_22 : decode cX7_window 22 = .ok (.ireturn, 1) := by decide +kernel
theorem dX7_window_23 : decode cX7_window 23 = .ok (.aload_n 0, 1) := by decide +kernel
theorem dX7_window_24 : decode cX7_window 24 = .ok (.getfield 12, 3) := by decide +kernel
theorem dX7_window_27 : decode cX7_window 27 = .ok (.iload_n 1, 1) := by decide +kernel
theorem dX7_window_28 : decode cX7_window 28 = .ok (.putfield 97, 3) := by decide +kernel
theorem dX7_window_31 : decode cX7_window 31 = .ok (.aload_n 0, 1) := by decide +kernel
theorem dX7_window_32 : decode cX7_window 32 = .ok (.getfield 12, 3) := by decide +kernel
theorem dX7_window_35 : decode cX7_window 35 = .ok (.iload_n 2, 1) := by decide +kernel
theorem dX7_window_36 : decode cX7_window 36 = .ok (.putfield 100, 3) := by decide +kernel
theorem dX7_window_39 : decode cX7_window 39 = .ok (.aload_n 0, 1) := by decide +kernel
theorem dX7_window_40 : decode cX7_window 40 = .ok (.iconst 0, 1) := by decide +kernel
theorem dX7_window_41 : decode cX7_window 41 = .ok (.invokevirtual 78, 3) := by decide +kernel
theorem dX7_window_44 : decode cX7_window 44 = .ok (.iconst 1, 1) := by decide +kernel
theorem dX7_window_45 : decode cX7_window 45 = .ok (.ireturn, 1) := by decide +kernel
theorem dX7_change_0 : decode cX7_change 0 = .ok (.aload_n 0, 1) := by decide +kernel
theorem dX7_change_1 : decode cX7_change 1 = .ok (.getfield 12, 3) := by decide +kernel
theorem dX7_change_4 : decode cX7_change 4 = .ok (.iload_n 1, 1) := by decide +kernel
theorem dX7_change_5 : decode cX7_change 5 = .ok (.invokevirtual 103, 3) := by decide +kernel
theorem dX7_change_8 : decode cX7_change 8 = .ok (.ifCond .ne 5, 3) := by decide +kernel
theorem dX7_change_11 : decode cX7_change 11 = .ok (.iconst (-1), 1) := by decide +kernel
theorem dX7_change_12 : decode cX7_change 12 = .ok (.ireturn, 1) := by decide +kernel
theorem dX7_change_13 : decode cX7_change 13 = .ok (.iload_n 2, 1) := by decide +kernel
theorem dX7_change_14 : decode cX7_change 14 = .ok (.ifCond .eq 16, 3) := by decide +kernel
theorem dX7_change_17 : decode cX7_change 17 = .ok (.iload_n 2, 1) := by decide +kernel
theorem dX7_change_18 : decode cX7_change 18 = .ok (.sipush (-400), 3) := by decide +kernel
theorem dX7_change_21 : decode cX7_change 21 = .ok (.sipush 400, 3) := by decide +kernel
theorem dX7_change_24 : decode cX7_change 24 = .ok (.invokestatic 82, 3) := by decide +kernel
theorem dX7_change_27 : decode cX7_change 27 = .ok (.ifCond .ne 6, 3) := by decide +kernel
theorem dX7_change_30 : decode cX7_change 30 = .ok (.bipush (-2), 2) := by decide +kernel
theorem dX7_change_32 : decode cX7_change 32 = .ok (.ireturn, 1) := by decide +kernel
theorem dX7_change_33 : decode cX7_change 33 = .ok (.aload_n 0, 1) := by decide +kernel
theorem dX7_change_34 : decode cX7_change 34 = .ok (.getfield 12, 3) := by decide +kernel
theorem dX7_change_37 : decode cX7_change 37 = .ok (.getfield 107, 3) := by decide +kernel
theorem dX7_change_40 : decode cX7_change 40 = .ok (.bipush 30, 2) := by decide +kernel
theorem dX7_change_42 : decode cX7_change 42 = .ok (.if_icmp .lt 6, 3) := by decide +kernel
theorem dX7_change_45 : decode cX7_change 45 = .ok (.bipush (-4), 2) := by decide +kernel
theorem dX7_change_47 : decode cX7_change 47 = .ok (.ireturn, 1) := by decide +kernel
theorem dX7_change_48 : decode cX7_change 48 = .ok (.aload_n 0, 1) := by decide +kernel
theorem dX7_change_49 : decode cX7_change 49 = .ok (.iconst 1, 1) := by decide +kernel
theorem dX7_change_50 : decode cX7_change 50 = .ok (.invokevirtual 110, 3) := by decide +kernel
theorem dX7_change_53 : decode cX7_change 53 = .ok (.aload_n 0, 1) := by decide +kernel
theorem dX7_change_54 : decode cX7_change 54 = .ok (.getfield 12, 3) := by decide +kernel
theorem dX7_change_57 : decode cX7_change 57 = .ok (.iload_n 1, 1) := by decide +kernel
theorem dX7_change_58 : decode cX7_change 58 = .ok (.iload_n 2, 1) := by decide +kernel
theorem dX7_change_59 : decode cX7_change 59 = .ok (.invokevirtual 113, 3) := by decide +kernel
theorem dX7_change_62 : decode cX7_change 62 = .ok (.aload_n 0, 1) := by decide +kernel
theorem dX7_change_63 : decode cX7_change 63 = .ok (.iconst 1, 1) := by decide +kernel
theorem dX7_change_64 : decode cX7_change 64 = .ok (.invokevirtual 78, 3) := by decide +kernel
theorem dX7_change_67 : decode cX7_change 67 = .ok (.aload_n 0, 1) := by decide +kernel
theorem dX7_change_68 : decode cX7_change 68 = .ok (.getfield 12, 3) := by decide +kernel
theorem dX7_change_71 : decode cX7_change 71 = .ok (.getfield 107, 3) := by decide +kernel
theorem dX7_change_74 : decode cX7_change 74 = .ok (.ireturn, 1) := by decide +kernel
theorem dX7_changed_0 : decode cX7_changed 0 = .ok (.iload_n 1, 1) := by decide +kernel
theorem dX7_changed_1 : decode cX7_changed 1 = .ok (.iconst 0, 1) := by decide +kernel
theorem dX7_changed_2 : decode cX7_changed 2 = .ok (.aload_n 0, 1) := by decide +kernel
theorem dX7_changed_3 : decode cX7_changed 3 = .ok (.getfield 12, 3) := by decide +kernel
theorem dX7_changed_6 : decode cX7_changed 6 = .ok (.getfield 107, 3) := by decide +kernel
theorem dX7_changed_9 : decode cX7_changed 9 = .ok (.iconst 1, 1) := by decide +kernel
theorem dX7_changed_10 : decode cX7_changed 10 = .ok (.isub, 1) := by decide +kernel
theorem dX7_changed_11 : decode cX7_changed 11 = .ok (.invokestatic 82, 3) := by decide +kernel
theorem dX7_changed_14 : decode cX7_changed 14 = .ok (.ifCond .ne 7, 3) := by decide +kernel
theorem dX7_changed_17 : decode cX7_changed 17 = .ok (.sipush (-1001), 3) := by decide +kernel
theorem dX7_changed_20 : decode cX7_changed 20 = .ok (.ireturn, 1) := by decide +kernel
theorem dX7_changed_21 : decode cX7_changed 21 = .ok (.iload_n 2, 1) := by decide +kernel
theorem dX7_changed_22 : decode cX7_changed 22 = .ok (.tableswitch 62 0 2 #[26, 38, 50], 26) := by decide +kernel
theorem dX7_changed_48 : decode cX7_changed 48 = .ok (.aload_n 0, 1) := by decide +kernel
theorem dX7_changed_49 : decode cX7_changed 49 = .ok (.getfield 12, 3) := by decide +kernel
theorem dX7_changed_52 : decode cX7_changed 52 = .ok (.getfield 116, 3) := by decide +kernel
theorem dX7_changed_55 : decode cX7_changed 55 = .ok (.iload_n 1, 1) := by decide +kernel
theorem dX7_changed_56 : decode cX7_changed 56 = .ok (.invokevirtual 119, 3) := by decide +kernel
theorem dX7_changed_59 : decode cX7_changed 59 = .ok (.ireturn, 1) := by decide +kernel
theorem dX7_changed_60 : decode cX7_changed 60 = .ok (.aload_n 0, 1) := by decide +kernel
theorem dX7_changed_61 : decode cX7_changed 61 = .ok (.getfield 12, 3) := by decide +kernel
theorem dX7_changed_64 : decode cX7_changed 64 = .ok (.getfield 123, 3) := by decide +kernel
theorem dX7_changed_67 : decode cX7_changed 67 = .ok (.iload_n 1, 1) := by decide +kernel
theorem dX7_changed_68 : decode cX7_changed 68 = .ok (.invokevirtual 119, 3) := by decide +kernel
theorem dX7_changed_71 : decode cX7_changed 71 = .ok (.ireturn, 1) := by decide +kernel
theorem dX7_changed_72 : decode cX7_changed 72 = .ok (.aload_n 0, 1) := by decide +kernel
theorem dX7_changed_73 : decode cX7_changed 73 = .ok (.getfield 12, 3) := by decide +kernel
theorem dX7_changed_76 : decode cX7_changed 76 = .ok (.getfield 126, 3) := by decide +kernel
theorem dX7_changed_79 : decode cX7_changed 79 = .ok (.iload_n 1, 1) := by decide +kernel
theorem dX7_changed_80 : decode cX7_changed 80 = .ok (.invokevirtual 119, 3) := by decide +kernel
theorem dX7_changed_83 : decode cX7_changed 83 = .ok (.ireturn, 1) := by decide +kernel
theorem dX7_changed_84 : decode cX7_changed 84 = .ok (.sipush (-1002), 3) := by decide +kernel
theorem dX7_changed_87 : decode cX7_changed 87 = .ok (.ireturn, 1) := by decide +kernel
theorem dX7_undo_0 : decode cX7_undo 0 = .ok (.aload_n 0, 1) := by decide +kernel
theorem dX7_undo_1 : decode cX7_undo 1 = .ok (.getfield 12, 3) := by decide +kernel
theorem dX7_undo_4 : decode cX7_undo 4 = .ok (.getfield 107, 3) := by decide +kernel
theorem dX7_undo_7 : decode cX7_undo 7 = .ok (.ifCond .gt 5, 3) := by decide +kernel
theorem dX7_undo_10 : decode cX7_undo 10 = .ok (.iconst (-1), 1) := by decide +kernel
theorem dX7_undo_11 : decode cX7_undo 11 = .ok (.ireturn, 1) := by decide +kernel
theorem dX7_undo_12 : decode cX7_undo 12 = .ok (.aload_n 0, 1) := by decide +kernel
theorem dX7_undo_13 : decode cX7_undo 13 = .ok (.getfield 12, 3) := by decide +kernel
theorem dX7_undo_16 : decode cX7_undo 16 = .ok (.dup, 1) := by decide +kernel
theorem dX7_undo_17 : decode cX7_undo 17 = .ok (.getfield 107, 3) := by decide +kernel
theorem dX7_undo_20 : decode cX7_undo 20 = .ok (.iconst 1, 1) := by decide +kernel
theorem dX7_undo_21 : decode cX7_undo 21 = .ok (.isub, 1) := by decide +kernel
theorem dX7_undo_22 : decode cX7_undo 22 = .ok (.putfield 107, 3) := by decide +kernel
theorem dX7_undo_25 : decode cX7_undo 25 = .ok (.aload_n 0, 1) := by decide +kernel
theorem dX7_undo_26 : decode cX7_undo 26 = .ok (.iconst 1, 1) := by decide +kernel
theorem dX7_undo_27 : decode cX7_undo 27 = .ok (.invokevirtual 78, 3) := by decide +kernel
theorem dX7_undo_30 : decode cX7_undo 30 = .ok (.aload_n 0, 1) := by decide +kernel
theorem dX7_undo_31 : decode cX7_undo 31 = .ok (.getfield 12, 3) := by decide +kernel
theorem dX7_undo_34 : decode cX7_undo 34 = .ok (.getfield 107, 3) := by decide +kernel
theorem dX7_undo_37 : decode cX7_undo 37 = .ok (.ireturn, 1) := by decide +kernel
theorem dX7_rule_0 : decode cX7_rule 0 = .ok (.iload_n 1, 1) := by decide +kernel
theorem dX7_rule_1 : decode cX7_rule 1 = .ok (.iconst 0, 1) := by decide +kernel
theorem dX7_rule_2 : decode cX7_rule 2 = .ok (.iconst 3, 1) := by decide +kernel
theorem dX7_rule_3 : decode cX7_rule 3 = .ok (.invokestatic 82, 3) := by decide +kernel
theorem dX7_rule_6 : decode cX7_rule 6 = .ok (.ifCond .eq 20, 3) := by decide +kernel
theorem dX7_rule_9 : decode cX7_rule 9 = .ok (.iload_n 2, 1) := by decide +kernel
theorem dX7_rule_10 : decode cX7_rule 10 = .ok (.getstatic 129, 3) := by decide +kernel
theorem dX7_rule_13 : decode cX7_rule 13 = .ok (.iload_n 1, 1) := by decide +kernel
theorem dX7_rule_14 : decode cX7_rule 14 = .ok (.iaload, 1) := by decide +kernel
theorem dX7_rule_15 : decode cX7_rule 15 = .ok (.getstatic 132, 3) := by decide +kernel
theorem dX7_rule_18 : decode cX7_rule 18 = .ok (.iload_n 1, 1) := by decide +kernel
theorem dX7_rule_19 : decode cX7_rule 19 = .ok (.iaload, 1) := by decide +kernel
theorem dX7_rule_20 : decode cX7_rule 20 = .ok (.invokestatic 82, 3) := by decide +kernel
theorem dX7_rule_23 : decode cX7_rule 23 = .ok (.ifCond .ne 6, 3) := by decide +kernel
theorem dX7_rule_26 : decode cX7_rule 26 = .ok (.bipush (-2), 2) := by decide +kernel
theorem dX7_rule_28 : decode cX7_rule 28 = .ok (.ireturn, 1) := by decide +kernel
theorem dX7_rule_29 : decode cX7_rule 29 = .ok (.aload_n 0, 1) := by decide +kernel
theorem dX7_rule_30 : decode cX7_rule 30 = .ok (.getfield 56, 3) := by decide +kernel
theorem dX7_rule_33 : decode cX7_rule 33 = .ok (.iload_n 1, 1) := by decide +kernel
theorem dX7_rule_34 : decode cX7_rule 34 = .ok (.invokevirtual 119, 3) := by decide +kernel
theorem dX7_rule_37 : decode cX7_rule 37 = .ok (.istore_n 3, 1) := by decide +kernel
theorem dX7_rule_38 : decode cX7_rule 38 = .ok (.aload_n 0, 1) := by decide +kernel
theorem dX7_rule_39 : decode cX7_rule 39 = .ok (.getfield 56, 3) := by decide +kernel
theorem dX7_rule_42 : decode cX7_rule 42 = .ok (.iload_n 1, 1) := by decide +kernel
theorem dX7_rule_43 : decode cX7_rule 43 = .ok (.iload_n 2, 1) := by decide +kernel
theorem dX7_rule_44 : decode cX7_rule 44 = .ok (.invokevirtual 71, 3) := by decide +kernel
theorem dX7_rule_47 : decode cX7_rule 47 = .ok (.aload_n 0, 1) := by decide +kernel
theorem dX7_rule_48 : decode cX7_rule 48 = .ok (.iload_n 1, 1) := by decide +kernel
theorem dX7_rule_49 : decode cX7_rule 49 = .ok (.invokestatic 135, 3) := by decide +kernel
theorem dX7_rule_52 : decode cX7_rule 52 = .ok (.invokevirtual 78, 3) := by decide +kernel
theorem dX7_rule_55 : decode cX7_rule 55 = .ok (.iload_n 3, 1) := by decide +kernel
theorem dX7_rule_56 : decode cX7_rule 56 = .ok (.ireturn, 1) := by decide +kernel
theorem dX7_about_0 : decode cX7_about 0 = .ok (.aload_n 0, 1) := by decide +kernel
theorem dX7_about_1 : decode cX7_about 1 = .ok (.getfield 12, 3) := by decide +kernel
theorem dX7_about_4 : decode cX7_about 4 = .ok (.iload_n 1, 1) := by decide +kernel
theorem dX7_about_5 : decode cX7_about 5 = .ok (.invokevirtual 103, 3) := by decide +kernel
theorem dX7_about_8 : decode cX7_about 8 = .ok (.ifCond .ne 5, 3) := by decide +kernel
theorem dX7_about_11 : decode cX7_about 11 = .ok (.iconst (-1), 1) := by decide +kernel
theorem dX7_about_12 : decode cX7_about 12 = .ok (.ireturn, 1) := by decide +kernel
theorem dX7_about_13 : decode cX7_about 13 = .ok (.aload_n 0, 1) := by decide +kernel
theorem dX7_about_14 : decode cX7_about 14 = .ok (.iconst 3, 1) := by decide +kernel
theorem dX7_about_15 : decode cX7_about 15 = .ok (.invokevirtual 110, 3) := by decide +kernel
theorem dX7_about_18 : decode cX7_about 18 = .ok (.iload_n 2, 1) := by decide +kernel
theorem dX7_about_19 : decode cX7_about 19 = .ok (.tableswitch 125 0 6 #[41, 53, 65, 77, 89, 101, 113], 41) := by decide +kernel
theorem dX7_about_60 : decode cX7_about 60 = .ok (.aload_n 0, 1) := by decide +kernel
theorem dX7_about_61 : decode cX7_about 61 = .ok (.getfield 12, 3) := by decide +kernel
theorem dX7_about_64 : decode cX7_about 64 = .ok (.getfield 138, 3) := by decide +kernel
theorem dX7_about_67 : decode cX7_about 67 = .ok (.iload_n 1, 1) := by decide +kernel
theorem dX7_about_68 : decode cX7_about 68 = .ok (.invokevirtual 119, 3) := by decide +kernel
theorem dX7_about_71 : decode cX7_about 71 = .ok (.ireturn, 1) := by decide +kernel
theorem dX7_about_72 : decode cX7_about 72 = .ok (.aload_n 0, 1) := by decide +kernel
theorem dX7_about_73 : decode cX7_about 73 = .ok (.getfield 19, 3) := by decide +kernel
theorem dX7_about_76 : decode cX7_about 76 = .ok (.getfield 141, 3) := by decide +kernel
theorem dX7_about_79 : decode cX7_about 79 = .ok (.iload_n 1, 1) := by decide +kernel
theorem dX7_about_80 : decode cX7_about 80 = .ok (.invokevirtual 119, 3) := by decide +kernel
theorem dX7_about_83 : decode cX7_about 83 = .ok (.ireturn, 1) := by decide +kernel
theorem dX7_about_84 : decode cX7_about 84 = .ok (.aload_n 0, 1) := by decide +kernel
theorem dX7_about_85 : decode cX7_about 85 = .ok (.getfield 19, 3) := by decide +kernel
theorem dX7_about_88 : decode cX7_about 88 = .ok (.getfield 144, 3) := by decide +kernel
theorem dX7_about_91 : decode cX7_about 91 = .ok (.iload_n 1, 1) := by decide +kernel
theorem dX7_about_92 : decode cX7_about 92 = .ok (.invokevirtual 119, 3) := by decide +kernel
theorem dX7_about_95 : decode cX7_about 95 = .ok (.ireturn, 1) := by decide +kernel
theorem dX7_about_96 : decode cX7_about 96 = .ok (.aload_n 0, 1) := by decide +kernel
theorem dX7_about_97 : decode cX7_about 97 = .ok (.getfield 19, 3) := by decide +kernel
theorem dX7_about_100 : decode cX7_about 100 = .ok (.getfield 147, 3) := by decide +kernel
theorem dX7_about_103 : decode cX7_about 103 = .ok (.iload_n 1, 1) := by decide +kernel
theorem dX7_about_104 : decode cX7_about 104 = .ok (.invokevirtual 119, 3) := by decide +kernel
theorem dX7_about_107 : decode cX7_about 107 = .ok (.ireturn, 1) := by decide +kernel
theorem dX7_about_108 : decode cX7_about 108 = .ok (.aload_n 0, 1) := by decide +kernel
theorem dX7_about_109 : decode cX7_about 109 = .ok (.getfield 19, 3) := by decide +kernel
theorem dX7_about_112 : decode cX7_about 112 = .ok (.getfield 150, 3) := by decide +kernel
theorem dX7_about_115 : decode cX7_about 115 = .ok (.iload_n 1, 1) := by decide +kernel
theorem dX7_about_116 : decode cX7_about 116 = .ok (.invokevirtual 119, 3) := by decide +kernel
theorem dX7_about_119 : decode cX7_about 119 = .ok (.ireturn, 1) := by decide +kernel
theorem dX7_about_120 : decode cX7_about 120 = .ok (.aload_n 0, 1) := by decide +kernel
theorem dX7_about_121 : decode cX7_about 121 = .ok (.getfield 19, 3) := by decide +kernel
theorem dX7_about_124 : decode cX7_about 124 = .ok (.getfield 153, 3) := by decide +kernel
theorem dX7_about_127 : decode cX7_about 127 = .ok (.iload_n 1, 1) := by decide +kernel
theorem dX7_about_128 : decode cX7_about 128 = .ok (.invokevirtual 119, 3) := by decide +kernel
theorem dX7_about_131 : decode cX7_about 131 = .ok (.ireturn, 1) := by decide +kernel
theorem dX7_about_132 : decode cX7_about 132 = .ok (.aload_n 0, 1) := by decide +kernel
theorem dX7_about_133 : decode cX7_about 133 = .ok (.getfield 33, 3) := by decide +kernel
theorem dX7_about_136 : decode cX7_about 136 = .ok (.getfield 156, 3) := by decide +kernel
theorem dX7_about_139 : decode cX7_about 139 = .ok (.iload_n 1, 1) := by decide +kernel
theorem dX7_about_140 : decode cX7_about 140 = .ok (.invokevirtual 119, 3) := by decide +kernel
theorem dX7_about_143 : decode cX7_about 143 = .ok (.ireturn, 1) := by decide +kernel
theorem dX7_about_144 : decode cX7_about 144 = .ok (.bipush (-2), 2) := by decide +kernel
theorem dX7_about_146 : decode cX7_about 146 = .ok (.ireturn, 1) := by decide +kernel
theorem dX7_is_0 : decode cX7_is 0 = .ok (.aload_n 0, 1) := by decide +kernel
theorem dX7_is_1 : decode cX7_is 1 = .ok (.getfield 12, 3) := by decide +kernel
theorem dX7_is_4 : decode cX7_is 4 = .ok (.iload_n 1, 1) := by decide +kernel
theorem dX7_is_5 : decode cX7_is 5 = .ok (.invokevirtual 103, 3) := by decide +kernel
theorem dX7_is_8 : decode cX7_is 8 = .ok (.ifCond .ne 5, 3) := by decide +kernel
theorem dX7_is_11 : decode cX7_is 11 = .ok (.iconst (-1), 1) := by decide +kernel
theorem dX7_is_12 : decode cX7_is 12 = .ok (.ireturn, 1) := by decide +kernel
theorem dX7_is_13 : decode cX7_is 13 = .ok (.aload_n 0, 1) := by decide +kernel
theorem dX7_is_14 : decode cX7_is 14 = .ok (.iconst 4, 1) := by decide +kernel
theorem dX7_is_15 : decode cX7_is 15 = .ok (.invokevirtual 110, 3) := by decide +kernel
theorem dX7_is_18 : decode cX7_is 18 = .ok (.aload_n 0, 1) := by decide +kernel
theorem dX7_is_19 : decode cX7_is 19 = .ok (.iload_n 1, 1) := by decide +kernel
theorem dX7_is_20 : decode cX7_is 20 = .ok (.invokevirtual 159, 3) := by decide +kernel
theorem dX7_is_23 : decode cX7_is 23 = .ok (.ireturn, 1) := by decide +kernel
theorem dX7_many_0 : decode cX7_many 0 = .ok (.iload_n 1, 1) := by decide +kernel
theorem dX7_many_1 : decode cX7_many 1 = .ok (.iconst 1, 1) := by decide +kernel
theorem dX7_many_2 : decode cX7_many 2 = .ok (.bipush 32, 2) := by decide +kernel
theorem dX7_many_4 : decode cX7_many 4 = .ok (.invokestatic 82, 3) := by decide +kernel
theorem dX7_many_7 : decode cX7_many 7 = .ok (.ifCond .eq 11, 3) := by decide +kernel
theorem dX7_many_10 : decode cX7_many 10 = .ok (.iload_n 1, 1) := by decide +kernel
theorem dX7_many_11 : decode cX7_many 11 = .ok (.invokestatic 162, 3) := by decide +kernel
theorem dX7_many_14 : decode cX7_many 14 = .ok (.iconst 1, 1) := by decide +kernel
theorem dX7_many_15 : decode cX7_many 15 = .ok (.if_icmp .eq 6, 3) := by decide +kernel
theorem dX7_many_18 : decode cX7_many 18 = .ok (.bipush (-2), 2) := by decide +kernel
theorem dX7_many_20 : decode cX7_many 20 = .ok (.ireturn, 1) := by decide +kernel
theorem dX7_many_21 : decode cX7_many 21 = .ok (.aload_n 0, 1) := by decide +kernel
theorem dX7_many_22 : decode cX7_many 22 = .ok (.iconst 4, 1) := by decide +kernel
theorem dX7_many_23 : decode cX7_many 23 = .ok (.invokevirtual 110, 3) := by decide +kernel
theorem dX7_many_26 : decode cX7_many 26 = .ok (.iconst 0, 1) := by decide +kernel
theorem dX7_many_27 : decode cX7_many 27 = .ok (.istore_n 2, 1) := by decide +kernel
theorem dX7_many_28 : decode cX7_many 28 = .ok (.iconst 0, 1) := by decide +kernel
theorem dX7_many_29 : decode cX7_many 29 = .ok (.istore_n 3, 1) := by decide +kernel
theorem dX7_many_30 : decode cX7_many 30 = .ok (.iload_n 3, 1) := by decide +kernel
theorem dX7_many_31 : decode cX7_many 31 = .ok (.aload_n 0, 1) := by decide +kernel
theorem dX7_many_32 : decode cX7_many 32 = .ok (.getfield 12, 3) := by decide +kernel
theorem dX7_many_35 : decode cX7_many 35 = .ok (.getfield 93, 3) := by decide +kernel
theorem dX7_many_38 : decode cX7_many 38 = .ok (.if_icmp .ge 22, 3) := by decide +kernel
theorem dX7_many_41 : decode cX7_many 41 = .ok (.aload_n 0, 1) := by decide +kernel
theorem dX7_many_42 : decode cX7_many 42 = .ok (.iload_n 3, 1) := by decide +kernel
theorem dX7_many_43 : decode cX7_many 43 = .ok (.invokevirtual 159, 3) := by decide +kernel
theorem dX7_many_46 : decode cX7_many 46 = .ok (.iload_n 1, 1) := by decide +kernel
theorem dX7_many_47 : decode cX7_many 47 = .ok (.iand, 1) := by decide +kernel
theorem dX7_many_48 : decode cX7_many 48 = .ok (.ifCond .eq 6, 3) := by decide +kernel
theorem dX7_many_51 : decode cX7_many 51 = .ok (.iinc 2 1, 3) := by decide +kernel
theorem dX7_many_54 : decode cX7_many 54 = .ok (.iinc 3 1, 3) := by decide +kernel
theorem dX7_many_57 : decode cX7_many 57 = .ok (.goto (-27), 3) := by decide +kernel
theorem dX7_many_60 : decode cX7_many 60 = .ok (.iload_n 2, 1) := by decide +kernel
theorem dX7_many_61 : decode cX7_many 61 = .ok (.ireturn, 1) := by decide +kernel
theorem dX7_lakes_0 : decode cX7_lakes 0 = .ok (.aload_n 0, 1) := by decide +kernel
theorem dX7_lakes_1 : decode cX7_lakes 1 = .ok (.iconst 2, 1) := by decide +kernel
theorem dX7_lakes_2 : decode cX7_lakes 2 = .ok (.invokevirtual 110, 3) := by decide +kernel
theorem dX7_lakes_5 : decode cX7_lakes 5 = .ok (.aload_n 0, 1) := by decide +kernel
theorem dX7_lakes_6 : decode cX7_lakes 6 = .ok (.getfield 26, 3) := by decide +kernel
theorem dX7_lakes_9 : decode cX7_lakes 9 = .ok (.getfield 167, 3) := by decide +kernel
theorem dX7_lakes_12 : decode cX7_lakes 12 = .ok (.ireturn, 1) := by decide +kernel
theorem dX7_lake_0 : decode cX7_lake 0 = .ok (.aload_n 0, 1) := by decide +kernel
theorem dX7_lake_1 : decode cX7_lake 1 = .ok (.getfield 12, 3) := by decide +kernel
theorem dX7_lake_4 : decode cX7_lake 4 = .ok (.iload_n 1, 1) := by decide +kernel
theorem dX7_lake_5 : decode cX7_lake 5 = .ok (.invokevirtual 103, 3) := by decide +kernel
theorem dX7_lake_8 : decode cX7_lake 8 = .ok (.ifCond .ne 5, 3) := by decide +kernel
theorem dX7_lake_11 : decode cX7_lake 11 = .ok (.iconst (-1), 1) := by decide +kernel
theorem dX7_lake_12 : decode cX7_lake 12 = .ok (.ireturn, 1) := by decide +kernel
theorem dX7_lake_13 : decode cX7_lake 13 = .ok (.aload_n 0, 1) := by decide +kernel
theorem dX7_lake_14 : decode cX7_lake 14 = .ok (.iconst 2, 1) := by decide +kernel
theorem dX7_lake_15 : decode cX7_lake 15 = .ok (.invokevirtual 110, 3) := by decide +kernel
theorem dX7_lake_18 : decode cX7_lake 18 = .ok (.aload_n 0, 1) := by decide +kernel
theorem dX7_lake_19 : decode cX7_lake 19 = .ok (.getfield 26, 3) := by decide +kernel
theorem dX7_lake_22 : decode cX7_lake 22 = .ok (.iload_n 1, 1) := by decide +kernel
theorem dX7_lake_23 : decode cX7_lake 23 = .ok (.invokevirtual 170, 3) := by decide +kernel
theorem dX7_lake_26 : decode cX7_lake 26 = .ok (.ireturn, 1) := by decide +kernel
theorem dX7_towns_0 : decode cX7_towns 0 = .ok (.iload_n 1, 1) := by decide +kernel
theorem dX7_towns_1 : decode cX7_towns 1 = .ok (.iconst 0, 1) := by decide +kernel
theorem dX7_towns_2 : decode cX7_towns 2 = .ok (.bipush 6, 2) := by decide +kernel
theorem dX7_towns_4 : decode cX7_towns 4 = .ok (.invokestatic 82, 3) := by decide +kernel
theorem dX7_towns_7 : decode cX7_towns 7 = .ok (.ifCond .ne 6, 3) := by decide +kernel
theorem dX7_towns_10 : decode cX7_towns 10 = .ok (.bipush (-2), 2) := by decide +kernel
theorem dX7_towns_12 : decode cX7_towns 12 = .ok (.ireturn, 1) := by decide +kernel
theorem dX7_towns_13 : decode cX7_towns 13 = .ok (.aload_n 0, 1) := by decide +kernel
theorem dX7_towns_14 : decode cX7_towns 14 = .ok (.iload_n 1, 1) := by decide +kernel
theorem dX7_towns_15 : decode cX7_towns 15 = .ok (.putfield 60, 3) := by decide +kernel
theorem dX7_towns_18 : decode cX7_towns 18 = .ok (.aload_n 0, 1) := by decide +kernel
theorem dX7_towns_19 : decode cX7_towns 19 = .ok (.iconst 2, 1) := by decide +kernel
theorem dX7_towns_20 : decode cX7_towns 20 = .ok (.invokevirtual 78, 3) := by decide +kernel
theorem dX7_towns_23 : decode cX7_towns 23 = .ok (.aload_n 0, 1) := by decide +kernel
theorem dX7_towns_24 : decode cX7_towns 24 = .ok (.iconst 3, 1) := by decide +kernel
theorem dX7_towns_25 : decode cX7_towns 25 = .ok (.invokevirtual 110, 3) := by decide +kernel
theorem dX7_towns_28 : decode cX7_towns 28 = .ok (.aload_n 0, 1) := by decide +kernel
theorem dX7_towns_29 : decode cX7_towns 29 = .ok (.getfield 33, 3) := by decide +kernel
theorem dX7_towns_32 : decode cX7_towns 32 = .ok (.getfield 173, 3) := by decide +kernel
theorem dX7_towns_35 : decode cX7_towns 35 = .ok (.ireturn, 1) := by decide +kernel
theorem dX7_town_0 : decode cX7_town 0 = .ok (.aload_n 0, 1) := by decide +kernel
theorem dX7_town_1 : decode cX7_town 1 = .ok (.iconst 3, 1) := by decide +kernel
theorem dX7_town_2 : decode cX7_town 2 = .ok (.invokevirtual 110, 3) := by decide +kernel
theorem dX7_town_5 : decode cX7_town 5 = .ok (.aload_n 0, 1) := by decide +kernel
theorem dX7_town_6 : decode cX7_town 6 = .ok (.iload_n 1, 1) := by decide +kernel
theorem dX7_town_7 : decode cX7_town 7 = .ok (.invokevirtual 174, 3) := by decide +kernel
theorem dX7_town_10 : decode cX7_town 10 = .ok (.ifCond .eq 17, 3) := by decide +kernel
theorem dX7_town_13 : decode cX7_town 13 = .ok (.aload_n 0, 1) := by decide +kernel
theorem dX7_town_14 : decode cX7_town 14 = .ok (.getfield 33, 3) := by decide +kernel
theorem dX7_town_17 : decode cX7_town 17 = .ok (.getfield 177, 3) := by decide +kernel
theorem dX7_town_20 : decode cX7_town 20 = .ok (.iload_n 1, 1) := by decide +kernel
theorem dX7_town_21 : decode cX7_town 21 = .ok (.invokevirtual 119, 3) := by decide +kernel
theorem dX7_town_24 : decode cX7_town 24 = .ok (.goto 4, 3) := by decide +kernel
theorem dX7_town_27 : decode cX7_town 27 = .ok (.iconst (-1), 1) := by decide +kernel
theorem dX7_town_28 : decode cX7_town 28 = .ok (.ireturn, 1) := by decide +kernel
theorem dX7_cost_0 : decode cX7_cost 0 = .ok (.aload_n 0, 1) := by decide +kernel
theorem dX7_cost_1 : decode cX7_cost 1 = .ok (.iconst 4, 1) := by decide +kernel
theorem dX7_cost_2 : decode cX7_cost 2 = .ok (.invokevirtual 110, 3) := by decide +kernel
theorem dX7_cost_5 : decode cX7_cost 5 = .ok (.aload_n 0, 1) := by decide +kernel
theorem dX7_cost_6 : decode cX7_cost 6 = .ok (.iload_n 1, 1) := by decide +kernel
theorem dX7_cost_7 : decode cX7_cost 7 = .ok (.invokevirtual 174, 3) := by decide +kernel
theorem dX7_cost_10 : decode cX7_cost 10 = .ok (.ifCond .eq 11, 3) := by decide +kernel
theorem dX7_cost_13 : decode cX7_cost 13 = .ok (.aload_n 0, 1) := by decide +kernel
theorem dX7_cost_14 : decode cX7_cost 14 = .ok (.iload_n 2, 1) := by decide +kernel
theorem dX7_cost_15 : decode cX7_cost 15 = .ok (.invokevirtual 174, 3) := by decide +kernel
theorem dX7_cost_18 : decode cX7_cost 18 = .ok (.ifCond .ne 5, 3) := by decide +kernel
theorem dX7_cost_21 : decode cX7_cost 21 = .ok (.iconst (-1), 1) := by decide +kernel
theorem dX7_cost_22 : decode cX7_cost 22 = .ok (.ireturn, 1) := by decide +kernel
theorem dX7_cost_23 : decode cX7_cost 23 = .ok (.aload_n 0, 1) := by decide +kernel
theorem dX7_cost_24 : decode cX7_cost 24 = .ok (.getfield 40, 3) := by decide +kernel
theorem dX7_cost_27 : decode cX7_cost 27 = .ok (.aload_n 0, 1) := by decide +kernel
theorem dX7_cost_28 : decode cX7_cost 28 = .ok (.getfield 33, 3) := by decide +kernel
theorem dX7_cost_31 : decode cX7_cost 31 = .ok (.getfield 177, 3) := by decide +kernel
theorem dX7_cost_34 : decode cX7_cost 34 = .ok (.iload_n 1, 1) := by decide +kernel
theorem dX7_cost_35 : decode cX7_cost 35 = .ok (.invokevirtual 119, 3) := by decide +kernel
theorem dX7_cost_38 : decode cX7_cost 38 = .ok (.iload_n 2, 1) := by decide +kernel
theorem dX7_cost_39 : decode cX7_cost 39 = .ok (.invokevirtual 180, 3) := by decide +kernel
theorem dX7_cost_42 : decode cX7_cost 42 = .ok (.ireturn, 1) := by decide +kernel
theorem dX7_way_0 : decode cX7_way 0 = .ok (.aload_n 0, 1) := by decide +kernel
theorem dX7_way_1 : decode cX7_way 1 = .ok (.iconst 4, 1) := by decide +kernel
theorem dX7_way_2 : decode cX7_way 2 = .ok (.invokevirtual 110, 3) := by decide +kernel
theorem dX7_way_5 : decode cX7_way 5 = .ok (.aload_n 0, 1) := by decide +kernel
theorem dX7_way_6 : decode cX7_way 6 = .ok (.iload_n 1, 1) := by decide +kernel
theorem dX7_way_7 : decode cX7_way 7 = .ok (.invokevirtual 174, 3) := by decide +kernel
theorem dX7_way_10 : decode cX7_way 10 = .ok (.ifCond .eq 11, 3) := by decide +kernel
theorem dX7_way_13 : decode cX7_way 13 = .ok (.aload_n 0, 1) := by decide +kernel
theorem dX7_way_14 : decode cX7_way 14 = .ok (.iload_n 2, 1) := by decide +kernel
theorem dX7_way_15 : decode cX7_way 15 = .ok (.invokevirtual 174, 3) := by decide +kernel
theorem dX7_way_18 : decode cX7_way 18 = .ok (.ifCond .ne 5, 3) := by decide +kernel
theorem dX7_way_21 : decode cX7_way 21 = .ok (.iconst (-1), 1) := by decide +kernel
theorem dX7_way_22 : decode cX7_way 22 = .ok (.ireturn, 1) := by decide +kernel
theorem dX7_way_23 : decode cX7_way 23 = .ok (.aload_n 0, 1) := by decide +kernel
theorem dX7_way_24 : decode cX7_way 24 = .ok (.getfield 40, 3) := by decide +kernel
theorem dX7_way_27 : decode cX7_way 27 = .ok (.aload_n 0, 1) := by decide +kernel
theorem dX7_way_28 : decode cX7_way 28 = .ok (.getfield 12, 3) := by decide +kernel
theorem dX7_way_31 : decode cX7_way 31 = .ok (.aload_n 0, 1) := by decide +kernel
theorem dX7_way_32 : decode cX7_way 32 = .ok (.getfield 19, 3) := by decide +kernel
theorem dX7_way_35 : decode cX7_way 35 = .ok (.aload_n 0, 1) := by decide +kernel
theorem dX7_way_36 : decode cX7_way 36 = .ok (.getfield 33, 3) := by decide +kernel
theorem dX7_way_39 : decode cX7_way 39 = .ok (.getfield 177, 3) := by decide +kernel
theorem dX7_way_42 : decode cX7_way 42 = .ok (.iload_n 1, 1) := by decide +kernel
theorem dX7_way_43 : decode cX7_way 43 = .ok (.invokevirtual 119, 3) := by decide +kernel
theorem dX7_way_46 : decode cX7_way 46 = .ok (.iload_n 2, 1) := by decide +kernel
theorem dX7_way_47 : decode cX7_way 47 = .ok (.iload_n 3, 1) := by decide +kernel
theorem dX7_way_48 : decode cX7_way 48 = .ok (.invokevirtual 183, 3) := by decide +kernel
theorem dX7_way_51 : decode cX7_way 51 = .ok (.ireturn, 1) := by decide +kernel
theorem dX7_net_0 : decode cX7_net 0 = .ok (.iload_n 1, 1) := by decide +kernel
theorem dX7_net_1 : decode cX7_net 1 = .ok (.ifCond .lt 14, 3) := by decide +kernel
theorem dX7_net_4 : decode cX7_net 4 = .ok (.iload_n 1, 1) := by decide +kernel
theorem dX7_net_5 : decode cX7_net 5 = .ok (.iconst 2, 1) := by decide +kernel
theorem dX7_net_6 : decode cX7_net 6 = .ok (.if_icmp .le 12, 3) := by decide +kernel
theorem dX7_net_9 : decode cX7_net 9 = .ok (.iload_n 1, 1) := by decide +kernel
theorem dX7_net_10 : decode cX7_net 10 = .ok (.bipush 10, 2) := by decide +kernel
theorem dX7_net_12 : decode cX7_net 12 = .ok (.if_icmp .ge 6, 3) := by decide +kernel
theorem dX7_net_15 : decode cX7_net 15 = .ok (.bipush (-2), 2) := by decide +kernel
theorem dX7_net_17 : decode cX7_net 17 = .ok (.ireturn, 1) := by decide +kernel
theorem dX7_net_18 : decode cX7_net 18 = .ok (.aload_n 0, 1) := by decide +kernel
theorem dX7_net_19 : decode cX7_net 19 = .ok (.iconst 4, 1) := by decide +kernel
theorem dX7_net_20 : decode cX7_net 20 = .ok (.invokevirtual 110, 3) := by decide +kernel
theorem dX7_net_23 : decode cX7_net 23 = .ok (.iload_n 1, 1) := by decide +kernel
theorem dX7_net_24 : decode cX7_net 24 = .ok (.tableswitch 52 0 2 #[28, 36, 44], 28) := by decide +kernel
theorem dX7_net_52 : decode cX7_net 52 = .ok (.aload_n 0, 1) := by decide +kernel
theorem dX7_net_53 : decode cX7_net 53 = .ok (.getfield 40, 3) := by decide +kernel
theorem dX7_net_56 : decode cX7_net 56 = .ok (.getfield 187, 3) := by decide +kernel
theorem dX7_net_59 : decode cX7_net 59 = .ok (.ireturn, 1) := by decide +kernel
theorem dX7_net_60 : decode cX7_net 60 = .ok (.aload_n 0, 1) := by decide +kernel
theorem dX7_net_61 : decode cX7_net 61 = .ok (.getfield 40, 3) := by decide +kernel
theorem dX7_net_64 : decode cX7_net 64 = .ok (.getfield 190, 3) := by decide +kernel
theorem dX7_net_67 : decode cX7_net 67 = .ok (.ireturn, 1) := by decide +kernel
theorem dX7_net_68 : decode cX7_net 68 = .ok (.aload_n 0, 1) := by decide +kernel
theorem dX7_net_69 : decode cX7_net 69 = .ok (.getfield 40, 3) := by decide +kernel
theorem dX7_net_72 : decode cX7_net 72 = .ok (.getfield 193, 3) := by decide +kernel
theorem dX7_net_75 : decode cX7_net 75 = .ok (.ireturn, 1) := by decide +kernel
theorem dX7_net_76 : decode cX7_net 76 = .ok (.aload_n 0, 1) := by decide +kernel
theorem dX7_net_77 : decode cX7_net 77 = .ok (.getfield 40, 3) := by decide +kernel
theorem dX7_net_80 : decode cX7_net 80 = .ok (.iload_n 1, 1) := by decide +kernel
theorem dX7_net_81 : decode cX7_net 81 = .ok (.bipush 10, 2) := by decide +kernel
theorem dX7_net_83 : decode cX7_net 83 = .ok (.isub, 1) := by decide +kernel
theorem dX7_net_84 : decode cX7_net 84 = .ok (.invokevirtual 196, 3) := by decide +kernel
theorem dX7_net_87 : decode cX7_net 87 = .ok (.ireturn, 1) := by decide +kernel
theorem dX7_roads_0 : decode cX7_roads 0 = .ok (.aload_n 0, 1) := by decide +kernel
theorem dX7_roads_1 : decode cX7_roads 1 = .ok (.getfield 12, 3) := by decide +kernel
theorem dX7_roads_4 : decode cX7_roads 4 = .ok (.iload_n 1, 1) := by decide +kernel
theorem dX7_roads_5 : decode cX7_roads 5 = .ok (.invokevirtual 103, 3) := by decide +kernel
theorem dX7_roads_8 : decode cX7_roads 8 = .ok (.ifCond .ne 5, 3) := by decide +kernel
theorem dX7_roads_11 : decode cX7_roads 11 = .ok (.iconst (-1), 1) := by decide +kernel
theorem dX7_roads_12 : decode cX7_roads 12 = .ok (.ireturn, 1) := by decide +kernel
theorem dX7_roads_13 : decode cX7_roads 13 = .ok (.aload_n 0, 1) := by decide +kernel
theorem dX7_roads_14 : decode cX7_roads 14 = .ok (.iconst 4, 1) := by decide +kernel
theorem dX7_roads_15 : decode cX7_roads 15 = .ok (.invokevirtual 110, 3) := by decide +kernel
theorem dX7_roads_18 : decode cX7_roads 18 = .ok (.aload_n 0, 1) := by decide +kernel
theorem dX7_roads_19 : decode cX7_roads 19 = .ok (.getfield 40, 3) := by decide +kernel
theorem dX7_roads_22 : decode cX7_roads 22 = .ok (.getfield 199, 3) := by decide +kernel
theorem dX7_roads_25 : decode cX7_roads 25 = .ok (.iload_n 1, 1) := by decide +kernel
theorem dX7_roads_26 : decode cX7_roads 26 = .ok (.invokevirtual 119, 3) := by decide +kernel
theorem dX7_roads_29 : decode cX7_roads 29 = .ok (.ireturn, 1) := by decide +kernel
theorem dX7_told_0 : decode cX7_told 0 = .ok (.iload_n 1, 1) := by decide +kernel
theorem dX7_told_1 : decode cX7_told 1 = .ok (.tableswitch 153 0 10 #[59, 67, 75, 83, 92, 101, 110, 119, 132, 137, 145], 59) := by decide +kernel
theorem dX7_told_60 : decode cX7_told 60 = .ok (.aload_n 0, 1) := by decide +kernel
theorem dX7_told_61 : decode cX7_told 61 = .ok (.getfield 12, 3) := by decide +kernel
theorem dX7_told_64 : decode cX7_told 64 = .ok (.getfield 90, 3) := by decide +kernel
theorem dX7_told_67 : decode cX7_told 67 = .ok (.ireturn, 1) := by decide +kernel
theorem dX7_told_68 : decode cX7_told 68 = .ok (.aload_n 0, 1) := by decide +kernel
theorem dX7_told_69 : decode cX7_told 69 = .ok (.getfield 12, 3) := by decide +kernel
theorem dX7_told_72 : decode cX7_told 72 = .ok (.getfield 97, 3) := by decide +kernel
theorem dX7_told_75 : decode cX7_told 75 = .ok (.ireturn, 1) := by decide +kernel
theorem dX7_told_76 : decode cX7_told 76 = .ok (.aload_n 0, 1) := by decide +kernel
theorem dX7_told_77 : decode cX7_told 77 = .ok (.getfield 12, 3) := by decide +kernel
theorem dX7_told_80 : decode cX7_told 80 = .ok (.getfield 100, 3) := by decide +kernel
theorem dX7_told_83 : decode cX7_told 83 = .ok (.ireturn, 1) := by decide +kernel
theorem dX7_told_84 : decode cX7_told 84 = .ok (.aload_n 0, 1) := by decide +kernel
theorem dX7_told_85 : decode cX7_told 85 = .ok (.getfield 56, 3) := by decide +kernel
theorem dX7_told_88 : decode cX7_told 88 = .ok (.iconst 0, 1) := by decide +kernel
theorem dX7_told_89 : decode cX7_told 89 = .ok (.invokevirtual 119, 3) := by decide +kernel
theorem dX7_told_92 : decode cX7_told 92 = .ok (.ireturn, 1) := by decide +kernel
theorem dX7_told_93 : decode cX7_told 93 = .ok (.aload_n 0, 1) := by decide +kernel
theorem dX7_told_94 : decode cX7_told 94 = .ok (.getfield 56, 3) := by decide +kernel
theorem dX7_told_97 : decode cX7_told 97 = .ok (.iconst 1, 1) := by decide +kernel
theorem dX7_told_98 : decode cX7_told 98 = .ok (.invokevirtual 119, 3) := by decide +kernel
theorem dX7_told_101 : decode cX7_told 101 = .ok (.ireturn, 1) := by decide +kernel
theorem dX7_told_102 : decode cX7_told 102 = .ok (.aload_n 0, 1) := by decide +kernel
theorem dX7_told_103 : decode cX7_told 103 = .ok (.getfield 56, 3) := by decide +kernel
theorem dX7_told_106 : decode cX7_told 106 = .ok (.iconst 2, 1) := by decide +kernel
theorem dX7_told_107 : decode cX7_told 107 = .ok (.invokevirtual 119, 3) := by decide +kernel
theorem dX7_told_110 : decode cX7_told 110 = .ok (.ireturn, 1) := by decide +kernel
theorem dX7_told_111 : decode cX7_told 111 = .ok (.aload_n 0, 1) := by decide +kernel
theorem dX7_told_112 : decode cX7_told 112 = .ok (.getfield 56, 3) := by decide +kernel
theorem dX7_told_115 : decode cX7_told 115 = .ok (.iconst 3, 1) := by decide +kernel
theorem dX7_told_116 : decode cX7_told 116 = .ok (.invokevirtual 119, 3) := by decide +kernel
theorem dX7_told_119 : decode cX7_told 119 = .ok (.ireturn, 1) := by decide +kernel
theorem dX7_told_120 : decode cX7_told 120 = .ok (.aload_n 0, 1) := by decide +kernel
theorem dX7_told_121 : decode cX7_told 121 = .ok (.iconst 3, 1) := by decide +kernel
theorem dX7_told_122 : decode cX7_told 122 = .ok (.invokevirtual 110, 3) := by decide +kernel
theorem dX7_told_125 : decode cX7_told 125 = .ok (.aload_n 0, 1) := by decide +kernel
theorem dX7_told_126 : decode cX7_told 126 = .ok (.getfield 33, 3) := by decide +kernel
theorem dX7_told_129 : decode cX7_told 129 = .ok (.getfield 173, 3) := by decide +kernel
theorem dX7_told_132 : decode cX7_told 132 = .ok (.ireturn, 1) := by decide +kernel
theorem dX7_told_133 : decode cX7_told 133 = .ok (.aload_n 0, 1) := by decide +kernel
theorem dX7_told_134 : decode cX7_told 134 = .ok (.getfield 60, 3) := by decide +kernel
theorem dX7_told_137 : decode cX7_told 137 = .ok (.ireturn, 1) := by decide +kernel
theorem dX7_told_138 : decode cX7_told 138 = .ok (.aload_n 0, 1) := by decide +kernel
theorem dX7_told_139 : decode cX7_told 139 = .ok (.getfield 12, 3) := by decide +kernel
theorem dX7_told_142 : decode cX7_told 142 = .ok (.getfield 107, 3) := by decide +kernel
theorem dX7_told_145 : decode cX7_told 145 = .ok (.ireturn, 1) := by decide +kernel
theorem dX7_told_146 : decode cX7_told 146 = .ok (.aload_n 0, 1) := by decide +kernel
theorem dX7_told_147 : decode cX7_told 147 = .ok (.getfield 12, 3) := by decide +kernel
theorem dX7_told_150 : decode cX7_told 150 = .ok (.getfield 75, 3) := by decide +kernel
theorem dX7_told_153 : decode cX7_told 153 = .ok (.ireturn, 1) := by decide +kernel
theorem dX7_told_154 : decode cX7_told 154 = .ok (.bipush (-2), 2) := by decide +kernel
theorem dX7_told_156 : decode cX7_told 156 = .ok (.ireturn, 1) := by decide +kernel
theorem dX7_within_0 : decode cX7_within 0 = .ok (.iload_n 0, 1) := by decide +kernel
theorem dX7_within_1 : decode cX7_within 1 = .ok (.iload_n 1, 1) := by decide +kernel
theorem dX7_within_2 : decode cX7_within 2 = .ok (.if_icmp .lt 12, 3) := by decide +kernel
theorem dX7_within_5 : decode cX7_within 5 = .ok (.iload_n 0, 1) := by decide +kernel
theorem dX7_within_6 : decode cX7_within 6 = .ok (.iload_n 2, 1) := by decide +kernel
theorem dX7_within_7 : decode cX7_within 7 = .ok (.if_icmp .gt 7, 3) := by decide +kernel
theorem dX7_within_10 : decode cX7_within 10 = .ok (.iconst 1, 1) := by decide +kernel
theorem dX7_within_11 : decode cX7_within 11 = .ok (.goto 4, 3) := by decide +kernel
theorem dX7_within_14 : decode cX7_within 14 = .ok (.iconst 0, 1) := by decide +kernel
theorem dX7_within_15 : decode cX7_within 15 = .ok (.ireturn, 1) := by decide +kernel
theorem dX7_stageAhead_0 : decode cX7_stageAhead 0 = .ok (.iload_n 0, 1) := by decide +kernel
theorem dX7_stageAhead_1 : decode cX7_stageAhead 1 = .ok (.iconst 3, 1) := by decide +kernel
theorem dX7_stageAhead_2 : decode cX7_stageAhead 2 = .ok (.if_icmp .ne 5, 3) := by decide +kernel
theorem dX7_stageAhead_5 : decode cX7_stageAhead 5 = .ok (.iconst 3, 1) := by decide +kernel
theorem dX7_stageAhead_6 : decode cX7_stageAhead 6 = .ok (.ireturn, 1) := by decide +kernel
theorem dX7_stageAhead_7 : decode cX7_stageAhead 7 = .ok (.iload_n 0, 1) := by decide +kernel
theorem dX7_stageAhead_8 : decode cX7_stageAhead 8 = .ok (.iconst 2, 1) := by decide +kernel
theorem dX7_stageAhead_9 : decode cX7_stageAhead 9 = .ok (.if_icmp .ne 7, 3) := by decide +kernel
theorem dX7_stageAhead_12 : decode cX7_stageAhead 12 = .ok (.iconst 2, 1) := by decide +kernel
theorem dX7_stageAhead_13 : decode cX7_stageAhead 13 = .ok (.goto 4, 3) := by decide +kernel
theorem dX7_stageAhead_16 : decode cX7_stageAhead 16 = .ok (.iconst 1, 1) := by decide +kernel
theorem dX7_stageAhead_17 : decode cX7_stageAhead 17 = .ok (.ireturn, 1) := by decide +kernel
theorem dX7_keepUpTo_0 : decode cX7_keepUpTo 0 = .ok (.aload_n 0, 1) := by decide +kernel
theorem dX7_keepUpTo_1 : decode cX7_keepUpTo 1 = .ok (.aload_n 0, 1) := by decide +kernel
theorem dX7_keepUpTo_2 : decode cX7_keepUpTo 2 = .ok (.getfield 64, 3) := by decide +kernel
theorem dX7_keepUpTo_5 : decode cX7_keepUpTo 5 = .ok (.iload_n 1, 1) := by decide +kernel
theorem dX7_keepUpTo_6 : decode cX7_keepUpTo 6 = .ok (.invokestatic 202, 3) := by decide +kernel
theorem dX7_keepUpTo_9 : decode cX7_keepUpTo 9 = .ok (.putfield 64, 3) := by decide +kernel
theorem dX7_keepUpTo_12 : decode cX7_keepUpTo 12 = .ok (.return_, 1) := by decide +kernel
theorem dX7_makeUpTo_0 : decode cX7_makeUpTo 0 = .ok (.aload_n 0, 1) := by decide +kernel
theorem dX7_makeUpTo_1 : decode cX7_makeUpTo 1 = .ok (.getfield 64, 3) := by decide +kernel
theorem dX7_makeUpTo_4 : decode cX7_makeUpTo 4 = .ok (.iconst 1, 1) := by decide +kernel
theorem dX7_makeUpTo_5 : decode cX7_makeUpTo 5 = .ok (.if_icmp .ge 15, 3) := by decide +kernel
theorem dX7_makeUpTo_8 : decode cX7_makeUpTo 8 = .ok (.iload_n 1, 1) := by decide +kernel
theorem dX7_makeUpTo_9 : decode cX7_makeUpTo 9 = .ok (.iconst 1, 1) := by decide +kernel
theorem dX7_makeUpTo_10 : decode cX7_makeUpTo 10 = .ok (.if_icmp .lt 10, 3) := by decide +kernel
theorem dX7_makeUpTo_13 : decode cX7_makeUpTo 13 = .ok (.aload_n 0, 1) := by decide +kernel
theorem dX7_makeUpTo_14 : decode cX7_makeUpTo 14 = .ok (.getfield 12, 3) := by decide +kernel
theorem dX7_makeUpTo_17 : decode cX7_makeUpTo 17 = .ok (.invokevirtual 207, 3) := by decide +kernel
theorem dX7_makeUpTo_20 : decode cX7_makeUpTo 20 = .ok (.aload_n 0, 1) := by decide +kernel
theorem dX7_makeUpTo_21 : decode cX7_makeUpTo 21 = .ok (.getfield 64, 3) := by decide +kernel
theorem dX7_makeUpTo_24 : decode cX7_makeUpTo 24 = .ok (.iconst 2, 1) := by decide +kernel
theorem dX7_makeUpTo_25 : decode cX7_makeUpTo 25 = .ok (.if_icmp .ge 61, 3) := by decide +kernel
theorem dX7_makeUpTo_28 : decode cX7_makeUpTo 28 = .ok (.iload_n 1, 1) := by decide +kernel
theorem dX7_makeUpTo_29 : decode cX7_makeUpTo 29 = .ok (.iconst 2, 1) := by decide +kernel
theorem dX7_makeUpTo_30 : decode cX7_makeUpTo 30 = .ok (.if_icmp .lt 56, 3) := by decide +kernel
theorem dX7_makeUpTo_33 : decode cX7_makeUpTo 33 = .ok (.aload_n 0, 1) := by decide +kernel
theorem dX7_makeUpTo_34 : decode cX7_makeUpTo 34 = .ok (.getfield 12, 3) := by decide +kernel
theorem dX7_makeUpTo_37 : decode cX7_makeUpTo 37 = .ok (.invokevirtual 210, 3) := by decide +kernel
theorem dX7_makeUpTo_40 : decode cX7_makeUpTo 40 = .ok (.aload_n 0, 1) := by decide +kernel
theorem dX7_makeUpTo_41 : decode cX7_makeUpTo 41 = .ok (.getfield 19, 3) := by decide +kernel
theorem dX7_makeUpTo_44 : decode cX7_makeUpTo 44 = .ok (.aload_n 0, 1) := by decide +kernel
theorem dX7_makeUpTo_45 : decode cX7_makeUpTo 45 = .ok (.getfield 12, 3) := by decide +kernel
theorem dX7_makeUpTo_48 : decode cX7_makeUpTo 48 = .ok (.aload_n 0, 1) := by decide +kernel
theorem dX7_makeUpTo_49 : decode cX7_makeUpTo 49 = .ok (.getfield 47, 3) := by decide +kernel
theorem dX7_makeUpTo_52 : decode cX7_makeUpTo 52 = .ok (.aload_n 0, 1) := by decide +kernel
theorem dX7_makeUpTo_53 : decode cX7_makeUpTo 53 = .ok (.getfield 56, 3) := by decide +kernel
theorem dX7_makeUpTo_56 : decode cX7_makeUpTo 56 = .ok (.iconst 0, 1) := by decide +kernel
theorem dX7_makeUpTo_57 : decode cX7_makeUpTo 57 = .ok (.invokevirtual 119, 3) := by decide +kernel
theorem dX7_makeUpTo_60 : decode cX7_makeUpTo 60 = .ok (.aload_n 0, 1) := by decide +kernel
theorem dX7_makeUpTo_61 : decode cX7_makeUpTo 61 = .ok (.getfield 56, 3) := by decide +kernel
theorem dX7_makeUpTo_64 : decode cX7_makeUpTo 64 = .ok (.iconst 1, 1) := by decide +kernel
theorem dX7_makeUpTo_65 : decode cX7_makeUpTo 65 = .ok (.invokevirtual 119, 3) := by decide +kernel
theorem dX7_makeUpTo_68 : decode cX7_makeUpTo 68 = .ok (.invokevirtual 213, 3) := by decide +kernel
theorem dX7_makeUpTo_71 : decode cX7_makeUpTo 71 = .ok (.aload_n 0, 1) := by decide +kernel
theorem dX7_makeUpTo_72 : decode cX7_makeUpTo 72 = .ok (.getfield 26, 3) := by decide +kernel
theorem dX7_makeUpTo_75 : decode cX7_makeUpTo 75 = .ok (.aload_n 0, 1) := by decide +kernel
theorem dX7_makeUpTo_76 : decode cX7_makeUpTo 76 = .ok (.getfield 12, 3) := by decide +kernel
theorem dX7_makeUpTo_79 : decode cX7_makeUpTo 79 = .ok (.aload_n 0, 1) := by decide +kernel
theorem dX7_makeUpTo_80 : decode cX7_makeUpTo 80 = .ok (.getfield 19, 3) := by decide +kernel
theorem dX7_makeUpTo_83 : decode cX7_makeUpTo 83 = .ok (.invokevirtual 217, 3) := by decide +kernel
theorem dX7_makeUpTo_86 : decode cX7_makeUpTo 86 = .ok (.aload_n 0, 1) := by decide +kernel
theorem dX7_makeUpTo_87 : decode cX7_makeUpTo 87 = .ok (.getfield 64, 3) := by decide +kernel
theorem dX7_makeUpTo_90 : decode cX7_makeUpTo 90 = .ok (.iconst 3, 1) := by decide +kernel
theorem dX7_makeUpTo_91 : decode cX7_makeUpTo 91 = .ok (.if_icmp .ge 35, 3) := by decide +kernel
theorem dX7_makeUpTo_94 : decode cX7_makeUpTo 94 = .ok (.iload_n 1, 1) := by decide +kernel
theorem dX7_makeUpTo_95 : decode cX7_makeUpTo 95 = .ok (.iconst 3, 1) := by decide +kernel
theorem dX7_makeUpTo_96 : decode cX7_makeUpTo 96 = .ok (.if_icmp .lt 30, 3) := by decide +kernel
theorem dX7_makeUpTo_99 : decode cX7_makeUpTo 99 = .ok (.aload_n 0, 1) := by decide +kernel
theorem dX7_makeUpTo_100 : decode cX7_makeUpTo 100 = .ok (.getfield 33, 3) := by decide +kernel
theorem dX7_makeUpTo_103 : decode cX7_makeUpTo 103 = .ok (.aload_n 0, 1) := by decide +kernel
theorem dX7_makeUpTo_104 : decode cX7_makeUpTo 104 = .ok (.getfield 12, 3) := by decide +kernel
theorem dX7_makeUpTo_107 : decode cX7_makeUpTo 107 = .ok (.aload_n 0, 1) := by decide +kernel
theorem dX7_makeUpTo_108 : decode cX7_makeUpTo 108 = .ok (.getfield 19, 3) := by decide +kernel
theorem dX7_makeUpTo_111 : decode cX7_makeUpTo 111 = .ok (.aload_n 0, 1) := by decide +kernel
theorem dX7_makeUpTo_112 : decode cX7_makeUpTo 112 = .ok (.getfield 60, 3) := by decide +kernel
theorem dX7_makeUpTo_115 : decode cX7_makeUpTo 115 = .ok (.aload_n 0, 1) := by decide +kernel
theorem dX7_makeUpTo_116 : decode cX7_makeUpTo 116 = .ok (.getfield 56, 3) := by decide +kernel
theorem dX7_makeUpTo_119 : decode cX7_makeUpTo 119 = .ok (.iconst 2, 1) := by decide +kernel
theorem dX7_makeUpTo_120 : decode cX7_makeUpTo 120 = .ok (.invokevirtual 119, 3) := by decide +kernel
theorem dX7_makeUpTo_123 : decode cX7_makeUpTo 123 = .ok (.invokevirtual 221, 3) := by decide +kernel
theorem dX7_makeUpTo_126 : decode cX7_makeUpTo 126 = .ok (.aload_n 0, 1) := by decide +kernel
theorem dX7_makeUpTo_127 : decode cX7_makeUpTo 127 = .ok (.getfield 64, 3) := by decide +kernel
theorem dX7_makeUpTo_130 : decode cX7_makeUpTo 130 = .ok (.iconst 4, 1) := by decide +kernel
theorem dX7_makeUpTo_131 : decode cX7_makeUpTo 131 = .ok (.if_icmp .ge 39, 3) := by decide +kernel
theorem dX7_makeUpTo_134 : decode cX7_makeUpTo 134 = .ok (.iload_n 1, 1) := by decide +kernel
theorem dX7_makeUpTo_135 : decode cX7_makeUpTo 135 = .ok (.iconst 4, 1) := by decide +kernel
theorem dX7_makeUpTo_136 : decode cX7_makeUpTo 136 = .ok (.if_icmp .lt 34, 3) := by decide +kernel
theorem dX7_makeUpTo_139 : decode cX7_makeUpTo 139 = .ok (.aload_n 0, 1) := by decide +kernel
theorem dX7_makeUpTo_140 : decode cX7_makeUpTo 140 = .ok (.getfield 40, 3) := by decide +kernel
theorem dX7_makeUpTo_143 : decode cX7_makeUpTo 143 = .ok (.aload_n 0, 1) := by decide +kernel
theorem dX7_makeUpTo_144 : decode cX7_makeUpTo 144 = .ok (.getfield 12, 3) := by decide +kernel
theorem dX7_makeUpTo_147 : decode cX7_makeUpTo 147 = .ok (.aload_n 0, 1) := by decide +kernel
theorem dX7_makeUpTo_148 : decode cX7_makeUpTo 148 = .ok (.getfield 19, 3) := by decide +kernel
theorem dX7_makeUpTo_151 : decode cX7_makeUpTo 151 = .ok (.aload_n 0, 1) := by decide +kernel
theorem dX7_makeUpTo_152 : decode cX7_makeUpTo 152 = .ok (.getfield 33, 3) := by decide +kernel
theorem dX7_makeUpTo_155 : decode cX7_makeUpTo 155 = .ok (.aload_n 0, 1) := by decide +kernel
theorem dX7_makeUpTo_156 : decode cX7_makeUpTo 156 = .ok (.getfield 47, 3) := by decide +kernel
theorem dX7_makeUpTo_159 : decode cX7_makeUpTo 159 = .ok (.aload_n 0, 1) := by decide +kernel
theorem dX7_makeUpTo_160 : decode cX7_makeUpTo 160 = .ok (.getfield 56, 3) := by decide +kernel
theorem dX7_makeUpTo_163 : decode cX7_makeUpTo 163 = .ok (.iconst 3, 1) := by decide +kernel
theorem dX7_makeUpTo_164 : decode cX7_makeUpTo 164 = .ok (.invokevirtual 119, 3) := by decide +kernel
theorem dX7_makeUpTo_167 : decode cX7_makeUpTo 167 = .ok (.invokevirtual 225, 3) := by decide +kernel
theorem dX7_makeUpTo_170 : decode cX7_makeUpTo 170 = .ok (.aload_n 0, 1) := by decide +kernel
theorem dX7_makeUpTo_171 : decode cX7_makeUpTo 171 = .ok (.aload_n 0, 1) := by decide +kernel
theorem dX7_makeUpTo_172 : decode cX7_makeUpTo 172 = .ok (.getfield 64, 3) := by decide +kernel
theorem dX7_makeUpTo_175 : decode cX7_makeUpTo 175 = .ok (.iload_n 1, 1) := by decide +kernel
theorem dX7_makeUpTo_176 : decode cX7_makeUpTo 176 = .ok (.invokestatic 229, 3) := by decide +kernel
theorem dX7_makeUpTo_179 : decode cX7_makeUpTo 179 = .ok (.putfield 64, 3) := by decide +kernel
theorem dX7_makeUpTo_182 : decode cX7_makeUpTo 182 = .ok (.return_, 1) := by decide +kernel
theorem dX7_isTown_0 : decode cX7_isTown 0 = .ok (.iload_n 1, 1) := by decide +kernel
theorem dX7_isTown_1 : decode cX7_isTown 1 = .ok (.iconst 0, 1) := by decide +kernel
theorem dX7_isTown_2 : decode cX7_isTown 2 = .ok (.aload_n 0, 1) := by decide +kernel
theorem dX7_isTown_3 : decode cX7_isTown 3 = .ok (.getfield 33, 3) := by decide +kernel
theorem dX7_isTown_6 : decode cX7_isTown 6 = .ok (.getfield 173, 3) := by decide +kernel
theorem dX7_isTown_9 : decode cX7_isTown 9 = .ok (.iconst 1, 1) := by decide +kernel
theorem dX7_isTown_10 : decode cX7_isTown 10 = .ok (.isub, 1) := by decide +kernel
theorem dX7_isTown_11 : decode cX7_isTown 11 = .ok (.invokestatic 82, 3) := by decide +kernel
theorem dX7_isTown_14 : decode cX7_isTown 14 = .ok (.ireturn, 1) := by decide +kernel
theorem dX7_signsOf_0 : decode cX7_signsOf 0 = .ok (.aload_n 0, 1) := by decide +kernel
theorem dX7_signsOf_1 : decode cX7_signsOf 1 = .ok (.getfield 19, 3) := by decide +kernel
theorem dX7_signsOf_4 : decode cX7_signsOf 4 = .ok (.getfield 232, 3) := by decide +kernel
theorem dX7_signsOf_7 : decode cX7_signsOf 7 = .ok (.iload_n 1, 1) := by decide +kernel
theorem dX7_signsOf_8 : decode cX7_signsOf 8 = .ok (.invokevirtual 119, 3) := by decide +kernel
theorem dX7_signsOf_11 : decode cX7_signsOf 11 = .ok (.istore_n 2, 1) := by decide +kernel
theorem dX7_signsOf_12 : decode cX7_signsOf 12 = .ok (.aload_n 0, 1) := by decide +kernel
theorem dX7_signsOf_13 : decode cX7_signsOf 13 = .ok (.getfield 33, 3) := by decide +kernel
theorem dX7_signsOf_16 : decode cX7_signsOf 16 = .ok (.iload_n 1, 1) := by decide +kernel
theorem dX7_signsOf_17 : decode cX7_signsOf 17 = .ok (.invokevirtual 235, 3) := by decide +kernel
theorem dX7_signsOf_20 : decode cX7_signsOf 20 = .ok (.ifCond .eq 8, 3) := by decide +kernel
theorem dX7_signsOf_23 : decode cX7_signsOf 23 = .ok (.iload_n 2, 1) := by decide +kernel
theorem dX7_signsOf_24 : decode cX7_signsOf 24 = .ok (.bipush 16, 2) := by decide +kernel
theorem dX7_signsOf_26 : decode cX7_signsOf 26 = .ok (.ior, 1) := by decide +kernel
theorem dX7_signsOf_27 : decode cX7_signsOf 27 = .ok (.istore_n 2, 1) := by decide +kernel
theorem dX7_signsOf_28 : decode cX7_signsOf 28 = .ok (.aload_n 0, 1) := by decide +kernel
theorem dX7_signsOf_29 : decode cX7_signsOf 29 = .ok (.getfield 40, 3) := by decide +kernel
theorem dX7_signsOf_32 : decode cX7_signsOf 32 = .ok (.getfield 199, 3) := by decide +kernel
theorem dX7_signsOf_35 : decode cX7_signsOf 35 = .ok (.iload_n 1, 1) := by decide +kernel
theorem dX7_signsOf_36 : decode cX7_signsOf 36 = .ok (.invokevirtual 119, 3) := by decide +kernel
theorem dX7_signsOf_39 : decode cX7_signsOf 39 = .ok (.ifCond .le 8, 3) := by decide +kernel
theorem dX7_signsOf_42 : decode cX7_signsOf 42 = .ok (.iload_n 2, 1) := by decide +kernel
theorem dX7_signsOf_43 : decode cX7_signsOf 43 = .ok (.bipush 32, 2) := by decide +kernel
theorem dX7_signsOf_45 : decode cX7_signsOf 45 = .ok (.ior, 1) := by decide +kernel
theorem dX7_signsOf_46 : decode cX7_signsOf 46 = .ok (.istore_n 2, 1) := by decide +kernel
theorem dX7_signsOf_47 : decode cX7_signsOf 47 = .ok (.iload_n 2, 1) := by decide +kernel
theorem dX7_signsOf_48 : decode cX7_signsOf 48 = .ok (.ireturn, 1) := by decide +kernel
theorem dX8_init_0 : decode cX8_init 0 = .ok (.aload_n 0, 1) := by decide +kernel
theorem dX8_init_1 : decode cX8_init 1 = .ok (.invokespecial 1, 3) := by decide +kernel
theorem dX8_init_4 : decode cX8_init 4 = .ok (.aload_n 0, 1) := by decide +kernel
theorem dX8_init_5 : decode cX8_init 5 = .ok (.bipush 12, 2) := by decide +kernel
theorem dX8_init_7 : decode cX8_init 7 = .ok (.putfield 7, 3) := by decide +kernel
theorem dX8_init_10 : decode cX8_init 10 = .ok (.aload_n 0, 1) := by decide +kernel
theorem dX8_init_11 : decode cX8_init 11 = .ok (.iconst 4, 1) := by decide +kernel
theorem dX8_init_12 : decode cX8_init 12 = .ok (.newarray .int, 2) := by decide +kernel
theorem dX8_init_14 : decode cX8_init 14 = .ok (.putfield 13, 3) := by decide +kernel
theorem dX8_init_17 : decode cX8_init 17 = .ok (.aload_n 0, 1) := by decide +kernel
theorem dX8_init_18 : decode cX8_init 18 = .ok (.bipush 30, 2) := by decide +kernel
theorem dX8_init_20 : decode cX8_init 20 = .ok (.newarray .int, 2) := by decide +kernel
theorem dX8_init_22 : decode cX8_init 22 = .ok (.putfield 17, 3) := by decide +kernel
theorem dX8_init_25 : decode cX8_init 25 = .ok (.aload_n 0, 1) := by decide +kernel
theorem dX8_init_26 : decode cX8_init 26 = .ok (.bipush 30, 2) := by decide +kernel
theorem dX8_init_28 : decode cX8_init 28 = .ok (.newarray .int, 2) := by decide +kernel
theorem dX8_init_30 : decode cX8_init 30 = .ok (.putfield 20, 3) := by decide +kernel
theorem dX8_init_33 : decode cX8_init 33 = .ok (.aload_n 0, 1) := by decide +kernel
theorem dX8_init_34 : decode cX8_init 34 = .ok (.bipush 30, 2) := by decide +kernel
theorem dX8_init_36 : decode cX8_init 36 = .ok (.newarray .int, 2) := by decide +kernel
theorem dX8_init_38 : decode cX8_init 38 = .ok (.putfield 23, 3) := by decide +kernel
theorem dX8_init_41 : decode cX8_init 41 = .ok (.aload_n 0, 1) := by decide +kernel
theorem dX8_init_42 : decode cX8_init 42 = .ok (.sipush 576, 3) := by decide +kernel
theorem dX8_init_45 : decode cX8_init 45 = .ok (.newarray .int, 2) := by decide +kernel
theorem dX8_init_47 : decode cX8_init 47 = .ok (.putfield 26, 3) := by decide +kernel
theorem dX8_init_50 : decode cX8_init 50 = .ok (.aload_n 0, 1) := by decide +kernel
theorem dX8_init_51 : decode cX8_init 51 = .ok (.sipush 576, 3) := by decide +kernel
theorem dX8_init_54 : decode cX8_init 54 = .ok (.newarray .int, 2) := by decide +kernel
theorem dX8_init_56 : decode cX8_init 56 = .ok (.putfield 29, 3) := by decide +kernel
theorem dX8_init_59 : decode cX8_init 59 = .ok (.aload_n 0, 1) := by decide +kernel
theorem dX8_init_60 : decode cX8_init 60 = .ok (.sipush 576, 3) := by decide +kernel
theorem dX8_init_63 : decode cX8_init 63 = .ok (.newarray .int, 2) := by decide +kernel
theorem dX8_init_65 : decode cX8_init 65 = .ok (.putfield 32, 3) := by decide +kernel
theorem dX8_init_68 : decode cX8_init 68 = .ok (.aload_n 0, 1) := by decide +kernel
theorem dX8_init_69 : decode cX8_init 69 = .ok (.sipush 576, 3) := by decide +kernel
theorem dX8_init_72 : decode cX8_init 72 = .ok (.newarray .int, 2) := by decide +kernel
theorem dX8_init_74 : decode cX8_init 74 = .ok (.putfield 35, 3) := by decide +kernel
theorem dX8_init_77 : decode cX8_init 77 = .ok (.aload_n 0, 1) := by decide +kernel
theorem dX8_init_78 : decode cX8_init 78 = .ok (.sipush 576, 3) := by decide +kernel
theorem dX8_init_81 : decode cX8_init 81 = .ok (.newarray .int, 2) := by decide +kernel
theorem dX8_init_83 : decode cX8_init 83 = .ok (.putfield 38, 3) := by decide +kernel
theorem dX8_init_86 : decode cX8_init 86 = .ok (.aload_n 0, 1) := by decide +kernel
theorem dX8_init_87 : decode cX8_init 87 = .ok (.sipush 576, 3) := by decide +kernel
theorem dX8_init_90 : decode cX8_init 90 = .ok (.newarray .int, 2) := by decide +kernel
theorem dX8_init_92 : decode cX8_init 92 = .ok (.putfield 41, 3) := by decide +kernel
theorem dX8_init_95 : decode cX8_init 95 = .ok (.aload_n 0, 1) := by decide +kernel
theorem dX8_init_96 : decode cX8_init 96 = .ok (.sipush 576, 3) := by decide +kernel
theorem dX8_init_99 : decode cX8_init 99 = .ok (.newarray .int, 2) := by decide +kernel
theorem dX8_init_101 : decode cX8_init 101 = .ok (.putfield 44, 3) := by decide +kernel
theorem dX8_init_104 : decode cX8_init 104 = .ok (.aload_n 0, 1) := by decide +kernel
theorem dX8_init_105 : decode cX8_init 105 = .ok (.bipush 6, 2) := by decide +kernel
theorem dX8_init_107 : decode cX8_init 107 = .ok (.newarray .int, 2) := by decide +kernel
theorem dX8_init_109 : decode cX8_init 109 = .ok (.putfield 47, 3) := by decide +kernel
theorem dX8_init_112 : decode cX8_init 112 = .ok (.aload_n 0, 1) := by decide +kernel
theorem dX8_init_113 : decode cX8_init 113 = .ok (.bipush 6, 2) := by decide +kernel
theorem dX8_init_115 : decode cX8_init 115 = .ok (.newarray .int, 2) := by decide +kernel
theorem dX8_init_117 : decode cX8_init 117 = .ok (.putfield 50, 3) := by decide +kernel
theorem dX8_init_120 : decode cX8_init 120 = .ok (.aload_n 0, 1) := by decide +kernel
theorem dX8_init_121 : decode cX8_init 121 = .ok (.bipush 6, 2) := by decide +kernel
theorem dX8_init_123 : decode cX8_init 123 = .ok (.newarray .int, 2) := by decide +kernel
theorem dX8_init_125 : decode cX8_init 125 = .ok (.putfield 53, 3) := by decide +kernel
theorem dX8_init_128 : decode cX8_init 128 = .ok (.aload_n 0, 1) := by decide +kernel
theorem dX8_init_129 : decode cX8_init 129 = .ok (.sipush 576, 3) := by decide +kernel
theorem dX8_init_132 : decode cX8_init 132 = .ok (.newarray .int, 2) := by decide +kernel
theorem dX8_init_134 : decode cX8_init 134 = .ok (.putfield 56, 3) := by decide +kernel
theorem dX8_init_137 : decode cX8_init 137 = .ok (.aload_n 0, 1) := by decide +kernel
theorem dX8_init_138 : decode cX8_init 138 = .ok (.sipush 576, 3) := by decide +kernel
theorem dX8_init_141 : decode cX8_init 141 = .ok (.newarray .int, 2) := by decide +kernel
theorem dX8_init_143 : decode cX8_init 143 = .ok (.putfield 59, 3) := by decide +kernel
theorem dX8_init_146 : decode cX8_init 146 = .ok (.aload_n 0, 1) := by decide +kernel
theorem dX8_init_147 : decode cX8_init 147 = .ok (.sipush 576, 3) := by decide +kernel
theorem dX8_init_150 : decode cX8_init 150 = .ok (.newarray .boolean, 2) := by decide +kernel
theorem dX8_init_152 : decode cX8_init 152 = .ok (.putfield 62, 3) := by decide +kernel
theorem dX8_init_155 : decode cX8_init 155 = .ok (.aload_n 0, 1) := by decide +kernel
theorem dX8_init_156 : decode cX8_init 156 = .ok (.sipush 576, 3) := by decide +kernel
theorem dX8_init_159 : decode cX8_init 159 = .ok (.newarray .int, 2) := by decide +kernel
theorem dX8_init_161 : decode cX8_init 161 = .ok (.putfield 66, 3) := by decide +kernel
theorem dX8_init_164 : decode cX8_init 164 = .ok (.aload_n 0, 1) := by decide +kernel
theorem dX8_init_165 : decode cX8_init 165 = .ok (.getfield 13, 3) := by decide +kernel
theorem dX8_init_168 : decode cX8_init 168 = .ok (.iconst 0, 1) := by decide +kernel
theorem dX8_init_169 : decode cX8_init 169 = .ok (.bipush 80, 2) := by decide +kernel
theorem dX8_init_171 : decode cX8_init 171 = .ok (.iastore, 1) := by decide +kernel
theorem dX8_init_172 : decode cX8_init 172 = .ok (.aload_n 0, 1) := by decide +kernel
theorem dX8_init_173 : decode cX8_init 173 = .ok (.getfield 13, 3) := by decide +kernel
theorem dX8_init_176 : decode cX8_init 176 = .ok (.iconst 1, 1) := by decide +kernel
theorem dX8_init_177 : decode cX8_init 177 = .ok (.bipush 8, 2) := by decide +kernel
theorem dX8_init_179 : decode cX8_init 179 = .ok (.iastore, 1) := by decide +kernel
theorem dX8_init_180 : decode cX8_init 180 = .ok (.aload_n 0, 1) := by decide +kernel
theorem dX8_init_181 : decode cX8_init 181 = .ok (.getfield 13, 3) := by decide +kernel
theorem dX8_init_184 : decode cX8_init 184 = .ok (.iconst 2, 1) := by decide +kernel
theorem dX8_init_185 : decode cX8_init 185 = .ok (.iconst 4, 1) := by decide +kernel
theorem dX8_init_186 : decode cX8_init 186 = .ok (.iastore, 1) := by decide +kernel
theorem dX8_init_187 : decode cX8_init 187 = .ok (.aload_n 0, 1) := by decide +kernel
theorem dX8_init_188 : decode cX8_init 188 = .ok (.getfield 13, 3) := by decide +kernel
theorem dX8_init_191 : decode cX8_init 191 = .ok (.iconst 3, 1) := by decide +kernel
theorem dX8_init_192 : decode cX8_init 192 = .ok (.bipush 20, 2) := by decide +kernel
theorem dX8_init_194 : decode cX8_init 194 = .ok (.iastore, 1) := by decide +kernel
theorem dX8_init_195 : decode cX8_init 195 = .ok (.return_, 1) := by decide +kernel
theorem dX8_in_0 : decode cX8_in 0 = .ok (.iload_n 0, 1) := by decide +kernel
theorem dX8_in_1 : decode cX8_in 1 = .ok (.iload_n 1, 1) := by decide +kernel
theorem dX8_in_2 : decode cX8_in 2 = .ok (.if_icmp .lt 12, 3) := by decide +kernel
theorem dX8_in_5 : decode cX8_in 5 = .ok (.iload_n 0, 1) := by decide +kernel
theorem dX8_in_6 : decode cX8_in 6 = .ok (.iload_n 2, 1) := by decide +kernel
theorem dX8_in_7 : decode cX8_in 7 = .ok (.if_icmp .gt 7, 3) := by decide +kernel
theorem dX8_in_10 : decode cX8_in 10 = .ok (.iconst 1, 1) := by decide +kernel
theorem dX8_in_11 : decode cX8_in 11 = .ok (.goto 4, 3) := by decide +kernel
theorem dX8_in_14 : decode cX8_in 14 = .ok (.iconst 0, 1) := by decide +kernel
theorem dX8_in_15 : decode cX8_in 15 = .ok (.ireturn, 1) := by decide +kernel
theorem dX8_isPlace_0 : decode cX8_isPlace 0 = .ok (.iload_n 1, 1) := by decide +kernel
theorem dX8_isPlace_1 : decode cX8_isPlace 1 = .ok (.iconst 0, 1) := by decide +kernel
theorem dX8_isPlace_2 : decode cX8_isPlace 2 = .ok (.aload_n 0, 1) := by decide +kernel
theorem dX8_isPlace_3 : decode cX8_isPlace 3 = .ok (.getfield 7, 3) := by decide +kernel
theorem dX8_isPlace_6 : decode cX8_isPlace 6 = .ok (.aload_n 0, 1) := by decide +kernel
theorem dX8_isPlace_7 : decode cX8_isPlace 7 = .ok (.getfield 7, 3) := by decide +kernel
theorem dX8_isPlace_10 : decode cX8_isPlace 10 = .ok (.imul, 1) := by decide +kernel
theorem dX8_isPlace_11 : decode cX8_isPlace 11 = .ok (.iconst 1, 1) := by decide +kernel
theorem dX8_isPlace_12 : decode cX8_isPlace 12 = .ok (.isub, 1) := by decide +kernel
theorem dX8_isPlace_13 : decode cX8_isPlace 13 = .ok (.invokestatic 69, 3) := by decide +kernel
theorem dX8_isPlace_16 : decode cX8_isPlace 16 = .ok (.ireturn, 1) := by decide +kernel
theorem dX8_seed_0 : decode cX8_seed 0 = .ok (.aload_n 0, 1) := by decide +kernel
theorem dX8_seed_1 : decode cX8_seed 1 = .ok (.getfield 73, 3) := by decide +kernel
theorem dX8_seed_4 : decode cX8_seed 4 = .ok (.istore_n 2, 1) := by decide +kernel
theorem dX8_seed_5 : decode cX8_seed 5 = .ok (.aload_n 0, 1) := by decide +kernel
theorem dX8_seed_6 : decode cX8_seed 6 = .ok (.iload_n 1, 1) := by decide +kernel
theorem dX8_seed_7 : decode cX8_seed 7 = .ok (.putfield 73, 3) := by decide +kernel
theorem dX8_seed_10 : decode cX8_seed 10 = .ok (.aload_n 0, 1) := by decide +kernel
theorem dX8_seed_11 : decode cX8_seed 11 = .ok (.iconst 0, 1) := by decide +kernel
theorem dX8_seed_12 : decode cX8_seed 12 = .ok (.putfield 76, 3) := by decide +kernel
theorem dX8_seed_15 : decode cX8_seed 15 = .ok (.iload_n 2, 1) := by decide +kernel
theorem dX8_seed_16 : decode cX8_seed 16 = .ok (.ireturn, 1) := by decide +kernel
theorem dX8_corner_0 : decode cX8_corner 0 = .ok (.aload_n 0, 1) := by decide +kernel
theorem dX8_corner_1 : decode cX8_corner 1 = .ok (.getfield 73, 3) := by decide +kernel
theorem dX8_corner_4 : decode cX8_corner 4 = .ok (.ldc 80, 2) := by decide +kernel
theorem dX8_corner_6 : decode cX8_corner 6 = .ok (.imul, 1) := by decide +kernel
theorem dX8_corner_7 : decode cX8_corner 7 = .ok (.iload_n 1, 1) := by decide +kernel
theorem dX8_corner_8 : decode cX8_corner 8 = .ok (.ldc 81, 2) := by decide +kernel
theorem dX8_corner_10 : decode cX8_corner 10 = .ok (.imul, 1) := by decide +kernel
theorem dX8_corner_11 : decode cX8_corner 11 = .ok (.iadd, 1) := by decide +kernel
theorem dX8_corner_12 : decode cX8_corner 12 = .ok (.iload_n 2, 1) := by decide +kernel
theorem dX8_corner_13 : decode cX8_corner 13 = .ok (.ldc 82, 2) := by decide +kernel
theorem dX8_corner_15 : decode cX8_corner 15 = .ok (.imul, 1) := by decide +kernel
theorem dX8_corner_16 : decode cX8_corner 16 = .ok (.iadd, 1) := by decide +kernel
theorem dX8_corner_17 : decode cX8_corner 17 = .ok (.iload_n 3, 1) := by decide +kernel
theorem dX8_corner_18 : decode cX8_corner 18 = .ok (.ldc 83, 2) := by decide +kernel
theorem dX8_corner_20 : decode cX8_corner 20 = .ok (.imul, 1) := by decide +kernel
theorem dX8_corner_21 : decode cX8_corner 21 = .ok (.iadd, 1) := by decide +kernel
theorem dX8_corner_22 : decode cX8_corner 22 = .ok (.istore 4, 2) := by decide +kernel
theorem dX8_corner_24 : decode cX8_corner 24 = .ok (.iconst 0, 1) := by decide +kernel
theorem dX8_corner_25 : decode cX8_corner 25 = .ok (.istore 5, 2) := by decide +kernel
theorem dX8_corner_27 : decode cX8_corner 27 = .ok (.iload 5, 2) := by decide +kernel
theorem dX8_corner_29 : decode cX8_corner 29 = .ok (.iconst 2, 1) := by decide +kernel
theorem dX8_corner_30 : decode cX8_corner 30 = .ok (.if_icmp .ge 22, 3) := by decide +kernel
theorem dX8_corner_33 : decode cX8_corner 33 = .ok (.iload 4, 2) := by decide +kernel
theorem dX8_corner_35 : decode cX8_corner 35 = .ok (.iload 4, 2) := by decide +kernel
theorem dX8_corner_37 : decode cX8_corner 37 = .ok (.bipush 15, 2) := by decide +kernel
theorem dX8_corner_39 : decode cX8_corner 39 = .ok (.iushr, 1) := by decide +kernel
theorem dX8_corner_40 : decode cX8_corner 40 = .ok (.ixor, 1) := by decide +kernel
theorem dX8_corner_41 : decode cX8_corner 41 = .ok (.ldc 84, 2) := by decide +kernel
theorem dX8_corner_43 : decode cX8_corner 43 = .ok (.imul, 1) := by decide +kernel
theorem dX8_corner_44 : decode cX8_corner 44 = .ok (.istore 4, 2) := by decide +kernel
theorem dX8_corner_46 : decode cX8_corner 46 = .ok (.iinc 5 1, 3) := by decide +kernel
theorem dX8_corner_49 : decode cX8_corner 49 = .ok (.goto (-22), 3) := by decide +kernel
theorem dX8_corner_52 : decode cX8_corner 52 = .ok (.iload 4, 2) := by decide +kernel
theorem dX8_corner_54 : decode cX8_corner 54 = .ok (.bipush 16, 2) := by decide +kernel
theorem dX8_corner_56 : decode cX8_corner 56 = .ok (.iushr, 1) := by decide +kernel
theorem dX8_corner_57 : decode cX8_corner 57 = .ok (.sipush 255, 3) := by decide +kernel
theorem dX8_corner_60 : decode cX8_corner 60 = .ok (.iand, 1) := by decide +kernel
theorem dX8_corner_61 : decode cX8_corner 61 = .ok (.ireturn, 1) := by decide +kernel
theorem dX8_layer_0 : decode cX8_layer 0 = .ok (.iload_n 1, 1) := by decide +kernel
theorem dX8_layer_1 : decode cX8_layer 1 = .ok (.ifCond .ne 8, 3) := by decide +kernel
theorem dX8_layer_4 : decode cX8_layer 4 = .ok (.bipush 8, 2) := by decide +kernel
theorem dX8_layer_6 : decode cX8_layer 6 = .ok (.goto 13, 3) := by decide +kernel
theorem dX8_layer_9 : decode cX8_layer 9 = .ok (.iload_n 1, 1) := by decide +kernel
theorem dX8_layer_10 : decode cX8_layer 10 = .ok (.iconst 1, 1) := by decide +kernel
theorem dX8_layer_11 : decode cX8_layer 11 = .ok (.if_icmp .ne 7, 3) := by decide +kernel
theorem dX8_layer_14 : decode cX8_layer 14 = .ok (.iconst 4, 1) := by decide +kernel
theorem dX8_layer_15 : decode cX8_layer 15 = .ok (.goto 4, 3) := by decide +kernel
theorem dX8_layer_18 : decode cX8_layer 18 = .ok (.iconst 2, 1) := by decide +kernel
theorem dX8_layer_19 : decode cX8_layer 19 = .ok (.istore 4, 2) := by decide +kernel
theorem dX8_layer_21 : decode cX8_layer 21 = .ok (.iload_n 2, 1) := by decide +kernel
theorem dX8_layer_22 : decode cX8_layer 22 = .ok (.iload 4, 2) := by decide +kernel
theorem dX8_layer_24 : decode cX8_layer 24 = .ok (.idiv, 1) := by decide +kernel
theorem dX8_layer_25 : decode cX8_layer 25 = .ok (.istore 5, 2) := by decide +kernel
theorem dX8_layer_27 : decode cX8_layer 27 = .ok (.iload_n 3, 1) := by decide +kernel
theorem dX8_layer_28 : decode cX8_layer 28 = .ok (.iload 4, 2) := by decide +kernel
theorem dX8_layer_30 : decode cX8_layer 30 = .ok (.idiv, 1) := by decide +kernel
theorem dX8_layer_31 : decode cX8_layer 31 = .ok (.istore 6, 2) := by decide +kernel
theorem dX8_layer_33 : decode cX8_layer 33 = .ok (.iload_n 2, 1) := by decide +kernel
theorem dX8_layer_34 : decode cX8_layer 34 = .ok (.iload 4, 2) := by decide +kernel
theorem dX8_layer_36 : decode cX8_layer 36 = .ok (.irem, 1) := by decide +kernel
theorem dX8_layer_37 : decode cX8_layer 37 = .ok (.istore 7, 2) := by decide +kernel
theorem dX8_layer_39 : decode cX8_layer 39 = .ok (.iload_n 3, 1) := by decide +kernel
theorem dX8_layer_40 : decode cX8_layer 40 = .ok (.iload 4, 2) := by decide +kernel
theorem dX8_layer_42 : decode cX8_layer 42 = .ok (.irem, 1) := by decide +kernel
theorem dX8_layer_43 : decode cX8_layer 43 = .ok (.istore 8, 2) := by decide +kernel
theorem dX8_layer_45 : decode cX8_layer 45 = .ok (.aload_n 0, 1) := by decide +kernel
theorem dX8_layer_46 : decode cX8_layer 46 = .ok (.iload_n 1, 1) := by decide +kernel
theorem dX8_layer_47 : decode cX8_layer 47 = .ok (.iload 5, 2) := by decide +kernel
theorem dX8_layer_49 : decode cX8_layer 49 = .ok (.iload 6, 2) := by decide +kernel
theorem dX8_layer_51 : decode cX8_layer 51 = .ok (.invokevirtual 85, 3) := by decide +kernel
theorem dX8_layer_54 : decode cX8_layer 54 = .ok (.iload 4, 2) := by decide +kernel
theorem dX8_layer_56 : decode cX8_layer 56 = .ok (.iload 7, 2) := by decide +kernel
theorem dX8_layer_58 : decode cX8_layer 58 = .ok (.isub, 1) := by decide +kernel
theorem dX8_layer_59 : decode cX8_layer 59 = .ok (.imul, 1) := by decide +kernel
theorem dX8_layer_60 : decode cX8_layer 60 = .ok (.aload_n 0, 1) := by decide +kernel
theorem dX8_layer_61 : decode cX8_layer 61 = .ok (.iload_n 1, 1) := by decide +kernel
theorem dX8_layer_62 : decode cX8_layer 62 = .ok (.iload 5, 2) := by decide +kernel
theorem dX8_layer_64 : decode cX8_layer 64 = .ok (.iconst 1, 1) := by decide +kernel
theorem dX8_layer_65 : decode cX8_layer 65 = .ok (.iadd, 1) := by decide +kernel
theorem dX8_layer_66 : decode cX8_layer 66 = .ok (.iload 6, 2) := by decide +kernel
theorem dX8_layer_68 : decode cX8_layer 68 = .ok (.invokevirtual 85, 3) := by decide +kernel
theorem dX8_layer_71 : decode cX8_layer 71 = .ok (.iload 7, 2) := by decide +kernel
theorem dX8_layer_73 : decode cX8_layer 73 = .ok (.imul, 1) := by decide +kernel
theorem dX8_layer_74 : decode cX8_layer 74 = .ok (.iadd, 1) := by decide +kernel
theorem dX8_layer_75 : decode cX8_layer 75 = .ok (.istore 9, 2) := by decide +kernel
theorem dX8_layer_77 : decode cX8_layer 77 = .ok (.aload_n 0, 1) := by decide +kernel
theorem dX8_layer_78 : decode cX8_layer 78 = .ok (.iload_n 1, 1) := by decide +kernel
theorem dX8_layer_79 : decode cX8_layer 79 = .ok (.iload 5, 2) := by decide +kernel
theorem dX8_layer_81 : decode cX8_layer 81 = .ok (.iload 6, 2) := by decide +kernel
theorem dX8_layer_83 : decode cX8_layer 83 = .ok (.iconst 1, 1) := by decide +kernel
theorem dX8_layer_84 : decode cX8_layer 84 = .ok (.iadd, 1) := by decide +kernel
theorem dX8_layer_85 : decode cX8_layer 85 = .ok (.invokevirtual 85, 3) := by decide +kernel
theorem dX8_layer_88 : decode cX8_layer 88 = .ok (.iload 4, 2) := by decide +kernel
theorem dX8_layer_90 : decode cX8_layer 90 = .ok (.iload 7, 2) := by decide +kernel
theorem dX8_layer_92 : decode cX8_layer 92 = .ok (.isub, 1) := by decide +kernel
theorem dX8_layer_93 : decode cX8_layer 93 = .ok (.imul, 1) := by decide +kernel
theorem dX8_layer_94 : decode cX8_layer 94 = .ok (.aload_n 0, 1) := by decide +kernel
theorem dX8_layer_95 : decode cX8_layer 95 = .ok (.iload_n 1, 1) := by decide +kernel
theorem dX8_layer_96 : decode cX8_layer 96 = .ok (.iload 5, 2) := by decide +kernel
theorem dX8_layer_98 : decode cX8_layer 98 = .ok (.iconst 1, 1) := by decide +kernel
theorem dX8_layer_99 : decode cX8_layer 99 = .ok (.iadd, 1) := by decide +kernel
theorem dX8_layer_100 : decode cX8_layer 100 = .ok (.iload 6, 2) := by decide +kernel
theorem dX8_layer_102 : decode cX8_layer 102 = .ok (.iconst 1, 1) := by decide +kernel
theorem dX8_layer_103 : decode cX8_layer 103 = .ok (.iadd, 1) := by decide +kernel
theorem dX8_layer_104 : decode cX8_layer 104 = .ok (.invokevirtual 85, 3) := by decide +kernel
theorem dX8_layer_107 : decode cX8_layer 107 = .ok (.iload 7, 2) := by decide +kernel
theorem dX8_layer_109 : decode cX8_layer 109 = .ok (.imul, 1) := by decide +kernel
theorem dX8_layer_110 : decode cX8_layer 110 = .ok (.iadd, 1) := by decide +kernel
theorem dX8_layer_111 : decode cX8_layer 111 = .ok (.istore 10, 2) := by decide +kernel
theorem dX8_layer_113 : decode cX8_layer 113 = .ok (.iload 9, 2) := by decide +kernel
theorem dX8_layer_115 : decode cX8_layer 115 = .ok (.iload 4, 2) := by decide +kernel
theorem dX8_layer_117 : decode cX8_layer 117 = .ok (.iload 8, 2) := by decide +kernel
theorem dX8_layer_119 : decode cX8_layer 119 = .ok (.isub, 1) := by decide +kernel
theorem dX8_layer_120 : decode cX8_layer 120 = .ok (.imul, 1) := by decide +kernel
theorem dX8_layer_121 : decode cX8_layer 121 = .ok (.iload 10, 2) := by decide +kernel
theorem dX8_layer_123 : decode cX8_layer 123 = .ok (.iload 8, 2) := by decide +kernel
theorem dX8_layer_125 : decode cX8_layer 125 = .ok (.imul, 1) := by decide +kernel
theorem dX8_layer_126 : decode cX8_layer 126 = .ok (.iadd, 1) := by decide +kernel
theorem dX8_layer_127 : decode cX8_layer 127 = .ok (.iload 4, 2) := by decide +kernel
theorem dX8_layer_129 : decode cX8_layer 129 = .ok (.iload 4, 2) := by decide +kernel
theorem dX8_layer_131 : decode cX8_layer 131 = .ok (.imul, 1) := by decide +kernel
theorem dX8_layer_132 : decode cX8_layer 132 = .ok (.idiv, 1) := by decide +kernel
theorem dX8_layer_133 : decode cX8_layer 133 = .ok (.ireturn, 1) := by decide +kernel
theorem dX8_groundAt_0 : decode cX8_groundAt 0 = .ok (.iconst 4, 1) := by decide +kernel
theorem dX8_groundAt_1 : decode cX8_groundAt 1 = .ok (.aload_n 0, 1) := by decide +kernel
theorem dX8_groundAt_2 : decode cX8_groundAt 2 = .ok (.iconst 0, 1) := by decide +kernel
theorem dX8_groundAt_3 : decode cX8_groundAt 3 = .ok (.iload_n 1, 1) := by decide +kernel
theorem dX8_groundAt_4 : decode cX8_groundAt 4 = .ok (.iload_n 2, 1) := by decide +kernel
theorem dX8_groundAt_5 : decode cX8_groundAt 5 = .ok (.invokevirtual 89, 3) := by decide +kernel
theorem dX8_groundAt_8 : decode cX8_groundAt 8 = .ok (.imul, 1) := by decide +kernel
theorem dX8_groundAt_9 : decode cX8_groundAt 9 = .ok (.iconst 2, 1) := by decide +kernel
theorem dX8_groundAt_10 : decode cX8_groundAt 10 = .ok (.aload_n 0, 1) := by decide +kernel
theorem dX8_groundAt_11 : decode cX8_groundAt 11 = .ok (.iconst 1, 1) := by decide +kernel
theorem dX8_groundAt_12 : decode cX8_groundAt 12 = .ok (.iload_n 1, 1) := by decide +kernel
theorem dX8_groundAt_13 : decode cX8_groundAt 13 = .ok (.iload_n 2, 1) := by decide +kernel
theorem dX8_groundAt_14 : decode cX8_groundAt 14 = .ok (.invokevirtual 89, 3) := by decide +kernel
theorem dX8_groundAt_17 : decode cX8_groundAt 17 = .ok (.imul, 1) := by decide +kernel
theorem dX8_groundAt_18 : decode cX8_groundAt 18 = .ok (.iadd, 1) := by decide +kernel
theorem dX8_groundAt_19 : decode cX8_groundAt 19 = .ok (.aload_n 0, 1) := by decide +kernel
theorem dX8_groundAt_20 : decode cX8_groundAt 20 = .ok (.iconst 2, 1) := by decide +kernel
theorem dX8_groundAt_21 : decode cX8_groundAt 21 = .ok (.iload_n 1, 1) := by decide +kernel
theorem dX8_groundAt_22 : decode cX8_groundAt 22 = .ok (.iload_n 2, 1) := by decide +kernel
theorem dX8_groundAt_23 : decode cX8_groundAt 23 = .ok (.invokevirtual 89, 3) := by decide +kernel
theorem dX8_groundAt_26 : decode cX8_groundAt 26 = .ok (.iadd, 1) := by decide +kernel
theorem dX8_groundAt_27 : decode cX8_groundAt 27 = .ok (.bipush 7, 2) := by decide +kernel
theorem dX8_groundAt_29 : decode cX8_groundAt 29 = .ok (.idiv, 1) := by decide +kernel
theorem dX8_groundAt_30 : decode cX8_groundAt 30 = .ok (.ireturn, 1) := by decide +kernel
theorem dX8_ground_0 : decode cX8_ground 0 = .ok (.iload_n 1, 1) := by decide +kernel
theorem dX8_ground_1 : decode cX8_ground 1 = .ok (.iconst 0, 1) := by decide +kernel
theorem dX8_ground_2 : decode cX8_ground 2 = .ok (.ldc 92, 2) := by decide +kernel
theorem dX8_ground_4 : decode cX8_ground 4 = .ok (.invokestatic 69, 3) := by decide +kernel
theorem dX8_ground_7 : decode cX8_ground 7 = .ok (.ifCond .eq 22, 3) := by decide +kernel
theorem dX8_ground_10 : decode cX8_ground 10 = .ok (.iload_n 2, 1) := by decide +kernel
theorem dX8_ground_11 : decode cX8_ground 11 = .ok (.iconst 0, 1) := by decide +kernel
theorem dX8_ground_12 : decode cX8_ground 12 = .ok (.ldc 92, 2) := by decide +kernel
theorem dX8_ground_14 : decode cX8_ground 14 = .ok (.invokestatic 69, 3) := by decide +kernel
theorem dX8_ground_17 : decode cX8_ground 17 = .ok (.ifCond .eq 12, 3) := by decide +kernel
theorem dX8_ground_20 : decode cX8_ground 20 = .ok (.aload_n 0, 1) := by decide +kernel
theorem dX8_ground_21 : decode cX8_ground 21 = .ok (.iload_n 1, 1) := by decide +kernel
theorem dX8_ground_22 : decode cX8_ground 22 = .ok (.iload_n 2, 1) := by decide +kernel
theorem dX8_ground_23 : decode cX8_ground 23 = .ok (.invokevirtual 93, 3) := by decide +kernel
theorem dX8_ground_26 : decode cX8_ground 26 = .ok (.goto 5, 3) := by decide +kernel
theorem dX8_ground_29 : decode cX8_ground 29 = .ok (.bipush (-2), 2) := by decide +kernel
theorem dX8_ground_31 : decode cX8_ground 31 = .ok (.ireturn, 1) := by decide +kernel
theorem dX8_size_0 : decode cX8_size 0 = .ok (.iload_n 1, 1) := by decide +kernel
theorem dX8_size_1 : decode cX8_size 1 = .ok (.iconst 4, 1) := by decide +kernel
theorem dX8_size_2 : decode cX8_size 2 = .ok (.bipush 24, 2) := by decide +kernel
theorem dX8_size_4 : decode cX8_size 4 = .ok (.invokestatic 69, 3) := by decide +kernel
theorem dX8_size_7 : decode cX8_size 7 = .ok (.ifCond .ne 6, 3) := by decide +kernel
theorem dX8_size_10 : decode cX8_size 10 = .ok (.bipush (-2), 2) := by decide +kernel
theorem dX8_size_12 : decode cX8_size 12 = .ok (.ireturn, 1) := by decide +kernel
theorem dX8_size_13 : decode cX8_size 13 = .ok (.aload_n 0, 1) := by decide +kernel
theorem dX8_size_14 : decode cX8_size 14 = .ok (.getfield 7, 3) := by decide +kernel
theorem dX8_size_17 : decode cX8_size 17 = .ok (.istore_n 2, 1) := by decide +kernel
theorem dX8_size_18 : decode cX8_size 18 = .ok (.aload_n 0, 1) := by decide +kernel
theorem dX8_size_19 : decode cX8_size 19 = .ok (.iload_n 1, 1) := by decide +kernel
theorem dX8_size_20 : decode cX8_size 20 = .ok (.putfield 7, 3) := by decide +kernel
theorem dX8_size_23 : decode cX8_size 23 = .ok (.aload_n 0, 1) := by decide +kernel
theorem dX8_size_24 : decode cX8_size 24 = .ok (.iconst 0, 1) := by decide +kernel
theorem dX8_size_25 : decode cX8_size 25 = .ok (.putfield 76, 3) := by decide +kernel
theorem dX8_size_28 : decode cX8_size 28 = .ok (.iload_n 2, 1) := by decide +kernel
theorem dX8_size_29 : decode cX8_size 29 = .ok (.ireturn, 1) := by decide +kernel
theorem dX8_window_0 : decode cX8_window 0 = .ok (.iload_n 1, 1) := by decide +kernel
theorem dX8_window_1 : decode cX8_window 1 = .ok (.iconst 0, 1) := by decide +kernel
theorem dX8_window_2 : decode cX8_window 2 = .ok (.ldc 97, 2) := by decide +kernel
theorem dX8_window_4 : decode cX8_window 4 = .ok (.invokestatic 69, 3) := by decide +kernel
theorem dX8_window_7 : decode cX8_window 7 = .ok (.ifCond .eq 13, 3) := by decide +kernel
theorem dX8_window_10 : decode cX8_window 10 = .ok (.iload_n 2, 1) := by decide +kernel
theorem dX8_window_11 : decode cX8_window 11 = .ok (.iconst 0, 1) := by decide +kernel
theorem dX8_window_12 : decode cX8_window 12 = .ok (.ldc 97, 2) := by decide +kernel
theorem dX8_window_14 : decode cX8_window 14 = .ok (.invokestatic 69, 3) := by decide +kernel
theorem dX8_window_17 : decode cX8_window 17 = .ok (.ifCond .ne 6, 3) := by decide +kernel
theorem dX8_window_20 : decode cX8_window 20 = .ok (.bipush (-2), 2) := by decide +kernel
theorem dX8_window_22 : decode cX8_window 22 = .ok (.ireturn, 1) := by decide +kernel
theorem dX8_window_23 : decode cX8_window 23 = .ok (.aload_n 0, 1) := by decide +kernel
theorem dX8_window_24 : decode cX8_window 24 = .ok (.iload_n 1, 1) := by decide +kernel
theorem dX8_window_25 : decode cX8_window 25 = .ok (.putfield 98, 3) := by decide +kernel
theorem dX8_window_28 : decode cX8_window 28 = .ok (.aload_n 0, 1) := by decide +kernel
theorem dX8_window_29 : decode cX8_window 29 = .ok (.iload_n 2, 1) := by decide +kernel
theorem dX8_window_30 : decode cX8_window 30 = .ok (.putfield 101, 3) := by decide +kernel
theorem dX8_window_33 : decode cX8_window 33 = .ok (.aload_n 0, 1) := by decide +kernel
theorem dX8_window_34 : decode cX8_window 34 = .ok (.iconst 0, 1) := by decide +kernel
theorem dX8_window_35 : decode cX8_window 35 = .ok (.putfield 76, 3) := by decide +kernel
theorem dX8_window_38 : decode cX8_window 38 = .ok (.iconst 1, 1) := by decide +kernel
theorem dX8_window_39 : decode cX8_window 39 = .ok (.ireturn, 1) := by decide +kernel
theorem dX8_change_0 : decode cX8_change 0 = .ok (.aload_n 0, 1) := by decide +kernel
theorem dX8_change_1 : decode cX8_change 1 = .ok (.iload_n 1, 1) := by decide +kernel
theorem dX8_change_2 : decode cX8_change 2 = .ok (.invokevirtual 104, 3) := by decide +kernel
theorem dX8_change_5 : decode cX8_change 5 = .ok (.ifCond .ne 5, 3) := by decide +kernel
theorem dX8_change_8 : decode cX8_change 8 = .ok (.iconst (-1), 1) := by decide +kernel
theorem dX8_change_9 : decode cX8_change 9 = .ok (.ireturn, 1) := by decide +kernel
theorem dX8_change_10 : decode cX8_change 10 = .ok (.iload_n 2, 1) := by decide +kernel
theorem dX8_change_11 : decode cX8_change 11 = .ok (.sipush (-400), 3) := by decide +kernel
theorem dX8_change_14 : decode cX8_change 14 = .ok (.sipush 400, 3) := by decide +kernel
theorem dX8_change_17 : decode cX8_change 17 = .ok (.invokestatic 69, 3) := by decide +kernel
theorem dX8_change_20 : decode cX8_change 20 = .ok (.ifCond .eq 7, 3) := by decide +kernel
theorem dX8_change_23 : decode cX8_change 23 = .ok (.iload_n 2, 1) := by decide +kernel
theorem dX8_change_24 : decode cX8_change 24 = .ok (.ifCond .ne 6, 3) := by decide +kernel
theorem dX8_change_27 : decode cX8_change 27 = .ok (.bipush (-2), 2) := by decide +kernel
theorem dX8_change_29 : decode cX8_change 29 = .ok (.ireturn, 1) := by decide +kernel
theorem dX8_change_30 : decode cX8_change 30 = .ok (.aload_n 0, 1) := by decide +kernel
theorem dX8_change_31 : decode cX8_change 31 = .ok (.getfield 108, 3) := by decide +kernel
theorem dX8_change_34 : decode cX8_change 34 = .ok (.bipush 30, 2) := by decide +kernel
theorem dX8_change_36 : decode cX8_change 36 = .ok (.if_icmp .ne 6, 3) := by decide +kernel
theorem dX8_change_39 : decode cX8_change 39 = .ok (.bipush (-4), 2) := by decide +kernel
theorem dX8_change_41 : decode cX8_change 41 = .ok (.ireturn, 1) := by decide +kernel
theorem dX8_change_42 : decode cX8_change 42 = .ok (.aload_n 0, 1) := by decide +kernel
theorem dX8_change_43 : decode cX8_change 43 = .ok (.getfield 17, 3) := by decide +kernel
theorem dX8_change_46 : decode cX8_change 46 = .ok (.aload_n 0, 1) := by decide +kernel
theorem dX8_change_47 : decode cX8_change 47 = .ok (.getfield 108, 3) := by decide +kernel
theorem dX8_change_50 : decode cX8_change 50 = .ok (.aload_n 0, 1) := by decide +kernel
theorem dX8_change_51 : decode cX8_change 51 = .ok (.getfield 98, 3) := by decide +kernel
theorem dX8_change_54 : decode cX8_change 54 = .ok (.iload_n 1, 1) := by decide +kernel
theorem dX8_change_55 : decode cX8_change 55 = .ok (.aload_n 0, 1) := by decide +kernel
theorem dX8_change_56 : decode cX8_change 56 = .ok (.getfield 7, 3) := by decide +kernel
theorem dX8_change_59 : decode cX8_change 59 = .ok (.irem, 1) := by decide +kernel
theorem dX8_change_60 : decode cX8_change 60 = .ok (.iadd, 1) := by decide +kernel
theorem dX8_change_61 : decode cX8_change 61 = .ok (.iastore, 1) := by decide +kernel
theorem dX8_change_62 : decode cX8_change 62 = .ok (.aload_n 0, 1) := by decide +kernel
theorem dX8_change_63 : decode cX8_change 63 = .ok (.getfield 20, 3) := by decide +kernel
theorem dX8_change_66 : decode cX8_change 66 = .ok (.aload_n 0, 1) := by decide +kernel
theorem dX8_change_67 : decode cX8_change 67 = .ok (.getfield 108, 3) := by decide +kernel
theorem dX8_change_70 : decode cX8_change 70 = .ok (.aload_n 0, 1) := by decide +kernel
theorem dX8_change_71 : decode cX8_change 71 = .ok (.getfield 101, 3) := by decide +kernel
theorem dX8_change_74 : decode cX8_change 74 = .ok (.iload_n 1, 1) := by decide +kernel
theorem dX8_change_75 : decode cX8_change 75 = .ok (.aload_n 0, 1) := by decide +kernel
theorem dX8_change_76 : decode cX8_change 76 = .ok (.getfield 7, 3) := by decide +kernel
theorem dX8_change_79 : decode cX8_change 79 = .ok (.idiv, 1) := by decide +kernel
theorem dX8_change_80 : decode cX8_change 80 = .ok (.iadd, 1) := by decide +kernel
theorem dX8_change_81 : decode cX8_change 81 = .ok (.iastore, 1) := by decide +kernel
theorem dX8_change_82 : decode cX8_change 82 = .ok (.aload_n 0, 1) := by decide +kernel
theorem dX8_change_83 : decode cX8_change 83 = .ok (.getfield 23, 3) := by decide +kernel
theorem dX8_change_86 : decode cX8_change 86 = .ok (.aload_n 0, 1) := by decide +kernel
theorem dX8_change_87 : decode cX8_change 87 = .ok (.getfield 108, 3) := by decide +kernel
theorem dX8_change_90 : decode cX8_change 90 = .ok (.iload_n 2, 1) := by decide +kernel
theorem dX8_change_91 : decode cX8_change 91 = .ok (.iastore, 1) := by decide +kernel
theorem dX8_change_92 : decode cX8_change 92 = .ok (.aload_n 0, 1) := by decide +kernel
theorem dX8_change_93 : decode cX8_change 93 = .ok (.dup, 1) := by decide +kernel
theorem dX8_change_94 : decode cX8_change 94 = .ok (.getfield 108, 3) := by decide +kernel
theorem dX8_change_97 : decode cX8_change 97 = .ok (.iconst 1, 1) := by decide +kernel
theorem dX8_change_98 : decode cX8_change 98 = .ok (.iadd, 1) := by decide +kernel
theorem dX8_change_99 : decode cX8_change 99 = .ok (.putfield 108, 3) := by decide +kernel
theorem dX8_change_102 : decode cX8_change 102 = .ok (.aload_n 0, 1) := by decide +kernel
theorem dX8_change_103 : decode cX8_change 103 = .ok (.iconst 0, 1) := by decide +kernel
theorem dX8_change_104 : decode cX8_change 104 = .ok (.putfield 76, 3) := by decide +kernel
theorem dX8_change_107 : decode cX8_change 107 = .ok (.aload_n 0, 1) := by decide +kernel
theorem dX8_change_108 : decode cX8_change 108 = .ok (.getfield 108, 3) := by decide +kernel
theorem dX8_change_111 : decode cX8_change 111 = .ok (.ireturn, 1) := by decide +kernel
theorem dX8_changed_0 : decode cX8_changed 0 = .ok (.iload_n 1, 1) := by decide +kernel
theorem dX8_changed_1 : decode cX8_changed 1 = .ok (.iconst 0, 1) := by decide +kernel
theorem dX8_changed_2 : decode cX8_changed 2 = .ok (.aload_n 0, 1) := by decide +kernel
theorem dX8_changed_3 : decode cX8_changed 3 = .ok (.getfield 108, 3) := by decide +kernel
theorem dX8_changed_6 : decode cX8_changed 6 = .ok (.iconst 1, 1) := by decide +kernel
theorem dX8_changed_7 : decode cX8_changed 7 = .ok (.isub, 1) := by decide +kernel
theorem dX8_changed_8 : decode cX8_changed 8 = .ok (.invokestatic 69, 3) := by decide +kernel
theorem dX8_changed_11 : decode cX8_changed 11 = .ok (.ifCond .ne 7, 3) := by decide +kernel
theorem dX8_changed_14 : decode cX8_changed 14 = .ok (.sipush (-1001), 3) := by decide +kernel
theorem dX8_changed_17 : decode cX8_changed 17 = .ok (.ireturn, 1) := by decide +kernel
theorem dX8_changed_18 : decode cX8_changed 18 = .ok (.iload_n 2, 1) := by decide +kernel
theorem dX8_changed_19 : decode cX8_changed 19 = .ok (.ifCond .ne 12, 3) := by decide +kernel
theorem dX8_changed_22 : decode cX8_changed 22 = .ok (.aload_n 0, 1) := by decide +kernel
theorem dX8_changed_23 : decode cX8_changed 23 = .ok (.getfield 17, 3) := by decide +kernel
theorem dX8_changed_26 : decode cX8_changed 26 = .ok (.iload_n 1, 1) := by decide +kernel
theorem dX8_changed_27 : decode cX8_changed 27 = .ok (.iaload, 1) := by decide +kernel
theorem dX8_changed_28 : decode cX8_changed 28 = .ok (.goto 34, 3) := by decide +kernel
theorem dX8_changed_31 : decode cX8_changed 31 = .ok (.iload_n 2, 1) := by decide +kernel
theorem dX8_changed_32 : decode cX8_changed 32 = .ok (.iconst 1, 1) := by decide +kernel
theorem dX8_changed_33 : decode cX8_changed 33 = .ok (.if_icmp .ne 12, 3) := by decide +kernel
theorem dX8_changed_36 : decode cX8_changed 36 = .ok (.aload_n 0, 1) := by decide +kernel
theorem dX8_changed_37 : decode cX8_changed 37 = .ok (.getfield 20, 3) := by decide +kernel
theorem dX8_changed_40 : decode cX8_changed 40 = .ok (.iload_n 1, 1) := by decide +kernel
theorem dX8_changed_41 : decode cX8_changed 41 = .ok (.iaload, 1) := by decide +kernel
theorem dX8_changed_42 : decode cX8_changed 42 = .ok (.goto 20, 3) := by decide +kernel
theorem dX8_changed_45 : decode cX8_changed 45 = .ok (.iload_n 2, 1) := by decide +kernel
theorem dX8_changed_46 : decode cX8_changed 46 = .ok (.iconst 2, 1) := by decide +kernel
theorem dX8_changed_47 : decode cX8_changed 47 = .ok (.if_icmp .ne 12, 3) := by decide +kernel
theorem dX8_changed_50 : decode cX8_changed 50 = .ok (.aload_n 0, 1) := by decide +kernel
theorem dX8_changed_51 : decode cX8_changed 51 = .ok (.getfield 23, 3) := by decide +kernel
theorem dX8_changed_54 : decode cX8_changed 54 = .ok (.iload_n 1, 1) := by decide +kernel
theorem dX8_changed_55 : decode cX8_changed 55 = .ok (.iaload, 1) := by decide +kernel
theorem dX8_changed_56 : decode cX8_changed 56 = .ok (.goto 6, 3) := by decide +kernel
theorem dX8_changed_59 : decode cX8_changed 59 = .ok (.sipush (-1002), 3) := by decide +kernel
theorem dX8_changed_62 : decode cX8_changed 62 = .ok (.ireturn, 1) := by decide +kernel
theorem dX8_undo_0 : decode cX8_undo 0 = .ok (.aload_n 0, 1) := by decide +kernel
theorem dX8_undo_1 : decode cX8_undo 1 = .ok (.getfield 108, 3) := by decide +kernel
theorem dX8_undo_4 : decode cX8_undo 4 = .ok (.ifCond .ne 5, 3) := by decide +kernel
theorem dX8_undo_7 : decode cX8_undo 7 = .ok (.iconst (-1), 1) := by decide +kernel
theorem dX8_undo_8 : decode cX8_undo 8 = .ok (.ireturn, 1) := by decide +kernel
theorem dX8_undo_9 : decode cX8_undo 9 = .ok (.aload_n 0, 1) := by decide +kernel
theorem dX8_undo_10 : decode cX8_undo 10 = .ok (.dup, 1) := by decide +kernel
theorem dX8_undo_11 : decode cX8_undo 11 = .ok (.getfield 108, 3) := by decide +kernel
theorem dX8_undo_14 : decode cX8_undo 14 = .ok (.iconst 1, 1) := by decide +kernel
theorem dX8_undo_15 : decode cX8_undo 15 = .ok (.isub, 1) := by decide +kernel
theorem dX8_undo_16 : decode cX8_undo 16 = .ok (.putfield 108, 3) := by decide +kernel
theorem dX8_undo_19 : decode cX8_undo 19 = .ok (.aload_n 0, 1) := by decide +kernel
theorem dX8_undo_20 : decode cX8_undo 20 = .ok (.iconst 0, 1) := by decide +kernel
theorem dX8_undo_21 : decode cX8_undo 21 = .ok (.putfield 76, 3) := by decide +kernel
theorem dX8_undo_24 : decode cX8_undo 24 = .ok (.aload_n 0, 1) := by decide +kernel
theorem dX8_undo_25 : decode cX8_undo 25 = .ok (.getfield 108, 3) := by decide +kernel
theorem dX8_undo_28 : decode cX8_undo 28 = .ok (.ireturn, 1) := by decide +kernel
theorem dX8_rule_0 : decode cX8_rule 0 = .ok (.iload_n 1, 1) := by decide +kernel
theorem dX8_rule_1 : decode cX8_rule 1 = .ok (.ifCond .ne 14, 3) := by decide +kernel
theorem dX8_rule_4 : decode cX8_rule 4 = .ok (.iload_n 2, 1) := by decide +kernel
theorem dX8_rule_5 : decode cX8_rule 5 = .ok (.iconst 0, 1) := by decide +kernel
theorem dX8_rule_6 : decode cX8_rule 6 = .ok (.sipush 255, 3) := by decide +kernel
theorem dX8_rule_9 : decode cX8_rule 9 = .ok (.invokestatic 69, 3) := by decide +kernel
theorem dX8_rule_12 : decode cX8_rule 12 = .ok (.ifCond .ne 49, 3) := by decide +kernel
theorem dX8_rule_15 : decode cX8_rule 15 = .ok (.iload_n 1, 1) := by decide +kernel
theorem dX8_rule_16 : decode cX8_rule 16 = .ok (.iconst 1, 1) := by decide +kernel
theorem dX8_rule_17 : decode cX8_rule 17 = .ok (.if_icmp .ne 14, 3) := by decide +kernel
theorem dX8_rule_20 : decode cX8_rule 20 = .ok (.iload_n 2, 1) := by decide +kernel
theorem dX8_rule_21 : decode cX8_rule 21 = .ok (.iconst 2, 1) := by decide +kernel
theorem dX8_rule_22 : decode cX8_rule 22 = .ok (.sipush 200, 3) := by decide +kernel
theorem dX8_rule_25 : decode cX8_rule 25 = .ok (.invokestatic 69, 3) := by decide +kernel
theorem dX8_rule_28 : decode cX8_rule 28 = .ok (.ifCond .ne 33, 3) := by decide +kernel
theorem dX8_rule_31 : decode cX8_rule 31 = .ok (.iload_n 1, 1) := by decide +kernel
theorem dX8_rule_32 : decode cX8_rule 32 = .ok (.iconst 2, 1) := by decide +kernel
theorem dX8_rule_33 : decode cX8_rule 33 = .ok (.if_icmp .ne 13, 3) := by decide +kernel
theorem dX8_rule_36 : decode cX8_rule 36 = .ok (.iload_n 2, 1) := by decide +kernel
theorem dX8_rule_37 : decode cX8_rule 37 = .ok (.iconst 1, 1) := by decide +kernel
theorem dX8_rule_38 : decode cX8_rule 38 = .ok (.bipush 12, 2) := by decide +kernel
theorem dX8_rule_40 : decode cX8_rule 40 = .ok (.invokestatic 69, 3) := by decide +kernel
theorem dX8_rule_43 : decode cX8_rule 43 = .ok (.ifCond .ne 18, 3) := by decide +kernel
theorem dX8_rule_46 : decode cX8_rule 46 = .ok (.iload_n 1, 1) := by decide +kernel
theorem dX8_rule_47 : decode cX8_rule 47 = .ok (.iconst 3, 1) := by decide +kernel
theorem dX8_rule_48 : decode cX8_rule 48 = .ok (.if_icmp .ne 17, 3) := by decide +kernel
theorem dX8_rule_51 : decode cX8_rule 51 = .ok (.iload_n 2, 1) := by decide +kernel
theorem dX8_rule_52 : decode cX8_rule 52 = .ok (.iconst 0, 1) := by decide +kernel
theorem dX8_rule_53 : decode cX8_rule 53 = .ok (.bipush 100, 2) := by decide +kernel
theorem dX8_rule_55 : decode cX8_rule 55 = .ok (.invokestatic 69, 3) := by decide +kernel
theorem dX8_rule_58 : decode cX8_rule 58 = .ok (.ifCond .eq 7, 3) := by decide +kernel
theorem dX8_rule_61 : decode cX8_rule 61 = .ok (.iconst 1, 1) := by decide +kernel
theorem dX8_rule_62 : decode cX8_rule 62 = .ok (.goto 4, 3) := by decide +kernel
theorem dX8_rule_65 : decode cX8_rule 65 = .ok (.iconst 0, 1) := by decide +kernel
theorem dX8_rule_66 : decode cX8_rule 66 = .ok (.istore_n 3, 1) := by decide +kernel
theorem dX8_rule_67 : decode cX8_rule 67 = .ok (.iload_n 3, 1) := by decide +kernel
theorem dX8_rule_68 : decode cX8_rule 68 = .ok (.ifCond .ne 6, 3) := by decide +kernel
theorem dX8_rule_71 : decode cX8_rule 71 = .ok (.bipush (-2), 2) := by decide +kernel
theorem dX8_rule_73 : decode cX8_rule 73 = .ok (.ireturn, 1) := by decide +kernel
theorem dX8_rule_74 : decode cX8_rule 74 = .ok (.aload_n 0, 1) := by decide +kernel
theorem dX8_rule_75 : decode cX8_rule 75 = .ok (.getfield 13, 3) := by decide +kernel
theorem dX8_rule_78 : decode cX8_rule 78 = .ok (.iload_n 1, 1) := by decide +kernel
theorem dX8_rule_79 : decode cX8_rule 79 = .ok (.iaload, 1) := by decide +kernel
theorem dX8_rule_80 : decode cX8_rule 80 = .ok (.istore 4, 2) := by decide +kernel
theorem dX8_rule_82 : decode cX8_rule 82 = .ok (.aload_n 0, 1) := by decide +kernel
theorem dX8_rule_83 : decode cX8_rule 83 = .ok (.getfield 13, 3) := by decide +kernel
theorem dX8_rule_86 : decode cX8_rule 86 = .ok (.iload_n 1, 1) := by decide +kernel
theorem dX8_rule_87 : decode cX8_rule 87 = .ok (.iload_n 2, 1) := by decide +kernel
theorem dX8_rule_88 : decode cX8_rule 88 = .ok (.iastore, 1) := by decide +kernel
theorem dX8_rule_89 : decode cX8_rule 89 = .ok (.aload_n 0, 1) := by decide +kernel
theorem dX8_rule_90 : decode cX8_rule 90 = .ok (.iconst 0, 1) := by decide +kernel
theorem dX8_rule_91 : decode cX8_rule 91 = .ok (.putfield 76, 3) := by decide +kernel
theorem dX8_rule_94 : decode cX8_rule 94 = .ok (.iload 4, 2) := by decide +kernel
theorem dX8_rule_96 : decode cX8_rule 96 = .ok (.ireturn, 1) := by decide +kernel
theorem dX8_beside_0 : decode cX8_beside 0 = .ok (.iload_n 1, 1) := by decide +kernel
theorem dX8_beside_1 : decode cX8_beside 1 = .ok (.aload_n 0, 1) := by decide +kernel
theorem dX8_beside_2 : decode cX8_beside 2 = .ok (.getfield 7, 3) := by decide +kernel
theorem dX8_beside_5 : decode cX8_beside 5 = .ok (.irem, 1) := by decide +kernel
theorem dX8_beside_6 : decode cX8_beside 6 = .ok (.iload_n 2, 1) := by decide +kernel
theorem dX8_beside_7 : decode cX8_beside 7 = .ok (.iconst 1, 1) := by decide +kernel
theorem dX8_beside_8 : decode cX8_beside 8 = .ok (.if_icmp .ne 7, 3) := by decide +kernel
theorem dX8_beside_11 : decode cX8_beside 11 = .ok (.iconst (-1), 1) := by decide +kernel
theorem dX8_beside_12 : decode cX8_beside 12 = .ok (.goto 13, 3) := by decide +kernel
theorem dX8_beside_15 : decode cX8_beside 15 = .ok (.iload_n 2, 1) := by decide +kernel
theorem dX8_beside_16 : decode cX8_beside 16 = .ok (.iconst 2, 1) := by decide +kernel
theorem dX8_beside_17 : decode cX8_beside 17 = .ok (.if_icmp .ne 7, 3) := by decide +kernel
theorem dX8_beside_20 : decode cX8_beside 20 = .ok (.iconst 1, 1) := by decide +kernel
theorem dX8_beside_21 : decode cX8_beside 21 = .ok (.goto 4, 3) := by decide +kernel
theorem dX8_beside_24 : decode cX8_beside 24 = .ok (.iconst 0, 1) := by decide +kernel
theorem dX8_beside_25 : decode cX8_beside 25 = .ok (.iadd, 1) := by decide +kernel
theorem dX8_beside_26 : decode cX8_beside 26 = .ok (.istore_n 3, 1) := by decide +kernel
theorem dX8_beside_27 : decode cX8_beside 27 = .ok (.iload_n 1, 1) := by decide +kernel
theorem dX8_beside_28 : decode cX8_beside 28 = .ok (.aload_n 0, 1) := by decide +kernel
theorem dX8_beside_29 : decode cX8_beside 29 = .ok (.getfield 7, 3) := by decide +kernel
theorem dX8_beside_32 : decode cX8_beside 32 = .ok (.idiv, 1) := by decide +kernel
theorem dX8_beside_33 : decode cX8_beside 33 = .ok (.iload_n 2, 1) := by decide +kernel
theorem dX8_beside_34 : decode cX8_beside 34 = .ok (.ifCond .ne 7, 3) := by decide +kernel
theorem dX8_beside_37 : decode cX8_beside 37 = .ok (.iconst (-1), 1) := by decide +kernel
theorem dX8_beside_38 : decode cX8_beside 38 = .ok (.goto 13, 3) := by decide +kernel
theorem dX8_beside_41 : decode cX8_beside 41 = .ok (.iload_n 2, 1) := by decide +kernel
theorem dX8_beside_42 : decode cX8_beside 42 = .ok (.iconst 3, 1) := by decide +kernel
theorem dX8_beside_43 : decode cX8_beside 43 = .ok (.if_icmp .ne 7, 3) := by decide +kernel
theorem dX8_beside_46 : decode cX8_beside 46 = .ok (.iconst 1, 1) := by decide +kernel
theorem dX8_beside_47 : decode cX8_beside 47 = .ok (.goto 4, 3) := by decide +kernel
theorem dX8_beside_50 : decode cX8_beside 50 = .ok (.iconst 0, 1) := by decide +kernel
theorem dX8_beside_51 : decode cX8_beside 51 = .ok (.iadd, 1) := by decide +kernel
theorem dX8_beside_52 : decode cX8_beside 52 = .ok (.istore 4, 2) := by decide +kernel
theorem dX8_beside_54 : decode cX8_beside 54 = .ok (.iload_n 3, 1) := by decide +kernel
theorem dX8_beside_55 : decode cX8_beside 55 = .ok (.iconst 0, 1) := by decide +kernel
theorem dX8_beside_56 : decode cX8_beside 56 = .ok (.aload_n 0, 1) := by decide +kernel
theorem dX8_beside_57 : decode cX8_beside 57 = .ok (.getfield 7, 3) := by decide +kernel
theorem dX8_beside_60 : decode cX8_beside 60 = .ok (.iconst 1, 1) := by decide +kernel
theorem dX8_beside_61 : decode cX8_beside 61 = .ok (.isub, 1) := by decide +kernel
theorem dX8_beside_62 : decode cX8_beside 62 = .ok (.invokestatic 69, 3) := by decide +kernel
theorem dX8_beside_65 : decode cX8_beside 65 = .ok (.ifCond .eq 30, 3) := by decide +kernel
theorem dX8_beside_68 : decode cX8_beside 68 = .ok (.iload 4, 2) := by decide +kernel
theorem dX8_beside_70 : decode cX8_beside 70 = .ok (.iconst 0, 1) := by decide +kernel
theorem dX8_beside_71 : decode cX8_beside 71 = .ok (.aload_n 0, 1) := by decide +kernel
theorem dX8_beside_72 : decode cX8_beside 72 = .ok (.getfield 7, 3) := by decide +kernel
theorem dX8_beside_75 : decode cX8_beside 75 = .ok (.iconst 1, 1) := by decide +kernel
theorem dX8_beside_76 : decode cX8_beside 76 = .ok (.isub, 1) := by decide +kernel
theorem dX8_beside_77 : decode cX8_beside 77 = .ok (.invokestatic 69, 3) := by decide +kernel
theorem dX8_beside_80 : decode cX8_beside 80 = .ok (.ifCond .eq 15, 3) := by decide +kernel
theorem dX8_beside_83 : decode cX8_beside 83 = .ok (.aload_n 0, 1) := by decide +kernel
theorem dX8_beside_84 : decode cX8_beside 84 = .ok (.getfield 7, 3) := by decide +kernel
theorem dX8_beside_87 : decode cX8_beside 87 = .ok (.iload 4, 2) := by decide +kernel
theorem dX8_beside_89 : decode cX8_beside 89 = .ok (.imul, 1) := by decide +kernel
theorem dX8_beside_90 : decode cX8_beside 90 = .ok (.iload_n 3, 1) := by decide +kernel
theorem dX8_beside_91 : decode cX8_beside 91 = .ok (.iadd, 1) := by decide +kernel
theorem dX8_beside_92 : decode cX8_beside 92 = .ok (.goto 5, 3) := by decide +kernel
theorem dX8_beside_95 : decode cX8_beside 95 = .ok (.bipush (-6), 2) := by decide +kernel
theorem dX8_beside_97 : decode cX8_beside 97 = .ok (.ireturn, 1) := by decide +kernel
theorem dX8_isSea_0 : decode cX8_isSea 0 = .ok (.aload_n 0, 1) := by decide +kernel
theorem dX8_isSea_1 : decode cX8_isSea 1 = .ok (.getfield 26, 3) := by decide +kernel
theorem dX8_isSea_4 : decode cX8_isSea 4 = .ok (.iload_n 1, 1) := by decide +kernel
theorem dX8_isSea_5 : decode cX8_isSea 5 = .ok (.iaload, 1) := by decide +kernel
theorem dX8_isSea_6 : decode cX8_isSea 6 = .ok (.aload_n 0, 1) := by decide +kernel
theorem dX8_isSea_7 : decode cX8_isSea 7 = .ok (.getfield 13, 3) := by decide +kernel
theorem dX8_isSea_10 : decode cX8_isSea 10 = .ok (.iconst 0, 1) := by decide +kernel
theorem dX8_isSea_11 : decode cX8_isSea 11 = .ok (.iaload, 1) := by decide +kernel
theorem dX8_isSea_12 : decode cX8_isSea 12 = .ok (.if_icmp .ge 7, 3) := by decide +kernel
theorem dX8_isSea_15 : decode cX8_isSea 15 = .ok (.iconst 1, 1) := by decide +kernel
theorem dX8_isSea_16 : decode cX8_isSea 16 = .ok (.goto 4, 3) := by decide +kernel
theorem dX8_isSea_19 : decode cX8_isSea 19 = .ok (.iconst 0, 1) := by decide +kernel
theorem dX8_isSea_20 : decode cX8_isSea 20 = .ok (.ireturn, 1) := by decide +kernel
theorem dX8_isRim_0 : decode cX8_isRim 0 = .ok (.iload_n 1, 1) := by decide +kernel
theorem dX8_isRim_1 : decode cX8_isRim 1 = .ok (.aload_n 0, 1) := by decide +kernel
theorem dX8_isRim_2 : decode cX8_isRim 2 = .ok (.getfield 7, 3) := by decide +kernel
theorem dX8_isRim_5 : decode cX8_isRim 5 = .ok (.irem, 1) := by decide +kernel
theorem dX8_isRim_6 : decode cX8_isRim 6 = .ok (.istore_n 2, 1) := by decide +kernel
theorem dX8_isRim_7 : decode cX8_isRim 7 = .ok (.iload_n 1, 1) := by decide +kernel
theorem dX8_isRim_8 : decode cX8_isRim 8 = .ok (.aload_n 0, 1) := by decide +kernel
theorem dX8_isRim_9 : decode cX8_isRim 9 = .ok (.getfield 7, 3) := by decide +kernel
theorem dX8_isRim_12 : decode cX8_isRim 12 = .ok (.idiv, 1) := by decide +kernel
theorem dX8_isRim_13 : decode cX8_isRim 13 = .ok (.istore_n 3, 1) := by decide +kernel
theorem dX8_isRim_14 : decode cX8_isRim 14 = .ok (.iload_n 2, 1) := by decide +kernel
theorem dX8_isRim_15 : decode cX8_isRim 15 = .ok (.ifCond .eq 27, 3) := by decide +kernel
theorem dX8_isRim_18 : decode cX8_isRim 18 = .ok (.iload_n 3, 1) := by decide +kernel
theorem dX8_isRim_19 : decode cX8_isRim 19 = .ok (.ifCond .eq 23, 3) := by decide +kernel
theorem dX8_isRim_22 : decode cX8_isRim 22 = .ok (.iload_n 2, 1) := by decide +kernel
theorem dX8_isRim_23 : decode cX8_isRim 23 = .ok (.aload_n 0, 1) := by decide +kernel
theorem dX8_isRim_24 : decode cX8_isRim 24 = .ok (.getfield 7, 3) := by decide +kernel
theorem dX8_isRim_27 : decode cX8_isRim 27 = .ok (.iconst 1, 1) := by decide +kernel
theorem dX8_isRim_28 : decode cX8_isRim 28 = .ok (.isub, 1) := by decide +kernel
theorem dX8_isRim_29 : decode cX8_isRim 29 = .ok (.if_icmp .eq 13, 3) := by decide +kernel
theorem dX8_isRim_32 : decode cX8_isRim 32 = .ok (.iload_n 3, 1) := by decide +kernel
theorem dX8_isRim_33 : decode cX8_isRim 33 = .ok (.aload_n 0, 1) := by decide +kernel
theorem dX8_isRim_34 : decode cX8_isRim 34 = .ok (.getfield 7, 3) := by decide +kernel
theorem dX8_isRim_37 : decode cX8_isRim 37 = .ok (.iconst 1, 1) := by decide +kernel
theorem dX8_isRim_38 : decode cX8_isRim 38 = .ok (.isub, 1) := by decide +kernel
theorem dX8_isRim_39 : decode cX8_isRim 39 = .ok (.if_icmp .ne 7, 3) := by decide +kernel
theorem dX8_isRim_42 : decode cX8_isRim 42 = .ok (.iconst 1, 1) := by decide +kernel
theorem dX8_isRim_43 : decode cX8_isRim 43 = .ok (.goto 4, 3) := by decide +kernel
theorem dX8_isRim_46 : decode cX8_isRim 46 = .ok (.iconst 0, 1) := by decide +kernel
theorem dX8_isRim_47 : decode cX8_isRim 47 = .ok (.ireturn, 1) := by decide +kernel
theorem dX8_take_0 : decode cX8_take 0 = .ok (.aload_n 0, 1) := by decide +kernel
theorem dX8_take_1 : decode cX8_take 1 = .ok (.getfield 29, 3) := by decide +kernel
theorem dX8_take_4 : decode cX8_take 4 = .ok (.iload_n 1, 1) := by decide +kernel
theorem dX8_take_5 : decode cX8_take 5 = .ok (.iload_n 2, 1) := by decide +kernel
theorem dX8_take_6 : decode cX8_take 6 = .ok (.iastore, 1) := by decide +kernel
theorem dX8_take_7 : decode cX8_take 7 = .ok (.aload_n 0, 1) := by decide +kernel
theorem dX8_take_8 : decode cX8_take 8 = .ok (.getfield 32, 3) := by decide +kernel
theorem dX8_take_11 : decode cX8_take 11 = .ok (.iload_n 1, 1) := by decide +kernel
theorem dX8_take_12 : decode cX8_take 12 = .ok (.iload_n 3, 1) := by decide +kernel
theorem dX8_take_13 : decode cX8_take 13 = .ok (.iastore, 1) := by decide +kernel
theorem dX8_take_14 : decode cX8_take 14 = .ok (.aload_n 0, 1) := by decide +kernel
theorem dX8_take_15 : decode cX8_take 15 = .ok (.getfield 35, 3) := by decide +kernel
theorem dX8_take_18 : decode cX8_take 18 = .ok (.iload_n 1, 1) := by decide +kernel
theorem dX8_take_19 : decode cX8_take 19 = .ok (.aload_n 0, 1) := by decide +kernel
theorem dX8_take_20 : decode cX8_take 20 = .ok (.getfield 111, 3) := by decide +kernel
theorem dX8_take_23 : decode cX8_take 23 = .ok (.iastore, 1) := by decide +kernel
theorem dX8_take_24 : decode cX8_take 24 = .ok (.aload_n 0, 1) := by decide +kernel
theorem dX8_take_25 : decode cX8_take 25 = .ok (.getfield 38, 3) := by decide +kernel
theorem dX8_take_28 : decode cX8_take 28 = .ok (.aload_n 0, 1) := by decide +kernel
theorem dX8_take_29 : decode cX8_take 29 = .ok (.getfield 111, 3) := by decide +kernel
theorem dX8_take_32 : decode cX8_take 32 = .ok (.iload_n 1, 1) := by decide +kernel
theorem dX8_take_33 : decode cX8_take 33 = .ok (.iastore, 1) := by decide +kernel
theorem dX8_take_34 : decode cX8_take 34 = .ok (.aload_n 0, 1) := by decide +kernel
theorem dX8_take_35 : decode cX8_take 35 = .ok (.dup, 1) := by decide +kernel
theorem dX8_take_36 : decode cX8_take 36 = .ok (.getfield 111, 3) := by decide +kernel
theorem dX8_take_39 : decode cX8_take 39 = .ok (.iconst 1, 1) := by decide +kernel
theorem dX8_take_40 : decode cX8_take 40 = .ok (.iadd, 1) := by decide +kernel
theorem dX8_take_41 : decode cX8_take 41 = .ok (.putfield 111, 3) := by decide +kernel
theorem dX8_take_44 : decode cX8_take 44 = .ok (.return_, 1) := by decide +kernel
theorem dX8_lowest_0 : decode cX8_lowest 0 = .ok (.bipush (-6), 2) := by decide +kernel
theorem dX8_lowest_2 : decode cX8_lowest 2 = .ok (.istore_n 2, 1) := by decide +kernel
theorem dX8_lowest_3 : decode cX8_lowest 3 = .ok (.iconst 0, 1) := by decide +kernel
theorem dX8_lowest_4 : decode cX8_lowest 4 = .ok (.istore_n 3, 1) := by decide +kernel
theorem dX8_lowest_5 : decode cX8_lowest 5 = .ok (.iload_n 3, 1) := by decide +kernel
theorem dX8_lowest_6 : decode cX8_lowest 6 = .ok (.iconst 4, 1) := by decide +kernel
theorem dX8_lowest_7 : decode cX8_lowest 7 = .ok (.if_icmp .ge 103, 3) := by decide +kernel
theorem dX8_lowest_10 : decode cX8_lowest 10 = .ok (.aload_n 0, 1) := by decide +kernel
theorem dX8_lowest_11 : decode cX8_lowest 11 = .ok (.iload_n 1, 1) := by decide +kernel
theorem dX8_lowest_12 : decode cX8_lowest 12 = .ok (.iload_n 3, 1) := by decide +kernel
theorem dX8_lowest_13 : decode cX8_lowest 13 = .ok (.invokevirtual 114, 3) := by decide +kernel
theorem dX8_lowest_16 : decode cX8_lowest 16 = .ok (.istore 4, 2) := by decide +kernel
theorem dX8_lowest_18 : decode cX8_lowest 18 = .ok (.iload 4, 2) := by decide +kernel
theorem dX8_lowest_20 : decode cX8_lowest 20 = .ok (.ifCond .lt 84, 3) := by decide +kernel
theorem dX8_lowest_23 : decode cX8_lowest 23 = .ok (.aload_n 0, 1) := by decide +kernel
theorem dX8_lowest_24 : decode cX8_lowest 24 = .ok (.getfield 35, 3) := by decide +kernel
theorem dX8_lowest_27 : decode cX8_lowest 27 = .ok (.iload 4, 2) := by decide +kernel
theorem dX8_lowest_29 : decode cX8_lowest 29 = .ok (.iaload, 1) := by decide +kernel
theorem dX8_lowest_30 : decode cX8_lowest 30 = .ok (.ifCond .lt 74, 3) := by decide +kernel
theorem dX8_lowest_33 : decode cX8_lowest 33 = .ok (.iload_n 2, 1) := by decide +kernel
theorem dX8_lowest_34 : decode cX8_lowest 34 = .ok (.ifCond .lt 51, 3) := by decide +kernel
theorem dX8_lowest_37 : decode cX8_lowest 37 = .ok (.aload_n 0, 1) := by decide +kernel
theorem dX8_lowest_38 : decode cX8_lowest 38 = .ok (.getfield 29, 3) := by decide +kernel
theorem dX8_lowest_41 : decode cX8_lowest 41 = .ok (.iload 4, 2) := by decide +kernel
theorem dX8_lowest_43 : decode cX8_lowest 43 = .ok (.iaload, 1) := by decide +kernel
theorem dX8_lowest_44 : decode cX8_lowest 44 = .ok (.aload_n 0, 1) := by decide +kernel
theorem dX8_lowest_45 : decode cX8_lowest 45 = .ok (.getfield 29, 3) := by decide +kernel
theorem dX8_lowest_48 : decode cX8_lowest 48 = .ok (.iload_n 2, 1) := by decide +kernel
theorem dX8_lowest_49 : decode cX8_lowest 49 = .ok (.iaload, 1) := by decide +kernel
theorem dX8_lowest_50 : decode cX8_lowest 50 = .ok (.if_icmp .lt 35, 3) := by decide +kernel
theorem dX8_lowest_53 : decode cX8_lowest 53 = .ok (.aload_n 0, 1) := by decide +kernel
theorem dX8_lowest_54 : decode cX8_lowest 54 = .ok (.getfield 29, 3) := by decide +kernel
theorem dX8_lowest_57 : decode cX8_lowest 57 = .ok (.iload 4, 2) := by decide +kernel
theorem dX8_lowest_59 : decode cX8_lowest 59 = .ok (.iaload, 1) := by decide +kernel
theorem dX8_lowest_60 : decode cX8_lowest 60 = .ok (.aload_n 0, 1) := by decide +kernel
theorem dX8_lowest_61 : decode cX8_lowest 61 = .ok (.getfield 29, 3) := by decide +kernel
theorem dX8_lowest_64 : decode cX8_lowest 64 = .ok (.iload_n 2, 1) := by decide +kernel
theorem dX8_lowest_65 : decode cX8_lowest 65 = .ok (.iaload, 1) := by decide +kernel
theorem dX8_lowest_66 : decode cX8_lowest 66 = .ok (.if_icmp .ne 23, 3) := by decide +kernel
theorem dX8_lowest_69 : decode cX8_lowest 69 = .ok (.aload_n 0, 1) := by decide +kernel
theorem dX8_lowest_70 : decode cX8_lowest 70 = .ok (.getfield 35, 3) := by decide +kernel
theorem dX8_lowest_73 : decode cX8_lowest 73 = .ok (.iload 4, 2) := by decide +kernel
theorem dX8_lowest_75 : decode cX8_lowest 75 = .ok (.iaload, 1) := by decide +kernel
theorem dX8_lowest_76 : decode cX8_lowest 76 = .ok (.aload_n 0, 1) := by decide +kernel
theorem dX8_lowest_77 : decode cX8_lowest 77 = .ok (.getfield 35, 3) := by decide +kernel
theorem dX8_lowest_80 : decode cX8_lowest 80 = .ok (.iload_n 2, 1) := by decide +kernel
theorem dX8_lowest_81 : decode cX8_lowest 81 = .ok (.iaload, 1) := by decide +kernel
theorem dX8_lowest_82 : decode cX8_lowest 82 = .ok (.if_icmp .ge 7, 3) := by decide +kernel
theorem dX8_lowest_85 : decode cX8_lowest 85 = .ok (.iconst 1, 1) := by decide +kernel
theorem dX8_lowest_86 : decode cX8_lowest 86 = .ok (.goto 4, 3) := by decide +kernel
theorem dX8_lowest_89 : decode cX8_lowest 89 = .ok (.iconst 0, 1) := by decide +kernel
theorem dX8_lowest_90 : decode cX8_lowest 90 = .ok (.istore 5, 2) := by decide +kernel
theorem dX8_lowest_92 : decode cX8_lowest 92 = .ok (.iload 5, 2) := by decide +kernel
theorem dX8_lowest_94 : decode cX8_lowest 94 = .ok (.ifCond .eq 8, 3) := by decide +kernel
theorem dX8_lowest_97 : decode cX8_lowest 97 = .ok (.iload 4, 2) := by decide +kernel
theorem dX8_lowest_99 : decode cX8_lowest 99 = .ok (.goto 4, 3) := by decide +kernel
theorem dX8_lowest_102 : decode cX8_lowest 102 = .ok (.iload_n 2, 1) := by decide +kernel
theorem dX8_lowest_103 : decode cX8_lowest 103 = .ok (.istore_n 2, 1) := by decide +kernel
theorem dX8_lowest_104 : decode cX8_lowest 104 = .ok (.iinc 3 1, 3) := by decide +kernel
theorem dX8_lowest_107 : decode cX8_lowest 107 = .ok (.goto (-102), 3) := by decide +kernel
theorem dX8_lowest_110 : decode cX8_lowest 110 = .ok (.iload_n 2, 1) := by decide +kernel
theorem dX8_lowest_111 : decode cX8_lowest 111 = .ok (.ireturn, 1) := by decide +kernel
theorem dX8_water_0 : decode cX8_water 0 = .ok (.aload_n 0, 1) := by decide +kernel
theorem dX8_water_1 : decode cX8_water 1 = .ok (.getfield 29, 3) := by decide +kernel
theorem dX8_water_4 : decode cX8_water 4 = .ok (.iload_n 2, 1) := by decide +kernel
theorem dX8_water_5 : decode cX8_water 5 = .ok (.iaload, 1) := by decide +kernel
theorem dX8_water_6 : decode cX8_water 6 = .ok (.aload_n 0, 1) := by decide +kernel
theorem dX8_water_7 : decode cX8_water 7 = .ok (.getfield 26, 3) := by decide +kernel
theorem dX8_water_10 : decode cX8_water 10 = .ok (.iload_n 1, 1) := by decide +kernel
theorem dX8_water_11 : decode cX8_water 11 = .ok (.iaload, 1) := by decide +kernel
theorem dX8_water_12 : decode cX8_water 12 = .ok (.if_icmp .le 12, 3) := by decide +kernel
theorem dX8_water_15 : decode cX8_water 15 = .ok (.aload_n 0, 1) := by decide +kernel
theorem dX8_water_16 : decode cX8_water 16 = .ok (.getfield 29, 3) := by decide +kernel
theorem dX8_water_19 : decode cX8_water 19 = .ok (.iload_n 2, 1) := by decide +kernel
theorem dX8_water_20 : decode cX8_water 20 = .ok (.iaload, 1) := by decide +kernel
theorem dX8_water_21 : decode cX8_water 21 = .ok (.goto 9, 3) := by decide +kernel
theorem dX8_water_24 : decode cX8_water 24 = .ok (.aload_n 0, 1) := by decide +kernel
theorem dX8_water_25 : decode cX8_water 25 = .ok (.getfield 26, 3) := by decide +kernel
theorem dX8_water_28 : decode cX8_water 28 = .ok (.iload_n 1, 1) := by decide +kernel
theorem dX8_water_29 : decode cX8_water 29 = .ok (.iaload, 1) := by decide +kernel
theorem dX8_water_30 : decode cX8_water 30 = .ok (.ireturn, 1) := by decide +kernel
theorem dX8_layWater_0 : decode cX8_layWater 0 = .ok (.aload_n 0, 1) := by decide +kernel
theorem dX8_layWater_1 : decode cX8_layWater 1 = .ok (.iconst 0, 1) := by decide +kernel
theorem dX8_layWater_2 : decode cX8_layWater 2 = .ok (.putfield 111, 3) := by decide +kernel
theorem dX8_layWater_5 : decode cX8_layWater 5 = .ok (.iconst 0, 1) := by decide +kernel
theorem dX8_layWater_6 : decode cX8_layWater 6 = .ok (.istore_n 1, 1) := by decide +kernel
theorem dX8_layWater_7 : decode cX8_layWater 7 = .ok (.iload_n 1, 1) := by decide +kernel
theorem dX8_layWater_8 : decode cX8_layWater 8 = .ok (.aload_n 0, 1) := by decide +kernel
theorem dX8_layWater_9 : decode cX8_layWater 9 = .ok (.getfield 7, 3) := by decide +kernel
theorem dX8_layWater_12 : decode cX8_layWater 12 = .ok (.aload_n 0, 1) := by decide +kernel
theorem dX8_layWater_13 : decode cX8_layWater 13 = .ok (.getfield 7, 3) := by decide +kernel
theorem dX8_layWater_16 : decode cX8_layWater 16 = .ok (.imul, 1) := by decide +kernel
theorem dX8_layWater_17 : decode cX8_layWater 17 = .ok (.if_icmp .ge 141, 3) := by decide +kernel
theorem dX8_layWater_20 : decode cX8_layWater 20 = .ok (.aload_n 0, 1) := by decide +kernel
theorem dX8_layWater_21 : decode cX8_layWater 21 = .ok (.aload_n 0, 1) := by decide +kernel
theorem dX8_layWater_22 : decode cX8_layWater 22 = .ok (.getfield 98, 3) := by decide +kernel
theorem dX8_layWater_25 : decode cX8_layWater 25 = .ok (.iload_n 1, 1) := by decide +kernel
theorem dX8_layWater_26 : decode cX8_layWater 26 = .ok (.aload_n 0, 1) := by decide +kernel
theorem dX8_layWater_27 : decode cX8_layWater 27 = .ok (.getfield 7, 3) := by decide +kernel
theorem dX8_layWater_30 : decode cX8_layWater 30 = .ok (.irem, 1) := by decide +kernel
theorem dX8_layWater_31 : decode cX8_layWater 31 = .ok (.iadd, 1) := by decide +kernel
theorem dX8_layWater_32 : decode cX8_layWater 32 = .ok (.aload_n 0, 1) := by decide +kernel
theorem dX8_layWater_33 : decode cX8_layWater 33 = .ok (.getfield 101, 3) := by decide +kernel
theorem dX8_layWater_36 : decode cX8_layWater 36 = .ok (.iload_n 1, 1) := by decide +kernel
theorem dX8_layWater_37 : decode cX8_layWater 37 = .ok (.aload_n 0, 1) := by decide +kernel
theorem dX8_layWater_38 : decode cX8_layWater 38 = .ok (.getfield 7, 3) := by decide +kernel
theorem dX8_layWater_41 : decode cX8_layWater 41 = .ok (.idiv, 1) := by decide +kernel
theorem dX8_layWater_42 : decode cX8_layWater 42 = .ok (.iadd, 1) := by decide +kernel
theorem dX8_layWater_43 : decode cX8_layWater 43 = .ok (.invokevirtual 93, 3) := by decide +kernel
theorem dX8_layWater_46 : decode cX8_layWater 46 = .ok (.istore_n 2, 1) := by decide +kernel
theorem dX8_layWater_47 : decode cX8_layWater 47 = .ok (.iconst 0, 1) := by decide +kernel
theorem dX8_layWater_48 : decode cX8_layWater 48 = .ok (.istore_n 3, 1) := by decide +kernel
theorem dX8_layWater_49 : decode cX8_layWater 49 = .ok (.iload_n 3, 1) := by decide +kernel
theorem dX8_layWater_50 : decode cX8_layWater 50 = .ok (.aload_n 0, 1) := by decide +kernel
theorem dX8_layWater_51 : decode cX8_layWater 51 = .ok (.getfield 108, 3) := by decide +kernel
theorem dX8_layWater_54 : decode cX8_layWater 54 = .ok (.if_icmp .ge 62, 3) := by decide +kernel
theorem dX8_layWater_57 : decode cX8_layWater 57 = .ok (.iload_n 2, 1) := by decide +kernel
theorem dX8_layWater_58 : decode cX8_layWater 58 = .ok (.aload_n 0, 1) := by decide +kernel
theorem dX8_layWater_59 : decode cX8_layWater 59 = .ok (.getfield 17, 3) := by decide +kernel
theorem dX8_layWater_62 : decode cX8_layWater 62 = .ok (.iload_n 3, 1) := by decide +kernel
theorem dX8_layWater_63 : decode cX8_layWater 63 = .ok (.iaload, 1) := by decide +kernel
theorem dX8_layWater_64 : decode cX8_layWater 64 = .ok (.aload_n 0, 1) := by decide +kernel
theorem dX8_layWater_65 : decode cX8_layWater 65 = .ok (.getfield 98, 3) := by decide +kernel
theorem dX8_layWater_68 : decode cX8_layWater 68 = .ok (.iload_n 1, 1) := by decide +kernel
theorem dX8_layWater_69 : decode cX8_layWater 69 = .ok (.aload_n 0, 1) := by decide +kernel
theorem dX8_layWater_70 : decode cX8_layWater 70 = .ok (.getfield 7, 3) := by decide +kernel
theorem dX8_layWater_73 : decode cX8_layWater 73 = .ok (.irem, 1) := by decide +kernel
theorem dX8_layWater_74 : decode cX8_layWater 74 = .ok (.iadd, 1) := by decide +kernel
theorem dX8_layWater_75 : decode cX8_layWater 75 = .ok (.if_icmp .ne 32, 3) := by decide +kernel
theorem dX8_layWater_78 : decode cX8_layWater 78 = .ok (.aload_n 0, 1) := by decide +kernel
theorem dX8_layWater_79 : decode cX8_layWater 79 = .ok (.getfield 20, 3) := by decide +kernel
theorem dX8_layWater_82 : decode cX8_layWater 82 = .ok (.iload_n 3, 1) := by decide +kernel
theorem dX8_layWater_83 : decode cX8_layWater 83 = .ok (.iaload, 1) := by decide +kernel
theorem dX8_layWater_84 : decode cX8_layWater 84 = .ok (.aload_n 0, 1) := by decide +kernel
theorem dX8_layWater_85 : decode cX8_layWater 85 = .ok (.getfield 101, 3) := by decide +kernel
theorem dX8_layWater_88 : decode cX8_layWater 88 = .ok (.iload_n 1, 1) := by decide +kernel
theorem dX8_layWater_89 : decode cX8_layWater 89 = .ok (.aload_n 0, 1) := by decide +kernel
theorem dX8_layWater_90 : decode cX8_layWater 90 = .ok (.getfield 7, 3) := by decide +kernel
theorem dX8_layWater_93 : decode cX8_layWater 93 = .ok (.idiv, 1) := by decide +kernel
theorem dX8_layWater_94 : decode cX8_layWater 94 = .ok (.iadd, 1) := by decide +kernel
theorem dX8_layWater_95 : decode cX8_layWater 95 = .ok (.if_icmp .ne 12, 3) := by decide +kernel
theorem dX8_layWater_98 : decode cX8_layWater 98 = .ok (.aload_n 0, 1) := by decide +kernel
theorem dX8_layWater_99 : decode cX8_layWater 99 = .ok (.getfield 23, 3) := by decide +kernel
theorem dX8_layWater_102 : decode cX8_layWater 102 = .ok (.iload_n 3, 1) := by decide +kernel
theorem dX8_layWater_103 : decode cX8_layWater 103 = .ok (.iaload, 1) := by decide +kernel
theorem dX8_layWater_104 : decode cX8_layWater 104 = .ok (.goto 4, 3) := by decide +kernel
theorem dX8_layWater_107 : decode cX8_layWater 107 = .ok (.iconst 0, 1) := by decide +kernel
theorem dX8_layWater_108 : decode cX8_layWater 108 = .ok (.iadd, 1) := by decide +kernel
theorem dX8_layWater_109 : decode cX8_layWater 109 = .ok (.istore_n 2, 1) := by decide +kernel
theorem dX8_layWater_110 : decode cX8_layWater 110 = .ok (.iinc 3 1, 3) := by decide +kernel
theorem dX8_layWater_113 : decode cX8_layWater 113 = .ok (.goto (-64), 3) := by decide +kernel
theorem dX8_layWater_116 : decode cX8_layWater 116 = .ok (.aload_n 0, 1) := by decide +kernel
theorem dX8_layWater_117 : decode cX8_layWater 117 = .ok (.getfield 26, 3) := by decide +kernel
theorem dX8_layWater_120 : decode cX8_layWater 120 = .ok (.iload_n 1, 1) := by decide +kernel
theorem dX8_layWater_121 : decode cX8_layWater 121 = .ok (.iload_n 2, 1) := by decide +kernel
theorem dX8_layWater_122 : decode cX8_layWater 122 = .ok (.ifCond .ge 7, 3) := by decide +kernel
theorem dX8_layWater_125 : decode cX8_layWater 125 = .ok (.iconst 0, 1) := by decide +kernel
theorem dX8_layWater_126 : decode cX8_layWater 126 = .ok (.goto 17, 3) := by decide +kernel
theorem dX8_layWater_129 : decode cX8_layWater 129 = .ok (.iload_n 2, 1) := by decide +kernel
theorem dX8_layWater_130 : decode cX8_layWater 130 = .ok (.sipush 400, 3) := by decide +kernel
theorem dX8_layWater_133 : decode cX8_layWater 133 = .ok (.if_icmp .le 9, 3) := by decide +kernel
theorem dX8_layWater_136 : decode cX8_layWater 136 = .ok (.sipush 400, 3) := by decide +kernel
theorem dX8_layWater_139 : decode cX8_layWater 139 = .ok (.goto 4, 3) := by decide +kernel
theorem dX8_layWater_142 : decode cX8_layWater 142 = .ok (.iload_n 2, 1) := by decide +kernel
theorem dX8_layWater_143 : decode cX8_layWater 143 = .ok (.iastore, 1) := by decide +kernel
theorem dX8_layWater_144 : decode cX8_layWater 144 = .ok (.aload_n 0, 1) := by decide +kernel
theorem dX8_layWater_145 : decode cX8_layWater 145 = .ok (.getfield 35, 3) := by decide +kernel
theorem dX8_layWater_148 : decode cX8_layWater 148 = .ok (.iload_n 1, 1) := by decide +kernel
theorem dX8_layWater_149 : decode cX8_layWater 149 = .ok (.bipush (-6), 2) := by decide +kernel
theorem dX8_layWater_151 : decode cX8_layWater 151 = .ok (.iastore, 1) := by decide +kernel
theorem dX8_layWater_152 : decode cX8_layWater 152 = .ok (.iinc 1 1, 3) := by decide +kernel
theorem dX8_layWater_155 : decode cX8_layWater 155 = .ok (.goto (-148), 3) := by decide +kernel
theorem dX8_layWater_158 : decode cX8_layWater 158 = .ok (.iconst 0, 1) := by decide +kernel
theorem dX8_layWater_159 : decode cX8_layWater 159 = .ok (.istore_n 1, 1) := by decide +kernel
theorem dX8_layWater_160 : decode cX8_layWater 160 = .ok (.iload_n 1, 1) := by decide +kernel
theorem dX8_layWater_161 : decode cX8_layWater 161 = .ok (.aload_n 0, 1) := by decide +kernel
theorem dX8_layWater_162 : decode cX8_layWater 162 = .ok (.getfield 7, 3) := by decide +kernel
theorem dX8_layWater_165 : decode cX8_layWater 165 = .ok (.aload_n 0, 1) := by decide +kernel
theorem dX8_layWater_166 : decode cX8_layWater 166 = .ok (.getfield 7, 3) := by decide +kernel
theorem dX8_layWater_169 : decode cX8_layWater 169 = .ok (.imul, 1) := by decide +kernel
theorem dX8_layWater_170 : decode cX8_layWater 170 = .ok (.if_icmp .ge 55, 3) := by decide +kernel
theorem dX8_layWater_173 : decode cX8_layWater 173 = .ok (.aload_n 0, 1) := by decide +kernel
theorem dX8_layWater_174 : decode cX8_layWater 174 = .ok (.iload_n 1, 1) := by decide +kernel
theorem dX8_layWater_175 : decode cX8_layWater 175 = .ok (.invokevirtual 117, 3) := by decide +kernel
theorem dX8_layWater_178 : decode cX8_layWater 178 = .ok (.ifCond .ne 11, 3) := by decide +kernel
theorem dX8_layWater_181 : decode cX8_layWater 181 = .ok (.aload_n 0, 1) := by decide +kernel
theorem dX8_layWater_182 : decode cX8_layWater 182 = .ok (.iload_n 1, 1) := by decide +kernel
theorem dX8_layWater_183 : decode cX8_layWater 183 = .ok (.invokevirtual 120, 3) := by decide +kernel
theorem dX8_layWater_186 : decode cX8_layWater 186 = .ok (.ifCond .eq 33, 3) := by decide +kernel
theorem dX8_layWater_189 : decode cX8_layWater 189 = .ok (.aload_n 0, 1) := by decide +kernel
theorem dX8_layWater_190 : decode cX8_layWater 190 = .ok (.iload_n 1, 1) := by decide +kernel
theorem dX8_layWater_191 : decode cX8_layWater 191 = .ok (.aload_n 0, 1) := by decide +kernel
theorem dX8_layWater_192 : decode cX8_layWater 192 = .ok (.iload_n 1, 1) := by decide +kernel
theorem dX8_layWater_193 : decode cX8_layWater 193 = .ok (.invokevirtual 117, 3) := by decide +kernel
theorem dX8_layWater_196 : decode cX8_layWater 196 = .ok (.ifCond .eq 12, 3) := by decide +kernel
theorem dX8_layWater_199 : decode cX8_layWater 199 = .ok (.aload_n 0, 1) := by decide +kernel
theorem dX8_layWater_200 : decode cX8_layWater 200 = .ok (.getfield 13, 3) := by decide +kernel
theorem dX8_layWater_203 : decode cX8_layWater 203 = .ok (.iconst 0, 1) := by decide +kernel
theorem dX8_layWater_204 : decode cX8_layWater 204 = .ok (.iaload, 1) := by decide +kernel
theorem dX8_layWater_205 : decode cX8_layWater 205 = .ok (.goto 9, 3) := by decide +kernel
theorem dX8_layWater_208 : decode cX8_layWater 208 = .ok (.aload_n 0, 1) := by decide +kernel
theorem dX8_layWater_209 : decode cX8_layWater 209 = .ok (.getfield 26, 3) := by decide +kernel
theorem dX8_layWater_212 : decode cX8_layWater 212 = .ok (.iload_n 1, 1) := by decide +kernel
theorem dX8_layWater_213 : decode cX8_layWater 213 = .ok (.iaload, 1) := by decide +kernel
theorem dX8_layWater_214 : decode cX8_layWater 214 = .ok (.bipush (-6), 2) := by decide +kernel
theorem dX8_layWater_216 : decode cX8_layWater 216 = .ok (.invokevirtual 123, 3) := by decide +kernel
theorem dX8_layWater_219 : decode cX8_layWater 219 = .ok (.iinc 1 1, 3) := by decide +kernel
theorem dX8_layWater_222 : decode cX8_layWater 222 = .ok (.goto (-62), 3) := by decide +kernel
theorem dX8_layWater_225 : decode cX8_layWater 225 = .ok (.aload_n 0, 1) := by decide +kernel
theorem dX8_layWater_226 : decode cX8_layWater 226 = .ok (.getfield 111, 3) := by decide +kernel
theorem dX8_layWater_229 : decode cX8_layWater 229 = .ok (.aload_n 0, 1) := by decide +kernel
theorem dX8_layWater_230 : decode cX8_layWater 230 = .ok (.getfield 7, 3) := by decide +kernel
theorem dX8_layWater_233 : decode cX8_layWater 233 = .ok (.aload_n 0, 1) := by decide +kernel
theorem dX8_layWater_234 : decode cX8_layWater 234 = .ok (.getfield 7, 3) := by decide +kernel
theorem dX8_layWater_237 : decode cX8_layWater 237 = .ok (.imul, 1) := by decide +kernel
theorem dX8_layWater_238 : decode cX8_layWater 238 = .ok (.if_icmp .ge 96, 3) := by decide +kernel
theorem dX8_layWater_241 : decode cX8_layWater 241 = .ok (.bipush (-6), 2) := by decide +kernel
theorem dX8_layWater_243 : decode cX8_layWater 243 = .ok (.istore_n 1, 1) := by decide +kernel
theorem dX8_layWater_244 : decode cX8_layWater 244 = .ok (.bipush (-6), 2) := by decide +kernel
theorem dX8_layWater_246 : decode cX8_layWater 246 = .ok (.istore_n 2, 1) := by decide +kernel
theorem dX8_layWater_247 : decode cX8_layWater 247 = .ok (.iconst 0, 1) := by decide +kernel
theorem dX8_layWater_248 : decode cX8_layWater 248 = .ok (.istore_n 3, 1) := by decide +kernel
theorem dX8_layWater_249 : decode cX8_layWater 249 = .ok (.iload_n 3, 1) := by decide +kernel
theorem dX8_layWater_250 : decode cX8_layWater 250 = .ok (.aload_n 0, 1) := by decide +kernel
theorem dX8_layWater_251 : decode cX8_layWater 251 = .ok (.getfield 7, 3) := by decide +kernel
theorem dX8_layWater_254 : decode cX8_layWater 254 = .ok (.aload_n 0, 1) := by decide +kernel
theorem dX8_layWater_255 : decode cX8_layWater 255 = .ok (.getfield 7, 3) := by decide +kernel
theorem dX8_layWater_258 : decode cX8_layWater 258 = .ok (.imul, 1) := by decide +kernel
theorem dX8_layWater_259 : decode cX8_layWater 259 = .ok (.if_icmp .ge 60, 3) := by decide +kernel
theorem dX8_layWater_262 : decode cX8_layWater 262 = .ok (.aload_n 0, 1) := by decide +kernel
theorem dX8_layWater_263 : decode cX8_layWater 263 = .ok (.getfield 35, 3) := by decide +kernel
theorem dX8_layWater_266 : decode cX8_layWater 266 = .ok (.iload_n 3, 1) := by decide +kernel
theorem dX8_layWater_267 : decode cX8_layWater 267 = .ok (.iaload, 1) := by decide +kernel
theorem dX8_layWater_268 : decode cX8_layWater 268 = .ok (.ifCond .ge 11, 3) := by decide +kernel
theorem dX8_layWater_271 : decode cX8_layWater 271 = .ok (.aload_n 0, 1) := by decide +kernel
theorem dX8_layWater_272 : decode cX8_layWater 272 = .ok (.iload_n 3, 1) := by decide +kernel
theorem dX8_layWater_273 : decode cX8_layWater 273 = .ok (.invokevirtual 127, 3) := by decide +kernel
theorem dX8_layWater_276 : decode cX8_layWater 276 = .ok (.goto 5, 3) := by decide +kernel
theorem dX8_layWater_279 : decode cX8_layWater 279 = .ok (.bipush (-6), 2) := by decide +kernel
theorem dX8_layWater_281 : decode cX8_layWater 281 = .ok (.istore 4, 2) := by decide +kernel
theorem dX8_layWater_283 : decode cX8_layWater 283 = .ok (.iload 4, 2) := by decide +kernel
theorem dX8_layWater_285 : decode cX8_layWater 285 = .ok (.ifCond .lt 28, 3) := by decide +kernel
theorem dX8_layWater_288 : decode cX8_layWater 288 = .ok (.iload_n 1, 1) := by decide +kernel
theorem dX8_layWater_289 : decode cX8_layWater 289 = .ok (.ifCond .lt 19, 3) := by decide +kernel
theorem dX8_layWater_292 : decode cX8_layWater 292 = .ok (.aload_n 0, 1) := by decide +kernel
theorem dX8_layWater_293 : decode cX8_layWater 293 = .ok (.iload_n 3, 1) := by decide +kernel
theorem dX8_layWater_294 : decode cX8_layWater 294 = .ok (.iload 4, 2) := by decide +kernel
theorem dX8_layWater_296 : decode cX8_layWater 296 = .ok (.invokevirtual 131, 3) := by decide +kernel
theorem dX8_layWater_299 : decode cX8_layWater 299 = .ok (.aload_n 0, 1) := by decide +kernel
theorem dX8_layWater_300 : decode cX8_layWater 300 = .ok (.iload_n 1, 1) := by decide +kernel
theorem dX8_layWater_301 : decode cX8_layWater 301 = .ok (.iload_n 2, 1) := by decide +kernel
theorem dX8_layWater_302 : decode cX8_layWater 302 = .ok (.invokevirtual 131, 3) := by decide +kernel
theorem dX8_layWater_305 : decode cX8_layWater 305 = .ok (.if_icmp .ge 8, 3) := by decide +kernel
theorem dX8_layWater_308 : decode cX8_layWater 308 = .ok (.iload_n 3, 1) := by decide +kernel
theorem dX8_layWater_309 : decode cX8_layWater 309 = .ok (.istore_n 1, 1) := by decide +kernel
theorem dX8_layWater_310 : decode cX8_layWater 310 = .ok (.iload 4, 2) := by decide +kernel
theorem dX8_layWater_312 : decode cX8_layWater 312 = .ok (.istore_n 2, 1) := by decide +kernel
theorem dX8_layWater_313 : decode cX8_layWater 313 = .ok (.iinc 3 1, 3) := by decide +kernel
theorem dX8_layWater_316 : decode cX8_layWater 316 = .ok (.goto (-67), 3) := by decide +kernel
theorem dX8_layWater_319 : decode cX8_layWater 319 = .ok (.aload_n 0, 1) := by decide +kernel
theorem dX8_layWater_320 : decode cX8_layWater 320 = .ok (.iload_n 1, 1) := by decide +kernel
theorem dX8_layWater_321 : decode cX8_layWater 321 = .ok (.aload_n 0, 1) := by decide +kernel
theorem dX8_layWater_322 : decode cX8_layWater 322 = .ok (.iload_n 1, 1) := by decide +kernel
theorem dX8_layWater_323 : decode cX8_layWater 323 = .ok (.iload_n 2, 1) := by decide +kernel
theorem dX8_layWater_324 : decode cX8_layWater 324 = .ok (.invokevirtual 131, 3) := by decide +kernel
theorem dX8_layWater_327 : decode cX8_layWater 327 = .ok (.iload_n 2, 1) := by decide +kernel
theorem dX8_layWater_328 : decode cX8_layWater 328 = .ok (.invokevirtual 123, 3) := by decide +kernel
theorem dX8_layWater_331 : decode cX8_layWater 331 = .ok (.goto (-106), 3) := by decide +kernel
end
section
theorem dX8_layWater_334 : decode cX8_layWater 334 = .ok (.iconst 0, 1) := by decide +kernel
theorem dX8_layWater_335 : decode cX8_layWater 335 = .ok (.istore_n 1, 1) := by decide +kernel
theorem dX8_layWater_336 : decode cX8_layWater 336 = .ok (.iload_n 1, 1) := by decide +kernel
theorem dX8_layWater_337 : decode cX8_layWater 337 = .ok (.aload_n 0, 1) := by decide +kernel
theorem dX8_layWater_338 : decode cX8_layWater 338 = .ok (.getfield 7, 3) := by decide +kernel
theorem dX8_layWater_341 : decode cX8_layWater 341 = .ok (.aload_n 0, 1) := by decide +kernel
theorem dX8_layWater_342 : decode cX8_layWater 342 = .ok (.getfield 7, 3) := by decide +kernel
theorem dX8_layWater_345 : decode cX8_layWater 345 = .ok (.imul, 1) := by decide +kernel
theorem dX8_layWater_346 : decode cX8_layWater 346 = .ok (.if_icmp .ge 16, 3) := by decide +kernel
theorem dX8_layWater_349 : decode cX8_layWater 349 = .ok (.aload_n 0, 1) := by decide +kernel
theorem dX8_layWater_350 : decode cX8_layWater 350 = .ok (.getfield 41, 3) := by decide +kernel
theorem dX8_layWater_353 : decode cX8_layWater 353 = .ok (.iload_n 1, 1) := by decide +kernel
theorem dX8_layWater_354 : decode cX8_layWater 354 = .ok (.iconst 1, 1) := by decide +kernel
theorem dX8_layWater_355 : decode cX8_layWater 355 = .ok (.iastore, 1) := by decide +kernel
theorem dX8_layWater_356 : decode cX8_layWater 356 = .ok (.iinc 1 1, 3) := by decide +kernel
theorem dX8_layWater_359 : decode cX8_layWater 359 = .ok (.goto (-23), 3) := by decide +kernel
theorem dX8_layWater_362 : decode cX8_layWater 362 = .ok (.aload_n 0, 1) := by decide +kernel
theorem dX8_layWater_363 : decode cX8_layWater 363 = .ok (.getfield 7, 3) := by decide +kernel
theorem dX8_layWater_366 : decode cX8_layWater 366 = .ok (.aload_n 0, 1) := by decide +kernel
theorem dX8_layWater_367 : decode cX8_layWater 367 = .ok (.getfield 7, 3) := by decide +kernel
theorem dX8_layWater_370 : decode cX8_layWater 370 = .ok (.imul, 1) := by decide +kernel
theorem dX8_layWater_371 : decode cX8_layWater 371 = .ok (.iconst 1, 1) := by decide +kernel
theorem dX8_layWater_372 : decode cX8_layWater 372 = .ok (.isub, 1) := by decide +kernel
theorem dX8_layWater_373 : decode cX8_layWater 373 = .ok (.istore_n 1, 1) := by decide +kernel
theorem dX8_layWater_374 : decode cX8_layWater 374 = .ok (.iload_n 1, 1) := by decide +kernel
theorem dX8_layWater_375 : decode cX8_layWater 375 = .ok (.ifCond .lt 45, 3) := by decide +kernel
theorem dX8_layWater_378 : decode cX8_layWater 378 = .ok (.aload_n 0, 1) := by decide +kernel
theorem dX8_layWater_379 : decode cX8_layWater 379 = .ok (.getfield 38, 3) := by decide +kernel
theorem dX8_layWater_382 : decode cX8_layWater 382 = .ok (.iload_n 1, 1) := by decide +kernel
theorem dX8_layWater_383 : decode cX8_layWater 383 = .ok (.iaload, 1) := by decide +kernel
theorem dX8_layWater_384 : decode cX8_layWater 384 = .ok (.istore_n 2, 1) := by decide +kernel
theorem dX8_layWater_385 : decode cX8_layWater 385 = .ok (.aload_n 0, 1) := by decide +kernel
theorem dX8_layWater_386 : decode cX8_layWater 386 = .ok (.getfield 32, 3) := by decide +kernel
theorem dX8_layWater_389 : decode cX8_layWater 389 = .ok (.iload_n 2, 1) := by decide +kernel
theorem dX8_layWater_390 : decode cX8_layWater 390 = .ok (.iaload, 1) := by decide +kernel
theorem dX8_layWater_391 : decode cX8_layWater 391 = .ok (.ifCond .lt 23, 3) := by decide +kernel
theorem dX8_layWater_394 : decode cX8_layWater 394 = .ok (.aload_n 0, 1) := by decide +kernel
theorem dX8_layWater_395 : decode cX8_layWater 395 = .ok (.getfield 41, 3) := by decide +kernel
theorem dX8_layWater_398 : decode cX8_layWater 398 = .ok (.aload_n 0, 1) := by decide +kernel
theorem dX8_layWater_399 : decode cX8_layWater 399 = .ok (.getfield 32, 3) := by decide +kernel
theorem dX8_layWater_402 : decode cX8_layWater 402 = .ok (.iload_n 2, 1) := by decide +kernel
theorem dX8_layWater_403 : decode cX8_layWater 403 = .ok (.iaload, 1) := by decide +kernel
theorem dX8_layWater_404 : decode cX8_layWater 404 = .ok (.dup2, 1) := by decide +kernel
theorem dX8_layWater_405 : decode cX8_layWater 405 = .ok (.iaload, 1) := by decide +kernel
theorem dX8_layWater_406 : decode cX8_layWater 406 = .ok (.aload_n 0, 1) := by decide +kernel
theorem dX8_layWater_407 : decode cX8_layWater 407 = .ok (.getfield 41, 3) := by decide +kernel
theorem dX8_layWater_410 : decode cX8_layWater 410 = .ok (.iload_n 2, 1) := by decide +kernel
theorem dX8_layWater_411 : decode cX8_layWater 411 = .ok (.iaload, 1) := by decide +kernel
theorem dX8_layWater_412 : decode cX8_layWater 412 = .ok (.iadd, 1) := by decide +kernel
theorem dX8_layWater_413 : decode cX8_layWater 413 = .ok (.iastore, 1) := by decide +kernel
theorem dX8_layWater_414 : decode cX8_layWater 414 = .ok (.iinc 1 (-1), 3) := by decide +kernel
theorem dX8_layWater_417 : decode cX8_layWater 417 = .ok (.goto (-43), 3) := by decide +kernel
theorem dX8_layWater_420 : decode cX8_layWater 420 = .ok (.iconst 0, 1) := by decide +kernel
theorem dX8_layWater_421 : decode cX8_layWater 421 = .ok (.istore_n 1, 1) := by decide +kernel
theorem dX8_layWater_422 : decode cX8_layWater 422 = .ok (.iload_n 1, 1) := by decide +kernel
theorem dX8_layWater_423 : decode cX8_layWater 423 = .ok (.aload_n 0, 1) := by decide +kernel
theorem dX8_layWater_424 : decode cX8_layWater 424 = .ok (.getfield 7, 3) := by decide +kernel
theorem dX8_layWater_427 : decode cX8_layWater 427 = .ok (.aload_n 0, 1) := by decide +kernel
theorem dX8_layWater_428 : decode cX8_layWater 428 = .ok (.getfield 7, 3) := by decide +kernel
theorem dX8_layWater_431 : decode cX8_layWater 431 = .ok (.imul, 1) := by decide +kernel
theorem dX8_layWater_432 : decode cX8_layWater 432 = .ok (.if_icmp .ge 67, 3) := by decide +kernel
theorem dX8_layWater_435 : decode cX8_layWater 435 = .ok (.aload_n 0, 1) := by decide +kernel
theorem dX8_layWater_436 : decode cX8_layWater 436 = .ok (.getfield 44, 3) := by decide +kernel
theorem dX8_layWater_439 : decode cX8_layWater 439 = .ok (.iload_n 1, 1) := by decide +kernel
theorem dX8_layWater_440 : decode cX8_layWater 440 = .ok (.aload_n 0, 1) := by decide +kernel
theorem dX8_layWater_441 : decode cX8_layWater 441 = .ok (.iload_n 1, 1) := by decide +kernel
theorem dX8_layWater_442 : decode cX8_layWater 442 = .ok (.invokevirtual 117, 3) := by decide +kernel
theorem dX8_layWater_445 : decode cX8_layWater 445 = .ok (.ifCond .eq 7, 3) := by decide +kernel
theorem dX8_layWater_448 : decode cX8_layWater 448 = .ok (.iconst 1, 1) := by decide +kernel
theorem dX8_layWater_449 : decode cX8_layWater 449 = .ok (.goto 43, 3) := by decide +kernel
theorem dX8_layWater_452 : decode cX8_layWater 452 = .ok (.aload_n 0, 1) := by decide +kernel
theorem dX8_layWater_453 : decode cX8_layWater 453 = .ok (.getfield 29, 3) := by decide +kernel
theorem dX8_layWater_456 : decode cX8_layWater 456 = .ok (.iload_n 1, 1) := by decide +kernel
theorem dX8_layWater_457 : decode cX8_layWater 457 = .ok (.iaload, 1) := by decide +kernel
theorem dX8_layWater_458 : decode cX8_layWater 458 = .ok (.aload_n 0, 1) := by decide +kernel
theorem dX8_layWater_459 : decode cX8_layWater 459 = .ok (.getfield 26, 3) := by decide +kernel
theorem dX8_layWater_462 : decode cX8_layWater 462 = .ok (.iload_n 1, 1) := by decide +kernel
theorem dX8_layWater_463 : decode cX8_layWater 463 = .ok (.iaload, 1) := by decide +kernel
theorem dX8_layWater_464 : decode cX8_layWater 464 = .ok (.if_icmp .le 7, 3) := by decide +kernel
theorem dX8_layWater_467 : decode cX8_layWater 467 = .ok (.iconst 2, 1) := by decide +kernel
theorem dX8_layWater_468 : decode cX8_layWater 468 = .ok (.goto 24, 3) := by decide +kernel
theorem dX8_layWater_471 : decode cX8_layWater 471 = .ok (.aload_n 0, 1) := by decide +kernel
theorem dX8_layWater_472 : decode cX8_layWater 472 = .ok (.getfield 41, 3) := by decide +kernel
theorem dX8_layWater_475 : decode cX8_layWater 475 = .ok (.iload_n 1, 1) := by decide +kernel
theorem dX8_layWater_476 : decode cX8_layWater 476 = .ok (.iaload, 1) := by decide +kernel
theorem dX8_layWater_477 : decode cX8_layWater 477 = .ok (.aload_n 0, 1) := by decide +kernel
theorem dX8_layWater_478 : decode cX8_layWater 478 = .ok (.getfield 13, 3) := by decide +kernel
theorem dX8_layWater_481 : decode cX8_layWater 481 = .ok (.iconst 1, 1) := by decide +kernel
theorem dX8_layWater_482 : decode cX8_layWater 482 = .ok (.iaload, 1) := by decide +kernel
theorem dX8_layWater_483 : decode cX8_layWater 483 = .ok (.if_icmp .lt 7, 3) := by decide +kernel
theorem dX8_layWater_486 : decode cX8_layWater 486 = .ok (.iconst 4, 1) := by decide +kernel
theorem dX8_layWater_487 : decode cX8_layWater 487 = .ok (.goto 5, 3) := by decide +kernel
theorem dX8_layWater_490 : decode cX8_layWater 490 = .ok (.bipush 8, 2) := by decide +kernel
theorem dX8_layWater_492 : decode cX8_layWater 492 = .ok (.iastore, 1) := by decide +kernel
theorem dX8_layWater_493 : decode cX8_layWater 493 = .ok (.iinc 1 1, 3) := by decide +kernel
theorem dX8_layWater_496 : decode cX8_layWater 496 = .ok (.goto (-74), 3) := by decide +kernel
theorem dX8_layWater_499 : decode cX8_layWater 499 = .ok (.return_, 1) := by decide +kernel
theorem dX8_worth_0 : decode cX8_worth 0 = .ok (.aload_n 0, 1) := by decide +kernel
theorem dX8_worth_1 : decode cX8_worth 1 = .ok (.getfield 44, 3) := by decide +kernel
theorem dX8_worth_4 : decode cX8_worth 4 = .ok (.iload_n 1, 1) := by decide +kernel
theorem dX8_worth_5 : decode cX8_worth 5 = .ok (.iaload, 1) := by decide +kernel
theorem dX8_worth_6 : decode cX8_worth 6 = .ok (.bipush 8, 2) := by decide +kernel
theorem dX8_worth_8 : decode cX8_worth 8 = .ok (.if_icmp .eq 6, 3) := by decide +kernel
theorem dX8_worth_11 : decode cX8_worth 11 = .ok (.bipush (-6), 2) := by decide +kernel
theorem dX8_worth_13 : decode cX8_worth 13 = .ok (.ireturn, 1) := by decide +kernel
theorem dX8_worth_14 : decode cX8_worth 14 = .ok (.iconst 0, 1) := by decide +kernel
theorem dX8_worth_15 : decode cX8_worth 15 = .ok (.istore_n 2, 1) := by decide +kernel
theorem dX8_worth_16 : decode cX8_worth 16 = .ok (.iconst 0, 1) := by decide +kernel
theorem dX8_worth_17 : decode cX8_worth 17 = .ok (.istore_n 3, 1) := by decide +kernel
theorem dX8_worth_18 : decode cX8_worth 18 = .ok (.iload_n 3, 1) := by decide +kernel
theorem dX8_worth_19 : decode cX8_worth 19 = .ok (.iconst 4, 1) := by decide +kernel
theorem dX8_worth_20 : decode cX8_worth 20 = .ok (.if_icmp .ge 56, 3) := by decide +kernel
theorem dX8_worth_23 : decode cX8_worth 23 = .ok (.aload_n 0, 1) := by decide +kernel
theorem dX8_worth_24 : decode cX8_worth 24 = .ok (.iload_n 1, 1) := by decide +kernel
theorem dX8_worth_25 : decode cX8_worth 25 = .ok (.iload_n 3, 1) := by decide +kernel
theorem dX8_worth_26 : decode cX8_worth 26 = .ok (.invokevirtual 114, 3) := by decide +kernel
theorem dX8_worth_29 : decode cX8_worth 29 = .ok (.istore 4, 2) := by decide +kernel
theorem dX8_worth_31 : decode cX8_worth 31 = .ok (.iload 4, 2) := by decide +kernel
theorem dX8_worth_33 : decode cX8_worth 33 = .ok (.ifCond .lt 35, 3) := by decide +kernel
theorem dX8_worth_36 : decode cX8_worth 36 = .ok (.aload_n 0, 1) := by decide +kernel
theorem dX8_worth_37 : decode cX8_worth 37 = .ok (.getfield 44, 3) := by decide +kernel
theorem dX8_worth_40 : decode cX8_worth 40 = .ok (.iload 4, 2) := by decide +kernel
theorem dX8_worth_42 : decode cX8_worth 42 = .ok (.iaload, 1) := by decide +kernel
theorem dX8_worth_43 : decode cX8_worth 43 = .ok (.iconst 4, 1) := by decide +kernel
theorem dX8_worth_44 : decode cX8_worth 44 = .ok (.if_icmp .ne 24, 3) := by decide +kernel
theorem dX8_worth_47 : decode cX8_worth 47 = .ok (.aload_n 0, 1) := by decide +kernel
theorem dX8_worth_48 : decode cX8_worth 48 = .ok (.getfield 41, 3) := by decide +kernel
theorem dX8_worth_51 : decode cX8_worth 51 = .ok (.iload 4, 2) := by decide +kernel
theorem dX8_worth_53 : decode cX8_worth 53 = .ok (.iaload, 1) := by decide +kernel
theorem dX8_worth_54 : decode cX8_worth 54 = .ok (.iload_n 2, 1) := by decide +kernel
theorem dX8_worth_55 : decode cX8_worth 55 = .ok (.if_icmp .le 13, 3) := by decide +kernel
theorem dX8_worth_58 : decode cX8_worth 58 = .ok (.aload_n 0, 1) := by decide +kernel
theorem dX8_worth_59 : decode cX8_worth 59 = .ok (.getfield 41, 3) := by decide +kernel
theorem dX8_worth_62 : decode cX8_worth 62 = .ok (.iload 4, 2) := by decide +kernel
theorem dX8_worth_64 : decode cX8_worth 64 = .ok (.iaload, 1) := by decide +kernel
theorem dX8_worth_65 : decode cX8_worth 65 = .ok (.goto 4, 3) := by decide +kernel
theorem dX8_worth_68 : decode cX8_worth 68 = .ok (.iload_n 2, 1) := by decide +kernel
theorem dX8_worth_69 : decode cX8_worth 69 = .ok (.istore_n 2, 1) := by decide +kernel
theorem dX8_worth_70 : decode cX8_worth 70 = .ok (.iinc 3 1, 3) := by decide +kernel
theorem dX8_worth_73 : decode cX8_worth 73 = .ok (.goto (-55), 3) := by decide +kernel
theorem dX8_worth_76 : decode cX8_worth 76 = .ok (.sipush 500, 3) := by decide +kernel
theorem dX8_worth_79 : decode cX8_worth 79 = .ok (.aload_n 0, 1) := by decide +kernel
theorem dX8_worth_80 : decode cX8_worth 80 = .ok (.getfield 26, 3) := by decide +kernel
theorem dX8_worth_83 : decode cX8_worth 83 = .ok (.iload_n 1, 1) := by decide +kernel
theorem dX8_worth_84 : decode cX8_worth 84 = .ok (.iaload, 1) := by decide +kernel
theorem dX8_worth_85 : decode cX8_worth 85 = .ok (.isub, 1) := by decide +kernel
theorem dX8_worth_86 : decode cX8_worth 86 = .ok (.iload_n 2, 1) := by decide +kernel
theorem dX8_worth_87 : decode cX8_worth 87 = .ok (.bipush 60, 2) := by decide +kernel
theorem dX8_worth_89 : decode cX8_worth 89 = .ok (.if_icmp .le 8, 3) := by decide +kernel
theorem dX8_worth_92 : decode cX8_worth 92 = .ok (.bipush 60, 2) := by decide +kernel
theorem dX8_worth_94 : decode cX8_worth 94 = .ok (.goto 4, 3) := by decide +kernel
theorem dX8_worth_97 : decode cX8_worth 97 = .ok (.iload_n 2, 1) := by decide +kernel
theorem dX8_worth_98 : decode cX8_worth 98 = .ok (.iadd, 1) := by decide +kernel
theorem dX8_worth_99 : decode cX8_worth 99 = .ok (.ireturn, 1) := by decide +kernel
theorem dX8_isFar_0 : decode cX8_isFar 0 = .ok (.iconst 1, 1) := by decide +kernel
theorem dX8_isFar_1 : decode cX8_isFar 1 = .ok (.istore_n 2, 1) := by decide +kernel
theorem dX8_isFar_2 : decode cX8_isFar 2 = .ok (.iconst 0, 1) := by decide +kernel
theorem dX8_isFar_3 : decode cX8_isFar 3 = .ok (.istore_n 3, 1) := by decide +kernel
theorem dX8_isFar_4 : decode cX8_isFar 4 = .ok (.iload_n 3, 1) := by decide +kernel
theorem dX8_isFar_5 : decode cX8_isFar 5 = .ok (.aload_n 0, 1) := by decide +kernel
theorem dX8_isFar_6 : decode cX8_isFar 6 = .ok (.getfield 134, 3) := by decide +kernel
theorem dX8_isFar_9 : decode cX8_isFar 9 = .ok (.if_icmp .ge 95, 3) := by decide +kernel
theorem dX8_isFar_12 : decode cX8_isFar 12 = .ok (.iload_n 1, 1) := by decide +kernel
theorem dX8_isFar_13 : decode cX8_isFar 13 = .ok (.aload_n 0, 1) := by decide +kernel
theorem dX8_isFar_14 : decode cX8_isFar 14 = .ok (.getfield 7, 3) := by decide +kernel
theorem dX8_isFar_17 : decode cX8_isFar 17 = .ok (.irem, 1) := by decide +kernel
theorem dX8_isFar_18 : decode cX8_isFar 18 = .ok (.aload_n 0, 1) := by decide +kernel
theorem dX8_isFar_19 : decode cX8_isFar 19 = .ok (.getfield 47, 3) := by decide +kernel
theorem dX8_isFar_22 : decode cX8_isFar 22 = .ok (.iload_n 3, 1) := by decide +kernel
theorem dX8_isFar_23 : decode cX8_isFar 23 = .ok (.iaload, 1) := by decide +kernel
theorem dX8_isFar_24 : decode cX8_isFar 24 = .ok (.aload_n 0, 1) := by decide +kernel
theorem dX8_isFar_25 : decode cX8_isFar 25 = .ok (.getfield 7, 3) := by decide +kernel
theorem dX8_isFar_28 : decode cX8_isFar 28 = .ok (.irem, 1) := by decide +kernel
theorem dX8_isFar_29 : decode cX8_isFar 29 = .ok (.isub, 1) := by decide +kernel
theorem dX8_isFar_30 : decode cX8_isFar 30 = .ok (.istore 4, 2) := by decide +kernel
theorem dX8_isFar_32 : decode cX8_isFar 32 = .ok (.iload_n 1, 1) := by decide +kernel
theorem dX8_isFar_33 : decode cX8_isFar 33 = .ok (.aload_n 0, 1) := by decide +kernel
theorem dX8_isFar_34 : decode cX8_isFar 34 = .ok (.getfield 7, 3) := by decide +kernel
theorem dX8_isFar_37 : decode cX8_isFar 37 = .ok (.idiv, 1) := by decide +kernel
theorem dX8_isFar_38 : decode cX8_isFar 38 = .ok (.aload_n 0, 1) := by decide +kernel
theorem dX8_isFar_39 : decode cX8_isFar 39 = .ok (.getfield 47, 3) := by decide +kernel
theorem dX8_isFar_42 : decode cX8_isFar 42 = .ok (.iload_n 3, 1) := by decide +kernel
theorem dX8_isFar_43 : decode cX8_isFar 43 = .ok (.iaload, 1) := by decide +kernel
theorem dX8_isFar_44 : decode cX8_isFar 44 = .ok (.aload_n 0, 1) := by decide +kernel
theorem dX8_isFar_45 : decode cX8_isFar 45 = .ok (.getfield 7, 3) := by decide +kernel
theorem dX8_isFar_48 : decode cX8_isFar 48 = .ok (.idiv, 1) := by decide +kernel
theorem dX8_isFar_49 : decode cX8_isFar 49 = .ok (.isub, 1) := by decide +kernel
theorem dX8_isFar_50 : decode cX8_isFar 50 = .ok (.istore 5, 2) := by decide +kernel
theorem dX8_isFar_52 : decode cX8_isFar 52 = .ok (.iload_n 2, 1) := by decide +kernel
theorem dX8_isFar_53 : decode cX8_isFar 53 = .ok (.ifCond .eq 43, 3) := by decide +kernel
theorem dX8_isFar_56 : decode cX8_isFar 56 = .ok (.iload 4, 2) := by decide +kernel
theorem dX8_isFar_58 : decode cX8_isFar 58 = .ok (.ifCond .ge 9, 3) := by decide +kernel
theorem dX8_isFar_61 : decode cX8_isFar 61 = .ok (.iload 4, 2) := by decide +kernel
theorem dX8_isFar_63 : decode cX8_isFar 63 = .ok (.ineg, 1) := by decide +kernel
theorem dX8_isFar_64 : decode cX8_isFar 64 = .ok (.goto 5, 3) := by decide +kernel
theorem dX8_isFar_67 : decode cX8_isFar 67 = .ok (.iload 4, 2) := by decide +kernel
theorem dX8_isFar_69 : decode cX8_isFar 69 = .ok (.iload 5, 2) := by decide +kernel
theorem dX8_isFar_71 : decode cX8_isFar 71 = .ok (.ifCond .ge 9, 3) := by decide +kernel
theorem dX8_isFar_74 : decode cX8_isFar 74 = .ok (.iload 5, 2) := by decide +kernel
theorem dX8_isFar_76 : decode cX8_isFar 76 = .ok (.ineg, 1) := by decide +kernel
theorem dX8_isFar_77 : decode cX8_isFar 77 = .ok (.goto 5, 3) := by decide +kernel
theorem dX8_isFar_80 : decode cX8_isFar 80 = .ok (.iload 5, 2) := by decide +kernel
theorem dX8_isFar_82 : decode cX8_isFar 82 = .ok (.iadd, 1) := by decide +kernel
theorem dX8_isFar_83 : decode cX8_isFar 83 = .ok (.aload_n 0, 1) := by decide +kernel
theorem dX8_isFar_84 : decode cX8_isFar 84 = .ok (.getfield 13, 3) := by decide +kernel
theorem dX8_isFar_87 : decode cX8_isFar 87 = .ok (.iconst 2, 1) := by decide +kernel
theorem dX8_isFar_88 : decode cX8_isFar 88 = .ok (.iaload, 1) := by decide +kernel
theorem dX8_isFar_89 : decode cX8_isFar 89 = .ok (.if_icmp .lt 7, 3) := by decide +kernel
theorem dX8_isFar_92 : decode cX8_isFar 92 = .ok (.iconst 1, 1) := by decide +kernel
theorem dX8_isFar_93 : decode cX8_isFar 93 = .ok (.goto 4, 3) := by decide +kernel
theorem dX8_isFar_96 : decode cX8_isFar 96 = .ok (.iconst 0, 1) := by decide +kernel
theorem dX8_isFar_97 : decode cX8_isFar 97 = .ok (.istore_n 2, 1) := by decide +kernel
theorem dX8_isFar_98 : decode cX8_isFar 98 = .ok (.iinc 3 1, 3) := by decide +kernel
theorem dX8_isFar_101 : decode cX8_isFar 101 = .ok (.goto (-97), 3) := by decide +kernel
theorem dX8_isFar_104 : decode cX8_isFar 104 = .ok (.iload_n 2, 1) := by decide +kernel
theorem dX8_isFar_105 : decode cX8_isFar 105 = .ok (.ireturn, 1) := by decide +kernel
theorem dX8_layTowns_0 : decode cX8_layTowns 0 = .ok (.aload_n 0, 1) := by decide +kernel
theorem dX8_layTowns_1 : decode cX8_layTowns 1 = .ok (.iconst 0, 1) := by decide +kernel
theorem dX8_layTowns_2 : decode cX8_layTowns 2 = .ok (.putfield 134, 3) := by decide +kernel
theorem dX8_layTowns_5 : decode cX8_layTowns 5 = .ok (.iconst 1, 1) := by decide +kernel
theorem dX8_layTowns_6 : decode cX8_layTowns 6 = .ok (.istore_n 1, 1) := by decide +kernel
theorem dX8_layTowns_7 : decode cX8_layTowns 7 = .ok (.aload_n 0, 1) := by decide +kernel
theorem dX8_layTowns_8 : decode cX8_layTowns 8 = .ok (.getfield 134, 3) := by decide +kernel
theorem dX8_layTowns_11 : decode cX8_layTowns 11 = .ok (.aload_n 0, 1) := by decide +kernel
theorem dX8_layTowns_12 : decode cX8_layTowns 12 = .ok (.getfield 137, 3) := by decide +kernel
theorem dX8_layTowns_15 : decode cX8_layTowns 15 = .ok (.if_icmp .ge 122, 3) := by decide +kernel
theorem dX8_layTowns_18 : decode cX8_layTowns 18 = .ok (.iload_n 1, 1) := by decide +kernel
theorem dX8_layTowns_19 : decode cX8_layTowns 19 = .ok (.ifCond .eq 118, 3) := by decide +kernel
theorem dX8_layTowns_22 : decode cX8_layTowns 22 = .ok (.bipush (-6), 2) := by decide +kernel
theorem dX8_layTowns_24 : decode cX8_layTowns 24 = .ok (.istore_n 2, 1) := by decide +kernel
theorem dX8_layTowns_25 : decode cX8_layTowns 25 = .ok (.iconst 0, 1) := by decide +kernel
theorem dX8_layTowns_26 : decode cX8_layTowns 26 = .ok (.istore_n 3, 1) := by decide +kernel
theorem dX8_layTowns_27 : decode cX8_layTowns 27 = .ok (.iload_n 3, 1) := by decide +kernel
theorem dX8_layTowns_28 : decode cX8_layTowns 28 = .ok (.aload_n 0, 1) := by decide +kernel
theorem dX8_layTowns_29 : decode cX8_layTowns 29 = .ok (.getfield 7, 3) := by decide +kernel
theorem dX8_layTowns_32 : decode cX8_layTowns 32 = .ok (.aload_n 0, 1) := by decide +kernel
theorem dX8_layTowns_33 : decode cX8_layTowns 33 = .ok (.getfield 7, 3) := by decide +kernel
theorem dX8_layTowns_36 : decode cX8_layTowns 36 = .ok (.imul, 1) := by decide +kernel
theorem dX8_layTowns_37 : decode cX8_layTowns 37 = .ok (.if_icmp .ge 63, 3) := by decide +kernel
theorem dX8_layTowns_40 : decode cX8_layTowns 40 = .ok (.aload_n 0, 1) := by decide +kernel
theorem dX8_layTowns_41 : decode cX8_layTowns 41 = .ok (.getfield 44, 3) := by decide +kernel
theorem dX8_layTowns_44 : decode cX8_layTowns 44 = .ok (.iload_n 3, 1) := by decide +kernel
theorem dX8_layTowns_45 : decode cX8_layTowns 45 = .ok (.iaload, 1) := by decide +kernel
theorem dX8_layTowns_46 : decode cX8_layTowns 46 = .ok (.bipush 8, 2) := by decide +kernel
theorem dX8_layTowns_48 : decode cX8_layTowns 48 = .ok (.if_icmp .ne 15, 3) := by decide +kernel
theorem dX8_layTowns_51 : decode cX8_layTowns 51 = .ok (.aload_n 0, 1) := by decide +kernel
theorem dX8_layTowns_52 : decode cX8_layTowns 52 = .ok (.iload_n 3, 1) := by decide +kernel
theorem dX8_layTowns_53 : decode cX8_layTowns 53 = .ok (.invokevirtual 140, 3) := by decide +kernel
theorem dX8_layTowns_56 : decode cX8_layTowns 56 = .ok (.ifCond .eq 7, 3) := by decide +kernel
theorem dX8_layTowns_59 : decode cX8_layTowns 59 = .ok (.iconst 1, 1) := by decide +kernel
theorem dX8_layTowns_60 : decode cX8_layTowns 60 = .ok (.goto 4, 3) := by decide +kernel
theorem dX8_layTowns_63 : decode cX8_layTowns 63 = .ok (.iconst 0, 1) := by decide +kernel
theorem dX8_layTowns_64 : decode cX8_layTowns 64 = .ok (.istore 4, 2) := by decide +kernel
theorem dX8_layTowns_66 : decode cX8_layTowns 66 = .ok (.iload 4, 2) := by decide +kernel
theorem dX8_layTowns_68 : decode cX8_layTowns 68 = .ok (.ifCond .eq 24, 3) := by decide +kernel
theorem dX8_layTowns_71 : decode cX8_layTowns 71 = .ok (.iload_n 2, 1) := by decide +kernel
theorem dX8_layTowns_72 : decode cX8_layTowns 72 = .ok (.ifCond .lt 16, 3) := by decide +kernel
theorem dX8_layTowns_75 : decode cX8_layTowns 75 = .ok (.aload_n 0, 1) := by decide +kernel
theorem dX8_layTowns_76 : decode cX8_layTowns 76 = .ok (.iload_n 3, 1) := by decide +kernel
theorem dX8_layTowns_77 : decode cX8_layTowns 77 = .ok (.invokevirtual 143, 3) := by decide +kernel
theorem dX8_layTowns_80 : decode cX8_layTowns 80 = .ok (.aload_n 0, 1) := by decide +kernel
theorem dX8_layTowns_81 : decode cX8_layTowns 81 = .ok (.iload_n 2, 1) := by decide +kernel
theorem dX8_layTowns_82 : decode cX8_layTowns 82 = .ok (.invokevirtual 143, 3) := by decide +kernel
theorem dX8_layTowns_85 : decode cX8_layTowns 85 = .ok (.if_icmp .le 7, 3) := by decide +kernel
theorem dX8_layTowns_88 : decode cX8_layTowns 88 = .ok (.iload_n 3, 1) := by decide +kernel
theorem dX8_layTowns_89 : decode cX8_layTowns 89 = .ok (.goto 4, 3) := by decide +kernel
theorem dX8_layTowns_92 : decode cX8_layTowns 92 = .ok (.iload_n 2, 1) := by decide +kernel
theorem dX8_layTowns_93 : decode cX8_layTowns 93 = .ok (.istore_n 2, 1) := by decide +kernel
theorem dX8_layTowns_94 : decode cX8_layTowns 94 = .ok (.iinc 3 1, 3) := by decide +kernel
theorem dX8_layTowns_97 : decode cX8_layTowns 97 = .ok (.goto (-70), 3) := by decide +kernel
theorem dX8_layTowns_100 : decode cX8_layTowns 100 = .ok (.iload_n 2, 1) := by decide +kernel
theorem dX8_layTowns_101 : decode cX8_layTowns 101 = .ok (.ifCond .lt 7, 3) := by decide +kernel
theorem dX8_layTowns_104 : decode cX8_layTowns 104 = .ok (.iconst 1, 1) := by decide +kernel
theorem dX8_layTowns_105 : decode cX8_layTowns 105 = .ok (.goto 4, 3) := by decide +kernel
theorem dX8_layTowns_108 : decode cX8_layTowns 108 = .ok (.iconst 0, 1) := by decide +kernel
theorem dX8_layTowns_109 : decode cX8_layTowns 109 = .ok (.istore_n 1, 1) := by decide +kernel
theorem dX8_layTowns_110 : decode cX8_layTowns 110 = .ok (.iload_n 1, 1) := by decide +kernel
theorem dX8_layTowns_111 : decode cX8_layTowns 111 = .ok (.ifCond .eq 23, 3) := by decide +kernel
theorem dX8_layTowns_114 : decode cX8_layTowns 114 = .ok (.aload_n 0, 1) := by decide +kernel
theorem dX8_layTowns_115 : decode cX8_layTowns 115 = .ok (.getfield 47, 3) := by decide +kernel
theorem dX8_layTowns_118 : decode cX8_layTowns 118 = .ok (.aload_n 0, 1) := by decide +kernel
theorem dX8_layTowns_119 : decode cX8_layTowns 119 = .ok (.getfield 134, 3) := by decide +kernel
theorem dX8_layTowns_122 : decode cX8_layTowns 122 = .ok (.iload_n 2, 1) := by decide +kernel
theorem dX8_layTowns_123 : decode cX8_layTowns 123 = .ok (.iastore, 1) := by decide +kernel
theorem dX8_layTowns_124 : decode cX8_layTowns 124 = .ok (.aload_n 0, 1) := by decide +kernel
theorem dX8_layTowns_125 : decode cX8_layTowns 125 = .ok (.dup, 1) := by decide +kernel
theorem dX8_layTowns_126 : decode cX8_layTowns 126 = .ok (.getfield 134, 3) := by decide +kernel
theorem dX8_layTowns_129 : decode cX8_layTowns 129 = .ok (.iconst 1, 1) := by decide +kernel
theorem dX8_layTowns_130 : decode cX8_layTowns 130 = .ok (.iadd, 1) := by decide +kernel
theorem dX8_layTowns_131 : decode cX8_layTowns 131 = .ok (.putfield 134, 3) := by decide +kernel
theorem dX8_layTowns_134 : decode cX8_layTowns 134 = .ok (.goto (-127), 3) := by decide +kernel
theorem dX8_layTowns_137 : decode cX8_layTowns 137 = .ok (.return_, 1) := by decide +kernel
theorem dX8_stepCost_0 : decode cX8_stepCost 0 = .ok (.aload_n 0, 1) := by decide +kernel
theorem dX8_stepCost_1 : decode cX8_stepCost 1 = .ok (.getfield 26, 3) := by decide +kernel
theorem dX8_stepCost_4 : decode cX8_stepCost 4 = .ok (.iload_n 1, 1) := by decide +kernel
theorem dX8_stepCost_5 : decode cX8_stepCost 5 = .ok (.iaload, 1) := by decide +kernel
theorem dX8_stepCost_6 : decode cX8_stepCost 6 = .ok (.aload_n 0, 1) := by decide +kernel
theorem dX8_stepCost_7 : decode cX8_stepCost 7 = .ok (.getfield 26, 3) := by decide +kernel
theorem dX8_stepCost_10 : decode cX8_stepCost 10 = .ok (.iload_n 2, 1) := by decide +kernel
theorem dX8_stepCost_11 : decode cX8_stepCost 11 = .ok (.iaload, 1) := by decide +kernel
theorem dX8_stepCost_12 : decode cX8_stepCost 12 = .ok (.isub, 1) := by decide +kernel
theorem dX8_stepCost_13 : decode cX8_stepCost 13 = .ok (.istore_n 3, 1) := by decide +kernel
theorem dX8_stepCost_14 : decode cX8_stepCost 14 = .ok (.bipush 10, 2) := by decide +kernel
theorem dX8_stepCost_16 : decode cX8_stepCost 16 = .ok (.iload_n 3, 1) := by decide +kernel
theorem dX8_stepCost_17 : decode cX8_stepCost 17 = .ok (.ifCond .ge 8, 3) := by decide +kernel
theorem dX8_stepCost_20 : decode cX8_stepCost 20 = .ok (.iload_n 3, 1) := by decide +kernel
theorem dX8_stepCost_21 : decode cX8_stepCost 21 = .ok (.ineg, 1) := by decide +kernel
theorem dX8_stepCost_22 : decode cX8_stepCost 22 = .ok (.goto 4, 3) := by decide +kernel
theorem dX8_stepCost_25 : decode cX8_stepCost 25 = .ok (.iload_n 3, 1) := by decide +kernel
theorem dX8_stepCost_26 : decode cX8_stepCost 26 = .ok (.iadd, 1) := by decide +kernel
theorem dX8_stepCost_27 : decode cX8_stepCost 27 = .ok (.aload_n 0, 1) := by decide +kernel
theorem dX8_stepCost_28 : decode cX8_stepCost 28 = .ok (.getfield 44, 3) := by decide +kernel
theorem dX8_stepCost_31 : decode cX8_stepCost 31 = .ok (.iload_n 1, 1) := by decide +kernel
theorem dX8_stepCost_32 : decode cX8_stepCost 32 = .ok (.iaload, 1) := by decide +kernel
theorem dX8_stepCost_33 : decode cX8_stepCost 33 = .ok (.iconst 4, 1) := by decide +kernel
theorem dX8_stepCost_34 : decode cX8_stepCost 34 = .ok (.if_icmp .eq 13, 3) := by decide +kernel
theorem dX8_stepCost_37 : decode cX8_stepCost 37 = .ok (.aload_n 0, 1) := by decide +kernel
theorem dX8_stepCost_38 : decode cX8_stepCost 38 = .ok (.getfield 44, 3) := by decide +kernel
theorem dX8_stepCost_41 : decode cX8_stepCost 41 = .ok (.iload_n 2, 1) := by decide +kernel
theorem dX8_stepCost_42 : decode cX8_stepCost 42 = .ok (.iaload, 1) := by decide +kernel
theorem dX8_stepCost_43 : decode cX8_stepCost 43 = .ok (.iconst 4, 1) := by decide +kernel
theorem dX8_stepCost_44 : decode cX8_stepCost 44 = .ok (.if_icmp .ne 12, 3) := by decide +kernel
theorem dX8_stepCost_47 : decode cX8_stepCost 47 = .ok (.aload_n 0, 1) := by decide +kernel
theorem dX8_stepCost_48 : decode cX8_stepCost 48 = .ok (.getfield 13, 3) := by decide +kernel
theorem dX8_stepCost_51 : decode cX8_stepCost 51 = .ok (.iconst 3, 1) := by decide +kernel
theorem dX8_stepCost_52 : decode cX8_stepCost 52 = .ok (.iaload, 1) := by decide +kernel
theorem dX8_stepCost_53 : decode cX8_stepCost 53 = .ok (.goto 4, 3) := by decide +kernel
theorem dX8_stepCost_56 : decode cX8_stepCost 56 = .ok (.iconst 0, 1) := by decide +kernel
theorem dX8_stepCost_57 : decode cX8_stepCost 57 = .ok (.iadd, 1) := by decide +kernel
theorem dX8_stepCost_58 : decode cX8_stepCost 58 = .ok (.ireturn, 1) := by decide +kernel
theorem dX8_isWay_0 : decode cX8_isWay 0 = .ok (.aload_n 0, 1) := by decide +kernel
theorem dX8_isWay_1 : decode cX8_isWay 1 = .ok (.getfield 44, 3) := by decide +kernel
theorem dX8_isWay_4 : decode cX8_isWay 4 = .ok (.iload_n 1, 1) := by decide +kernel
theorem dX8_isWay_5 : decode cX8_isWay 5 = .ok (.iaload, 1) := by decide +kernel
theorem dX8_isWay_6 : decode cX8_isWay 6 = .ok (.iconst 4, 1) := by decide +kernel
theorem dX8_isWay_7 : decode cX8_isWay 7 = .ok (.if_icmp .lt 7, 3) := by decide +kernel
theorem dX8_isWay_10 : decode cX8_isWay 10 = .ok (.iconst 1, 1) := by decide +kernel
theorem dX8_isWay_11 : decode cX8_isWay 11 = .ok (.goto 4, 3) := by decide +kernel
theorem dX8_isWay_14 : decode cX8_isWay 14 = .ok (.iconst 0, 1) := by decide +kernel
theorem dX8_isWay_15 : decode cX8_isWay 15 = .ok (.ireturn, 1) := by decide +kernel
theorem dX8_reckon_0 : decode cX8_reckon 0 = .ok (.iconst 0, 1) := by decide +kernel
theorem dX8_reckon_1 : decode cX8_reckon 1 = .ok (.istore_n 2, 1) := by decide +kernel
theorem dX8_reckon_2 : decode cX8_reckon 2 = .ok (.iload_n 2, 1) := by decide +kernel
theorem dX8_reckon_3 : decode cX8_reckon 3 = .ok (.aload_n 0, 1) := by decide +kernel
theorem dX8_reckon_4 : decode cX8_reckon 4 = .ok (.getfield 7, 3) := by decide +kernel
theorem dX8_reckon_7 : decode cX8_reckon 7 = .ok (.aload_n 0, 1) := by decide +kernel
theorem dX8_reckon_8 : decode cX8_reckon 8 = .ok (.getfield 7, 3) := by decide +kernel
theorem dX8_reckon_11 : decode cX8_reckon 11 = .ok (.imul, 1) := by decide +kernel
theorem dX8_reckon_12 : decode cX8_reckon 12 = .ok (.if_icmp .ge 23, 3) := by decide +kernel
theorem dX8_reckon_15 : decode cX8_reckon 15 = .ok (.aload_n 0, 1) := by decide +kernel
theorem dX8_reckon_16 : decode cX8_reckon 16 = .ok (.getfield 59, 3) := by decide +kernel
theorem dX8_reckon_19 : decode cX8_reckon 19 = .ok (.iload_n 2, 1) := by decide +kernel
theorem dX8_reckon_20 : decode cX8_reckon 20 = .ok (.iconst (-1), 1) := by decide +kernel
theorem dX8_reckon_21 : decode cX8_reckon 21 = .ok (.iastore, 1) := by decide +kernel
theorem dX8_reckon_22 : decode cX8_reckon 22 = .ok (.aload_n 0, 1) := by decide +kernel
theorem dX8_reckon_23 : decode cX8_reckon 23 = .ok (.getfield 62, 3) := by decide +kernel
theorem dX8_reckon_26 : decode cX8_reckon 26 = .ok (.iload_n 2, 1) := by decide +kernel
theorem dX8_reckon_27 : decode cX8_reckon 27 = .ok (.iconst 0, 1) := by decide +kernel
theorem dX8_reckon_28 : decode cX8_reckon 28 = .ok (.bastore, 1) := by decide +kernel
theorem dX8_reckon_29 : decode cX8_reckon 29 = .ok (.iinc 2 1, 3) := by decide +kernel
theorem dX8_reckon_32 : decode cX8_reckon 32 = .ok (.goto (-30), 3) := by decide +kernel
theorem dX8_reckon_35 : decode cX8_reckon 35 = .ok (.aload_n 0, 1) := by decide +kernel
theorem dX8_reckon_36 : decode cX8_reckon 36 = .ok (.getfield 59, 3) := by decide +kernel
theorem dX8_reckon_39 : decode cX8_reckon 39 = .ok (.iload_n 1, 1) := by decide +kernel
theorem dX8_reckon_40 : decode cX8_reckon 40 = .ok (.iconst 0, 1) := by decide +kernel
theorem dX8_reckon_41 : decode cX8_reckon 41 = .ok (.iastore, 1) := by decide +kernel
theorem dX8_reckon_42 : decode cX8_reckon 42 = .ok (.iload_n 1, 1) := by decide +kernel
theorem dX8_reckon_43 : decode cX8_reckon 43 = .ok (.istore_n 2, 1) := by decide +kernel
theorem dX8_reckon_44 : decode cX8_reckon 44 = .ok (.iload_n 2, 1) := by decide +kernel
theorem dX8_reckon_45 : decode cX8_reckon 45 = .ok (.ifCond .lt 172, 3) := by decide +kernel
theorem dX8_reckon_48 : decode cX8_reckon 48 = .ok (.aload_n 0, 1) := by decide +kernel
theorem dX8_reckon_49 : decode cX8_reckon 49 = .ok (.getfield 62, 3) := by decide +kernel
theorem dX8_reckon_52 : decode cX8_reckon 52 = .ok (.iload_n 2, 1) := by decide +kernel
theorem dX8_reckon_53 : decode cX8_reckon 53 = .ok (.iconst 1, 1) := by decide +kernel
theorem dX8_reckon_54 : decode cX8_reckon 54 = .ok (.bastore, 1) := by decide +kernel
theorem dX8_reckon_55 : decode cX8_reckon 55 = .ok (.iconst 0, 1) := by decide +kernel
theorem dX8_reckon_56 : decode cX8_reckon 56 = .ok (.istore_n 3, 1) := by decide +kernel
theorem dX8_reckon_57 : decode cX8_reckon 57 = .ok (.iload_n 3, 1) := by decide +kernel
theorem dX8_reckon_58 : decode cX8_reckon 58 = .ok (.iconst 4, 1) := by decide +kernel
theorem dX8_reckon_59 : decode cX8_reckon 59 = .ok (.if_icmp .ge 88, 3) := by decide +kernel
theorem dX8_reckon_62 : decode cX8_reckon 62 = .ok (.aload_n 0, 1) := by decide +kernel
theorem dX8_reckon_63 : decode cX8_reckon 63 = .ok (.iload_n 2, 1) := by decide +kernel
theorem dX8_reckon_64 : decode cX8_reckon 64 = .ok (.iload_n 3, 1) := by decide +kernel
theorem dX8_reckon_65 : decode cX8_reckon 65 = .ok (.invokevirtual 114, 3) := by decide +kernel
theorem dX8_reckon_68 : decode cX8_reckon 68 = .ok (.istore 4, 2) := by decide +kernel
theorem dX8_reckon_70 : decode cX8_reckon 70 = .ok (.iload 4, 2) := by decide +kernel
theorem dX8_reckon_72 : decode cX8_reckon 72 = .ok (.ifCond .lt 69, 3) := by decide +kernel
theorem dX8_reckon_75 : decode cX8_reckon 75 = .ok (.aload_n 0, 1) := by decide +kernel
theorem dX8_reckon_76 : decode cX8_reckon 76 = .ok (.iload 4, 2) := by decide +kernel
theorem dX8_reckon_78 : decode cX8_reckon 78 = .ok (.invokevirtual 146, 3) := by decide +kernel
theorem dX8_reckon_81 : decode cX8_reckon 81 = .ok (.ifCond .eq 60, 3) := by decide +kernel
theorem dX8_reckon_84 : decode cX8_reckon 84 = .ok (.aload_n 0, 1) := by decide +kernel
theorem dX8_reckon_85 : decode cX8_reckon 85 = .ok (.getfield 59, 3) := by decide +kernel
theorem dX8_reckon_88 : decode cX8_reckon 88 = .ok (.iload_n 2, 1) := by decide +kernel
theorem dX8_reckon_89 : decode cX8_reckon 89 = .ok (.iaload, 1) := by decide +kernel
theorem dX8_reckon_90 : decode cX8_reckon 90 = .ok (.aload_n 0, 1) := by decide +kernel
theorem dX8_reckon_91 : decode cX8_reckon 91 = .ok (.iload_n 2, 1) := by decide +kernel
theorem dX8_reckon_92 : decode cX8_reckon 92 = .ok (.iload 4, 2) := by decide +kernel
theorem dX8_reckon_94 : decode cX8_reckon 94 = .ok (.invokevirtual 149, 3) := by decide +kernel
theorem dX8_reckon_97 : decode cX8_reckon 97 = .ok (.iadd, 1) := by decide +kernel
theorem dX8_reckon_98 : decode cX8_reckon 98 = .ok (.istore 5, 2) := by decide +kernel
theorem dX8_reckon_100 : decode cX8_reckon 100 = .ok (.aload_n 0, 1) := by decide +kernel
theorem dX8_reckon_101 : decode cX8_reckon 101 = .ok (.getfield 59, 3) := by decide +kernel
theorem dX8_reckon_104 : decode cX8_reckon 104 = .ok (.iload 4, 2) := by decide +kernel
theorem dX8_reckon_106 : decode cX8_reckon 106 = .ok (.aload_n 0, 1) := by decide +kernel
theorem dX8_reckon_107 : decode cX8_reckon 107 = .ok (.getfield 59, 3) := by decide +kernel
theorem dX8_reckon_110 : decode cX8_reckon 110 = .ok (.iload 4, 2) := by decide +kernel
theorem dX8_reckon_112 : decode cX8_reckon 112 = .ok (.iaload, 1) := by decide +kernel
theorem dX8_reckon_113 : decode cX8_reckon 113 = .ok (.ifCond .lt 15, 3) := by decide +kernel
theorem dX8_reckon_116 : decode cX8_reckon 116 = .ok (.iload 5, 2) := by decide +kernel
theorem dX8_reckon_118 : decode cX8_reckon 118 = .ok (.aload_n 0, 1) := by decide +kernel
theorem dX8_reckon_119 : decode cX8_reckon 119 = .ok (.getfield 59, 3) := by decide +kernel
theorem dX8_reckon_122 : decode cX8_reckon 122 = .ok (.iload 4, 2) := by decide +kernel
theorem dX8_reckon_124 : decode cX8_reckon 124 = .ok (.iaload, 1) := by decide +kernel
theorem dX8_reckon_125 : decode cX8_reckon 125 = .ok (.if_icmp .ge 8, 3) := by decide +kernel
theorem dX8_reckon_128 : decode cX8_reckon 128 = .ok (.iload 5, 2) := by decide +kernel
theorem dX8_reckon_130 : decode cX8_reckon 130 = .ok (.goto 10, 3) := by decide +kernel
theorem dX8_reckon_133 : decode cX8_reckon 133 = .ok (.aload_n 0, 1) := by decide +kernel
theorem dX8_reckon_134 : decode cX8_reckon 134 = .ok (.getfield 59, 3) := by decide +kernel
theorem dX8_reckon_137 : decode cX8_reckon 137 = .ok (.iload 4, 2) := by decide +kernel
theorem dX8_reckon_139 : decode cX8_reckon 139 = .ok (.iaload, 1) := by decide +kernel
theorem dX8_reckon_140 : decode cX8_reckon 140 = .ok (.iastore, 1) := by decide +kernel
theorem dX8_reckon_141 : decode cX8_reckon 141 = .ok (.iinc 3 1, 3) := by decide +kernel
theorem dX8_reckon_144 : decode cX8_reckon 144 = .ok (.goto (-87), 3) := by decide +kernel
theorem dX8_reckon_147 : decode cX8_reckon 147 = .ok (.bipush (-6), 2) := by decide +kernel
theorem dX8_reckon_149 : decode cX8_reckon 149 = .ok (.istore_n 2, 1) := by decide +kernel
theorem dX8_reckon_150 : decode cX8_reckon 150 = .ok (.iconst 0, 1) := by decide +kernel
theorem dX8_reckon_151 : decode cX8_reckon 151 = .ok (.istore_n 3, 1) := by decide +kernel
theorem dX8_reckon_152 : decode cX8_reckon 152 = .ok (.iload_n 3, 1) := by decide +kernel
theorem dX8_reckon_153 : decode cX8_reckon 153 = .ok (.aload_n 0, 1) := by decide +kernel
theorem dX8_reckon_154 : decode cX8_reckon 154 = .ok (.getfield 7, 3) := by decide +kernel
theorem dX8_reckon_157 : decode cX8_reckon 157 = .ok (.aload_n 0, 1) := by decide +kernel
theorem dX8_reckon_158 : decode cX8_reckon 158 = .ok (.getfield 7, 3) := by decide +kernel
theorem dX8_reckon_161 : decode cX8_reckon 161 = .ok (.imul, 1) := by decide +kernel
theorem dX8_reckon_162 : decode cX8_reckon 162 = .ok (.if_icmp .ge 52, 3) := by decide +kernel
theorem dX8_reckon_165 : decode cX8_reckon 165 = .ok (.aload_n 0, 1) := by decide +kernel
theorem dX8_reckon_166 : decode cX8_reckon 166 = .ok (.getfield 62, 3) := by decide +kernel
theorem dX8_reckon_169 : decode cX8_reckon 169 = .ok (.iload_n 3, 1) := by decide +kernel
theorem dX8_reckon_170 : decode cX8_reckon 170 = .ok (.baload, 1) := by decide +kernel
theorem dX8_reckon_171 : decode cX8_reckon 171 = .ok (.ifCond .ne 35, 3) := by decide +kernel
theorem dX8_reckon_174 : decode cX8_reckon 174 = .ok (.aload_n 0, 1) := by decide +kernel
theorem dX8_reckon_175 : decode cX8_reckon 175 = .ok (.getfield 59, 3) := by decide +kernel
theorem dX8_reckon_178 : decode cX8_reckon 178 = .ok (.iload_n 3, 1) := by decide +kernel
theorem dX8_reckon_179 : decode cX8_reckon 179 = .ok (.iaload, 1) := by decide +kernel
theorem dX8_reckon_180 : decode cX8_reckon 180 = .ok (.ifCond .lt 26, 3) := by decide +kernel
theorem dX8_reckon_183 : decode cX8_reckon 183 = .ok (.iload_n 2, 1) := by decide +kernel
theorem dX8_reckon_184 : decode cX8_reckon 184 = .ok (.ifCond .lt 18, 3) := by decide +kernel
theorem dX8_reckon_187 : decode cX8_reckon 187 = .ok (.aload_n 0, 1) := by decide +kernel
theorem dX8_reckon_188 : decode cX8_reckon 188 = .ok (.getfield 59, 3) := by decide +kernel
theorem dX8_reckon_191 : decode cX8_reckon 191 = .ok (.iload_n 3, 1) := by decide +kernel
theorem dX8_reckon_192 : decode cX8_reckon 192 = .ok (.iaload, 1) := by decide +kernel
theorem dX8_reckon_193 : decode cX8_reckon 193 = .ok (.aload_n 0, 1) := by decide +kernel
theorem dX8_reckon_194 : decode cX8_reckon 194 = .ok (.getfield 59, 3) := by decide +kernel
theorem dX8_reckon_197 : decode cX8_reckon 197 = .ok (.iload_n 2, 1) := by decide +kernel
theorem dX8_reckon_198 : decode cX8_reckon 198 = .ok (.iaload, 1) := by decide +kernel
theorem dX8_reckon_199 : decode cX8_reckon 199 = .ok (.if_icmp .ge 7, 3) := by decide +kernel
theorem dX8_reckon_202 : decode cX8_reckon 202 = .ok (.iload_n 3, 1) := by decide +kernel
theorem dX8_reckon_203 : decode cX8_reckon 203 = .ok (.goto 4, 3) := by decide +kernel
theorem dX8_reckon_206 : decode cX8_reckon 206 = .ok (.iload_n 2, 1) := by decide +kernel
theorem dX8_reckon_207 : decode cX8_reckon 207 = .ok (.istore_n 2, 1) := by decide +kernel
theorem dX8_reckon_208 : decode cX8_reckon 208 = .ok (.iinc 3 1, 3) := by decide +kernel
theorem dX8_reckon_211 : decode cX8_reckon 211 = .ok (.goto (-59), 3) := by decide +kernel
theorem dX8_reckon_214 : decode cX8_reckon 214 = .ok (.goto (-170), 3) := by decide +kernel
theorem dX8_reckon_217 : decode cX8_reckon 217 = .ok (.return_, 1) := by decide +kernel
theorem dX8_next_0 : decode cX8_next 0 = .ok (.bipush (-6), 2) := by decide +kernel
theorem dX8_next_2 : decode cX8_next 2 = .ok (.istore_n 2, 1) := by decide +kernel
theorem dX8_next_3 : decode cX8_next 3 = .ok (.iconst 3, 1) := by decide +kernel
theorem dX8_next_4 : decode cX8_next 4 = .ok (.istore_n 3, 1) := by decide +kernel
theorem dX8_next_5 : decode cX8_next 5 = .ok (.iload_n 3, 1) := by decide +kernel
theorem dX8_next_6 : decode cX8_next 6 = .ok (.ifCond .lt 72, 3) := by decide +kernel
theorem dX8_next_9 : decode cX8_next 9 = .ok (.aload_n 0, 1) := by decide +kernel
theorem dX8_next_10 : decode cX8_next 10 = .ok (.iload_n 1, 1) := by decide +kernel
theorem dX8_next_11 : decode cX8_next 11 = .ok (.iload_n 3, 1) := by decide +kernel
theorem dX8_next_12 : decode cX8_next 12 = .ok (.invokevirtual 114, 3) := by decide +kernel
theorem dX8_next_15 : decode cX8_next 15 = .ok (.istore 4, 2) := by decide +kernel
theorem dX8_next_17 : decode cX8_next 17 = .ok (.iload 4, 2) := by decide +kernel
theorem dX8_next_19 : decode cX8_next 19 = .ok (.ifCond .lt 51, 3) := by decide +kernel
theorem dX8_next_22 : decode cX8_next 22 = .ok (.aload_n 0, 1) := by decide +kernel
theorem dX8_next_23 : decode cX8_next 23 = .ok (.iload 4, 2) := by decide +kernel
theorem dX8_next_25 : decode cX8_next 25 = .ok (.invokevirtual 146, 3) := by decide +kernel
theorem dX8_next_28 : decode cX8_next 28 = .ok (.ifCond .eq 42, 3) := by decide +kernel
theorem dX8_next_31 : decode cX8_next 31 = .ok (.aload_n 0, 1) := by decide +kernel
theorem dX8_next_32 : decode cX8_next 32 = .ok (.getfield 59, 3) := by decide +kernel
theorem dX8_next_35 : decode cX8_next 35 = .ok (.iload 4, 2) := by decide +kernel
theorem dX8_next_37 : decode cX8_next 37 = .ok (.iaload, 1) := by decide +kernel
theorem dX8_next_38 : decode cX8_next 38 = .ok (.ifCond .lt 32, 3) := by decide +kernel
theorem dX8_next_41 : decode cX8_next 41 = .ok (.aload_n 0, 1) := by decide +kernel
theorem dX8_next_42 : decode cX8_next 42 = .ok (.getfield 59, 3) := by decide +kernel
theorem dX8_next_45 : decode cX8_next 45 = .ok (.iload 4, 2) := by decide +kernel
theorem dX8_next_47 : decode cX8_next 47 = .ok (.iaload, 1) := by decide +kernel
theorem dX8_next_48 : decode cX8_next 48 = .ok (.aload_n 0, 1) := by decide +kernel
theorem dX8_next_49 : decode cX8_next 49 = .ok (.iload_n 1, 1) := by decide +kernel
theorem dX8_next_50 : decode cX8_next 50 = .ok (.iload 4, 2) := by decide +kernel
theorem dX8_next_52 : decode cX8_next 52 = .ok (.invokevirtual 149, 3) := by decide +kernel
theorem dX8_next_55 : decode cX8_next 55 = .ok (.iadd, 1) := by decide +kernel
theorem dX8_next_56 : decode cX8_next 56 = .ok (.aload_n 0, 1) := by decide +kernel
theorem dX8_next_57 : decode cX8_next 57 = .ok (.getfield 59, 3) := by decide +kernel
theorem dX8_next_60 : decode cX8_next 60 = .ok (.iload_n 1, 1) := by decide +kernel
theorem dX8_next_61 : decode cX8_next 61 = .ok (.iaload, 1) := by decide +kernel
theorem dX8_next_62 : decode cX8_next 62 = .ok (.if_icmp .ne 8, 3) := by decide +kernel
theorem dX8_next_65 : decode cX8_next 65 = .ok (.iload 4, 2) := by decide +kernel
theorem dX8_next_67 : decode cX8_next 67 = .ok (.goto 4, 3) := by decide +kernel
theorem dX8_next_70 : decode cX8_next 70 = .ok (.iload_n 2, 1) := by decide +kernel
theorem dX8_next_71 : decode cX8_next 71 = .ok (.istore_n 2, 1) := by decide +kernel
theorem dX8_next_72 : decode cX8_next 72 = .ok (.iinc 3 (-1), 3) := by decide +kernel
theorem dX8_next_75 : decode cX8_next 75 = .ok (.goto (-70), 3) := by decide +kernel
theorem dX8_next_78 : decode cX8_next 78 = .ok (.iload_n 2, 1) := by decide +kernel
theorem dX8_next_79 : decode cX8_next 79 = .ok (.ireturn, 1) := by decide +kernel
theorem dX8_layNet_0 : decode cX8_layNet 0 = .ok (.aload_n 0, 1) := by decide +kernel
theorem dX8_layNet_1 : decode cX8_layNet 1 = .ok (.aload_n 0, 1) := by decide +kernel
theorem dX8_layNet_2 : decode cX8_layNet 2 = .ok (.getfield 134, 3) := by decide +kernel
theorem dX8_layNet_5 : decode cX8_layNet 5 = .ok (.ifCond .le 7, 3) := by decide +kernel
theorem dX8_layNet_8 : decode cX8_layNet 8 = .ok (.iconst 1, 1) := by decide +kernel
theorem dX8_layNet_9 : decode cX8_layNet 9 = .ok (.goto 4, 3) := by decide +kernel
theorem dX8_layNet_12 : decode cX8_layNet 12 = .ok (.iconst 0, 1) := by decide +kernel
theorem dX8_layNet_13 : decode cX8_layNet 13 = .ok (.putfield 152, 3) := by decide +kernel
theorem dX8_layNet_16 : decode cX8_layNet 16 = .ok (.aload_n 0, 1) := by decide +kernel
theorem dX8_layNet_17 : decode cX8_layNet 17 = .ok (.iconst 0, 1) := by decide +kernel
theorem dX8_layNet_18 : decode cX8_layNet 18 = .ok (.putfield 155, 3) := by decide +kernel
theorem dX8_layNet_21 : decode cX8_layNet 21 = .ok (.aload_n 0, 1) := by decide +kernel
theorem dX8_layNet_22 : decode cX8_layNet 22 = .ok (.iconst 0, 1) := by decide +kernel
theorem dX8_layNet_23 : decode cX8_layNet 23 = .ok (.putfield 158, 3) := by decide +kernel
theorem dX8_layNet_26 : decode cX8_layNet 26 = .ok (.iconst 0, 1) := by decide +kernel
theorem dX8_layNet_27 : decode cX8_layNet 27 = .ok (.istore_n 1, 1) := by decide +kernel
theorem dX8_layNet_28 : decode cX8_layNet 28 = .ok (.iload_n 1, 1) := by decide +kernel
theorem dX8_layNet_29 : decode cX8_layNet 29 = .ok (.aload_n 0, 1) := by decide +kernel
theorem dX8_layNet_30 : decode cX8_layNet 30 = .ok (.getfield 7, 3) := by decide +kernel
theorem dX8_layNet_33 : decode cX8_layNet 33 = .ok (.aload_n 0, 1) := by decide +kernel
theorem dX8_layNet_34 : decode cX8_layNet 34 = .ok (.getfield 7, 3) := by decide +kernel
theorem dX8_layNet_37 : decode cX8_layNet 37 = .ok (.imul, 1) := by decide +kernel
theorem dX8_layNet_38 : decode cX8_layNet 38 = .ok (.if_icmp .ge 16, 3) := by decide +kernel
theorem dX8_layNet_41 : decode cX8_layNet 41 = .ok (.aload_n 0, 1) := by decide +kernel
theorem dX8_layNet_42 : decode cX8_layNet 42 = .ok (.getfield 56, 3) := by decide +kernel
theorem dX8_layNet_45 : decode cX8_layNet 45 = .ok (.iload_n 1, 1) := by decide +kernel
theorem dX8_layNet_46 : decode cX8_layNet 46 = .ok (.iconst 0, 1) := by decide +kernel
theorem dX8_layNet_47 : decode cX8_layNet 47 = .ok (.iastore, 1) := by decide +kernel
theorem dX8_layNet_48 : decode cX8_layNet 48 = .ok (.iinc 1 1, 3) := by decide +kernel
theorem dX8_layNet_51 : decode cX8_layNet 51 = .ok (.goto (-23), 3) := by decide +kernel
theorem dX8_layNet_54 : decode cX8_layNet 54 = .ok (.aload_n 0, 1) := by decide +kernel
theorem dX8_layNet_55 : decode cX8_layNet 55 = .ok (.getfield 152, 3) := by decide +kernel
theorem dX8_layNet_58 : decode cX8_layNet 58 = .ok (.istore_n 1, 1) := by decide +kernel
theorem dX8_layNet_59 : decode cX8_layNet 59 = .ok (.iconst 1, 1) := by decide +kernel
theorem dX8_layNet_60 : decode cX8_layNet 60 = .ok (.istore_n 2, 1) := by decide +kernel
theorem dX8_layNet_61 : decode cX8_layNet 61 = .ok (.iload_n 2, 1) := by decide +kernel
theorem dX8_layNet_62 : decode cX8_layNet 62 = .ok (.ifCond .eq 308, 3) := by decide +kernel
theorem dX8_layNet_65 : decode cX8_layNet 65 = .ok (.iconst (-1), 1) := by decide +kernel
theorem dX8_layNet_66 : decode cX8_layNet 66 = .ok (.istore_n 3, 1) := by decide +kernel
theorem dX8_layNet_67 : decode cX8_layNet 67 = .ok (.bipush (-6), 2) := by decide +kernel
theorem dX8_layNet_69 : decode cX8_layNet 69 = .ok (.istore 4, 2) := by decide +kernel
theorem dX8_layNet_71 : decode cX8_layNet 71 = .ok (.bipush (-6), 2) := by decide +kernel
theorem dX8_layNet_73 : decode cX8_layNet 73 = .ok (.istore 5, 2) := by decide +kernel
theorem dX8_layNet_75 : decode cX8_layNet 75 = .ok (.iconst 0, 1) := by decide +kernel
theorem dX8_layNet_76 : decode cX8_layNet 76 = .ok (.istore 6, 2) := by decide +kernel
theorem dX8_layNet_78 : decode cX8_layNet 78 = .ok (.iload 6, 2) := by decide +kernel
theorem dX8_layNet_80 : decode cX8_layNet 80 = .ok (.aload_n 0, 1) := by decide +kernel
theorem dX8_layNet_81 : decode cX8_layNet 81 = .ok (.getfield 134, 3) := by decide +kernel
theorem dX8_layNet_84 : decode cX8_layNet 84 = .ok (.if_icmp .ge 140, 3) := by decide +kernel
theorem dX8_layNet_87 : decode cX8_layNet 87 = .ok (.iload_n 1, 1) := by decide +kernel
theorem dX8_layNet_88 : decode cX8_layNet 88 = .ok (.iload 6, 2) := by decide +kernel
theorem dX8_layNet_90 : decode cX8_layNet 90 = .ok (.ishr, 1) := by decide +kernel
theorem dX8_layNet_91 : decode cX8_layNet 91 = .ok (.iconst 1, 1) := by decide +kernel
theorem dX8_layNet_92 : decode cX8_layNet 92 = .ok (.iand, 1) := by decide +kernel
theorem dX8_layNet_93 : decode cX8_layNet 93 = .ok (.ifCond .ne 125, 3) := by decide +kernel
theorem dX8_layNet_96 : decode cX8_layNet 96 = .ok (.aload_n 0, 1) := by decide +kernel
theorem dX8_layNet_97 : decode cX8_layNet 97 = .ok (.aload_n 0, 1) := by decide +kernel
theorem dX8_layNet_98 : decode cX8_layNet 98 = .ok (.getfield 47, 3) := by decide +kernel
theorem dX8_layNet_101 : decode cX8_layNet 101 = .ok (.iload 6, 2) := by decide +kernel
theorem dX8_layNet_103 : decode cX8_layNet 103 = .ok (.iaload, 1) := by decide +kernel
theorem dX8_layNet_104 : decode cX8_layNet 104 = .ok (.invokevirtual 161, 3) := by decide +kernel
theorem dX8_layNet_107 : decode cX8_layNet 107 = .ok (.iconst 0, 1) := by decide +kernel
theorem dX8_layNet_108 : decode cX8_layNet 108 = .ok (.istore 7, 2) := by decide +kernel
theorem dX8_layNet_110 : decode cX8_layNet 110 = .ok (.iload 7, 2) := by decide +kernel
theorem dX8_layNet_112 : decode cX8_layNet 112 = .ok (.aload_n 0, 1) := by decide +kernel
theorem dX8_layNet_113 : decode cX8_layNet 113 = .ok (.getfield 134, 3) := by decide +kernel
theorem dX8_layNet_116 : decode cX8_layNet 116 = .ok (.if_icmp .ge 102, 3) := by decide +kernel
theorem dX8_layNet_119 : decode cX8_layNet 119 = .ok (.iload_n 1, 1) := by decide +kernel
theorem dX8_layNet_120 : decode cX8_layNet 120 = .ok (.iload 7, 2) := by decide +kernel
theorem dX8_layNet_122 : decode cX8_layNet 122 = .ok (.ishr, 1) := by decide +kernel
theorem dX8_layNet_123 : decode cX8_layNet 123 = .ok (.iconst 1, 1) := by decide +kernel
theorem dX8_layNet_124 : decode cX8_layNet 124 = .ok (.iand, 1) := by decide +kernel
theorem dX8_layNet_125 : decode cX8_layNet 125 = .ok (.iconst 1, 1) := by decide +kernel
theorem dX8_layNet_126 : decode cX8_layNet 126 = .ok (.if_icmp .ne 18, 3) := by decide +kernel
theorem dX8_layNet_129 : decode cX8_layNet 129 = .ok (.aload_n 0, 1) := by decide +kernel
theorem dX8_layNet_130 : decode cX8_layNet 130 = .ok (.getfield 59, 3) := by decide +kernel
theorem dX8_layNet_133 : decode cX8_layNet 133 = .ok (.aload_n 0, 1) := by decide +kernel
theorem dX8_layNet_134 : decode cX8_layNet 134 = .ok (.getfield 47, 3) := by decide +kernel
theorem dX8_layNet_137 : decode cX8_layNet 137 = .ok (.iload 7, 2) := by decide +kernel
theorem dX8_layNet_139 : decode cX8_layNet 139 = .ok (.iaload, 1) := by decide +kernel
theorem dX8_layNet_140 : decode cX8_layNet 140 = .ok (.iaload, 1) := by decide +kernel
theorem dX8_layNet_141 : decode cX8_layNet 141 = .ok (.goto 4, 3) := by decide +kernel
theorem dX8_layNet_144 : decode cX8_layNet 144 = .ok (.iconst (-1), 1) := by decide +kernel
theorem dX8_layNet_145 : decode cX8_layNet 145 = .ok (.istore 8, 2) := by decide +kernel
theorem dX8_layNet_147 : decode cX8_layNet 147 = .ok (.iload 8, 2) := by decide +kernel
theorem dX8_layNet_149 : decode cX8_layNet 149 = .ok (.ifCond .lt 44, 3) := by decide +kernel
theorem dX8_layNet_152 : decode cX8_layNet 152 = .ok (.iload_n 3, 1) := by decide +kernel
theorem dX8_layNet_153 : decode cX8_layNet 153 = .ok (.ifCond .lt 36, 3) := by decide +kernel
theorem dX8_layNet_156 : decode cX8_layNet 156 = .ok (.iload 8, 2) := by decide +kernel
theorem dX8_layNet_158 : decode cX8_layNet 158 = .ok (.iload_n 3, 1) := by decide +kernel
theorem dX8_layNet_159 : decode cX8_layNet 159 = .ok (.if_icmp .lt 30, 3) := by decide +kernel
theorem dX8_layNet_162 : decode cX8_layNet 162 = .ok (.iload 8, 2) := by decide +kernel
theorem dX8_layNet_164 : decode cX8_layNet 164 = .ok (.iload_n 3, 1) := by decide +kernel
theorem dX8_layNet_165 : decode cX8_layNet 165 = .ok (.if_icmp .ne 28, 3) := by decide +kernel
theorem dX8_layNet_168 : decode cX8_layNet 168 = .ok (.iload 7, 2) := by decide +kernel
theorem dX8_layNet_170 : decode cX8_layNet 170 = .ok (.iload 4, 2) := by decide +kernel
theorem dX8_layNet_172 : decode cX8_layNet 172 = .ok (.if_icmp .lt 17, 3) := by decide +kernel
theorem dX8_layNet_175 : decode cX8_layNet 175 = .ok (.iload 7, 2) := by decide +kernel
theorem dX8_layNet_177 : decode cX8_layNet 177 = .ok (.iload 4, 2) := by decide +kernel
theorem dX8_layNet_179 : decode cX8_layNet 179 = .ok (.if_icmp .ne 14, 3) := by decide +kernel
theorem dX8_layNet_182 : decode cX8_layNet 182 = .ok (.iload 6, 2) := by decide +kernel
theorem dX8_layNet_184 : decode cX8_layNet 184 = .ok (.iload 5, 2) := by decide +kernel
theorem dX8_layNet_186 : decode cX8_layNet 186 = .ok (.if_icmp .ge 7, 3) := by decide +kernel
theorem dX8_layNet_189 : decode cX8_layNet 189 = .ok (.iconst 1, 1) := by decide +kernel
theorem dX8_layNet_190 : decode cX8_layNet 190 = .ok (.goto 4, 3) := by decide +kernel
theorem dX8_layNet_193 : decode cX8_layNet 193 = .ok (.iconst 0, 1) := by decide +kernel
theorem dX8_layNet_194 : decode cX8_layNet 194 = .ok (.istore 9, 2) := by decide +kernel
theorem dX8_layNet_196 : decode cX8_layNet 196 = .ok (.iload 9, 2) := by decide +kernel
theorem dX8_layNet_198 : decode cX8_layNet 198 = .ok (.ifCond .eq 14, 3) := by decide +kernel
theorem dX8_layNet_201 : decode cX8_layNet 201 = .ok (.iload 8, 2) := by decide +kernel
theorem dX8_layNet_203 : decode cX8_layNet 203 = .ok (.istore_n 3, 1) := by decide +kernel
theorem dX8_layNet_204 : decode cX8_layNet 204 = .ok (.iload 7, 2) := by decide +kernel
theorem dX8_layNet_206 : decode cX8_layNet 206 = .ok (.istore 4, 2) := by decide +kernel
theorem dX8_layNet_208 : decode cX8_layNet 208 = .ok (.iload 6, 2) := by decide +kernel
theorem dX8_layNet_210 : decode cX8_layNet 210 = .ok (.istore 5, 2) := by decide +kernel
theorem dX8_layNet_212 : decode cX8_layNet 212 = .ok (.iinc 7 1, 3) := by decide +kernel
theorem dX8_layNet_215 : decode cX8_layNet 215 = .ok (.goto (-105), 3) := by decide +kernel
theorem dX8_layNet_218 : decode cX8_layNet 218 = .ok (.iinc 6 1, 3) := by decide +kernel
theorem dX8_layNet_221 : decode cX8_layNet 221 = .ok (.goto (-143), 3) := by decide +kernel
theorem dX8_layNet_224 : decode cX8_layNet 224 = .ok (.iload_n 3, 1) := by decide +kernel
theorem dX8_layNet_225 : decode cX8_layNet 225 = .ok (.ifCond .lt 7, 3) := by decide +kernel
theorem dX8_layNet_228 : decode cX8_layNet 228 = .ok (.iconst 1, 1) := by decide +kernel
theorem dX8_layNet_229 : decode cX8_layNet 229 = .ok (.goto 4, 3) := by decide +kernel
theorem dX8_layNet_232 : decode cX8_layNet 232 = .ok (.iconst 0, 1) := by decide +kernel
theorem dX8_layNet_233 : decode cX8_layNet 233 = .ok (.istore_n 2, 1) := by decide +kernel
theorem dX8_layNet_234 : decode cX8_layNet 234 = .ok (.iload_n 2, 1) := by decide +kernel
theorem dX8_layNet_235 : decode cX8_layNet 235 = .ok (.ifCond .eq 132, 3) := by decide +kernel
theorem dX8_layNet_238 : decode cX8_layNet 238 = .ok (.iload_n 1, 1) := by decide +kernel
theorem dX8_layNet_239 : decode cX8_layNet 239 = .ok (.iconst 1, 1) := by decide +kernel
theorem dX8_layNet_240 : decode cX8_layNet 240 = .ok (.iload 5, 2) := by decide +kernel
theorem dX8_layNet_242 : decode cX8_layNet 242 = .ok (.ishl, 1) := by decide +kernel
theorem dX8_layNet_243 : decode cX8_layNet 243 = .ok (.ior, 1) := by decide +kernel
theorem dX8_layNet_244 : decode cX8_layNet 244 = .ok (.istore_n 1, 1) := by decide +kernel
theorem dX8_layNet_245 : decode cX8_layNet 245 = .ok (.aload_n 0, 1) := by decide +kernel
theorem dX8_layNet_246 : decode cX8_layNet 246 = .ok (.dup, 1) := by decide +kernel
theorem dX8_layNet_247 : decode cX8_layNet 247 = .ok (.getfield 152, 3) := by decide +kernel
theorem dX8_layNet_250 : decode cX8_layNet 250 = .ok (.iconst 1, 1) := by decide +kernel
theorem dX8_layNet_251 : decode cX8_layNet 251 = .ok (.iadd, 1) := by decide +kernel
theorem dX8_layNet_252 : decode cX8_layNet 252 = .ok (.putfield 152, 3) := by decide +kernel
theorem dX8_layNet_255 : decode cX8_layNet 255 = .ok (.aload_n 0, 1) := by decide +kernel
theorem dX8_layNet_256 : decode cX8_layNet 256 = .ok (.dup, 1) := by decide +kernel
theorem dX8_layNet_257 : decode cX8_layNet 257 = .ok (.getfield 155, 3) := by decide +kernel
theorem dX8_layNet_260 : decode cX8_layNet 260 = .ok (.iload_n 3, 1) := by decide +kernel
theorem dX8_layNet_261 : decode cX8_layNet 261 = .ok (.iadd, 1) := by decide +kernel
theorem dX8_layNet_262 : decode cX8_layNet 262 = .ok (.putfield 155, 3) := by decide +kernel
theorem dX8_layNet_265 : decode cX8_layNet 265 = .ok (.aload_n 0, 1) := by decide +kernel
theorem dX8_layNet_266 : decode cX8_layNet 266 = .ok (.getfield 50, 3) := by decide +kernel
theorem dX8_layNet_269 : decode cX8_layNet 269 = .ok (.aload_n 0, 1) := by decide +kernel
theorem dX8_layNet_270 : decode cX8_layNet 270 = .ok (.getfield 158, 3) := by decide +kernel
theorem dX8_layNet_273 : decode cX8_layNet 273 = .ok (.iload 4, 2) := by decide +kernel
theorem dX8_layNet_275 : decode cX8_layNet 275 = .ok (.iastore, 1) := by decide +kernel
theorem dX8_layNet_276 : decode cX8_layNet 276 = .ok (.aload_n 0, 1) := by decide +kernel
theorem dX8_layNet_277 : decode cX8_layNet 277 = .ok (.getfield 53, 3) := by decide +kernel
theorem dX8_layNet_280 : decode cX8_layNet 280 = .ok (.aload_n 0, 1) := by decide +kernel
theorem dX8_layNet_281 : decode cX8_layNet 281 = .ok (.getfield 158, 3) := by decide +kernel
theorem dX8_layNet_284 : decode cX8_layNet 284 = .ok (.iload 5, 2) := by decide +kernel
theorem dX8_layNet_286 : decode cX8_layNet 286 = .ok (.iastore, 1) := by decide +kernel
theorem dX8_layNet_287 : decode cX8_layNet 287 = .ok (.aload_n 0, 1) := by decide +kernel
theorem dX8_layNet_288 : decode cX8_layNet 288 = .ok (.dup, 1) := by decide +kernel
theorem dX8_layNet_289 : decode cX8_layNet 289 = .ok (.getfield 158, 3) := by decide +kernel
theorem dX8_layNet_292 : decode cX8_layNet 292 = .ok (.iconst 1, 1) := by decide +kernel
theorem dX8_layNet_293 : decode cX8_layNet 293 = .ok (.iadd, 1) := by decide +kernel
theorem dX8_layNet_294 : decode cX8_layNet 294 = .ok (.putfield 158, 3) := by decide +kernel
theorem dX8_layNet_297 : decode cX8_layNet 297 = .ok (.aload_n 0, 1) := by decide +kernel
theorem dX8_layNet_298 : decode cX8_layNet 298 = .ok (.aload_n 0, 1) := by decide +kernel
theorem dX8_layNet_299 : decode cX8_layNet 299 = .ok (.getfield 47, 3) := by decide +kernel
theorem dX8_layNet_302 : decode cX8_layNet 302 = .ok (.iload 5, 2) := by decide +kernel
theorem dX8_layNet_304 : decode cX8_layNet 304 = .ok (.iaload, 1) := by decide +kernel
theorem dX8_layNet_305 : decode cX8_layNet 305 = .ok (.invokevirtual 161, 3) := by decide +kernel
theorem dX8_layNet_308 : decode cX8_layNet 308 = .ok (.aload_n 0, 1) := by decide +kernel
theorem dX8_layNet_309 : decode cX8_layNet 309 = .ok (.getfield 56, 3) := by decide +kernel
theorem dX8_layNet_312 : decode cX8_layNet 312 = .ok (.aload_n 0, 1) := by decide +kernel
theorem dX8_layNet_313 : decode cX8_layNet 313 = .ok (.getfield 47, 3) := by decide +kernel
theorem dX8_layNet_316 : decode cX8_layNet 316 = .ok (.iload 4, 2) := by decide +kernel
theorem dX8_layNet_318 : decode cX8_layNet 318 = .ok (.iaload, 1) := by decide +kernel
theorem dX8_layNet_319 : decode cX8_layNet 319 = .ok (.dup2, 1) := by decide +kernel
theorem dX8_layNet_320 : decode cX8_layNet 320 = .ok (.iaload, 1) := by decide +kernel
theorem dX8_layNet_321 : decode cX8_layNet 321 = .ok (.iconst 1, 1) := by decide +kernel
theorem dX8_layNet_322 : decode cX8_layNet 322 = .ok (.iadd, 1) := by decide +kernel
theorem dX8_layNet_323 : decode cX8_layNet 323 = .ok (.iastore, 1) := by decide +kernel
theorem dX8_layNet_324 : decode cX8_layNet 324 = .ok (.aload_n 0, 1) := by decide +kernel
theorem dX8_layNet_325 : decode cX8_layNet 325 = .ok (.getfield 47, 3) := by decide +kernel
theorem dX8_layNet_328 : decode cX8_layNet 328 = .ok (.iload 4, 2) := by decide +kernel
theorem dX8_layNet_330 : decode cX8_layNet 330 = .ok (.iaload, 1) := by decide +kernel
theorem dX8_layNet_331 : decode cX8_layNet 331 = .ok (.istore 6, 2) := by decide +kernel
theorem dX8_layNet_333 : decode cX8_layNet 333 = .ok (.iload 6, 2) := by decide +kernel
theorem dX8_layNet_335 : decode cX8_layNet 335 = .ok (.aload_n 0, 1) := by decide +kernel
theorem dX8_layNet_336 : decode cX8_layNet 336 = .ok (.getfield 47, 3) := by decide +kernel
theorem dX8_layNet_339 : decode cX8_layNet 339 = .ok (.iload 5, 2) := by decide +kernel
theorem dX8_layNet_341 : decode cX8_layNet 341 = .ok (.iaload, 1) := by decide +kernel
theorem dX8_layNet_342 : decode cX8_layNet 342 = .ok (.if_icmp .eq 25, 3) := by decide +kernel
theorem dX8_layNet_345 : decode cX8_layNet 345 = .ok (.aload_n 0, 1) := by decide +kernel
theorem dX8_layNet_346 : decode cX8_layNet 346 = .ok (.iload 6, 2) := by decide +kernel
theorem dX8_layNet_348 : decode cX8_layNet 348 = .ok (.invokevirtual 165, 3) := by decide +kernel
theorem dX8_layNet_351 : decode cX8_layNet 351 = .ok (.istore 6, 2) := by decide +kernel
theorem dX8_layNet_353 : decode cX8_layNet 353 = .ok (.aload_n 0, 1) := by decide +kernel
theorem dX8_layNet_354 : decode cX8_layNet 354 = .ok (.getfield 56, 3) := by decide +kernel
theorem dX8_layNet_357 : decode cX8_layNet 357 = .ok (.iload 6, 2) := by decide +kernel
theorem dX8_layNet_359 : decode cX8_layNet 359 = .ok (.dup2, 1) := by decide +kernel
theorem dX8_layNet_360 : decode cX8_layNet 360 = .ok (.iaload, 1) := by decide +kernel
theorem dX8_layNet_361 : decode cX8_layNet 361 = .ok (.iconst 1, 1) := by decide +kernel
theorem dX8_layNet_362 : decode cX8_layNet 362 = .ok (.iadd, 1) := by decide +kernel
theorem dX8_layNet_363 : decode cX8_layNet 363 = .ok (.iastore, 1) := by decide +kernel
theorem dX8_layNet_364 : decode cX8_layNet 364 = .ok (.goto (-31), 3) := by decide +kernel
theorem dX8_layNet_367 : decode cX8_layNet 367 = .ok (.goto (-306), 3) := by decide +kernel
theorem dX8_layNet_370 : decode cX8_layNet 370 = .ok (.return_, 1) := by decide +kernel
theorem dX8_lay_0 : decode cX8_lay 0 = .ok (.aload_n 0, 1) := by decide +kernel
theorem dX8_lay_1 : decode cX8_lay 1 = .ok (.getfield 76, 3) := by decide +kernel
theorem dX8_lay_4 : decode cX8_lay 4 = .ok (.ifCond .ne 20, 3) := by decide +kernel
theorem dX8_lay_7 : decode cX8_lay 7 = .ok (.aload_n 0, 1) := by decide +kernel
theorem dX8_lay_8 : decode cX8_lay 8 = .ok (.iconst 1, 1) := by decide +kernel
theorem dX8_lay_9 : decode cX8_lay 9 = .ok (.putfield 76, 3) := by decide +kernel
theorem dX8_lay_12 : decode cX8_lay 12 = .ok (.aload_n 0, 1) := by decide +kernel
theorem dX8_lay_13 : decode cX8_lay 13 = .ok (.invokevirtual 168, 3) := by decide +kernel
theorem dX8_lay_16 : decode cX8_lay 16 = .ok (.aload_n 0, 1) := by decide +kernel
theorem dX8_lay_17 : decode cX8_lay 17 = .ok (.invokevirtual 171, 3) := by decide +kernel
theorem dX8_lay_20 : decode cX8_lay 20 = .ok (.aload_n 0, 1) := by decide +kernel
theorem dX8_lay_21 : decode cX8_lay 21 = .ok (.invokevirtual 174, 3) := by decide +kernel
theorem dX8_lay_24 : decode cX8_lay 24 = .ok (.return_, 1) := by decide +kernel
theorem dX8_outletOf_0 : decode cX8_outletOf 0 = .ok (.iload_n 1, 1) := by decide +kernel
theorem dX8_outletOf_1 : decode cX8_outletOf 1 = .ok (.istore_n 2, 1) := by decide +kernel
theorem dX8_outletOf_2 : decode cX8_outletOf 2 = .ok (.aload_n 0, 1) := by decide +kernel
theorem dX8_outletOf_3 : decode cX8_outletOf 3 = .ok (.getfield 32, 3) := by decide +kernel
theorem dX8_outletOf_6 : decode cX8_outletOf 6 = .ok (.iload_n 2, 1) := by decide +kernel
theorem dX8_outletOf_7 : decode cX8_outletOf 7 = .ok (.iaload, 1) := by decide +kernel
theorem dX8_outletOf_8 : decode cX8_outletOf 8 = .ok (.ifCond .lt 13, 3) := by decide +kernel
theorem dX8_outletOf_11 : decode cX8_outletOf 11 = .ok (.aload_n 0, 1) := by decide +kernel
theorem dX8_outletOf_12 : decode cX8_outletOf 12 = .ok (.getfield 32, 3) := by decide +kernel
theorem dX8_outletOf_15 : decode cX8_outletOf 15 = .ok (.iload_n 2, 1) := by decide +kernel
theorem dX8_outletOf_16 : decode cX8_outletOf 16 = .ok (.iaload, 1) := by decide +kernel
theorem dX8_outletOf_17 : decode cX8_outletOf 17 = .ok (.istore_n 2, 1) := by decide +kernel
theorem dX8_outletOf_18 : decode cX8_outletOf 18 = .ok (.goto (-16), 3) := by decide +kernel
theorem dX8_outletOf_21 : decode cX8_outletOf 21 = .ok (.iload_n 2, 1) := by decide +kernel
theorem dX8_outletOf_22 : decode cX8_outletOf 22 = .ok (.ireturn, 1) := by decide +kernel
theorem dX8_about_0 : decode cX8_about 0 = .ok (.aload_n 0, 1) := by decide +kernel
theorem dX8_about_1 : decode cX8_about 1 = .ok (.iload_n 1, 1) := by decide +kernel
theorem dX8_about_2 : decode cX8_about 2 = .ok (.invokevirtual 104, 3) := by decide +kernel
theorem dX8_about_5 : decode cX8_about 5 = .ok (.ifCond .ne 5, 3) := by decide +kernel
theorem dX8_about_8 : decode cX8_about 8 = .ok (.iconst (-1), 1) := by decide +kernel
theorem dX8_about_9 : decode cX8_about 9 = .ok (.ireturn, 1) := by decide +kernel
theorem dX8_about_10 : decode cX8_about 10 = .ok (.aload_n 0, 1) := by decide +kernel
theorem dX8_about_11 : decode cX8_about 11 = .ok (.invokevirtual 177, 3) := by decide +kernel
theorem dX8_about_14 : decode cX8_about 14 = .ok (.iload_n 2, 1) := by decide +kernel
theorem dX8_about_15 : decode cX8_about 15 = .ok (.tableswitch 88 0 6 #[41, 48, 55, 62, 69, 75, 82], 41) := by decide +kernel
theorem dX8_about_56 : decode cX8_about 56 = .ok (.aload_n 0, 1) := by decide +kernel
theorem dX8_about_57 : decode cX8_about 57 = .ok (.getfield 26, 3) := by decide +kernel
theorem dX8_about_60 : decode cX8_about 60 = .ok (.iload_n 1, 1) := by decide +kernel
theorem dX8_about_61 : decode cX8_about 61 = .ok (.iaload, 1) := by decide +kernel
theorem dX8_about_62 : decode cX8_about 62 = .ok (.ireturn, 1) := by decide +kernel
theorem dX8_about_63 : decode cX8_about 63 = .ok (.aload_n 0, 1) := by decide +kernel
theorem dX8_about_64 : decode cX8_about 64 = .ok (.getfield 29, 3) := by decide +kernel
theorem dX8_about_67 : decode cX8_about 67 = .ok (.iload_n 1, 1) := by decide +kernel
theorem dX8_about_68 : decode cX8_about 68 = .ok (.iaload, 1) := by decide +kernel
theorem dX8_about_69 : decode cX8_about 69 = .ok (.ireturn, 1) := by decide +kernel
theorem dX8_about_70 : decode cX8_about 70 = .ok (.aload_n 0, 1) := by decide +kernel
theorem dX8_about_71 : decode cX8_about 71 = .ok (.getfield 32, 3) := by decide +kernel
theorem dX8_about_74 : decode cX8_about 74 = .ok (.iload_n 1, 1) := by decide +kernel
theorem dX8_about_75 : decode cX8_about 75 = .ok (.iaload, 1) := by decide +kernel
theorem dX8_about_76 : decode cX8_about 76 = .ok (.ireturn, 1) := by decide +kernel
theorem dX8_about_77 : decode cX8_about 77 = .ok (.aload_n 0, 1) := by decide +kernel
theorem dX8_about_78 : decode cX8_about 78 = .ok (.getfield 41, 3) := by decide +kernel
theorem dX8_about_81 : decode cX8_about 81 = .ok (.iload_n 1, 1) := by decide +kernel
theorem dX8_about_82 : decode cX8_about 82 = .ok (.iaload, 1) := by decide +kernel
theorem dX8_about_83 : decode cX8_about 83 = .ok (.ireturn, 1) := by decide +kernel
theorem dX8_about_84 : decode cX8_about 84 = .ok (.aload_n 0, 1) := by decide +kernel
theorem dX8_about_85 : decode cX8_about 85 = .ok (.iload_n 1, 1) := by decide +kernel
theorem dX8_about_86 : decode cX8_about 86 = .ok (.invokevirtual 180, 3) := by decide +kernel
theorem dX8_about_89 : decode cX8_about 89 = .ok (.ireturn, 1) := by decide +kernel
theorem dX8_about_90 : decode cX8_about 90 = .ok (.aload_n 0, 1) := by decide +kernel
theorem dX8_about_91 : decode cX8_about 91 = .ok (.getfield 35, 3) := by decide +kernel
theorem dX8_about_94 : decode cX8_about 94 = .ok (.iload_n 1, 1) := by decide +kernel
theorem dX8_about_95 : decode cX8_about 95 = .ok (.iaload, 1) := by decide +kernel
theorem dX8_about_96 : decode cX8_about 96 = .ok (.ireturn, 1) := by decide +kernel
theorem dX8_about_97 : decode cX8_about 97 = .ok (.aload_n 0, 1) := by decide +kernel
theorem dX8_about_98 : decode cX8_about 98 = .ok (.iload_n 1, 1) := by decide +kernel
theorem dX8_about_99 : decode cX8_about 99 = .ok (.invokevirtual 143, 3) := by decide +kernel
theorem dX8_about_102 : decode cX8_about 102 = .ok (.ireturn, 1) := by decide +kernel
theorem dX8_about_103 : decode cX8_about 103 = .ok (.bipush (-2), 2) := by decide +kernel
theorem dX8_about_105 : decode cX8_about 105 = .ok (.ireturn, 1) := by decide +kernel
theorem dX8_isAll_0 : decode cX8_isAll 0 = .ok (.aload_n 0, 1) := by decide +kernel
theorem dX8_isAll_1 : decode cX8_isAll 1 = .ok (.getfield 44, 3) := by decide +kernel
theorem dX8_isAll_4 : decode cX8_isAll 4 = .ok (.iload_n 1, 1) := by decide +kernel
theorem dX8_isAll_5 : decode cX8_isAll 5 = .ok (.iaload, 1) := by decide +kernel
theorem dX8_isAll_6 : decode cX8_isAll 6 = .ok (.aload_n 0, 1) := by decide +kernel
theorem dX8_isAll_7 : decode cX8_isAll 7 = .ok (.getfield 56, 3) := by decide +kernel
theorem dX8_isAll_10 : decode cX8_isAll 10 = .ok (.iload_n 1, 1) := by decide +kernel
theorem dX8_isAll_11 : decode cX8_isAll 11 = .ok (.iaload, 1) := by decide +kernel
theorem dX8_isAll_12 : decode cX8_isAll 12 = .ok (.ifCond .le 8, 3) := by decide +kernel
theorem dX8_isAll_15 : decode cX8_isAll 15 = .ok (.bipush 32, 2) := by decide +kernel
theorem dX8_isAll_17 : decode cX8_isAll 17 = .ok (.goto 4, 3) := by decide +kernel
theorem dX8_isAll_20 : decode cX8_isAll 20 = .ok (.iconst 0, 1) := by decide +kernel
theorem dX8_isAll_21 : decode cX8_isAll 21 = .ok (.iadd, 1) := by decide +kernel
theorem dX8_isAll_22 : decode cX8_isAll 22 = .ok (.istore_n 2, 1) := by decide +kernel
theorem dX8_isAll_23 : decode cX8_isAll 23 = .ok (.iconst 0, 1) := by decide +kernel
theorem dX8_isAll_24 : decode cX8_isAll 24 = .ok (.istore_n 3, 1) := by decide +kernel
theorem dX8_isAll_25 : decode cX8_isAll 25 = .ok (.iload_n 3, 1) := by decide +kernel
theorem dX8_isAll_26 : decode cX8_isAll 26 = .ok (.aload_n 0, 1) := by decide +kernel
theorem dX8_isAll_27 : decode cX8_isAll 27 = .ok (.getfield 134, 3) := by decide +kernel
theorem dX8_isAll_30 : decode cX8_isAll 30 = .ok (.if_icmp .ge 28, 3) := by decide +kernel
theorem dX8_isAll_33 : decode cX8_isAll 33 = .ok (.iload_n 2, 1) := by decide +kernel
theorem dX8_isAll_34 : decode cX8_isAll 34 = .ok (.aload_n 0, 1) := by decide +kernel
theorem dX8_isAll_35 : decode cX8_isAll 35 = .ok (.getfield 47, 3) := by decide +kernel
theorem dX8_isAll_38 : decode cX8_isAll 38 = .ok (.iload_n 3, 1) := by decide +kernel
theorem dX8_isAll_39 : decode cX8_isAll 39 = .ok (.iaload, 1) := by decide +kernel
theorem dX8_isAll_40 : decode cX8_isAll 40 = .ok (.iload_n 1, 1) := by decide +kernel
theorem dX8_isAll_41 : decode cX8_isAll 41 = .ok (.if_icmp .ne 8, 3) := by decide +kernel
theorem dX8_isAll_44 : decode cX8_isAll 44 = .ok (.bipush 16, 2) := by decide +kernel
theorem dX8_isAll_46 : decode cX8_isAll 46 = .ok (.goto 4, 3) := by decide +kernel
theorem dX8_isAll_49 : decode cX8_isAll 49 = .ok (.iconst 0, 1) := by decide +kernel
theorem dX8_isAll_50 : decode cX8_isAll 50 = .ok (.iadd, 1) := by decide +kernel
theorem dX8_isAll_51 : decode cX8_isAll 51 = .ok (.istore_n 2, 1) := by decide +kernel
theorem dX8_isAll_52 : decode cX8_isAll 52 = .ok (.iinc 3 1, 3) := by decide +kernel
theorem dX8_isAll_55 : decode cX8_isAll 55 = .ok (.goto (-30), 3) := by decide +kernel
theorem dX8_isAll_58 : decode cX8_isAll 58 = .ok (.iload_n 2, 1) := by decide +kernel
theorem dX8_isAll_59 : decode cX8_isAll 59 = .ok (.ireturn, 1) := by decide +kernel
theorem dX8_is_0 : decode cX8_is 0 = .ok (.aload_n 0, 1) := by decide +kernel
theorem dX8_is_1 : decode cX8_is 1 = .ok (.iload_n 1, 1) := by decide +kernel
theorem dX8_is_2 : decode cX8_is 2 = .ok (.invokevirtual 104, 3) := by decide +kernel
theorem dX8_is_5 : decode cX8_is 5 = .ok (.ifCond .ne 5, 3) := by decide +kernel
theorem dX8_is_8 : decode cX8_is 8 = .ok (.iconst (-1), 1) := by decide +kernel
theorem dX8_is_9 : decode cX8_is 9 = .ok (.ireturn, 1) := by decide +kernel
theorem dX8_is_10 : decode cX8_is 10 = .ok (.aload_n 0, 1) := by decide +kernel
theorem dX8_is_11 : decode cX8_is 11 = .ok (.invokevirtual 177, 3) := by decide +kernel
theorem dX8_is_14 : decode cX8_is 14 = .ok (.aload_n 0, 1) := by decide +kernel
theorem dX8_is_15 : decode cX8_is 15 = .ok (.iload_n 1, 1) := by decide +kernel
theorem dX8_is_16 : decode cX8_is 16 = .ok (.invokevirtual 183, 3) := by decide +kernel
theorem dX8_is_19 : decode cX8_is 19 = .ok (.ireturn, 1) := by decide +kernel
theorem dX8_many_0 : decode cX8_many 0 = .ok (.iload_n 1, 1) := by decide +kernel
theorem dX8_many_1 : decode cX8_many 1 = .ok (.iconst 1, 1) := by decide +kernel
theorem dX8_many_2 : decode cX8_many 2 = .ok (.if_icmp .eq 34, 3) := by decide +kernel
theorem dX8_many_5 : decode cX8_many 5 = .ok (.iload_n 1, 1) := by decide +kernel
theorem dX8_many_6 : decode cX8_many 6 = .ok (.iconst 2, 1) := by decide +kernel
theorem dX8_many_7 : decode cX8_many 7 = .ok (.if_icmp .eq 29, 3) := by decide +kernel
theorem dX8_many_10 : decode cX8_many 10 = .ok (.iload_n 1, 1) := by decide +kernel
theorem dX8_many_11 : decode cX8_many 11 = .ok (.iconst 4, 1) := by decide +kernel
theorem dX8_many_12 : decode cX8_many 12 = .ok (.if_icmp .eq 24, 3) := by decide +kernel
theorem dX8_many_15 : decode cX8_many 15 = .ok (.iload_n 1, 1) := by decide +kernel
theorem dX8_many_16 : decode cX8_many 16 = .ok (.bipush 8, 2) := by decide +kernel
theorem dX8_many_18 : decode cX8_many 18 = .ok (.if_icmp .eq 18, 3) := by decide +kernel
theorem dX8_many_21 : decode cX8_many 21 = .ok (.iload_n 1, 1) := by decide +kernel
theorem dX8_many_22 : decode cX8_many 22 = .ok (.bipush 16, 2) := by decide +kernel
theorem dX8_many_24 : decode cX8_many 24 = .ok (.if_icmp .eq 12, 3) := by decide +kernel
theorem dX8_many_27 : decode cX8_many 27 = .ok (.iload_n 1, 1) := by decide +kernel
theorem dX8_many_28 : decode cX8_many 28 = .ok (.bipush 32, 2) := by decide +kernel
theorem dX8_many_30 : decode cX8_many 30 = .ok (.if_icmp .eq 6, 3) := by decide +kernel
theorem dX8_many_33 : decode cX8_many 33 = .ok (.bipush (-2), 2) := by decide +kernel
theorem dX8_many_35 : decode cX8_many 35 = .ok (.ireturn, 1) := by decide +kernel
theorem dX8_many_36 : decode cX8_many 36 = .ok (.aload_n 0, 1) := by decide +kernel
theorem dX8_many_37 : decode cX8_many 37 = .ok (.invokevirtual 177, 3) := by decide +kernel
theorem dX8_many_40 : decode cX8_many 40 = .ok (.iconst 0, 1) := by decide +kernel
theorem dX8_many_41 : decode cX8_many 41 = .ok (.istore_n 2, 1) := by decide +kernel
theorem dX8_many_42 : decode cX8_many 42 = .ok (.iconst 0, 1) := by decide +kernel
theorem dX8_many_43 : decode cX8_many 43 = .ok (.istore_n 3, 1) := by decide +kernel
theorem dX8_many_44 : decode cX8_many 44 = .ok (.iload_n 3, 1) := by decide +kernel
theorem dX8_many_45 : decode cX8_many 45 = .ok (.aload_n 0, 1) := by decide +kernel
theorem dX8_many_46 : decode cX8_many 46 = .ok (.getfield 7, 3) := by decide +kernel
theorem dX8_many_49 : decode cX8_many 49 = .ok (.aload_n 0, 1) := by decide +kernel
theorem dX8_many_50 : decode cX8_many 50 = .ok (.getfield 7, 3) := by decide +kernel
theorem dX8_many_53 : decode cX8_many 53 = .ok (.imul, 1) := by decide +kernel
theorem dX8_many_54 : decode cX8_many 54 = .ok (.if_icmp .ge 27, 3) := by decide +kernel
theorem dX8_many_57 : decode cX8_many 57 = .ok (.iload_n 2, 1) := by decide +kernel
theorem dX8_many_58 : decode cX8_many 58 = .ok (.aload_n 0, 1) := by decide +kernel
theorem dX8_many_59 : decode cX8_many 59 = .ok (.iload_n 3, 1) := by decide +kernel
theorem dX8_many_60 : decode cX8_many 60 = .ok (.invokevirtual 183, 3) := by decide +kernel
theorem dX8_many_63 : decode cX8_many 63 = .ok (.iload_n 1, 1) := by decide +kernel
theorem dX8_many_64 : decode cX8_many 64 = .ok (.iand, 1) := by decide +kernel
theorem dX8_many_65 : decode cX8_many 65 = .ok (.ifCond .eq 7, 3) := by decide +kernel
theorem dX8_many_68 : decode cX8_many 68 = .ok (.iconst 1, 1) := by decide +kernel
theorem dX8_many_69 : decode cX8_many 69 = .ok (.goto 4, 3) := by decide +kernel
theorem dX8_many_72 : decode cX8_many 72 = .ok (.iconst 0, 1) := by decide +kernel
theorem dX8_many_73 : decode cX8_many 73 = .ok (.iadd, 1) := by decide +kernel
theorem dX8_many_74 : decode cX8_many 74 = .ok (.istore_n 2, 1) := by decide +kernel
theorem dX8_many_75 : decode cX8_many 75 = .ok (.iinc 3 1, 3) := by decide +kernel
theorem dX8_many_78 : decode cX8_many 78 = .ok (.goto (-34), 3) := by decide +kernel
theorem dX8_many_81 : decode cX8_many 81 = .ok (.iload_n 2, 1) := by decide +kernel
theorem dX8_many_82 : decode cX8_many 82 = .ok (.ireturn, 1) := by decide +kernel
theorem dX8_layMarks_0 : decode cX8_layMarks 0 = .ok (.iconst 0, 1) := by decide +kernel
theorem dX8_layMarks_1 : decode cX8_layMarks 1 = .ok (.istore_n 1, 1) := by decide +kernel
theorem dX8_layMarks_2 : decode cX8_layMarks 2 = .ok (.iload_n 1, 1) := by decide +kernel
theorem dX8_layMarks_3 : decode cX8_layMarks 3 = .ok (.aload_n 0, 1) := by decide +kernel
theorem dX8_layMarks_4 : decode cX8_layMarks 4 = .ok (.getfield 7, 3) := by decide +kernel
theorem dX8_layMarks_7 : decode cX8_layMarks 7 = .ok (.aload_n 0, 1) := by decide +kernel
theorem dX8_layMarks_8 : decode cX8_layMarks 8 = .ok (.getfield 7, 3) := by decide +kernel
theorem dX8_layMarks_11 : decode cX8_layMarks 11 = .ok (.imul, 1) := by decide +kernel
theorem dX8_layMarks_12 : decode cX8_layMarks 12 = .ok (.if_icmp .ge 31, 3) := by decide +kernel
theorem dX8_layMarks_15 : decode cX8_layMarks 15 = .ok (.aload_n 0, 1) := by decide +kernel
theorem dX8_layMarks_16 : decode cX8_layMarks 16 = .ok (.getfield 66, 3) := by decide +kernel
theorem dX8_layMarks_19 : decode cX8_layMarks 19 = .ok (.iload_n 1, 1) := by decide +kernel
theorem dX8_layMarks_20 : decode cX8_layMarks 20 = .ok (.aload_n 0, 1) := by decide +kernel
theorem dX8_layMarks_21 : decode cX8_layMarks 21 = .ok (.getfield 44, 3) := by decide +kernel
theorem dX8_layMarks_24 : decode cX8_layMarks 24 = .ok (.iload_n 1, 1) := by decide +kernel
theorem dX8_layMarks_25 : decode cX8_layMarks 25 = .ok (.iaload, 1) := by decide +kernel
theorem dX8_layMarks_26 : decode cX8_layMarks 26 = .ok (.iconst 2, 1) := by decide +kernel
theorem dX8_layMarks_27 : decode cX8_layMarks 27 = .ok (.if_icmp .ne 7, 3) := by decide +kernel
theorem dX8_layMarks_30 : decode cX8_layMarks 30 = .ok (.iload_n 1, 1) := by decide +kernel
theorem dX8_layMarks_31 : decode cX8_layMarks 31 = .ok (.goto 5, 3) := by decide +kernel
theorem dX8_layMarks_34 : decode cX8_layMarks 34 = .ok (.bipush (-6), 2) := by decide +kernel
theorem dX8_layMarks_36 : decode cX8_layMarks 36 = .ok (.iastore, 1) := by decide +kernel
theorem dX8_layMarks_37 : decode cX8_layMarks 37 = .ok (.iinc 1 1, 3) := by decide +kernel
theorem dX8_layMarks_40 : decode cX8_layMarks 40 = .ok (.goto (-38), 3) := by decide +kernel
theorem dX8_layMarks_43 : decode cX8_layMarks 43 = .ok (.iconst 1, 1) := by decide +kernel
theorem dX8_layMarks_44 : decode cX8_layMarks 44 = .ok (.istore_n 1, 1) := by decide +kernel
theorem dX8_layMarks_45 : decode cX8_layMarks 45 = .ok (.iload_n 1, 1) := by decide +kernel
theorem dX8_layMarks_46 : decode cX8_layMarks 46 = .ok (.ifCond .eq 121, 3) := by decide +kernel
theorem dX8_layMarks_49 : decode cX8_layMarks 49 = .ok (.iconst 0, 1) := by decide +kernel
theorem dX8_layMarks_50 : decode cX8_layMarks 50 = .ok (.istore_n 1, 1) := by decide +kernel
theorem dX8_layMarks_51 : decode cX8_layMarks 51 = .ok (.iconst 0, 1) := by decide +kernel
theorem dX8_layMarks_52 : decode cX8_layMarks 52 = .ok (.istore_n 2, 1) := by decide +kernel
theorem dX8_layMarks_53 : decode cX8_layMarks 53 = .ok (.iload_n 2, 1) := by decide +kernel
theorem dX8_layMarks_54 : decode cX8_layMarks 54 = .ok (.aload_n 0, 1) := by decide +kernel
theorem dX8_layMarks_55 : decode cX8_layMarks 55 = .ok (.getfield 7, 3) := by decide +kernel
theorem dX8_layMarks_58 : decode cX8_layMarks 58 = .ok (.aload_n 0, 1) := by decide +kernel
theorem dX8_layMarks_59 : decode cX8_layMarks 59 = .ok (.getfield 7, 3) := by decide +kernel
theorem dX8_layMarks_62 : decode cX8_layMarks 62 = .ok (.imul, 1) := by decide +kernel
theorem dX8_layMarks_63 : decode cX8_layMarks 63 = .ok (.if_icmp .ge 101, 3) := by decide +kernel
theorem dX8_layMarks_66 : decode cX8_layMarks 66 = .ok (.iconst 0, 1) := by decide +kernel
theorem dX8_layMarks_67 : decode cX8_layMarks 67 = .ok (.istore_n 3, 1) := by decide +kernel
theorem dX8_layMarks_68 : decode cX8_layMarks 68 = .ok (.iload_n 3, 1) := by decide +kernel
theorem dX8_layMarks_69 : decode cX8_layMarks 69 = .ok (.iconst 4, 1) := by decide +kernel
theorem dX8_layMarks_70 : decode cX8_layMarks 70 = .ok (.if_icmp .ge 88, 3) := by decide +kernel
theorem dX8_layMarks_73 : decode cX8_layMarks 73 = .ok (.aload_n 0, 1) := by decide +kernel
theorem dX8_layMarks_74 : decode cX8_layMarks 74 = .ok (.getfield 66, 3) := by decide +kernel
theorem dX8_layMarks_77 : decode cX8_layMarks 77 = .ok (.iload_n 2, 1) := by decide +kernel
theorem dX8_layMarks_78 : decode cX8_layMarks 78 = .ok (.iaload, 1) := by decide +kernel
theorem dX8_layMarks_79 : decode cX8_layMarks 79 = .ok (.ifCond .lt 79, 3) := by decide +kernel
theorem dX8_layMarks_82 : decode cX8_layMarks 82 = .ok (.aload_n 0, 1) := by decide +kernel
theorem dX8_layMarks_83 : decode cX8_layMarks 83 = .ok (.iload_n 2, 1) := by decide +kernel
theorem dX8_layMarks_84 : decode cX8_layMarks 84 = .ok (.iload_n 3, 1) := by decide +kernel
theorem dX8_layMarks_85 : decode cX8_layMarks 85 = .ok (.invokevirtual 114, 3) := by decide +kernel
theorem dX8_layMarks_88 : decode cX8_layMarks 88 = .ok (.istore 4, 2) := by decide +kernel
theorem dX8_layMarks_90 : decode cX8_layMarks 90 = .ok (.iload 4, 2) := by decide +kernel
theorem dX8_layMarks_92 : decode cX8_layMarks 92 = .ok (.ifCond .lt 60, 3) := by decide +kernel
theorem dX8_layMarks_95 : decode cX8_layMarks 95 = .ok (.aload_n 0, 1) := by decide +kernel
theorem dX8_layMarks_96 : decode cX8_layMarks 96 = .ok (.getfield 66, 3) := by decide +kernel
theorem dX8_layMarks_99 : decode cX8_layMarks 99 = .ok (.iload 4, 2) := by decide +kernel
theorem dX8_layMarks_101 : decode cX8_layMarks 101 = .ok (.iaload, 1) := by decide +kernel
theorem dX8_layMarks_102 : decode cX8_layMarks 102 = .ok (.ifCond .lt 50, 3) := by decide +kernel
theorem dX8_layMarks_105 : decode cX8_layMarks 105 = .ok (.aload_n 0, 1) := by decide +kernel
theorem dX8_layMarks_106 : decode cX8_layMarks 106 = .ok (.getfield 29, 3) := by decide +kernel
theorem dX8_layMarks_109 : decode cX8_layMarks 109 = .ok (.iload 4, 2) := by decide +kernel
theorem dX8_layMarks_111 : decode cX8_layMarks 111 = .ok (.iaload, 1) := by decide +kernel
theorem dX8_layMarks_112 : decode cX8_layMarks 112 = .ok (.aload_n 0, 1) := by decide +kernel
theorem dX8_layMarks_113 : decode cX8_layMarks 113 = .ok (.getfield 29, 3) := by decide +kernel
theorem dX8_layMarks_116 : decode cX8_layMarks 116 = .ok (.iload_n 2, 1) := by decide +kernel
theorem dX8_layMarks_117 : decode cX8_layMarks 117 = .ok (.iaload, 1) := by decide +kernel
theorem dX8_layMarks_118 : decode cX8_layMarks 118 = .ok (.if_icmp .ne 34, 3) := by decide +kernel
theorem dX8_layMarks_121 : decode cX8_layMarks 121 = .ok (.aload_n 0, 1) := by decide +kernel
theorem dX8_layMarks_122 : decode cX8_layMarks 122 = .ok (.getfield 66, 3) := by decide +kernel
theorem dX8_layMarks_125 : decode cX8_layMarks 125 = .ok (.iload 4, 2) := by decide +kernel
theorem dX8_layMarks_127 : decode cX8_layMarks 127 = .ok (.iaload, 1) := by decide +kernel
theorem dX8_layMarks_128 : decode cX8_layMarks 128 = .ok (.aload_n 0, 1) := by decide +kernel
theorem dX8_layMarks_129 : decode cX8_layMarks 129 = .ok (.getfield 66, 3) := by decide +kernel
theorem dX8_layMarks_132 : decode cX8_layMarks 132 = .ok (.iload_n 2, 1) := by decide +kernel
theorem dX8_layMarks_133 : decode cX8_layMarks 133 = .ok (.iaload, 1) := by decide +kernel
theorem dX8_layMarks_134 : decode cX8_layMarks 134 = .ok (.if_icmp .ge 18, 3) := by decide +kernel
theorem dX8_layMarks_137 : decode cX8_layMarks 137 = .ok (.aload_n 0, 1) := by decide +kernel
theorem dX8_layMarks_138 : decode cX8_layMarks 138 = .ok (.getfield 66, 3) := by decide +kernel
theorem dX8_layMarks_141 : decode cX8_layMarks 141 = .ok (.iload_n 2, 1) := by decide +kernel
theorem dX8_layMarks_142 : decode cX8_layMarks 142 = .ok (.aload_n 0, 1) := by decide +kernel
theorem dX8_layMarks_143 : decode cX8_layMarks 143 = .ok (.getfield 66, 3) := by decide +kernel
theorem dX8_layMarks_146 : decode cX8_layMarks 146 = .ok (.iload 4, 2) := by decide +kernel
theorem dX8_layMarks_148 : decode cX8_layMarks 148 = .ok (.iaload, 1) := by decide +kernel
theorem dX8_layMarks_149 : decode cX8_layMarks 149 = .ok (.iastore, 1) := by decide +kernel
theorem dX8_layMarks_150 : decode cX8_layMarks 150 = .ok (.iconst 1, 1) := by decide +kernel
theorem dX8_layMarks_151 : decode cX8_layMarks 151 = .ok (.istore_n 1, 1) := by decide +kernel
theorem dX8_layMarks_152 : decode cX8_layMarks 152 = .ok (.iinc 3 1, 3) := by decide +kernel
theorem dX8_layMarks_155 : decode cX8_layMarks 155 = .ok (.goto (-87), 3) := by decide +kernel
theorem dX8_layMarks_158 : decode cX8_layMarks 158 = .ok (.iinc 2 1, 3) := by decide +kernel
theorem dX8_layMarks_161 : decode cX8_layMarks 161 = .ok (.goto (-108), 3) := by decide +kernel
theorem dX8_layMarks_164 : decode cX8_layMarks 164 = .ok (.goto (-119), 3) := by decide +kernel
theorem dX8_layMarks_167 : decode cX8_layMarks 167 = .ok (.return_, 1) := by decide +kernel
theorem dX8_lakes_0 : decode cX8_lakes 0 = .ok (.aload_n 0, 1) := by decide +kernel
theorem dX8_lakes_1 : decode cX8_lakes 1 = .ok (.invokevirtual 177, 3) := by decide +kernel
theorem dX8_lakes_4 : decode cX8_lakes 4 = .ok (.aload_n 0, 1) := by decide +kernel
theorem dX8_lakes_5 : decode cX8_lakes 5 = .ok (.invokevirtual 186, 3) := by decide +kernel
theorem dX8_lakes_8 : decode cX8_lakes 8 = .ok (.iconst 0, 1) := by decide +kernel
theorem dX8_lakes_9 : decode cX8_lakes 9 = .ok (.istore_n 1, 1) := by decide +kernel
theorem dX8_lakes_10 : decode cX8_lakes 10 = .ok (.iconst 0, 1) := by decide +kernel
theorem dX8_lakes_11 : decode cX8_lakes 11 = .ok (.istore_n 2, 1) := by decide +kernel
theorem dX8_lakes_12 : decode cX8_lakes 12 = .ok (.iload_n 2, 1) := by decide +kernel
theorem dX8_lakes_13 : decode cX8_lakes 13 = .ok (.aload_n 0, 1) := by decide +kernel
theorem dX8_lakes_14 : decode cX8_lakes 14 = .ok (.getfield 7, 3) := by decide +kernel
theorem dX8_lakes_17 : decode cX8_lakes 17 = .ok (.aload_n 0, 1) := by decide +kernel
theorem dX8_lakes_18 : decode cX8_lakes 18 = .ok (.getfield 7, 3) := by decide +kernel
theorem dX8_lakes_21 : decode cX8_lakes 21 = .ok (.imul, 1) := by decide +kernel
theorem dX8_lakes_22 : decode cX8_lakes 22 = .ok (.if_icmp .ge 27, 3) := by decide +kernel
theorem dX8_lakes_25 : decode cX8_lakes 25 = .ok (.iload_n 1, 1) := by decide +kernel
theorem dX8_lakes_26 : decode cX8_lakes 26 = .ok (.aload_n 0, 1) := by decide +kernel
theorem dX8_lakes_27 : decode cX8_lakes 27 = .ok (.getfield 66, 3) := by decide +kernel
theorem dX8_lakes_30 : decode cX8_lakes 30 = .ok (.iload_n 2, 1) := by decide +kernel
theorem dX8_lakes_31 : decode cX8_lakes 31 = .ok (.iaload, 1) := by decide +kernel
theorem dX8_lakes_32 : decode cX8_lakes 32 = .ok (.iload_n 2, 1) := by decide +kernel
theorem dX8_lakes_33 : decode cX8_lakes 33 = .ok (.if_icmp .ne 7, 3) := by decide +kernel
theorem dX8_lakes_36 : decode cX8_lakes 36 = .ok (.iconst 1, 1) := by decide +kernel
theorem dX8_lakes_37 : decode cX8_lakes 37 = .ok (.goto 4, 3) := by decide +kernel
theorem dX8_lakes_40 : decode cX8_lakes 40 = .ok (.iconst 0, 1) := by decide +kernel
theorem dX8_lakes_41 : decode cX8_lakes 41 = .ok (.iadd, 1) := by decide +kernel
theorem dX8_lakes_42 : decode cX8_lakes 42 = .ok (.istore_n 1, 1) := by decide +kernel
theorem dX8_lakes_43 : decode cX8_lakes 43 = .ok (.iinc 2 1, 3) := by decide +kernel
theorem dX8_lakes_46 : decode cX8_lakes 46 = .ok (.goto (-34), 3) := by decide +kernel
theorem dX8_lakes_49 : decode cX8_lakes 49 = .ok (.iload_n 1, 1) := by decide +kernel
theorem dX8_lakes_50 : decode cX8_lakes 50 = .ok (.ireturn, 1) := by decide +kernel
theorem dX8_lake_0 : decode cX8_lake 0 = .ok (.aload_n 0, 1) := by decide +kernel
theorem dX8_lake_1 : decode cX8_lake 1 = .ok (.iload_n 1, 1) := by decide +kernel
theorem dX8_lake_2 : decode cX8_lake 2 = .ok (.invokevirtual 104, 3) := by decide +kernel
theorem dX8_lake_5 : decode cX8_lake 5 = .ok (.ifCond .ne 5, 3) := by decide +kernel
theorem dX8_lake_8 : decode cX8_lake 8 = .ok (.iconst (-1), 1) := by decide +kernel
theorem dX8_lake_9 : decode cX8_lake 9 = .ok (.ireturn, 1) := by decide +kernel
theorem dX8_lake_10 : decode cX8_lake 10 = .ok (.aload_n 0, 1) := by decide +kernel
theorem dX8_lake_11 : decode cX8_lake 11 = .ok (.invokevirtual 177, 3) := by decide +kernel
theorem dX8_lake_14 : decode cX8_lake 14 = .ok (.aload_n 0, 1) := by decide +kernel
theorem dX8_lake_15 : decode cX8_lake 15 = .ok (.invokevirtual 186, 3) := by decide +kernel
theorem dX8_lake_18 : decode cX8_lake 18 = .ok (.iconst 0, 1) := by decide +kernel
theorem dX8_lake_19 : decode cX8_lake 19 = .ok (.istore_n 2, 1) := by decide +kernel
theorem dX8_lake_20 : decode cX8_lake 20 = .ok (.iconst 0, 1) := by decide +kernel
theorem dX8_lake_21 : decode cX8_lake 21 = .ok (.istore_n 3, 1) := by decide +kernel
theorem dX8_lake_22 : decode cX8_lake 22 = .ok (.iload_n 3, 1) := by decide +kernel
theorem dX8_lake_23 : decode cX8_lake 23 = .ok (.aload_n 0, 1) := by decide +kernel
theorem dX8_lake_24 : decode cX8_lake 24 = .ok (.getfield 7, 3) := by decide +kernel
theorem dX8_lake_27 : decode cX8_lake 27 = .ok (.aload_n 0, 1) := by decide +kernel
theorem dX8_lake_28 : decode cX8_lake 28 = .ok (.getfield 7, 3) := by decide +kernel
theorem dX8_lake_31 : decode cX8_lake 31 = .ok (.imul, 1) := by decide +kernel
theorem dX8_lake_32 : decode cX8_lake 32 = .ok (.if_icmp .ge 41, 3) := by decide +kernel
theorem dX8_lake_35 : decode cX8_lake 35 = .ok (.iload_n 2, 1) := by decide +kernel
theorem dX8_lake_36 : decode cX8_lake 36 = .ok (.aload_n 0, 1) := by decide +kernel
theorem dX8_lake_37 : decode cX8_lake 37 = .ok (.getfield 66, 3) := by decide +kernel
theorem dX8_lake_40 : decode cX8_lake 40 = .ok (.iload_n 1, 1) := by decide +kernel
theorem dX8_lake_41 : decode cX8_lake 41 = .ok (.iaload, 1) := by decide +kernel
theorem dX8_lake_42 : decode cX8_lake 42 = .ok (.ifCond .lt 22, 3) := by decide +kernel
theorem dX8_lake_45 : decode cX8_lake 45 = .ok (.aload_n 0, 1) := by decide +kernel
theorem dX8_lake_46 : decode cX8_lake 46 = .ok (.getfield 66, 3) := by decide +kernel
theorem dX8_lake_49 : decode cX8_lake 49 = .ok (.iload_n 3, 1) := by decide +kernel
theorem dX8_lake_50 : decode cX8_lake 50 = .ok (.iaload, 1) := by decide +kernel
theorem dX8_lake_51 : decode cX8_lake 51 = .ok (.aload_n 0, 1) := by decide +kernel
theorem dX8_lake_52 : decode cX8_lake 52 = .ok (.getfield 66, 3) := by decide +kernel
theorem dX8_lake_55 : decode cX8_lake 55 = .ok (.iload_n 1, 1) := by decide +kernel
theorem dX8_lake_56 : decode cX8_lake 56 = .ok (.iaload, 1) := by decide +kernel
theorem dX8_lake_57 : decode cX8_lake 57 = .ok (.if_icmp .ne 7, 3) := by decide +kernel
theorem dX8_lake_60 : decode cX8_lake 60 = .ok (.iconst 1, 1) := by decide +kernel
theorem dX8_lake_61 : decode cX8_lake 61 = .ok (.goto 4, 3) := by decide +kernel
theorem dX8_lake_64 : decode cX8_lake 64 = .ok (.iconst 0, 1) := by decide +kernel
theorem dX8_lake_65 : decode cX8_lake 65 = .ok (.iadd, 1) := by decide +kernel
theorem dX8_lake_66 : decode cX8_lake 66 = .ok (.istore_n 2, 1) := by decide +kernel
theorem dX8_lake_67 : decode cX8_lake 67 = .ok (.iinc 3 1, 3) := by decide +kernel
theorem dX8_lake_70 : decode cX8_lake 70 = .ok (.goto (-48), 3) := by decide +kernel
theorem dX8_lake_73 : decode cX8_lake 73 = .ok (.iload_n 2, 1) := by decide +kernel
theorem dX8_lake_74 : decode cX8_lake 74 = .ok (.ireturn, 1) := by decide +kernel
theorem dX8_towns_0 : decode cX8_towns 0 = .ok (.iload_n 1, 1) := by decide +kernel
theorem dX8_towns_1 : decode cX8_towns 1 = .ok (.iconst 0, 1) := by decide +kernel
theorem dX8_towns_2 : decode cX8_towns 2 = .ok (.bipush 6, 2) := by decide +kernel
theorem dX8_towns_4 : decode cX8_towns 4 = .ok (.invokestatic 69, 3) := by decide +kernel
theorem dX8_towns_7 : decode cX8_towns 7 = .ok (.ifCond .ne 6, 3) := by decide +kernel
theorem dX8_towns_10 : decode cX8_towns 10 = .ok (.bipush (-2), 2) := by decide +kernel
theorem dX8_towns_12 : decode cX8_towns 12 = .ok (.ireturn, 1) := by decide +kernel
theorem dX8_towns_13 : decode cX8_towns 13 = .ok (.aload_n 0, 1) := by decide +kernel
theorem dX8_towns_14 : decode cX8_towns 14 = .ok (.iload_n 1, 1) := by decide +kernel
theorem dX8_towns_15 : decode cX8_towns 15 = .ok (.putfield 137, 3) := by decide +kernel
theorem dX8_towns_18 : decode cX8_towns 18 = .ok (.aload_n 0, 1) := by decide +kernel
theorem dX8_towns_19 : decode cX8_towns 19 = .ok (.iconst 0, 1) := by decide +kernel
theorem dX8_towns_20 : decode cX8_towns 20 = .ok (.putfield 76, 3) := by decide +kernel
theorem dX8_towns_23 : decode cX8_towns 23 = .ok (.aload_n 0, 1) := by decide +kernel
theorem dX8_towns_24 : decode cX8_towns 24 = .ok (.invokevirtual 177, 3) := by decide +kernel
theorem dX8_towns_27 : decode cX8_towns 27 = .ok (.aload_n 0, 1) := by decide +kernel
theorem dX8_towns_28 : decode cX8_towns 28 = .ok (.getfield 134, 3) := by decide +kernel
theorem dX8_towns_31 : decode cX8_towns 31 = .ok (.ireturn, 1) := by decide +kernel
theorem dX8_isTown_0 : decode cX8_isTown 0 = .ok (.aload_n 0, 1) := by decide +kernel
theorem dX8_isTown_1 : decode cX8_isTown 1 = .ok (.invokevirtual 177, 3) := by decide +kernel
theorem dX8_isTown_4 : decode cX8_isTown 4 = .ok (.iload_n 1, 1) := by decide +kernel
theorem dX8_isTown_5 : decode cX8_isTown 5 = .ok (.iconst 0, 1) := by decide +kernel
theorem dX8_isTown_6 : decode cX8_isTown 6 = .ok (.aload_n 0, 1) := by decide +kernel
theorem dX8_isTown_7 : decode cX8_isTown 7 = .ok (.getfield 134, 3) := by decide +kernel
theorem dX8_isTown_10 : decode cX8_isTown 10 = .ok (.iconst 1, 1) := by decide +kernel
theorem dX8_isTown_11 : decode cX8_isTown 11 = .ok (.isub, 1) := by decide +kernel
theorem dX8_isTown_12 : decode cX8_isTown 12 = .ok (.invokestatic 69, 3) := by decide +kernel
theorem dX8_isTown_15 : decode cX8_isTown 15 = .ok (.ireturn, 1) := by decide +kernel
theorem dX8_town_0 : decode cX8_town 0 = .ok (.aload_n 0, 1) := by decide +kernel
theorem dX8_town_1 : decode cX8_town 1 = .ok (.iload_n 1, 1) := by decide +kernel
theorem dX8_town_2 : decode cX8_town 2 = .ok (.invokevirtual 189, 3) := by decide +kernel
theorem dX8_town_5 : decode cX8_town 5 = .ok (.ifCond .eq 12, 3) := by decide +kernel
theorem dX8_town_8 : decode cX8_town 8 = .ok (.aload_n 0, 1) := by decide +kernel
theorem dX8_town_9 : decode cX8_town 9 = .ok (.getfield 47, 3) := by decide +kernel
theorem dX8_town_12 : decode cX8_town 12 = .ok (.iload_n 1, 1) := by decide +kernel
theorem dX8_town_13 : decode cX8_town 13 = .ok (.iaload, 1) := by decide +kernel
theorem dX8_town_14 : decode cX8_town 14 = .ok (.goto 4, 3) := by decide +kernel
theorem dX8_town_17 : decode cX8_town 17 = .ok (.iconst (-1), 1) := by decide +kernel
theorem dX8_town_18 : decode cX8_town 18 = .ok (.ireturn, 1) := by decide +kernel
theorem dX8_cost_0 : decode cX8_cost 0 = .ok (.aload_n 0, 1) := by decide +kernel
theorem dX8_cost_1 : decode cX8_cost 1 = .ok (.iload_n 1, 1) := by decide +kernel
theorem dX8_cost_2 : decode cX8_cost 2 = .ok (.invokevirtual 189, 3) := by decide +kernel
theorem dX8_cost_5 : decode cX8_cost 5 = .ok (.ifCond .eq 11, 3) := by decide +kernel
theorem dX8_cost_8 : decode cX8_cost 8 = .ok (.aload_n 0, 1) := by decide +kernel
theorem dX8_cost_9 : decode cX8_cost 9 = .ok (.iload_n 2, 1) := by decide +kernel
theorem dX8_cost_10 : decode cX8_cost 10 = .ok (.invokevirtual 189, 3) := by decide +kernel
theorem dX8_cost_13 : decode cX8_cost 13 = .ok (.ifCond .ne 5, 3) := by decide +kernel
theorem dX8_cost_16 : decode cX8_cost 16 = .ok (.iconst (-1), 1) := by decide +kernel
theorem dX8_cost_17 : decode cX8_cost 17 = .ok (.ireturn, 1) := by decide +kernel
theorem dX8_cost_18 : decode cX8_cost 18 = .ok (.aload_n 0, 1) := by decide +kernel
theorem dX8_cost_19 : decode cX8_cost 19 = .ok (.aload_n 0, 1) := by decide +kernel
theorem dX8_cost_20 : decode cX8_cost 20 = .ok (.getfield 47, 3) := by decide +kernel
theorem dX8_cost_23 : decode cX8_cost 23 = .ok (.iload_n 2, 1) := by decide +kernel
theorem dX8_cost_24 : decode cX8_cost 24 = .ok (.iaload, 1) := by decide +kernel
theorem dX8_cost_25 : decode cX8_cost 25 = .ok (.invokevirtual 161, 3) := by decide +kernel
theorem dX8_cost_28 : decode cX8_cost 28 = .ok (.aload_n 0, 1) := by decide +kernel
theorem dX8_cost_29 : decode cX8_cost 29 = .ok (.getfield 59, 3) := by decide +kernel
theorem dX8_cost_32 : decode cX8_cost 32 = .ok (.aload_n 0, 1) := by decide +kernel
theorem dX8_cost_33 : decode cX8_cost 33 = .ok (.getfield 47, 3) := by decide +kernel
theorem dX8_cost_36 : decode cX8_cost 36 = .ok (.iload_n 1, 1) := by decide +kernel
theorem dX8_cost_37 : decode cX8_cost 37 = .ok (.iaload, 1) := by decide +kernel
theorem dX8_cost_38 : decode cX8_cost 38 = .ok (.iaload, 1) := by decide +kernel
theorem dX8_cost_39 : decode cX8_cost 39 = .ok (.ifCond .ge 8, 3) := by decide +kernel
theorem dX8_cost_42 : decode cX8_cost 42 = .ok (.bipush (-6), 2) := by decide +kernel
theorem dX8_cost_44 : decode cX8_cost 44 = .ok (.goto 14, 3) := by decide +kernel
theorem dX8_cost_47 : decode cX8_cost 47 = .ok (.aload_n 0, 1) := by decide +kernel
theorem dX8_cost_48 : decode cX8_cost 48 = .ok (.getfield 59, 3) := by decide +kernel
theorem dX8_cost_51 : decode cX8_cost 51 = .ok (.aload_n 0, 1) := by decide +kernel
theorem dX8_cost_52 : decode cX8_cost 52 = .ok (.getfield 47, 3) := by decide +kernel
theorem dX8_cost_55 : decode cX8_cost 55 = .ok (.iload_n 1, 1) := by decide +kernel
theorem dX8_cost_56 : decode cX8_cost 56 = .ok (.iaload, 1) := by decide +kernel
theorem dX8_cost_57 : decode cX8_cost 57 = .ok (.iaload, 1) := by decide +kernel
theorem dX8_cost_58 : decode cX8_cost 58 = .ok (.ireturn, 1) := by decide +kernel
theorem dX8_way_0 : decode cX8_way 0 = .ok (.aload_n 0, 1) := by decide +kernel
theorem dX8_way_1 : decode cX8_way 1 = .ok (.iload_n 1, 1) := by decide +kernel
theorem dX8_way_2 : decode cX8_way 2 = .ok (.invokevirtual 189, 3) := by decide +kernel
theorem dX8_way_5 : decode cX8_way 5 = .ok (.ifCond .eq 11, 3) := by decide +kernel
theorem dX8_way_8 : decode cX8_way 8 = .ok (.aload_n 0, 1) := by decide +kernel
theorem dX8_way_9 : decode cX8_way 9 = .ok (.iload_n 2, 1) := by decide +kernel
theorem dX8_way_10 : decode cX8_way 10 = .ok (.invokevirtual 189, 3) := by decide +kernel
theorem dX8_way_13 : decode cX8_way 13 = .ok (.ifCond .ne 5, 3) := by decide +kernel
theorem dX8_way_16 : decode cX8_way 16 = .ok (.iconst (-1), 1) := by decide +kernel
theorem dX8_way_17 : decode cX8_way 17 = .ok (.ireturn, 1) := by decide +kernel
theorem dX8_way_18 : decode cX8_way 18 = .ok (.aload_n 0, 1) := by decide +kernel
theorem dX8_way_19 : decode cX8_way 19 = .ok (.aload_n 0, 1) := by decide +kernel
theorem dX8_way_20 : decode cX8_way 20 = .ok (.getfield 47, 3) := by decide +kernel
theorem dX8_way_23 : decode cX8_way 23 = .ok (.iload_n 2, 1) := by decide +kernel
theorem dX8_way_24 : decode cX8_way 24 = .ok (.iaload, 1) := by decide +kernel
theorem dX8_way_25 : decode cX8_way 25 = .ok (.invokevirtual 161, 3) := by decide +kernel
theorem dX8_way_28 : decode cX8_way 28 = .ok (.iload_n 3, 1) := by decide +kernel
theorem dX8_way_29 : decode cX8_way 29 = .ok (.ifCond .lt 17, 3) := by decide +kernel
theorem dX8_way_32 : decode cX8_way 32 = .ok (.aload_n 0, 1) := by decide +kernel
theorem dX8_way_33 : decode cX8_way 33 = .ok (.getfield 59, 3) := by decide +kernel
theorem dX8_way_36 : decode cX8_way 36 = .ok (.aload_n 0, 1) := by decide +kernel
theorem dX8_way_37 : decode cX8_way 37 = .ok (.getfield 47, 3) := by decide +kernel
theorem dX8_way_40 : decode cX8_way 40 = .ok (.iload_n 1, 1) := by decide +kernel
theorem dX8_way_41 : decode cX8_way 41 = .ok (.iaload, 1) := by decide +kernel
theorem dX8_way_42 : decode cX8_way 42 = .ok (.iaload, 1) := by decide +kernel
theorem dX8_way_43 : decode cX8_way 43 = .ok (.ifCond .ge 6, 3) := by decide +kernel
theorem dX8_way_46 : decode cX8_way 46 = .ok (.bipush (-6), 2) := by decide +kernel
theorem dX8_way_48 : decode cX8_way 48 = .ok (.ireturn, 1) := by decide +kernel
theorem dX8_way_49 : decode cX8_way 49 = .ok (.aload_n 0, 1) := by decide +kernel
theorem dX8_way_50 : decode cX8_way 50 = .ok (.getfield 47, 3) := by decide +kernel
theorem dX8_way_53 : decode cX8_way 53 = .ok (.iload_n 1, 1) := by decide +kernel
theorem dX8_way_54 : decode cX8_way 54 = .ok (.iaload, 1) := by decide +kernel
theorem dX8_way_55 : decode cX8_way 55 = .ok (.istore 4, 2) := by decide +kernel
theorem dX8_way_57 : decode cX8_way 57 = .ok (.iconst 0, 1) := by decide +kernel
theorem dX8_way_58 : decode cX8_way 58 = .ok (.istore 5, 2) := by decide +kernel
theorem dX8_way_60 : decode cX8_way 60 = .ok (.iload 5, 2) := by decide +kernel
theorem dX8_way_62 : decode cX8_way 62 = .ok (.iload_n 3, 1) := by decide +kernel
theorem dX8_way_63 : decode cX8_way 63 = .ok (.if_icmp .ge 38, 3) := by decide +kernel
theorem dX8_way_66 : decode cX8_way 66 = .ok (.iload 4, 2) := by decide +kernel
theorem dX8_way_68 : decode cX8_way 68 = .ok (.ifCond .lt 33, 3) := by decide +kernel
theorem dX8_way_71 : decode cX8_way 71 = .ok (.iload 4, 2) := by decide +kernel
theorem dX8_way_73 : decode cX8_way 73 = .ok (.aload_n 0, 1) := by decide +kernel
theorem dX8_way_74 : decode cX8_way 74 = .ok (.getfield 47, 3) := by decide +kernel
theorem dX8_way_77 : decode cX8_way 77 = .ok (.iload_n 2, 1) := by decide +kernel
theorem dX8_way_78 : decode cX8_way 78 = .ok (.iaload, 1) := by decide +kernel
theorem dX8_way_79 : decode cX8_way 79 = .ok (.if_icmp .ne 8, 3) := by decide +kernel
theorem dX8_way_82 : decode cX8_way 82 = .ok (.bipush (-6), 2) := by decide +kernel
theorem dX8_way_84 : decode cX8_way 84 = .ok (.goto 9, 3) := by decide +kernel
theorem dX8_way_87 : decode cX8_way 87 = .ok (.aload_n 0, 1) := by decide +kernel
theorem dX8_way_88 : decode cX8_way 88 = .ok (.iload 4, 2) := by decide +kernel
theorem dX8_way_90 : decode cX8_way 90 = .ok (.invokevirtual 165, 3) := by decide +kernel
theorem dX8_way_93 : decode cX8_way 93 = .ok (.istore 4, 2) := by decide +kernel
theorem dX8_way_95 : decode cX8_way 95 = .ok (.iinc 5 1, 3) := by decide +kernel
theorem dX8_way_98 : decode cX8_way 98 = .ok (.goto (-38), 3) := by decide +kernel
theorem dX8_way_101 : decode cX8_way 101 = .ok (.iload 4, 2) := by decide +kernel
theorem dX8_way_103 : decode cX8_way 103 = .ok (.ireturn, 1) := by decide +kernel
theorem dX8_net_0 : decode cX8_net 0 = .ok (.aload_n 0, 1) := by decide +kernel
theorem dX8_net_1 : decode cX8_net 1 = .ok (.invokevirtual 177, 3) := by decide +kernel
theorem dX8_net_4 : decode cX8_net 4 = .ok (.iload_n 1, 1) := by decide +kernel
theorem dX8_net_5 : decode cX8_net 5 = .ok (.iconst 0, 1) := by decide +kernel
theorem dX8_net_6 : decode cX8_net 6 = .ok (.iconst 2, 1) := by decide +kernel
theorem dX8_net_7 : decode cX8_net 7 = .ok (.invokestatic 69, 3) := by decide +kernel
theorem dX8_net_10 : decode cX8_net 10 = .ok (.ifCond .eq 31, 3) := by decide +kernel
theorem dX8_net_13 : decode cX8_net 13 = .ok (.iload_n 1, 1) := by decide +kernel
theorem dX8_net_14 : decode cX8_net 14 = .ok (.ifCond .ne 10, 3) := by decide +kernel
theorem dX8_net_17 : decode cX8_net 17 = .ok (.aload_n 0, 1) := by decide +kernel
theorem dX8_net_18 : decode cX8_net 18 = .ok (.getfield 152, 3) := by decide +kernel
theorem dX8_net_21 : decode cX8_net 21 = .ok (.goto 19, 3) := by decide +kernel
theorem dX8_net_24 : decode cX8_net 24 = .ok (.iload_n 1, 1) := by decide +kernel
theorem dX8_net_25 : decode cX8_net 25 = .ok (.iconst 1, 1) := by decide +kernel
theorem dX8_net_26 : decode cX8_net 26 = .ok (.if_icmp .ne 10, 3) := by decide +kernel
theorem dX8_net_29 : decode cX8_net 29 = .ok (.aload_n 0, 1) := by decide +kernel
theorem dX8_net_30 : decode cX8_net 30 = .ok (.getfield 155, 3) := by decide +kernel
theorem dX8_net_33 : decode cX8_net 33 = .ok (.goto 7, 3) := by decide +kernel
theorem dX8_net_36 : decode cX8_net 36 = .ok (.aload_n 0, 1) := by decide +kernel
theorem dX8_net_37 : decode cX8_net 37 = .ok (.getfield 158, 3) := by decide +kernel
theorem dX8_net_40 : decode cX8_net 40 = .ok (.ireturn, 1) := by decide +kernel
theorem dX8_net_41 : decode cX8_net 41 = .ok (.iload_n 1, 1) := by decide +kernel
theorem dX8_net_42 : decode cX8_net 42 = .ok (.bipush 10, 2) := by decide +kernel
theorem dX8_net_44 : decode cX8_net 44 = .ok (.if_icmp .ge 6, 3) := by decide +kernel
theorem dX8_net_47 : decode cX8_net 47 = .ok (.bipush (-2), 2) := by decide +kernel
theorem dX8_net_49 : decode cX8_net 49 = .ok (.ireturn, 1) := by decide +kernel
theorem dX8_net_50 : decode cX8_net 50 = .ok (.iload_n 1, 1) := by decide +kernel
theorem dX8_net_51 : decode cX8_net 51 = .ok (.bipush 10, 2) := by decide +kernel
theorem dX8_net_53 : decode cX8_net 53 = .ok (.isub, 1) := by decide +kernel
theorem dX8_net_54 : decode cX8_net 54 = .ok (.iconst 2, 1) := by decide +kernel
theorem dX8_net_55 : decode cX8_net 55 = .ok (.idiv, 1) := by decide +kernel
theorem dX8_net_56 : decode cX8_net 56 = .ok (.istore_n 2, 1) := by decide +kernel
theorem dX8_net_57 : decode cX8_net 57 = .ok (.iload_n 2, 1) := by decide +kernel
theorem dX8_net_58 : decode cX8_net 58 = .ok (.aload_n 0, 1) := by decide +kernel
theorem dX8_net_59 : decode cX8_net 59 = .ok (.getfield 158, 3) := by decide +kernel
theorem dX8_net_62 : decode cX8_net 62 = .ok (.if_icmp .lt 8, 3) := by decide +kernel
theorem dX8_net_65 : decode cX8_net 65 = .ok (.bipush (-6), 2) := by decide +kernel
theorem dX8_net_67 : decode cX8_net 67 = .ok (.goto 24, 3) := by decide +kernel
theorem dX8_net_70 : decode cX8_net 70 = .ok (.iload_n 1, 1) := by decide +kernel
theorem dX8_net_71 : decode cX8_net 71 = .ok (.iconst 2, 1) := by decide +kernel
theorem dX8_net_72 : decode cX8_net 72 = .ok (.irem, 1) := by decide +kernel
theorem dX8_net_73 : decode cX8_net 73 = .ok (.ifCond .ne 12, 3) := by decide +kernel
theorem dX8_net_76 : decode cX8_net 76 = .ok (.aload_n 0, 1) := by decide +kernel
theorem dX8_net_77 : decode cX8_net 77 = .ok (.getfield 50, 3) := by decide +kernel
theorem dX8_net_80 : decode cX8_net 80 = .ok (.iload_n 2, 1) := by decide +kernel
theorem dX8_net_81 : decode cX8_net 81 = .ok (.iaload, 1) := by decide +kernel
theorem dX8_net_82 : decode cX8_net 82 = .ok (.goto 9, 3) := by decide +kernel
theorem dX8_net_85 : decode cX8_net 85 = .ok (.aload_n 0, 1) := by decide +kernel
theorem dX8_net_86 : decode cX8_net 86 = .ok (.getfield 53, 3) := by decide +kernel
theorem dX8_net_89 : decode cX8_net 89 = .ok (.iload_n 2, 1) := by decide +kernel
theorem dX8_net_90 : decode cX8_net 90 = .ok (.iaload, 1) := by decide +kernel
theorem dX8_net_91 : decode cX8_net 91 = .ok (.ireturn, 1) := by decide +kernel
theorem dX8_roads_0 : decode cX8_roads 0 = .ok (.aload_n 0, 1) := by decide +kernel
theorem dX8_roads_1 : decode cX8_roads 1 = .ok (.iload_n 1, 1) := by decide +kernel
theorem dX8_roads_2 : decode cX8_roads 2 = .ok (.invokevirtual 104, 3) := by decide +kernel
theorem dX8_roads_5 : decode cX8_roads 5 = .ok (.ifCond .ne 5, 3) := by decide +kernel
theorem dX8_roads_8 : decode cX8_roads 8 = .ok (.iconst (-1), 1) := by decide +kernel
theorem dX8_roads_9 : decode cX8_roads 9 = .ok (.ireturn, 1) := by decide +kernel
theorem dX8_roads_10 : decode cX8_roads 10 = .ok (.aload_n 0, 1) := by decide +kernel
theorem dX8_roads_11 : decode cX8_roads 11 = .ok (.invokevirtual 177, 3) := by decide +kernel
theorem dX8_roads_14 : decode cX8_roads 14 = .ok (.aload_n 0, 1) := by decide +kernel
theorem dX8_roads_15 : decode cX8_roads 15 = .ok (.getfield 56, 3) := by decide +kernel
theorem dX8_roads_18 : decode cX8_roads 18 = .ok (.iload_n 1, 1) := by decide +kernel
theorem dX8_roads_19 : decode cX8_roads 19 = .ok (.iaload, 1) := by decide +kernel
theorem dX8_roads_20 : decode cX8_roads 20 = .ok (.ireturn, 1) := by decide +kernel
theorem dX8_told_0 : decode cX8_told 0 = .ok (.aload_n 0, 1) := by decide +kernel
theorem dX8_told_1 : decode cX8_told 1 = .ok (.invokevirtual 177, 3) := by decide +kernel
theorem dX8_told_4 : decode cX8_told 4 = .ok (.iload_n 1, 1) := by decide +kernel
theorem dX8_told_5 : decode cX8_told 5 = .ok (.tableswitch 122 0 10 #[59, 64, 69, 74, 81, 88, 95, 102, 107, 112, 117], 59) := by decide +kernel
theorem dX8_told_64 : decode cX8_told 64 = .ok (.aload_n 0, 1) := by decide +kernel
theorem dX8_told_65 : decode cX8_told 65 = .ok (.getfield 7, 3) := by decide +kernel
theorem dX8_told_68 : decode cX8_told 68 = .ok (.ireturn, 1) := by decide +kernel
theorem dX8_told_69 : decode cX8_told 69 = .ok (.aload_n 0, 1) := by decide +kernel
theorem dX8_told_70 : decode cX8_told 70 = .ok (.getfield 98, 3) := by decide +kernel
theorem dX8_told_73 : decode cX8_told 73 = .ok (.ireturn, 1) := by decide +kernel
theorem dX8_told_74 : decode cX8_told 74 = .ok (.aload_n 0, 1) := by decide +kernel
theorem dX8_told_75 : decode cX8_told 75 = .ok (.getfield 101, 3) := by decide +kernel
theorem dX8_told_78 : decode cX8_told 78 = .ok (.ireturn, 1) := by decide +kernel
theorem dX8_told_79 : decode cX8_told 79 = .ok (.aload_n 0, 1) := by decide +kernel
theorem dX8_told_80 : decode cX8_told 80 = .ok (.getfield 13, 3) := by decide +kernel
theorem dX8_told_83 : decode cX8_told 83 = .ok (.iconst 0, 1) := by decide +kernel
theorem dX8_told_84 : decode cX8_told 84 = .ok (.iaload, 1) := by decide +kernel
theorem dX8_told_85 : decode cX8_told 85 = .ok (.ireturn, 1) := by decide +kernel
theorem dX8_told_86 : decode cX8_told 86 = .ok (.aload_n 0, 1) := by decide +kernel
theorem dX8_told_87 : decode cX8_told 87 = .ok (.getfield 13, 3) := by decide +kernel
theorem dX8_told_90 : decode cX8_told 90 = .ok (.iconst 1, 1) := by decide +kernel
theorem dX8_told_91 : decode cX8_told 91 = .ok (.iaload, 1) := by decide +kernel
theorem dX8_told_92 : decode cX8_told 92 = .ok (.ireturn, 1) := by decide +kernel
theorem dX8_told_93 : decode cX8_told 93 = .ok (.aload_n 0, 1) := by decide +kernel
theorem dX8_told_94 : decode cX8_told 94 = .ok (.getfield 13, 3) := by decide +kernel
theorem dX8_told_97 : decode cX8_told 97 = .ok (.iconst 2, 1) := by decide +kernel
theorem dX8_told_98 : decode cX8_told 98 = .ok (.iaload, 1) := by decide +kernel
theorem dX8_told_99 : decode cX8_told 99 = .ok (.ireturn, 1) := by decide +kernel
theorem dX8_told_100 : decode cX8_told 100 = .ok (.aload_n 0, 1) := by decide +kernel
theorem dX8_told_101 : decode cX8_told 101 = .ok (.getfield 13, 3) := by decide +kernel
theorem dX8_told_104 : decode cX8_told 104 = .ok (.iconst 3, 1) := by decide +kernel
theorem dX8_told_105 : decode cX8_told 105 = .ok (.iaload, 1) := by decide +kernel
theorem dX8_told_106 : decode cX8_told 106 = .ok (.ireturn, 1) := by decide +kernel
theorem dX8_told_107 : decode cX8_told 107 = .ok (.aload_n 0, 1) := by decide +kernel
theorem dX8_told_108 : decode cX8_told 108 = .ok (.getfield 134, 3) := by decide +kernel
theorem dX8_told_111 : decode cX8_told 111 = .ok (.ireturn, 1) := by decide +kernel
theorem dX8_told_112 : decode cX8_told 112 = .ok (.aload_n 0, 1) := by decide +kernel
theorem dX8_told_113 : decode cX8_told 113 = .ok (.getfield 137, 3) := by decide +kernel
theorem dX8_told_116 : decode cX8_told 116 = .ok (.ireturn, 1) := by decide +kernel
theorem dX8_told_117 : decode cX8_told 117 = .ok (.aload_n 0, 1) := by decide +kernel
theorem dX8_told_118 : decode cX8_told 118 = .ok (.getfield 108, 3) := by decide +kernel
theorem dX8_told_121 : decode cX8_told 121 = .ok (.ireturn, 1) := by decide +kernel
theorem dX8_told_122 : decode cX8_told 122 = .ok (.aload_n 0, 1) := by decide +kernel
theorem dX8_told_123 : decode cX8_told 123 = .ok (.getfield 73, 3) := by decide +kernel
theorem dX8_told_126 : decode cX8_told 126 = .ok (.ireturn, 1) := by decide +kernel
theorem dX8_told_127 : decode cX8_told 127 = .ok (.bipush (-2), 2) := by decide +kernel
theorem dX8_told_129 : decode cX8_told 129 = .ok (.ireturn, 1) := by decide +kernel
theorem dJ6_bitCount_0f7a4_0 : decode cJ6_bitCount_0f7a4 0 = .ok (.iload_n 0, 1) := by decide +kernel
theorem dJ6_bitCount_0f7a4_1 : decode cJ6_bitCount_0f7a4 1 = .ok (.iload_n 0, 1) := by decide +kernel
theorem dJ6_bitCount_0f7a4_2 : decode cJ6_bitCount_0f7a4 2 = .ok (.iconst 1, 1) := by decide +kernel
theorem dJ6_bitCount_0f7a4_3 : decode cJ6_bitCount_0f7a4 3 = .ok (.iushr, 1) := by decide +kernel
theorem dJ6_bitCount_0f7a4_4 : decode cJ6_bitCount_0f7a4 4 = .ok (.ldc_w 265, 3) := by decide +kernel
theorem dJ6_bitCount_0f7a4_7 : decode cJ6_bitCount_0f7a4 7 = .ok (.iand, 1) := by decide +kernel
theorem dJ6_bitCount_0f7a4_8 : decode cJ6_bitCount_0f7a4 8 = .ok (.isub, 1) := by decide +kernel
theorem dJ6_bitCount_0f7a4_9 : decode cJ6_bitCount_0f7a4 9 = .ok (.istore_n 0, 1) := by decide +kernel
theorem dJ6_bitCount_0f7a4_10 : decode cJ6_bitCount_0f7a4 10 = .ok (.iload_n 0, 1) := by decide +kernel
theorem dJ6_bitCount_0f7a4_11 : decode cJ6_bitCount_0f7a4 11 = .ok (.ldc_w 266, 3) := by decide +kernel
theorem dJ6_bitCount_0f7a4_14 : decode cJ6_bitCount_0f7a4 14 = .ok (.iand, 1) := by decide +kernel
theorem dJ6_bitCount_0f7a4_15 : decode cJ6_bitCount_0f7a4 15 = .ok (.iload_n 0, 1) := by decide +kernel
theorem dJ6_bitCount_0f7a4_16 : decode cJ6_bitCount_0f7a4 16 = .ok (.iconst 2, 1) := by decide +kernel
theorem dJ6_bitCount_0f7a4_17 : decode cJ6_bitCount_0f7a4 17 = .ok (.iushr, 1) := by decide +kernel
theorem dJ6_bitCount_0f7a4_18 : decode cJ6_bitCount_0f7a4 18 = .ok (.ldc_w 266, 3) := by decide +kernel
theorem dJ6_bitCount_0f7a4_21 : decode cJ6_bitCount_0f7a4 21 = .ok (.iand, 1) := by decide +kernel
theorem dJ6_bitCount_0f7a4_22 : decode cJ6_bitCount_0f7a4 22 = .ok (.iadd, 1) := by decide +kernel
theorem dJ6_bitCount_0f7a4_23 : decode cJ6_bitCount_0f7a4 23 = .ok (.istore_n 0, 1) := by decide +kernel
theorem dJ6_bitCount_0f7a4_24 : decode cJ6_bitCount_0f7a4 24 = .ok (.iload_n 0, 1) := by decide +kernel
theorem dJ6_bitCount_0f7a4_25 : decode cJ6_bitCount_0f7a4 25 = .ok (.iload_n 0, 1) := by decide +kernel
theorem dJ6_bitCount_0f7a4_26 : decode cJ6_bitCount_0f7a4 26 = .ok (.iconst 4, 1) := by decide +kernel
theorem dJ6_bitCount_0f7a4_27 : decode cJ6_bitCount_0f7a4 27 = .ok (.iushr, 1) := by decide +kernel
theorem dJ6_bitCount_0f7a4_28 : decode cJ6_bitCount_0f7a4 28 = .ok (.iadd, 1) := by decide +kernel
theorem dJ6_bitCount_0f7a4_29 : decode cJ6_bitCount_0f7a4 29 = .ok (.ldc_w 267, 3) := by decide +kernel
theorem dJ6_bitCount_0f7a4_32 : decode cJ6_bitCount_0f7a4 32 = .ok (.iand, 1) := by decide +kernel
theorem dJ6_bitCount_0f7a4_33 : decode cJ6_bitCount_0f7a4 33 = .ok (.istore_n 0, 1) := by decide +kernel
theorem dJ6_bitCount_0f7a4_34 : decode cJ6_bitCount_0f7a4 34 = .ok (.iload_n 0, 1) := by decide +kernel
theorem dJ6_bitCount_0f7a4_35 : decode cJ6_bitCount_0f7a4 35 = .ok (.iload_n 0, 1) := by decide +kernel
theorem dJ6_bitCount_0f7a4_36 : decode cJ6_bitCount_0f7a4 36 = .ok (.bipush 8, 2) := by decide +kernel
theorem dJ6_bitCount_0f7a4_38 : decode cJ6_bitCount_0f7a4 38 = .ok (.iushr, 1) := by decide +kernel
theorem dJ6_bitCount_0f7a4_39 : decode cJ6_bitCount_0f7a4 39 = .ok (.iadd, 1) := by decide +kernel
theorem dJ6_bitCount_0f7a4_40 : decode cJ6_bitCount_0f7a4 40 = .ok (.istore_n 0, 1) := by decide +kernel
theorem dJ6_bitCount_0f7a4_41 : decode cJ6_bitCount_0f7a4 41 = .ok (.iload_n 0, 1) := by decide +kernel
theorem dJ6_bitCount_0f7a4_42 : decode cJ6_bitCount_0f7a4 42 = .ok (.iload_n 0, 1) := by decide +kernel
theorem dJ6_bitCount_0f7a4_43 : decode cJ6_bitCount_0f7a4 43 = .ok (.bipush 16, 2) := by decide +kernel
theorem dJ6_bitCount_0f7a4_45 : decode cJ6_bitCount_0f7a4 45 = .ok (.iushr, 1) := by decide +kernel
theorem dJ6_bitCount_0f7a4_46 : decode cJ6_bitCount_0f7a4 46 = .ok (.iadd, 1) := by decide +kernel
theorem dJ6_bitCount_0f7a4_47 : decode cJ6_bitCount_0f7a4 47 = .ok (.istore_n 0, 1) := by decide +kernel
theorem dJ6_bitCount_0f7a4_48 : decode cJ6_bitCount_0f7a4 48 = .ok (.iload_n 0, 1) := by decide +kernel
theorem dJ6_bitCount_0f7a4_49 : decode cJ6_bitCount_0f7a4 49 = .ok (.bipush 63, 2) := by decide +kernel
theorem dJ6_bitCount_0f7a4_51 : decode cJ6_bitCount_0f7a4 51 = .ok (.iand, 1) := by decide +kernel
theorem dJ6_bitCount_0f7a4_52 : decode cJ6_bitCount_0f7a4 52 = .ok (.ireturn, 1) := by decide +kernel
theorem dJ9_abs_0f7a4_0 : decode cJ9_abs_0f7a4 0 = .ok (.iload_n 0, 1) := by decide +kernel
theorem dJ9_abs_0f7a4_1 : decode cJ9_abs_0f7a4 1 = .ok (.ifCond .ge 8, 3) := by decide +kernel
theorem dJ9_abs_0f7a4_4 : decode cJ9_abs_0f7a4 4 = .ok (.iload_n 0, 1) := by decide +kernel
theorem dJ9_abs_0f7a4_5 : decode cJ9_abs_0f7a4 5 = .ok (.ineg, 1) := by decide +kernel
theorem dJ9_abs_0f7a4_6 : decode cJ9_abs_0f7a4 6 = .ok (.goto 4, 3) := by decide +kernel
theorem dJ9_abs_0f7a4_9 : decode cJ9_abs_0f7a4 9 = .ok (.iload_n 0, 1) := by decide +kernel
theorem dJ9_abs_0f7a4_10 : decode cJ9_abs_0f7a4 10 = .ok (.ireturn, 1) := by decide +kernel
theorem dJ9_max_7cf53_0 : decode cJ9_max_7cf53 0 = .ok (.iload_n 0, 1) := by decide +kernel
theorem dJ9_max_7cf53_1 : decode cJ9_max_7cf53 1 = .ok (.iload_n 1, 1) := by decide +kernel
theorem dJ9_max_7cf53_2 : decode cJ9_max_7cf53 2 = .ok (.if_icmp .lt 7, 3) := by decide +kernel
theorem dJ9_max_7cf53_5 : decode cJ9_max_7cf53 5 = .ok (.iload_n 0, 1) := by decide +kernel
theorem dJ9_max_7cf53_6 : decode cJ9_max_7cf53 6 = .ok (.goto 4, 3) := by decide +kernel
theorem dJ9_max_7cf53_9 : decode cJ9_max_7cf53 9 = .ok (.iload_n 1, 1) := by decide +kernel
theorem dJ9_max_7cf53_10 : decode cJ9_max_7cf53 10 = .ok (.ireturn, 1) := by decide +kernel
theorem dJ9_min_7cf53_0 : decode cJ9_min_7cf53 0 = .ok (.iload_n 0, 1) := by decide +kernel
theorem dJ9_min_7cf53_1 : decode cJ9_min_7cf53 1 = .ok (.iload_n 1, 1) := by decide +kernel
theorem dJ9_min_7cf53_2 : decode cJ9_min_7cf53 2 = .ok (.if_icmp .gt 7, 3) := by decide +kernel
theorem dJ9_min_7cf53_5 : decode cJ9_min_7cf53 5 = .ok (.iload_n 0, 1) := by decide +kernel
theorem dJ9_min_7cf53_6 : decode cJ9_min_7cf53 6 = .ok (.goto 4, 3) := by decide +kernel
theorem dJ9_min_7cf53_9 : decode cJ9_min_7cf53 9 = .ok (.iload_n 1, 1) := by decide +kernel
theorem dJ9_min_7cf53_10 : decode cJ9_min_7cf53 10 = .ok (.ireturn, 1) := by decide +kernel
theorem dJ7_fill_53178_0 : decode cJ7_fill_53178 0 = .ok (.iconst 0, 1) := by decide +kernel
theorem dJ7_fill_53178_1 : decode cJ7_fill_53178 1 = .ok (.istore_n 2, 1) := by decide +kernel
theorem dJ7_fill_53178_2 : decode cJ7_fill_53178 2 = .ok (.aload_n 0, 1) := by decide +kernel
theorem dJ7_fill_53178_3 : decode cJ7_fill_53178 3 = .ok (.arraylength, 1) := by decide +kernel
theorem dJ7_fill_53178_4 : decode cJ7_fill_53178 4 = .ok (.istore_n 3, 1) := by decide +kernel
theorem dJ7_fill_53178_5 : decode cJ7_fill_53178 5 = .ok (.iload_n 2, 1) := by decide +kernel
theorem dJ7_fill_53178_6 : decode cJ7_fill_53178 6 = .ok (.iload_n 3, 1) := by decide +kernel
theorem dJ7_fill_53178_7 : decode cJ7_fill_53178 7 = .ok (.if_icmp .ge 13, 3) := by decide +kernel
theorem dJ7_fill_53178_10 : decode cJ7_fill_53178 10 = .ok (.aload_n 0, 1) := by decide +kernel
theorem dJ7_fill_53178_11 : decode cJ7_fill_53178 11 = .ok (.iload_n 2, 1) := by decide +kernel
theorem dJ7_fill_53178_12 : decode cJ7_fill_53178 12 = .ok (.iload_n 1, 1) := by decide +kernel
theorem dJ7_fill_53178_13 : decode cJ7_fill_53178 13 = .ok (.iastore, 1) := by decide +kernel
theorem dJ7_fill_53178_14 : decode cJ7_fill_53178 14 = .ok (.iinc 2 1, 3) := by decide +kernel
theorem dJ7_fill_53178_17 : decode cJ7_fill_53178 17 = .ok (.goto (-12), 3) := by decide +kernel
theorem dJ7_fill_53178_20 : decode cJ7_fill_53178 20 = .ok (.return_, 1) := by decide +kernel
theorem dL_law_0 : decode cL_law 0 = .ok (.new 7, 3) := by decide +kernel
theorem dL_law_3 : decode cL_law 3 = .ok (.dup, 1) := by decide +kernel
theorem dL_law_4 : decode cL_law 4 = .ok (.invokespecial 9, 3) := by decide +kernel
theorem dL_law_7 : decode cL_law 7 = .ok (.astore_n 1, 1) := by decide +kernel
theorem dL_law_8 : decode cL_law 8 = .ok (.new 10, 3) := by decide +kernel
theorem dL_law_11 : decode cL_law 11 = .ok (.dup, 1) := by decide +kernel
theorem dL_law_12 : decode cL_law 12 = .ok (.invokespecial 12, 3) := by decide +kernel
theorem dL_law_15 : decode cL_law 15 = .ok (.astore_n 2, 1) := by decide +kernel
theorem dL_law_16 : decode cL_law 16 = .ok (.iconst 0, 1) := by decide +kernel
theorem dL_law_17 : decode cL_law 17 = .ok (.istore_n 3, 1) := by decide +kernel
theorem dL_law_18 : decode cL_law 18 = .ok (.iload_n 3, 1) := by decide +kernel
theorem dL_law_19 : decode cL_law 19 = .ok (.aload_n 0, 1) := by decide +kernel
theorem dL_law_20 : decode cL_law 20 = .ok (.arraylength, 1) := by decide +kernel
theorem dL_law_21 : decode cL_law 21 = .ok (.iconst 4, 1) := by decide +kernel
theorem dL_law_22 : decode cL_law 22 = .ok (.isub, 1) := by decide +kernel
theorem dL_law_23 : decode cL_law 23 = .ok (.if_icmp .gt 641, 3) := by decide +kernel
theorem dL_law_26 : decode cL_law 26 = .ok (.aload_n 0, 1) := by decide +kernel
theorem dL_law_27 : decode cL_law 27 = .ok (.iload_n 3, 1) := by decide +kernel
theorem dL_law_28 : decode cL_law 28 = .ok (.iaload, 1) := by decide +kernel
theorem dL_law_29 : decode cL_law 29 = .ok (.bipush 31, 2) := by decide +kernel
theorem dL_law_31 : decode cL_law 31 = .ok (.iand, 1) := by decide +kernel
theorem dL_law_32 : decode cL_law 32 = .ok (.tableswitch 626 0 19 #[96, 119, 152, 175, 208, 241, 274, 287, 320, 353, 376, 399, 412, 435, 458, 481, 514, 557, 580, 603], 96) := by decide +kernel
theorem dL_law_128 : decode cL_law 128 = .ok (.aload_n 1, 1) := by decide +kernel
theorem dL_law_129 : decode cL_law 129 = .ok (.aload_n 0, 1) := by decide +kernel
theorem dL_law_130 : decode cL_law 130 = .ok (.iload_n 3, 1) := by decide +kernel
theorem dL_law_131 : decode cL_law 131 = .ok (.iconst 1, 1) := by decide +kernel
theorem dL_law_132 : decode cL_law 132 = .ok (.iadd, 1) := by decide +kernel
theorem dL_law_133 : decode cL_law 133 = .ok (.iaload, 1) := by decide +kernel
theorem dL_law_134 : decode cL_law 134 = .ok (.invokevirtual 13, 3) := by decide +kernel
theorem dL_law_137 : decode cL_law 137 = .ok (.aload_n 2, 1) := by decide +kernel
theorem dL_law_138 : decode cL_law 138 = .ok (.aload_n 0, 1) := by decide +kernel
theorem dL_law_139 : decode cL_law 139 = .ok (.iload_n 3, 1) := by decide +kernel
theorem dL_law_140 : decode cL_law 140 = .ok (.iconst 1, 1) := by decide +kernel
theorem dL_law_141 : decode cL_law 141 = .ok (.iadd, 1) := by decide +kernel
theorem dL_law_142 : decode cL_law 142 = .ok (.iaload, 1) := by decide +kernel
theorem dL_law_143 : decode cL_law 143 = .ok (.invokevirtual 17, 3) := by decide +kernel
theorem dL_law_146 : decode cL_law 146 = .ok (.if_icmp .eq 512, 3) := by decide +kernel
theorem dL_law_149 : decode cL_law 149 = .ok (.iconst 0, 1) := by decide +kernel
theorem dL_law_150 : decode cL_law 150 = .ok (.ireturn, 1) := by decide +kernel
theorem dL_law_151 : decode cL_law 151 = .ok (.aload_n 1, 1) := by decide +kernel
theorem dL_law_152 : decode cL_law 152 = .ok (.aload_n 0, 1) := by decide +kernel
theorem dL_law_153 : decode cL_law 153 = .ok (.iload_n 3, 1) := by decide +kernel
theorem dL_law_154 : decode cL_law 154 = .ok (.iconst 1, 1) := by decide +kernel
theorem dL_law_155 : decode cL_law 155 = .ok (.iadd, 1) := by decide +kernel
theorem dL_law_156 : decode cL_law 156 = .ok (.iaload, 1) := by decide +kernel
theorem dL_law_157 : decode cL_law 157 = .ok (.aload_n 0, 1) := by decide +kernel
theorem dL_law_158 : decode cL_law 158 = .ok (.iload_n 3, 1) := by decide +kernel
theorem dL_law_159 : decode cL_law 159 = .ok (.iconst 2, 1) := by decide +kernel
theorem dL_law_160 : decode cL_law 160 = .ok (.iadd, 1) := by decide +kernel
theorem dL_law_161 : decode cL_law 161 = .ok (.iaload, 1) := by decide +kernel
theorem dL_law_162 : decode cL_law 162 = .ok (.invokevirtual 18, 3) := by decide +kernel
theorem dL_law_165 : decode cL_law 165 = .ok (.aload_n 2, 1) := by decide +kernel
theorem dL_law_166 : decode cL_law 166 = .ok (.aload_n 0, 1) := by decide +kernel
theorem dL_law_167 : decode cL_law 167 = .ok (.iload_n 3, 1) := by decide +kernel
theorem dL_law_168 : decode cL_law 168 = .ok (.iconst 1, 1) := by decide +kernel
theorem dL_law_169 : decode cL_law 169 = .ok (.iadd, 1) := by decide +kernel
theorem dL_law_170 : decode cL_law 170 = .ok (.iaload, 1) := by decide +kernel
theorem dL_law_171 : decode cL_law 171 = .ok (.aload_n 0, 1) := by decide +kernel
theorem dL_law_172 : decode cL_law 172 = .ok (.iload_n 3, 1) := by decide +kernel
theorem dL_law_173 : decode cL_law 173 = .ok (.iconst 2, 1) := by decide +kernel
theorem dL_law_174 : decode cL_law 174 = .ok (.iadd, 1) := by decide +kernel
theorem dL_law_175 : decode cL_law 175 = .ok (.iaload, 1) := by decide +kernel
theorem dL_law_176 : decode cL_law 176 = .ok (.invokevirtual 22, 3) := by decide +kernel
theorem dL_law_179 : decode cL_law 179 = .ok (.if_icmp .eq 479, 3) := by decide +kernel
theorem dL_law_182 : decode cL_law 182 = .ok (.iconst 0, 1) := by decide +kernel
theorem dL_law_183 : decode cL_law 183 = .ok (.ireturn, 1) := by decide +kernel
theorem dL_law_184 : decode cL_law 184 = .ok (.aload_n 1, 1) := by decide +kernel
theorem dL_law_185 : decode cL_law 185 = .ok (.aload_n 0, 1) := by decide +kernel
theorem dL_law_186 : decode cL_law 186 = .ok (.iload_n 3, 1) := by decide +kernel
theorem dL_law_187 : decode cL_law 187 = .ok (.iconst 1, 1) := by decide +kernel
theorem dL_law_188 : decode cL_law 188 = .ok (.iadd, 1) := by decide +kernel
theorem dL_law_189 : decode cL_law 189 = .ok (.iaload, 1) := by decide +kernel
theorem dL_law_190 : decode cL_law 190 = .ok (.invokevirtual 23, 3) := by decide +kernel
theorem dL_law_193 : decode cL_law 193 = .ok (.aload_n 2, 1) := by decide +kernel
theorem dL_law_194 : decode cL_law 194 = .ok (.aload_n 0, 1) := by decide +kernel
theorem dL_law_195 : decode cL_law 195 = .ok (.iload_n 3, 1) := by decide +kernel
theorem dL_law_196 : decode cL_law 196 = .ok (.iconst 1, 1) := by decide +kernel
theorem dL_law_197 : decode cL_law 197 = .ok (.iadd, 1) := by decide +kernel
theorem dL_law_198 : decode cL_law 198 = .ok (.iaload, 1) := by decide +kernel
theorem dL_law_199 : decode cL_law 199 = .ok (.invokevirtual 26, 3) := by decide +kernel
theorem dL_law_202 : decode cL_law 202 = .ok (.if_icmp .eq 456, 3) := by decide +kernel
theorem dL_law_205 : decode cL_law 205 = .ok (.iconst 0, 1) := by decide +kernel
theorem dL_law_206 : decode cL_law 206 = .ok (.ireturn, 1) := by decide +kernel
theorem dL_law_207 : decode cL_law 207 = .ok (.aload_n 1, 1) := by decide +kernel
theorem dL_law_208 : decode cL_law 208 = .ok (.aload_n 0, 1) := by decide +kernel
theorem dL_law_209 : decode cL_law 209 = .ok (.iload_n 3, 1) := by decide +kernel
theorem dL_law_210 : decode cL_law 210 = .ok (.iconst 1, 1) := by decide +kernel
theorem dL_law_211 : decode cL_law 211 = .ok (.iadd, 1) := by decide +kernel
theorem dL_law_212 : decode cL_law 212 = .ok (.iaload, 1) := by decide +kernel
theorem dL_law_213 : decode cL_law 213 = .ok (.aload_n 0, 1) := by decide +kernel
theorem dL_law_214 : decode cL_law 214 = .ok (.iload_n 3, 1) := by decide +kernel
theorem dL_law_215 : decode cL_law 215 = .ok (.iconst 2, 1) := by decide +kernel
theorem dL_law_216 : decode cL_law 216 = .ok (.iadd, 1) := by decide +kernel
theorem dL_law_217 : decode cL_law 217 = .ok (.iaload, 1) := by decide +kernel
theorem dL_law_218 : decode cL_law 218 = .ok (.invokevirtual 27, 3) := by decide +kernel
theorem dL_law_221 : decode cL_law 221 = .ok (.aload_n 2, 1) := by decide +kernel
theorem dL_law_222 : decode cL_law 222 = .ok (.aload_n 0, 1) := by decide +kernel
theorem dL_law_223 : decode cL_law 223 = .ok (.iload_n 3, 1) := by decide +kernel
theorem dL_law_224 : decode cL_law 224 = .ok (.iconst 1, 1) := by decide +kernel
theorem dL_law_225 : decode cL_law 225 = .ok (.iadd, 1) := by decide +kernel
theorem dL_law_226 : decode cL_law 226 = .ok (.iaload, 1) := by decide +kernel
theorem dL_law_227 : decode cL_law 227 = .ok (.aload_n 0, 1) := by decide +kernel
theorem dL_law_228 : decode cL_law 228 = .ok (.iload_n 3, 1) := by decide +kernel
theorem dL_law_229 : decode cL_law 229 = .ok (.iconst 2, 1) := by decide +kernel
theorem dL_law_230 : decode cL_law 230 = .ok (.iadd, 1) := by decide +kernel
theorem dL_law_231 : decode cL_law 231 = .ok (.iaload, 1) := by decide +kernel
theorem dL_law_232 : decode cL_law 232 = .ok (.invokevirtual 30, 3) := by decide +kernel
theorem dL_law_235 : decode cL_law 235 = .ok (.if_icmp .eq 423, 3) := by decide +kernel
theorem dL_law_238 : decode cL_law 238 = .ok (.iconst 0, 1) := by decide +kernel
theorem dL_law_239 : decode cL_law 239 = .ok (.ireturn, 1) := by decide +kernel
theorem dL_law_240 : decode cL_law 240 = .ok (.aload_n 1, 1) := by decide +kernel
theorem dL_law_241 : decode cL_law 241 = .ok (.aload_n 0, 1) := by decide +kernel
theorem dL_law_242 : decode cL_law 242 = .ok (.iload_n 3, 1) := by decide +kernel
theorem dL_law_243 : decode cL_law 243 = .ok (.iconst 1, 1) := by decide +kernel
theorem dL_law_244 : decode cL_law 244 = .ok (.iadd, 1) := by decide +kernel
theorem dL_law_245 : decode cL_law 245 = .ok (.iaload, 1) := by decide +kernel
theorem dL_law_246 : decode cL_law 246 = .ok (.aload_n 0, 1) := by decide +kernel
theorem dL_law_247 : decode cL_law 247 = .ok (.iload_n 3, 1) := by decide +kernel
theorem dL_law_248 : decode cL_law 248 = .ok (.iconst 2, 1) := by decide +kernel
theorem dL_law_249 : decode cL_law 249 = .ok (.iadd, 1) := by decide +kernel
theorem dL_law_250 : decode cL_law 250 = .ok (.iaload, 1) := by decide +kernel
theorem dL_law_251 : decode cL_law 251 = .ok (.invokevirtual 31, 3) := by decide +kernel
theorem dL_law_254 : decode cL_law 254 = .ok (.aload_n 2, 1) := by decide +kernel
theorem dL_law_255 : decode cL_law 255 = .ok (.aload_n 0, 1) := by decide +kernel
theorem dL_law_256 : decode cL_law 256 = .ok (.iload_n 3, 1) := by decide +kernel
theorem dL_law_257 : decode cL_law 257 = .ok (.iconst 1, 1) := by decide +kernel
theorem dL_law_258 : decode cL_law 258 = .ok (.iadd, 1) := by decide +kernel
theorem dL_law_259 : decode cL_law 259 = .ok (.iaload, 1) := by decide +kernel
theorem dL_law_260 : decode cL_law 260 = .ok (.aload_n 0, 1) := by decide +kernel
theorem dL_law_261 : decode cL_law 261 = .ok (.iload_n 3, 1) := by decide +kernel
theorem dL_law_262 : decode cL_law 262 = .ok (.iconst 2, 1) := by decide +kernel
theorem dL_law_263 : decode cL_law 263 = .ok (.iadd, 1) := by decide +kernel
theorem dL_law_264 : decode cL_law 264 = .ok (.iaload, 1) := by decide +kernel
theorem dL_law_265 : decode cL_law 265 = .ok (.invokevirtual 34, 3) := by decide +kernel
theorem dL_law_268 : decode cL_law 268 = .ok (.if_icmp .eq 390, 3) := by decide +kernel
theorem dL_law_271 : decode cL_law 271 = .ok (.iconst 0, 1) := by decide +kernel
theorem dL_law_272 : decode cL_law 272 = .ok (.ireturn, 1) := by decide +kernel
theorem dL_law_273 : decode cL_law 273 = .ok (.aload_n 1, 1) := by decide +kernel
theorem dL_law_274 : decode cL_law 274 = .ok (.aload_n 0, 1) := by decide +kernel
theorem dL_law_275 : decode cL_law 275 = .ok (.iload_n 3, 1) := by decide +kernel
theorem dL_law_276 : decode cL_law 276 = .ok (.iconst 1, 1) := by decide +kernel
theorem dL_law_277 : decode cL_law 277 = .ok (.iadd, 1) := by decide +kernel
theorem dL_law_278 : decode cL_law 278 = .ok (.iaload, 1) := by decide +kernel
theorem dL_law_279 : decode cL_law 279 = .ok (.aload_n 0, 1) := by decide +kernel
theorem dL_law_280 : decode cL_law 280 = .ok (.iload_n 3, 1) := by decide +kernel
theorem dL_law_281 : decode cL_law 281 = .ok (.iconst 2, 1) := by decide +kernel
theorem dL_law_282 : decode cL_law 282 = .ok (.iadd, 1) := by decide +kernel
theorem dL_law_283 : decode cL_law 283 = .ok (.iaload, 1) := by decide +kernel
theorem dL_law_284 : decode cL_law 284 = .ok (.invokevirtual 35, 3) := by decide +kernel
theorem dL_law_287 : decode cL_law 287 = .ok (.aload_n 2, 1) := by decide +kernel
theorem dL_law_288 : decode cL_law 288 = .ok (.aload_n 0, 1) := by decide +kernel
theorem dL_law_289 : decode cL_law 289 = .ok (.iload_n 3, 1) := by decide +kernel
theorem dL_law_290 : decode cL_law 290 = .ok (.iconst 1, 1) := by decide +kernel
theorem dL_law_291 : decode cL_law 291 = .ok (.iadd, 1) := by decide +kernel
theorem dL_law_292 : decode cL_law 292 = .ok (.iaload, 1) := by decide +kernel
theorem dL_law_293 : decode cL_law 293 = .ok (.aload_n 0, 1) := by decide +kernel
theorem dL_law_294 : decode cL_law 294 = .ok (.iload_n 3, 1) := by decide +kernel
theorem dL_law_295 : decode cL_law 295 = .ok (.iconst 2, 1) := by decide +kernel
theorem dL_law_296 : decode cL_law 296 = .ok (.iadd, 1) := by decide +kernel
theorem dL_law_297 : decode cL_law 297 = .ok (.iaload, 1) := by decide +kernel
theorem dL_law_298 : decode cL_law 298 = .ok (.invokevirtual 38, 3) := by decide +kernel
theorem dL_law_301 : decode cL_law 301 = .ok (.if_icmp .eq 357, 3) := by decide +kernel
theorem dL_law_304 : decode cL_law 304 = .ok (.iconst 0, 1) := by decide +kernel
theorem dL_law_305 : decode cL_law 305 = .ok (.ireturn, 1) := by decide +kernel
theorem dL_law_306 : decode cL_law 306 = .ok (.aload_n 1, 1) := by decide +kernel
theorem dL_law_307 : decode cL_law 307 = .ok (.invokevirtual 39, 3) := by decide +kernel
theorem dL_law_310 : decode cL_law 310 = .ok (.aload_n 2, 1) := by decide +kernel
theorem dL_law_311 : decode cL_law 311 = .ok (.invokevirtual 43, 3) := by decide +kernel
theorem dL_law_314 : decode cL_law 314 = .ok (.if_icmp .eq 344, 3) := by decide +kernel
theorem dL_law_317 : decode cL_law 317 = .ok (.iconst 0, 1) := by decide +kernel
theorem dL_law_318 : decode cL_law 318 = .ok (.ireturn, 1) := by decide +kernel
theorem dL_law_319 : decode cL_law 319 = .ok (.aload_n 1, 1) := by decide +kernel
theorem dL_law_320 : decode cL_law 320 = .ok (.aload_n 0, 1) := by decide +kernel
theorem dL_law_321 : decode cL_law 321 = .ok (.iload_n 3, 1) := by decide +kernel
theorem dL_law_322 : decode cL_law 322 = .ok (.iconst 1, 1) := by decide +kernel
theorem dL_law_323 : decode cL_law 323 = .ok (.iadd, 1) := by decide +kernel
theorem dL_law_324 : decode cL_law 324 = .ok (.iaload, 1) := by decide +kernel
theorem dL_law_325 : decode cL_law 325 = .ok (.aload_n 0, 1) := by decide +kernel
theorem dL_law_326 : decode cL_law 326 = .ok (.iload_n 3, 1) := by decide +kernel
theorem dL_law_327 : decode cL_law 327 = .ok (.iconst 2, 1) := by decide +kernel
theorem dL_law_328 : decode cL_law 328 = .ok (.iadd, 1) := by decide +kernel
theorem dL_law_329 : decode cL_law 329 = .ok (.iaload, 1) := by decide +kernel
theorem dL_law_330 : decode cL_law 330 = .ok (.invokevirtual 44, 3) := by decide +kernel
theorem dL_law_333 : decode cL_law 333 = .ok (.aload_n 2, 1) := by decide +kernel
theorem dL_law_334 : decode cL_law 334 = .ok (.aload_n 0, 1) := by decide +kernel
theorem dL_law_335 : decode cL_law 335 = .ok (.iload_n 3, 1) := by decide +kernel
theorem dL_law_336 : decode cL_law 336 = .ok (.iconst 1, 1) := by decide +kernel
theorem dL_law_337 : decode cL_law 337 = .ok (.iadd, 1) := by decide +kernel
theorem dL_law_338 : decode cL_law 338 = .ok (.iaload, 1) := by decide +kernel
theorem dL_law_339 : decode cL_law 339 = .ok (.aload_n 0, 1) := by decide +kernel
theorem dL_law_340 : decode cL_law 340 = .ok (.iload_n 3, 1) := by decide +kernel
theorem dL_law_341 : decode cL_law 341 = .ok (.iconst 2, 1) := by decide +kernel
theorem dL_law_342 : decode cL_law 342 = .ok (.iadd, 1) := by decide +kernel
theorem dL_law_343 : decode cL_law 343 = .ok (.iaload, 1) := by decide +kernel
theorem dL_law_344 : decode cL_law 344 = .ok (.invokevirtual 47, 3) := by decide +kernel
theorem dL_law_347 : decode cL_law 347 = .ok (.if_icmp .eq 311, 3) := by decide +kernel
theorem dL_law_350 : decode cL_law 350 = .ok (.iconst 0, 1) := by decide +kernel
theorem dL_law_351 : decode cL_law 351 = .ok (.ireturn, 1) := by decide +kernel
theorem dL_law_352 : decode cL_law 352 = .ok (.aload_n 1, 1) := by decide +kernel
theorem dL_law_353 : decode cL_law 353 = .ok (.aload_n 0, 1) := by decide +kernel
theorem dL_law_354 : decode cL_law 354 = .ok (.iload_n 3, 1) := by decide +kernel
theorem dL_law_355 : decode cL_law 355 = .ok (.iconst 1, 1) := by decide +kernel
theorem dL_law_356 : decode cL_law 356 = .ok (.iadd, 1) := by decide +kernel
theorem dL_law_357 : decode cL_law 357 = .ok (.iaload, 1) := by decide +kernel
theorem dL_law_358 : decode cL_law 358 = .ok (.aload_n 0, 1) := by decide +kernel
theorem dL_law_359 : decode cL_law 359 = .ok (.iload_n 3, 1) := by decide +kernel
theorem dL_law_360 : decode cL_law 360 = .ok (.iconst 2, 1) := by decide +kernel
theorem dL_law_361 : decode cL_law 361 = .ok (.iadd, 1) := by decide +kernel
theorem dL_law_362 : decode cL_law 362 = .ok (.iaload, 1) := by decide +kernel
theorem dL_law_363 : decode cL_law 363 = .ok (.invokevirtual 48, 3) := by decide +kernel
theorem dL_law_366 : decode cL_law 366 = .ok (.aload_n 2, 1) := by decide +kernel
theorem dL_law_367 : decode cL_law 367 = .ok (.aload_n 0, 1) := by decide +kernel
theorem dL_law_368 : decode cL_law 368 = .ok (.iload_n 3, 1) := by decide +kernel
theorem dL_law_369 : decode cL_law 369 = .ok (.iconst 1, 1) := by decide +kernel
theorem dL_law_370 : decode cL_law 370 = .ok (.iadd, 1) := by decide +kernel
theorem dL_law_371 : decode cL_law 371 = .ok (.iaload, 1) := by decide +kernel
theorem dL_law_372 : decode cL_law 372 = .ok (.aload_n 0, 1) := by decide +kernel
theorem dL_law_373 : decode cL_law 373 = .ok (.iload_n 3, 1) := by decide +kernel
theorem dL_law_374 : decode cL_law 374 = .ok (.iconst 2, 1) := by decide +kernel
theorem dL_law_375 : decode cL_law 375 = .ok (.iadd, 1) := by decide +kernel
theorem dL_law_376 : decode cL_law 376 = .ok (.iaload, 1) := by decide +kernel
theorem dL_law_377 : decode cL_law 377 = .ok (.invokevirtual 51, 3) := by decide +kernel
theorem dL_law_380 : decode cL_law 380 = .ok (.if_icmp .eq 278, 3) := by decide +kernel
theorem dL_law_383 : decode cL_law 383 = .ok (.iconst 0, 1) := by decide +kernel
theorem dL_law_384 : decode cL_law 384 = .ok (.ireturn, 1) := by decide +kernel
theorem dL_law_385 : decode cL_law 385 = .ok (.aload_n 1, 1) := by decide +kernel
theorem dL_law_386 : decode cL_law 386 = .ok (.aload_n 0, 1) := by decide +kernel
theorem dL_law_387 : decode cL_law 387 = .ok (.iload_n 3, 1) := by decide +kernel
theorem dL_law_388 : decode cL_law 388 = .ok (.iconst 1, 1) := by decide +kernel
theorem dL_law_389 : decode cL_law 389 = .ok (.iadd, 1) := by decide +kernel
theorem dL_law_390 : decode cL_law 390 = .ok (.iaload, 1) := by decide +kernel
theorem dL_law_391 : decode cL_law 391 = .ok (.invokevirtual 52, 3) := by decide +kernel
theorem dL_law_394 : decode cL_law 394 = .ok (.aload_n 2, 1) := by decide +kernel
theorem dL_law_395 : decode cL_law 395 = .ok (.aload_n 0, 1) := by decide +kernel
theorem dL_law_396 : decode cL_law 396 = .ok (.iload_n 3, 1) := by decide +kernel
theorem dL_law_397 : decode cL_law 397 = .ok (.iconst 1, 1) := by decide +kernel
theorem dL_law_398 : decode cL_law 398 = .ok (.iadd, 1) := by decide +kernel
theorem dL_law_399 : decode cL_law 399 = .ok (.iaload, 1) := by decide +kernel
theorem dL_law_400 : decode cL_law 400 = .ok (.invokevirtual 55, 3) := by decide +kernel
theorem dL_law_403 : decode cL_law 403 = .ok (.if_icmp .eq 255, 3) := by decide +kernel
theorem dL_law_406 : decode cL_law 406 = .ok (.iconst 0, 1) := by decide +kernel
theorem dL_law_407 : decode cL_law 407 = .ok (.ireturn, 1) := by decide +kernel
theorem dL_law_408 : decode cL_law 408 = .ok (.aload_n 1, 1) := by decide +kernel
theorem dL_law_409 : decode cL_law 409 = .ok (.aload_n 0, 1) := by decide +kernel
theorem dL_law_410 : decode cL_law 410 = .ok (.iload_n 3, 1) := by decide +kernel
theorem dL_law_411 : decode cL_law 411 = .ok (.iconst 1, 1) := by decide +kernel
theorem dL_law_412 : decode cL_law 412 = .ok (.iadd, 1) := by decide +kernel
theorem dL_law_413 : decode cL_law 413 = .ok (.iaload, 1) := by decide +kernel
theorem dL_law_414 : decode cL_law 414 = .ok (.invokevirtual 56, 3) := by decide +kernel
theorem dL_law_417 : decode cL_law 417 = .ok (.aload_n 2, 1) := by decide +kernel
theorem dL_law_418 : decode cL_law 418 = .ok (.aload_n 0, 1) := by decide +kernel
theorem dL_law_419 : decode cL_law 419 = .ok (.iload_n 3, 1) := by decide +kernel
theorem dL_law_420 : decode cL_law 420 = .ok (.iconst 1, 1) := by decide +kernel
theorem dL_law_421 : decode cL_law 421 = .ok (.iadd, 1) := by decide +kernel
theorem dL_law_422 : decode cL_law 422 = .ok (.iaload, 1) := by decide +kernel
theorem dL_law_423 : decode cL_law 423 = .ok (.invokevirtual 59, 3) := by decide +kernel
theorem dL_law_426 : decode cL_law 426 = .ok (.if_icmp .eq 232, 3) := by decide +kernel
theorem dL_law_429 : decode cL_law 429 = .ok (.iconst 0, 1) := by decide +kernel
theorem dL_law_430 : decode cL_law 430 = .ok (.ireturn, 1) := by decide +kernel
theorem dL_law_431 : decode cL_law 431 = .ok (.aload_n 1, 1) := by decide +kernel
theorem dL_law_432 : decode cL_law 432 = .ok (.invokevirtual 60, 3) := by decide +kernel
theorem dL_law_435 : decode cL_law 435 = .ok (.aload_n 2, 1) := by decide +kernel
theorem dL_law_436 : decode cL_law 436 = .ok (.invokevirtual 63, 3) := by decide +kernel
theorem dL_law_439 : decode cL_law 439 = .ok (.if_icmp .eq 219, 3) := by decide +kernel
theorem dL_law_442 : decode cL_law 442 = .ok (.iconst 0, 1) := by decide +kernel
theorem dL_law_443 : decode cL_law 443 = .ok (.ireturn, 1) := by decide +kernel
theorem dL_law_444 : decode cL_law 444 = .ok (.aload_n 1, 1) := by decide +kernel
theorem dL_law_445 : decode cL_law 445 = .ok (.aload_n 0, 1) := by decide +kernel
theorem dL_law_446 : decode cL_law 446 = .ok (.iload_n 3, 1) := by decide +kernel
theorem dL_law_447 : decode cL_law 447 = .ok (.iconst 1, 1) := by decide +kernel
theorem dL_law_448 : decode cL_law 448 = .ok (.iadd, 1) := by decide +kernel
theorem dL_law_449 : decode cL_law 449 = .ok (.iaload, 1) := by decide +kernel
theorem dL_law_450 : decode cL_law 450 = .ok (.invokevirtual 64, 3) := by decide +kernel
theorem dL_law_453 : decode cL_law 453 = .ok (.aload_n 2, 1) := by decide +kernel
theorem dL_law_454 : decode cL_law 454 = .ok (.aload_n 0, 1) := by decide +kernel
theorem dL_law_455 : decode cL_law 455 = .ok (.iload_n 3, 1) := by decide +kernel
theorem dL_law_456 : decode cL_law 456 = .ok (.iconst 1, 1) := by decide +kernel
theorem dL_law_457 : decode cL_law 457 = .ok (.iadd, 1) := by decide +kernel
theorem dL_law_458 : decode cL_law 458 = .ok (.iaload, 1) := by decide +kernel
theorem dL_law_459 : decode cL_law 459 = .ok (.invokevirtual 67, 3) := by decide +kernel
theorem dL_law_462 : decode cL_law 462 = .ok (.if_icmp .eq 196, 3) := by decide +kernel
theorem dL_law_465 : decode cL_law 465 = .ok (.iconst 0, 1) := by decide +kernel
theorem dL_law_466 : decode cL_law 466 = .ok (.ireturn, 1) := by decide +kernel
theorem dL_law_467 : decode cL_law 467 = .ok (.aload_n 1, 1) := by decide +kernel
theorem dL_law_468 : decode cL_law 468 = .ok (.aload_n 0, 1) := by decide +kernel
theorem dL_law_469 : decode cL_law 469 = .ok (.iload_n 3, 1) := by decide +kernel
theorem dL_law_470 : decode cL_law 470 = .ok (.iconst 1, 1) := by decide +kernel
theorem dL_law_471 : decode cL_law 471 = .ok (.iadd, 1) := by decide +kernel
theorem dL_law_472 : decode cL_law 472 = .ok (.iaload, 1) := by decide +kernel
theorem dL_law_473 : decode cL_law 473 = .ok (.invokevirtual 68, 3) := by decide +kernel
theorem dL_law_476 : decode cL_law 476 = .ok (.aload_n 2, 1) := by decide +kernel
theorem dL_law_477 : decode cL_law 477 = .ok (.aload_n 0, 1) := by decide +kernel
theorem dL_law_478 : decode cL_law 478 = .ok (.iload_n 3, 1) := by decide +kernel
theorem dL_law_479 : decode cL_law 479 = .ok (.iconst 1, 1) := by decide +kernel
theorem dL_law_480 : decode cL_law 480 = .ok (.iadd, 1) := by decide +kernel
theorem dL_law_481 : decode cL_law 481 = .ok (.iaload, 1) := by decide +kernel
theorem dL_law_482 : decode cL_law 482 = .ok (.invokevirtual 71, 3) := by decide +kernel
theorem dL_law_485 : decode cL_law 485 = .ok (.if_icmp .eq 173, 3) := by decide +kernel
theorem dL_law_488 : decode cL_law 488 = .ok (.iconst 0, 1) := by decide +kernel
theorem dL_law_489 : decode cL_law 489 = .ok (.ireturn, 1) := by decide +kernel
theorem dL_law_490 : decode cL_law 490 = .ok (.aload_n 1, 1) := by decide +kernel
theorem dL_law_491 : decode cL_law 491 = .ok (.aload_n 0, 1) := by decide +kernel
theorem dL_law_492 : decode cL_law 492 = .ok (.iload_n 3, 1) := by decide +kernel
theorem dL_law_493 : decode cL_law 493 = .ok (.iconst 1, 1) := by decide +kernel
theorem dL_law_494 : decode cL_law 494 = .ok (.iadd, 1) := by decide +kernel
theorem dL_law_495 : decode cL_law 495 = .ok (.iaload, 1) := by decide +kernel
theorem dL_law_496 : decode cL_law 496 = .ok (.invokevirtual 72, 3) := by decide +kernel
theorem dL_law_499 : decode cL_law 499 = .ok (.aload_n 2, 1) := by decide +kernel
theorem dL_law_500 : decode cL_law 500 = .ok (.aload_n 0, 1) := by decide +kernel
theorem dL_law_501 : decode cL_law 501 = .ok (.iload_n 3, 1) := by decide +kernel
theorem dL_law_502 : decode cL_law 502 = .ok (.iconst 1, 1) := by decide +kernel
theorem dL_law_503 : decode cL_law 503 = .ok (.iadd, 1) := by decide +kernel
theorem dL_law_504 : decode cL_law 504 = .ok (.iaload, 1) := by decide +kernel
theorem dL_law_505 : decode cL_law 505 = .ok (.invokevirtual 75, 3) := by decide +kernel
theorem dL_law_508 : decode cL_law 508 = .ok (.if_icmp .eq 150, 3) := by decide +kernel
theorem dL_law_511 : decode cL_law 511 = .ok (.iconst 0, 1) := by decide +kernel
theorem dL_law_512 : decode cL_law 512 = .ok (.ireturn, 1) := by decide +kernel
theorem dL_law_513 : decode cL_law 513 = .ok (.aload_n 1, 1) := by decide +kernel
theorem dL_law_514 : decode cL_law 514 = .ok (.aload_n 0, 1) := by decide +kernel
theorem dL_law_515 : decode cL_law 515 = .ok (.iload_n 3, 1) := by decide +kernel
theorem dL_law_516 : decode cL_law 516 = .ok (.iconst 1, 1) := by decide +kernel
theorem dL_law_517 : decode cL_law 517 = .ok (.iadd, 1) := by decide +kernel
theorem dL_law_518 : decode cL_law 518 = .ok (.iaload, 1) := by decide +kernel
theorem dL_law_519 : decode cL_law 519 = .ok (.aload_n 0, 1) := by decide +kernel
theorem dL_law_520 : decode cL_law 520 = .ok (.iload_n 3, 1) := by decide +kernel
theorem dL_law_521 : decode cL_law 521 = .ok (.iconst 2, 1) := by decide +kernel
theorem dL_law_522 : decode cL_law 522 = .ok (.iadd, 1) := by decide +kernel
theorem dL_law_523 : decode cL_law 523 = .ok (.iaload, 1) := by decide +kernel
theorem dL_law_524 : decode cL_law 524 = .ok (.invokevirtual 76, 3) := by decide +kernel
theorem dL_law_527 : decode cL_law 527 = .ok (.aload_n 2, 1) := by decide +kernel
theorem dL_law_528 : decode cL_law 528 = .ok (.aload_n 0, 1) := by decide +kernel
theorem dL_law_529 : decode cL_law 529 = .ok (.iload_n 3, 1) := by decide +kernel
theorem dL_law_530 : decode cL_law 530 = .ok (.iconst 1, 1) := by decide +kernel
theorem dL_law_531 : decode cL_law 531 = .ok (.iadd, 1) := by decide +kernel
theorem dL_law_532 : decode cL_law 532 = .ok (.iaload, 1) := by decide +kernel
theorem dL_law_533 : decode cL_law 533 = .ok (.aload_n 0, 1) := by decide +kernel
theorem dL_law_534 : decode cL_law 534 = .ok (.iload_n 3, 1) := by decide +kernel
theorem dL_law_535 : decode cL_law 535 = .ok (.iconst 2, 1) := by decide +kernel
theorem dL_law_536 : decode cL_law 536 = .ok (.iadd, 1) := by decide +kernel
theorem dL_law_537 : decode cL_law 537 = .ok (.iaload, 1) := by decide +kernel
theorem dL_law_538 : decode cL_law 538 = .ok (.invokevirtual 79, 3) := by decide +kernel
theorem dL_law_541 : decode cL_law 541 = .ok (.if_icmp .eq 117, 3) := by decide +kernel
theorem dL_law_544 : decode cL_law 544 = .ok (.iconst 0, 1) := by decide +kernel
theorem dL_law_545 : decode cL_law 545 = .ok (.ireturn, 1) := by decide +kernel
theorem dL_law_546 : decode cL_law 546 = .ok (.aload_n 1, 1) := by decide +kernel
theorem dL_law_547 : decode cL_law 547 = .ok (.aload_n 0, 1) := by decide +kernel
theorem dL_law_548 : decode cL_law 548 = .ok (.iload_n 3, 1) := by decide +kernel
theorem dL_law_549 : decode cL_law 549 = .ok (.iconst 1, 1) := by decide +kernel
theorem dL_law_550 : decode cL_law 550 = .ok (.iadd, 1) := by decide +kernel
theorem dL_law_551 : decode cL_law 551 = .ok (.iaload, 1) := by decide +kernel
theorem dL_law_552 : decode cL_law 552 = .ok (.aload_n 0, 1) := by decide +kernel
theorem dL_law_553 : decode cL_law 553 = .ok (.iload_n 3, 1) := by decide +kernel
theorem dL_law_554 : decode cL_law 554 = .ok (.iconst 2, 1) := by decide +kernel
theorem dL_law_555 : decode cL_law 555 = .ok (.iadd, 1) := by decide +kernel
theorem dL_law_556 : decode cL_law 556 = .ok (.iaload, 1) := by decide +kernel
theorem dL_law_557 : decode cL_law 557 = .ok (.aload_n 0, 1) := by decide +kernel
theorem dL_law_558 : decode cL_law 558 = .ok (.iload_n 3, 1) := by decide +kernel
theorem dL_law_559 : decode cL_law 559 = .ok (.iconst 3, 1) := by decide +kernel
theorem dL_law_560 : decode cL_law 560 = .ok (.iadd, 1) := by decide +kernel
theorem dL_law_561 : decode cL_law 561 = .ok (.iaload, 1) := by decide +kernel
theorem dL_law_562 : decode cL_law 562 = .ok (.invokevirtual 80, 3) := by decide +kernel
theorem dL_law_565 : decode cL_law 565 = .ok (.aload_n 2, 1) := by decide +kernel
theorem dL_law_566 : decode cL_law 566 = .ok (.aload_n 0, 1) := by decide +kernel
theorem dL_law_567 : decode cL_law 567 = .ok (.iload_n 3, 1) := by decide +kernel
theorem dL_law_568 : decode cL_law 568 = .ok (.iconst 1, 1) := by decide +kernel
theorem dL_law_569 : decode cL_law 569 = .ok (.iadd, 1) := by decide +kernel
theorem dL_law_570 : decode cL_law 570 = .ok (.iaload, 1) := by decide +kernel
theorem dL_law_571 : decode cL_law 571 = .ok (.aload_n 0, 1) := by decide +kernel
theorem dL_law_572 : decode cL_law 572 = .ok (.iload_n 3, 1) := by decide +kernel
theorem dL_law_573 : decode cL_law 573 = .ok (.iconst 2, 1) := by decide +kernel
theorem dL_law_574 : decode cL_law 574 = .ok (.iadd, 1) := by decide +kernel
theorem dL_law_575 : decode cL_law 575 = .ok (.iaload, 1) := by decide +kernel
theorem dL_law_576 : decode cL_law 576 = .ok (.aload_n 0, 1) := by decide +kernel
theorem dL_law_577 : decode cL_law 577 = .ok (.iload_n 3, 1) := by decide +kernel
theorem dL_law_578 : decode cL_law 578 = .ok (.iconst 3, 1) := by decide +kernel
theorem dL_law_579 : decode cL_law 579 = .ok (.iadd, 1) := by decide +kernel
theorem dL_law_580 : decode cL_law 580 = .ok (.iaload, 1) := by decide +kernel
theorem dL_law_581 : decode cL_law 581 = .ok (.invokevirtual 84, 3) := by decide +kernel
theorem dL_law_584 : decode cL_law 584 = .ok (.if_icmp .eq 74, 3) := by decide +kernel
theorem dL_law_587 : decode cL_law 587 = .ok (.iconst 0, 1) := by decide +kernel
theorem dL_law_588 : decode cL_law 588 = .ok (.ireturn, 1) := by decide +kernel
theorem dL_law_589 : decode cL_law 589 = .ok (.aload_n 1, 1) := by decide +kernel
theorem dL_law_590 : decode cL_law 590 = .ok (.aload_n 0, 1) := by decide +kernel
theorem dL_law_591 : decode cL_law 591 = .ok (.iload_n 3, 1) := by decide +kernel
theorem dL_law_592 : decode cL_law 592 = .ok (.iconst 1, 1) := by decide +kernel
theorem dL_law_593 : decode cL_law 593 = .ok (.iadd, 1) := by decide +kernel
theorem dL_law_594 : decode cL_law 594 = .ok (.iaload, 1) := by decide +kernel
theorem dL_law_595 : decode cL_law 595 = .ok (.invokevirtual 85, 3) := by decide +kernel
theorem dL_law_598 : decode cL_law 598 = .ok (.aload_n 2, 1) := by decide +kernel
theorem dL_law_599 : decode cL_law 599 = .ok (.aload_n 0, 1) := by decide +kernel
theorem dL_law_600 : decode cL_law 600 = .ok (.iload_n 3, 1) := by decide +kernel
theorem dL_law_601 : decode cL_law 601 = .ok (.iconst 1, 1) := by decide +kernel
theorem dL_law_602 : decode cL_law 602 = .ok (.iadd, 1) := by decide +kernel
theorem dL_law_603 : decode cL_law 603 = .ok (.iaload, 1) := by decide +kernel
theorem dL_law_604 : decode cL_law 604 = .ok (.invokevirtual 88, 3) := by decide +kernel
theorem dL_law_607 : decode cL_law 607 = .ok (.if_icmp .eq 51, 3) := by decide +kernel
theorem dL_law_610 : decode cL_law 610 = .ok (.iconst 0, 1) := by decide +kernel
theorem dL_law_611 : decode cL_law 611 = .ok (.ireturn, 1) := by decide +kernel
theorem dL_law_612 : decode cL_law 612 = .ok (.aload_n 1, 1) := by decide +kernel
theorem dL_law_613 : decode cL_law 613 = .ok (.aload_n 0, 1) := by decide +kernel
theorem dL_law_614 : decode cL_law 614 = .ok (.iload_n 3, 1) := by decide +kernel
theorem dL_law_615 : decode cL_law 615 = .ok (.iconst 1, 1) := by decide +kernel
theorem dL_law_616 : decode cL_law 616 = .ok (.iadd, 1) := by decide +kernel
theorem dL_law_617 : decode cL_law 617 = .ok (.iaload, 1) := by decide +kernel
theorem dL_law_618 : decode cL_law 618 = .ok (.invokevirtual 89, 3) := by decide +kernel
theorem dL_law_621 : decode cL_law 621 = .ok (.aload_n 2, 1) := by decide +kernel
theorem dL_law_622 : decode cL_law 622 = .ok (.aload_n 0, 1) := by decide +kernel
theorem dL_law_623 : decode cL_law 623 = .ok (.iload_n 3, 1) := by decide +kernel
theorem dL_law_624 : decode cL_law 624 = .ok (.iconst 1, 1) := by decide +kernel
theorem dL_law_625 : decode cL_law 625 = .ok (.iadd, 1) := by decide +kernel
theorem dL_law_626 : decode cL_law 626 = .ok (.iaload, 1) := by decide +kernel
theorem dL_law_627 : decode cL_law 627 = .ok (.invokevirtual 92, 3) := by decide +kernel
theorem dL_law_630 : decode cL_law 630 = .ok (.if_icmp .eq 28, 3) := by decide +kernel
theorem dL_law_633 : decode cL_law 633 = .ok (.iconst 0, 1) := by decide +kernel
theorem dL_law_634 : decode cL_law 634 = .ok (.ireturn, 1) := by decide +kernel
theorem dL_law_635 : decode cL_law 635 = .ok (.aload_n 1, 1) := by decide +kernel
theorem dL_law_636 : decode cL_law 636 = .ok (.aload_n 0, 1) := by decide +kernel
theorem dL_law_637 : decode cL_law 637 = .ok (.iload_n 3, 1) := by decide +kernel
theorem dL_law_638 : decode cL_law 638 = .ok (.iconst 1, 1) := by decide +kernel
theorem dL_law_639 : decode cL_law 639 = .ok (.iadd, 1) := by decide +kernel
theorem dL_law_640 : decode cL_law 640 = .ok (.iaload, 1) := by decide +kernel
theorem dL_law_641 : decode cL_law 641 = .ok (.invokevirtual 93, 3) := by decide +kernel
theorem dL_law_644 : decode cL_law 644 = .ok (.aload_n 2, 1) := by decide +kernel
theorem dL_law_645 : decode cL_law 645 = .ok (.aload_n 0, 1) := by decide +kernel
theorem dL_law_646 : decode cL_law 646 = .ok (.iload_n 3, 1) := by decide +kernel
theorem dL_law_647 : decode cL_law 647 = .ok (.iconst 1, 1) := by decide +kernel
theorem dL_law_648 : decode cL_law 648 = .ok (.iadd, 1) := by decide +kernel
theorem dL_law_649 : decode cL_law 649 = .ok (.iaload, 1) := by decide +kernel
theorem dL_law_650 : decode cL_law 650 = .ok (.invokevirtual 96, 3) := by decide +kernel
theorem dL_law_653 : decode cL_law 653 = .ok (.if_icmp .eq 5, 3) := by decide +kernel
theorem dL_law_656 : decode cL_law 656 = .ok (.iconst 0, 1) := by decide +kernel
theorem dL_law_657 : decode cL_law 657 = .ok (.ireturn, 1) := by decide +kernel
theorem dL_law_658 : decode cL_law 658 = .ok (.iinc 3 4, 3) := by decide +kernel
theorem dL_law_661 : decode cL_law 661 = .ok (.goto (-643), 3) := by decide +kernel
theorem dL_law_664 : decode cL_law 664 = .ok (.iconst 1, 1) := by decide +kernel
theorem dL_law_665 : decode cL_law 665 = .ok (.ireturn, 1) := by decide +kernel
end
section
/-! THE WORLD of the law's loop: 78 cells, the same objects and arrays from the constructors' end on. sw_Sg: what the ints in them are (cell, place). SW: a method of ours stands at pc with locals L, stack st, ints σ; what comes back is R. -/
abbrev sw_Sg : Type := Nat → Nat → Int32
abbrev sw_Sh : Type := (Bool × Nat) ⊕ (Nat × List (Option Nat))
def sw_shl : List sw_Sh := [
  .inr (7, [some 1, some 2, some 3, some 4, some 5, some 6, some 7, none, none]),
  .inr (5, [none, none, none, none, none, none, some 8, some 9, some 10, some 11, some 12, some 13, some 14]),
  .inr (6, [some 15, some 16, some 17, some 18, some 19, some 20, some 21, some 22, none]),
  .inr (2, [some 23, some 24, some 25, none]),
  .inr (4, [some 26, some 27, none]),
  .inr (1, [some 28, some 29, some 30, some 31, none, none, none, none]),
  .inr (0, [some 32, none, none]),
  .inr (3, [some 33]),
  .inr (3, [some 34]),
  .inr (3, [some 35]),
  .inr (3, [some 36]),
  .inr (3, [some 37]),
  .inr (3, [some 38]),
  .inr (3, [some 39]),
  .inr (3, [some 40]),
  .inr (3, [some 41]),
  .inr (3, [some 42]),
  .inr (3, [some 43]),
  .inr (3, [some 44]),
  .inr (3, [some 45]),
  .inr (3, [some 46]),
  .inr (3, [some 47]),
  .inr (3, [some 48]),
  .inr (3, [some 49]),
  .inr (3, [some 50]),
  .inr (3, [some 51]),
  .inr (3, [some 52]),
  .inr (3, [some 53]),
  .inr (3, [some 54]),
  .inr (3, [some 55]),
  .inr (3, [some 56]),
  .inr (3, [some 57]),
  .inr (3, [some 58]),
  .inl (false, 4),
  .inl (false, 30),
  .inl (false, 30),
  .inl (false, 30),
  .inl (false, 576),
  .inl (false, 576),
  .inl (false, 576),
  .inl (false, 576),
  .inl (false, 576),
  .inl (false, 576),
  .inl (false, 576),
  .inl (false, 576),
  .inl (false, 576),
  .inl (false, 576),
  .inl (false, 576),
  .inl (false, 576),
  .inl (false, 576),
  .inl (false, 576),
  .inl (false, 576),
  .inl (false, 576),
  .inl (false, 6),
  .inl (false, 3456),
  .inl (false, 576),
  .inl (false, 6),
  .inl (false, 12),
  .inl (false, 2308),
  .inr (8, [none, none, none, none, some 60, none, none, some 61, some 62, some 63, none, some 64, some 65, some 66, some 67, some 68, some 69, some 70, none, none, some 71, none, none, none, some 72, some 73, some 74, some 75, some 76, some 77]),
  .inl (false, 4),
  .inl (false, 30),
  .inl (false, 30),
  .inl (false, 30),
  .inl (false, 576),
  .inl (false, 576),
  .inl (false, 576),
  .inl (false, 576),
  .inl (false, 576),
  .inl (false, 576),
  .inl (false, 576),
  .inl (false, 6),
  .inl (false, 6),
  .inl (false, 6),
  .inl (false, 576),
  .inl (false, 576),
  .inl (true, 576),
  .inl (false, 576)]
def sw_sh (i : Nat) : sw_Sh := sw_shl.getD i (.inl (false, 0))
abbrev sw_X : Type := Launch × va_G × (Nat → Nat) × ClassId × ClassId
def sw_ad (X : sw_X) (i : Nat) : Nat := X.2.2.1 i
abbrev sw_fs (ad : Nat → Nat) (f : Nat → Int32) (fk : List (Option Nat)) : List Value := fk.mapIdx fun k o => match o with
  | none => .int (f k)
  | some j => .ref (ad j)
def sw_cell (X : sw_X) (σ : sw_Sg) (i : Nat) : va_E := match sw_sh i with
  | .inl q => .inl (if q.1 = true then X.2.2.2.2 else X.2.2.2.1, q.2, .inl (σ i))
  | .inr q => .inr (q.1, sw_fs (sw_ad X) (σ i) q.2)
def sw_ws (X : sw_X) (σ : sw_Sg) : va_W := (List.range 78).map fun i => (sw_ad X i, sw_cell X σ i)
theorem sw_ws_get {X : sw_X} {σ : sw_Sg} {i : Nat} (h : i < 78) : (sw_ws X σ)[i]? = some (sw_ad X i, sw_cell X σ i) := by
  simp [sw_ws, h]
theorem sw_ws_at {X : sw_X} {σ : sw_Sg} {i : Nat} {q : Nat × va_E} (h : (sw_ws X σ)[i]? = some q) : i < 78 ∧ q = (sw_ad X i, sw_cell X σ i) := by
  have hi : i < 78 := by
    have := (List.getElem?_eq_some_iff.mp h).1
    simpa [sw_ws] using this
  rw [sw_ws_get hi] at h
  exact ⟨hi, (Option.some.inj h).symm⟩
theorem sw_ws_set {X : sw_X} {σ σ' : sw_Sg} {i : Nat} (h : i < 78) (ho : ∀ j, j ≠ i → σ' j = σ j) : (sw_ws X σ).set i (sw_ad X i, sw_cell X σ' i) = sw_ws X σ' := by
  apply List.ext_getElem?
  intro j
  rw [List.getElem?_set]
  by_cases hj : i = j
  · subst hj
    have : i < (sw_ws X σ).length := by simp [sw_ws, h]
    rw [if_pos rfl, if_pos this, sw_ws_get h]
  · rw [if_neg hj]
    by_cases h78 : j < 78
    · rw [sw_ws_get h78, sw_ws_get h78]
      have : σ' j = σ j := ho j (fun e => hj e.symm)
      unfold sw_cell
      rw [this]
    · have e1 : (sw_ws X σ)[j]? = none := by simp [sw_ws]; omega
      have e2 : (sw_ws X σ')[j]? = none := by simp [sw_ws]; omega
      rw [e1, e2]
theorem sw_sh_lt {i ci : Nat} {fk : List (Option Nat)} (h : sw_sh i = .inr (ci, fk)) : i < 78 := by
  rcases Nat.lt_or_ge i 78 with h1 | h1
  · exact h1
  · have : sw_shl.length ≤ i := h1
    simp [sw_sh, List.getD, List.getElem?_eq_none this] at h
theorem sw_sh_ltA {i n : Nat} {b : Bool} (h : sw_sh i = .inl (b, n)) (hn : 0 < n) : i < 78 := by
  rcases Nat.lt_or_ge i 78 with h1 | h1
  · exact h1
  · have : sw_shl.length ≤ i := h1
    simp [sw_sh, List.getD, List.getElem?_eq_none this] at h
    omega
theorem sw_cellO {X : sw_X} {σ : sw_Sg} {i ci : Nat} {fk : List (Option Nat)} (h : sw_sh i = .inr (ci, fk)) : sw_cell X σ i = .inr (ci, sw_fs (sw_ad X) (σ i) fk) := by
  unfold sw_cell
  rw [h]
theorem sw_cellA {X : sw_X} {σ : sw_Sg} {i n : Nat} {b : Bool} (h : sw_sh i = .inl (b, n)) : sw_cell X σ i = .inl (if b = true then X.2.2.2.2 else X.2.2.2.1, n, .inl (σ i)) := by
  unfold sw_cell
  rw [h]
/-- one int of one cell becomes v -/
def sw_up (σ : sw_Sg) (i k : Nat) (v : Int32) : sw_Sg := va_up σ i (upd (σ i) k v)
theorem sw_up_o {σ : sw_Sg} {i k : Nat} {v : Int32} : ∀ j, j ≠ i → sw_up σ i k v j = σ j := fun j h => by simp [sw_up, va_up, h]
theorem sw_up_i {σ : sw_Sg} {i k : Nat} {v : Int32} : sw_up σ i k v i = upd (σ i) k v := by simp [sw_up, va_up]
theorem sw_fs_set {ad : Nat → Nat} {f : Nat → Int32} {fk : List (Option Nat)} {k : Nat} {v : Int32} (h : fk[k]? = some none) : (sw_fs ad f fk).set k (.int v) = sw_fs ad (upd f k v) fk := by
  apply List.ext_getElem?
  intro j
  rw [List.getElem?_set]
  by_cases hj : k = j
  · subst hj
    have hl : k < fk.length := (List.getElem?_eq_some_iff.mp h).1
    rw [if_pos rfl, if_pos (by simpa [sw_fs] using hl)]
    simp [sw_fs, h, upd]
  · rw [if_neg hj]
    simp only [sw_fs, List.getElem?_mapIdx]
    cases hq : fk[j]? with
    | none => rfl
    | some o =>
      cases o with
      | none => simp [upd, Ne.symm hj]
      | some b => rfl
theorem sw_fs_int {ad : Nat → Nat} {f : Nat → Int32} {fk : List (Option Nat)} {k : Nat} (h : fk[k]? = some none) : (sw_fs ad f fk)[k]? = some (.int (f k)) := by simp [sw_fs, h]
theorem sw_fs_ref {ad : Nat → Nat} {f : Nat → Int32} {fk : List (Option Nat)} {k j : Nat} (h : fk[k]? = some (some j)) : (sw_fs ad f fk)[k]? = some (.ref (ad j)) := by simp [sw_fs, h]
/-! the tables' words -/
def sw_W : List Cond := lw_tbl.filter goodWord
theorem sw_in {w : Cond} (h : w ∈ lw_tbl) (g : goodWord w = true) : w ∈ sw_W := List.mem_filter.mpr ⟨h, g⟩
theorem sw_good {w : Cond} (h : w ∈ sw_W) : (w.onTables && w.keeps) = true ∨ ∃ ty, w = .arrayClass ty := good_of_word (List.mem_filter.mp h).2
def sw_isNest : Cond → Bool
  | .fieldLinkNest _ _ _ _ _ _ => true
  | .methodLinkNest _ _ _ _ => true
  | _ => false
def sw_N (U : State) : Prop := ∀ w ∈ lw_tbl, sw_isNest w = true → va_Nw w U
theorem sw_N.warm {s U : State} (hW : s.WarmedH U.vm) (h : sw_N s) : sw_N U := by
  intro w hw hn
  have h1 := h w hw hn
  cases w <;> first | exact va_Nw.warmF hW h1 | exact va_Nw.warmM hW h1 | exact absurd hn (by simp [sw_isNest])
theorem sw_N.of {args : Array Value} {U : State} (h : ∀ w ∈ lw_tbl, w.before args U = true) : sw_N U := by
  intro w hw hn
  have h1 := h w hw
  cases w <;> first | exact va_Nw.of rfl h1 | exact absurd hn (by simp [sw_isNest])
abbrev sw_tys (X : sw_X) : List (ClassId × FieldType) := [(X.2.2.2.1, .int), (X.2.2.2.2, .boolean)]
def sw_K (X : sw_X) (U : State) : Prop := va_K X.2.1 vwCl (sw_tys X) U ∧ sw_N U
theorem sw_K.warm {X : sw_X} {s U : State} (hW : s.WarmedH U.vm) (h : sw_K X s) : sw_K X U := ⟨va_K.moved hW.alike h.1, h.2.warm hW⟩
def sw_P (X : sw_X) (σ : sw_Sg) (H : Heap) : Prop := va_P X.2.1 vwCl (sw_ws X σ) H
def sw_dis (X : sw_X) : Prop := ∀ i j, i < 78 → j < 78 → sw_ad X i = sw_ad X j → i = j
def sw_A (X : sw_X) (sz : Nat) : Nat → Prop := fun q => (∃ i, i < 78 ∧ q = sw_ad X i) ∨ sz ≤ q
theorem sw_D {X : sw_X} {σ : sw_Sg} {sz : Nat} (h : sw_dis X) : va_D (sw_A X sz) (sw_ws X σ) := by
  refine ⟨fun i j p q hp hq e => ?_, fun k q hq => ?_⟩
  · obtain ⟨h1, rfl⟩ := sw_ws_at hp
    obtain ⟨h2, rfl⟩ := sw_ws_at hq
    exact h i j h1 h2 e
  · obtain ⟨h1, rfl⟩ := sw_ws_at hq
    exact Or.inl ⟨k, h1, rfl⟩
/-! a method: its name, bytes, locals, what it answers -/
abbrev sw_Me : Type := MethodName × ByteArray × Nat × Option FieldType
abbrev sw_rm (d : Nat) : Room := { frames := d, cells := 0, slots := 0, locals := 38 * d }
abbrev sw_wm (me : sw_Me) : List Cond := .code me.1 me.2.1 me.2.2.1 me.2.2.2 :: sw_W
def sw_Pc (X : sw_X) (E : State → Prop) (args : List Value) (σ : sw_Sg) (sz : Nat) : Array Value → State → Prop := va_Pc args fun U => U.heap.size = sz ∧ sw_P X σ U.heap ∧ sw_K X U ∧ sw_dis X ∧ E U
def sw_Q (X : sw_X) (sz : Nat) (R : Option Value → sw_Sg → Prop) : Array Value → State → Outcome → State → Prop := fun _ st oc t => (∃ (r : Option Value) (σ' : sw_Sg), oc = .returned r ∧ R r σ' ∧ sw_P X σ' t.heap) ∧ va_F (sw_A X sz) st t
/-- the contract of a method, called at these ints with these arguments, at most d calls deep -/
def sw_ME (X : sw_X) (d : Nat) (E : State → Prop) (me : sw_Me) (args : List Value) (σ : sw_Sg) (R : Option Value → sw_Sg → Prop) : Prop :=
  ∀ sz : Nat, Met X.1 me.1 (sw_wm me) (sw_rm d) (sw_Pc X E args σ sz) (sw_Q X sz R) 0 0 (sw_A X sz)
abbrev sw_E0 : State → Prop := fun _ => True
abbrev sw_M (X : sw_X) (d : Nat) (me : sw_Me) (args : List Value) (σ : sw_Sg) (R : Option Value → sw_Sg → Prop) : Prop := sw_ME X d sw_E0 me args σ R
abbrev sw_Ri (R : Int32 → sw_Sg → Prop) : Option Value → sw_Sg → Prop := fun r u => ∃ v, r = some (.int v) ∧ R v u
abbrev sw_Rv (R : sw_Sg → Prop) : Option Value → sw_Sg → Prop := fun r u => r = none ∧ R u
/-- answers an int -/
abbrev sw_Mi (X : sw_X) (d : Nat) (me : sw_Me) (args : List Value) (σ : sw_Sg) (R : Int32 → sw_Sg → Prop) : Prop := sw_M X d me args σ (sw_Ri R)
/-- answers nothing -/
abbrev sw_Mv (X : sw_X) (d : Nat) (me : sw_Me) (args : List Value) (σ : sw_Sg) (R : sw_Sg → Prop) : Prop := sw_M X d me args σ (sw_Rv R)
/-- the locals: place by place, .null where nothing is known -/
def sw_has (ls : Array Slot) (nL : Nat) (L : List Value) : Prop := ls.size = nL ∧ lv_wf ls ∧ ∀ (i : Nat) (v : Value), L[i]? = some v → v ≠ .null → ls[i]? = some (.val v) ∧ v.category = 1
def sw_C (X : sw_X) (d : Nat) (me : sw_Me) (E : State → Prop) (σ : sw_Sg) (p : Program) (s : State) (m : MethodId) (args : Array Value) (meth : Method) (c : Code) (H : Heap) (locs : List Loc) : Prop :=
  p.tables.exec = Jvm.exec ∧ c.code = me.2.1 ∧ meth.sig.returnType = me.2.2.2 ∧ c.maxLocals = me.2.2.1 ∧ s.vm.findClass me.1.cls = some m.cls ∧ (∀ w ∈ sw_W, w.before args s = true) ∧ meth.locks = false ∧ sw_K X s ∧ sw_dis X ∧ E s ∧ sw_P X σ H ∧ va_S (sw_A X s.heap.size) s.heap H locs
def SW (X : sw_X) (d : Nat) (me : sw_Me) (E : State → Prop) (R : Option Value → sw_Sg → Prop) (pc : Nat) (L : List Value) (st : List Value) (σ : sw_Sg) : Prop :=
  ∀ (p : Program) (e : Env) (s : State) (m : MethodId) (args : Array Value) (below : List Frame) (meth : Method) (c : Code) (H : Heap) (locs : List Loc) (ls : Array Slot),
    sw_C X d me E σ p s m args meth c H locs → sw_has ls me.2.2.1 L → W p X.1 e (sw_rm d) s m args below meth c H locs 0 0 (MQ below (sw_Q X s.heap.size R) args s 0 0 (sw_A X s.heap.size)) (F0 m pc ls st)
theorem sw_has.get {ls : Array Slot} {nL : Nat} {L : List Value} (h : sw_has ls nL L) {i : Nat} {v : Value} (hi : L[i]? = some v) (hv : v ≠ .null) : ls[i]? = some (.val v) := (h.2.2 i v hi hv).1
theorem sw_has.lv {ls : Array Slot} {nL : Nat} {L : List Value} (h : sw_has ls nL L) : lv_has ls nL [] := ⟨h.1, h.2.1, fun q hq => by cases hq⟩
theorem sw_L_ok (L : List Value) (i : Nat) (x : Value) (k : Nat) (q : Nat × Value) (hq : ((L.zipIdx k).filterMap (fun a => if a.1 = .null then none else some (a.2, a.1)))[i]? = some q) : k ≤ q.1 ∧ L[q.1 - k]? = some q.2 ∧ q.2 ≠ .null := by
  have hm := List.mem_of_getElem? hq
  obtain ⟨a, ha, hb⟩ := List.mem_filterMap.mp hm
  have := List.mem_zipIdx_iff_le_and_getElem?_sub.mp ha
  by_cases hz : a.1 = .null
  · rw [if_pos hz] at hb
    cases hb
  · rw [if_neg hz] at hb
    cases hb
    exact ⟨this.1, this.2, hz⟩
/-- storing in a local of one slot -/
theorem sw_has.store {ls : Array Slot} {nL : Nat} {L : List Value} (h : sw_has ls nL L) {i : Nat} {v : Value} (hi : i < nL) (hc : v.category = 1) : ∃ ls', storeLocals ls i v = some ls' ∧ sw_has ls' nL (L.set i v) := by
  have hl : lv_has ls nL ((L.zipIdx 0).filterMap (fun a => if a.1 = .null then none else some (a.2, a.1))) := by
    refine ⟨h.1, h.2.1, fun q hq => ?_⟩
    obtain ⟨j, hj⟩ := List.getElem?_of_mem hq
    obtain ⟨-, h2, h3⟩ := sw_L_ok L j .null 0 q hj
    exact h.get (by simpa using h2) h3
  obtain ⟨ls', e', h'⟩ := lv_store1 hl hi hc
  refine ⟨ls', e', h'.1, h'.2.1, fun j w hj hw => ?_⟩
  rw [List.getElem?_set] at hj
  by_cases hij : i = j
  · subst hij
    rw [if_pos rfl] at hj
    split at hj
    · cases hj
      exact ⟨h'.2.2 (i, v) List.mem_cons_self, hc⟩
    · cases hj
  · rw [if_neg hij] at hj
    have hcat := (h.2.2 j w hj hw).2
    refine ⟨h'.2.2 (j, w) (List.mem_cons_of_mem _ (List.mem_filter.mpr ⟨?_, ?_⟩)), hcat⟩
    · refine List.mem_filterMap.mpr ⟨(w, j), ?_, ?_⟩
      · exact List.mem_zipIdx_iff_le_and_getElem?_sub.mpr ⟨Nat.zero_le _, by simpa using hj⟩
      · simp [hw]
    · simp [Ne.symm hij, hcat]
section SWR
variable {X : sw_X} {d : Nat} {me : sw_Me} {E : State → Prop} {R : Option Value → sw_Sg → Prop} {pc q : Nat} {L st rest : List Value} {σ : sw_Sg} {x y : Int32}
theorem SW.iconst {n : Int} {v : Int32} (hd : decode me.2.1 pc = .ok (.iconst n, 1)) (hv : Int32.ofInt n = v) (hq : pc + 1 = q) (kk : SW X d me E R q L (.int v :: st) σ) : SW X d me E R pc L st σ := by
  subst hq
  intro p e s m args below meth c H locs ls C hl
  exact lv_iconst C.1 C.2.1 hd hv (kk p e s m args below meth c H locs ls C hl)
theorem SW.bipush {n : Int} {v : Int32} (hd : decode me.2.1 pc = .ok (.bipush n, 2)) (hv : (Int8.ofInt n).toInt32 = v) (hq : pc + 2 = q) (kk : SW X d me E R q L (.int v :: st) σ) : SW X d me E R pc L st σ := by
  subst hq
  intro p e s m args below meth c H locs ls C hl
  exact lv_bipush C.1 C.2.1 hd hv (kk p e s m args below meth c H locs ls C hl)
theorem SW.sipush {n : Int} {v : Int32} (hd : decode me.2.1 pc = .ok (.sipush n, 3)) (hv : (Int16.ofInt n).toInt32 = v) (hq : pc + 3 = q) (kk : SW X d me E R q L (.int v :: st) σ) : SW X d me E R pc L st σ := by
  subst hq
  intro p e s m args below meth c H locs ls C hl
  exact lv_sipush C.1 C.2.1 hd hv (kk p e s m args below meth c H locs ls C hl)
theorem SW.ldc {k : Nat} {v : Int32} (hw : Cond.constant me.1.cls k v ∈ sw_W) (hd : decode me.2.1 pc = .ok (.ldc k, 2)) (hq : pc + 2 = q) (kk : SW X d me E R q L (.int v :: st) σ) : SW X d me E R pc L st σ := by
  subst hq
  intro p e s m args below meth c H locs ls C hl
  exact lv_ldc C.1 C.2.1 C.2.2.2.2.1 (C.2.2.2.2.2.1 _ hw) hd (kk p e s m args below meth c H locs ls C hl)
theorem SW.ldcw {k : Nat} {v : Int32} (hw : Cond.constant me.1.cls k v ∈ sw_W) (hd : decode me.2.1 pc = .ok (.ldc_w k, 3)) (hq : pc + 3 = q) (kk : SW X d me E R q L (.int v :: st) σ) : SW X d me E R pc L st σ := by
  subst hq
  intro p e s m args below meth c H locs ls C hl
  exact lv_ldcw C.1 C.2.1 C.2.2.2.2.1 (C.2.2.2.2.2.1 _ hw) hd (kk p e s m args below meth c H locs ls C hl)
theorem SW.iload_n {k : Fin 4} {i : Nat} (hd : decode me.2.1 pc = .ok (.iload_n k, 1)) (hi : (k : Nat) = i) (hL : L[i]? = some (.int x)) (hq : pc + 1 = q) (kk : SW X d me E R q L (.int x :: st) σ) : SW X d me E R pc L st σ := by
  subst hq
  intro p e s m args below meth c H locs ls C hl
  exact lv_iload_n C.1 C.2.1 hd hi (hl.get hL (fun h => by cases h)) (kk p e s m args below meth c H locs ls C hl)
theorem SW.iload {i : Nat} (hd : decode me.2.1 pc = .ok (.iload i, 2)) (hL : L[i]? = some (.int x)) (hq : pc + 2 = q) (kk : SW X d me E R q L (.int x :: st) σ) : SW X d me E R pc L st σ := by
  subst hq
  intro p e s m args below meth c H locs ls C hl
  exact lv_iload C.1 C.2.1 hd (hl.get hL (fun h => by cases h)) (kk p e s m args below meth c H locs ls C hl)
theorem SW.aload_n {k : Fin 4} {i a : Nat} (hd : decode me.2.1 pc = .ok (.aload_n k, 1)) (hi : (k : Nat) = i) (hL : L[i]? = some (.ref a)) (hq : pc + 1 = q) (kk : SW X d me E R q L (.ref a :: st) σ) : SW X d me E R pc L st σ := by
  subst hq
  intro p e s m args below meth c H locs ls C hl
  exact lv_aload_n C.1 C.2.1 hd hi (hl.get hL (fun h => by cases h)) (kk p e s m args below meth c H locs ls C hl)
theorem SW.aload {i a : Nat} (hd : decode me.2.1 pc = .ok (.aload i, 2)) (hL : L[i]? = some (.ref a)) (hq : pc + 2 = q) (kk : SW X d me E R q L (.ref a :: st) σ) : SW X d me E R pc L st σ := by
  subst hq
  intro p e s m args below meth c H locs ls C hl
  exact lv_aload C.1 C.2.1 hd (hl.get hL (fun h => by cases h)) (kk p e s m args below meth c H locs ls C hl)
theorem SW.istore_n {k : Fin 4} {i : Nat} (hd : decode me.2.1 pc = .ok (.istore_n k, 1)) (hi : (k : Nat) = i) (hn : i < me.2.2.1) (hq : pc + 1 = q) (kk : SW X d me E R q (L.set i (.int x)) st σ) : SW X d me E R pc L (.int x :: st) σ := by
  subst hq; subst hi
  intro p e s m args below meth c H locs ls C hl
  obtain ⟨ls', e', h'⟩ := hl.store (v := .int x) hn rfl
  intro T hT X
  obtain ⟨t, a, b⟩ := kk p e s m args below meth c H locs ls' C h' T hT X
  refine ⟨t, ?_, b⟩
  have hexec := C.1
  have hb := C.2.1
  jvm_step X.here [X.here.top, ↓top_set X.here.top, hexec, hb, hd, e']
  exact a
theorem SW.istore {i : Nat} (hd : decode me.2.1 pc = .ok (.istore i, 2)) (hn : i < me.2.2.1) (hq : pc + 2 = q) (kk : SW X d me E R q (L.set i (.int x)) st σ) : SW X d me E R pc L (.int x :: st) σ := by
  subst hq
  intro p e s m args below meth c H locs ls C hl
  obtain ⟨ls', e', h'⟩ := hl.store (v := .int x) hn rfl
  intro T hT X
  obtain ⟨t, a, b⟩ := kk p e s m args below meth c H locs ls' C h' T hT X
  refine ⟨t, ?_, b⟩
  have hexec := C.1
  have hb := C.2.1
  jvm_step X.here [X.here.top, ↓top_set X.here.top, hexec, hb, hd, e']
  exact a
theorem SW.iinc {i : Nat} {n : Int} {v : Int32} (hd : decode me.2.1 pc = .ok (.iinc i n, 3)) (hL : L[i]? = some (.int x)) (hv : x + Int32.ofInt n = v) (hn : i < me.2.2.1) (hq : pc + 3 = q) (kk : SW X d me E R q (L.set i (.int v)) st σ) : SW X d me E R pc L st σ := by
  subst hq; subst hv
  intro p e s m args below meth c H locs ls C hl
  have hg := hl.get hL (fun h => by cases h)
  obtain ⟨ls', e', h'⟩ := hl.store (v := .int (x + Int32.ofInt n)) hn rfl
  intro T hT X
  obtain ⟨t, a, b⟩ := kk p e s m args below meth c H locs ls' C h' T hT X
  refine ⟨t, ?_, b⟩
  have hexec := C.1
  have hb := C.2.1
  jvm_step X.here [X.here.top, ↓top_set X.here.top, hexec, hb, hd, hg, e']
  exact a
theorem SW.iadd (hd : decode me.2.1 pc = .ok (.iadd, 1)) (hq : pc + 1 = q) (kk : SW X d me E R q L (.int (x + y) :: rest) σ) : SW X d me E R pc L (.int y :: .int x :: rest) σ := by
  subst hq
  intro p e s m args below meth c H locs ls C hl
  exact lv_iadd C.1 C.2.1 hd (kk p e s m args below meth c H locs ls C hl)
theorem SW.isub (hd : decode me.2.1 pc = .ok (.isub, 1)) (hq : pc + 1 = q) (kk : SW X d me E R q L (.int (x - y) :: rest) σ) : SW X d me E R pc L (.int y :: .int x :: rest) σ := by
  subst hq
  intro p e s m args below meth c H locs ls C hl
  exact lv_isub C.1 C.2.1 hd (kk p e s m args below meth c H locs ls C hl)
theorem SW.imul (hd : decode me.2.1 pc = .ok (.imul, 1)) (hq : pc + 1 = q) (kk : SW X d me E R q L (.int (x * y) :: rest) σ) : SW X d me E R pc L (.int y :: .int x :: rest) σ := by
  subst hq
  intro p e s m args below meth c H locs ls C hl
  exact lv_imul C.1 C.2.1 hd (kk p e s m args below meth c H locs ls C hl)
theorem SW.iand (hd : decode me.2.1 pc = .ok (.iand, 1)) (hq : pc + 1 = q) (kk : SW X d me E R q L (.int (x &&& y) :: rest) σ) : SW X d me E R pc L (.int y :: .int x :: rest) σ := by
  subst hq
  intro p e s m args below meth c H locs ls C hl
  exact lv_iand C.1 C.2.1 hd (kk p e s m args below meth c H locs ls C hl)
theorem SW.ior (hd : decode me.2.1 pc = .ok (.ior, 1)) (hq : pc + 1 = q) (kk : SW X d me E R q L (.int (x ||| y) :: rest) σ) : SW X d me E R pc L (.int y :: .int x :: rest) σ := by
  subst hq
  intro p e s m args below meth c H locs ls C hl
  exact lv_ior C.1 C.2.1 hd (kk p e s m args below meth c H locs ls C hl)
theorem SW.ixor (hd : decode me.2.1 pc = .ok (.ixor, 1)) (hq : pc + 1 = q) (kk : SW X d me E R q L (.int (x ^^^ y) :: rest) σ) : SW X d me E R pc L (.int y :: .int x :: rest) σ := by
  subst hq
  intro p e s m args below meth c H locs ls C hl
  exact lv_ixor C.1 C.2.1 hd (kk p e s m args below meth c H locs ls C hl)
theorem SW.ishl (hd : decode me.2.1 pc = .ok (.ishl, 1)) (hq : pc + 1 = q) (kk : SW X d me E R q L (.int (x <<< (y &&& 31)) :: rest) σ) : SW X d me E R pc L (.int y :: .int x :: rest) σ := by
  subst hq
  intro p e s m args below meth c H locs ls C hl
  exact lv_ishl C.1 C.2.1 hd (kk p e s m args below meth c H locs ls C hl)
theorem SW.ishr (hd : decode me.2.1 pc = .ok (.ishr, 1)) (hq : pc + 1 = q) (kk : SW X d me E R q L (.int (x >>> (y &&& 31)) :: rest) σ) : SW X d me E R pc L (.int y :: .int x :: rest) σ := by
  subst hq
  intro p e s m args below meth c H locs ls C hl
  exact lv_ishr C.1 C.2.1 hd (kk p e s m args below meth c H locs ls C hl)
theorem SW.idiv (hd : decode me.2.1 pc = .ok (.idiv, 1)) (hne : ¬ y = 0) (hq : pc + 1 = q) (kk : SW X d me E R q L (.int (x / y) :: rest) σ) : SW X d me E R pc L (.int y :: .int x :: rest) σ := by
  subst hq
  intro p e s m args below meth c H locs ls C hl
  exact lv_idiv C.1 C.2.1 hd hne (kk p e s m args below meth c H locs ls C hl)
theorem SW.irem (hd : decode me.2.1 pc = .ok (.irem, 1)) (hne : ¬ y = 0) (hq : pc + 1 = q) (kk : SW X d me E R q L (.int (x - x / y * y) :: rest) σ) : SW X d me E R pc L (.int y :: .int x :: rest) σ := by
  subst hq
  intro p e s m args below meth c H locs ls C hl
  exact lv_irem C.1 C.2.1 hd hne (kk p e s m args below meth c H locs ls C hl)
theorem SW.ineg (hd : decode me.2.1 pc = .ok (.ineg, 1)) (hq : pc + 1 = q) (kk : SW X d me E R q L (.int (-x) :: rest) σ) : SW X d me E R pc L (.int x :: rest) σ := by
  subst hq
  intro p e s m args below meth c H locs ls C hl
  exact lv_ineg C.1 C.2.1 hd (kk p e s m args below meth c H locs ls C hl)
theorem SW.iushr {v : Int32} (hd : decode me.2.1 pc = .ok (.iushr, 1)) (hv : (x.toUInt32 >>> (y.toUInt32 &&& Int32.toUInt32 31)).toInt32 = v) (hq : pc + 1 = q) (kk : SW X d me E R q L (.int v :: rest) σ) : SW X d me E R pc L (.int y :: .int x :: rest) σ := by
  subst hq
  intro p e s m args below meth c H locs ls C hl
  exact lv_iushr C.1 C.2.1 hd hv (kk p e s m args below meth c H locs ls C hl)
theorem SW.dup {va : Value} (hd : decode me.2.1 pc = .ok (.dup, 1)) (hva : va.category = 1) (hq : pc + 1 = q) (kk : SW X d me E R q L (va :: va :: rest) σ) : SW X d me E R pc L (va :: rest) σ := by
  subst hq
  intro p e s m args below meth c H locs ls C hl
  exact lv_dup C.1 C.2.1 hd hva (kk p e s m args below meth c H locs ls C hl)
theorem SW.pop {va : Value} (hd : decode me.2.1 pc = .ok (.pop, 1)) (hva : va.category = 1) (hq : pc + 1 = q) (kk : SW X d me E R q L rest σ) : SW X d me E R pc L (va :: rest) σ := by
  subst hq
  intro p e s m args below meth c H locs ls C hl
  exact lv_pop C.1 C.2.1 hd hva (kk p e s m args below meth c H locs ls C hl)
theorem SW.dup2 {va vb : Value} (hd : decode me.2.1 pc = .ok (.dup2, 1)) (hva : va.category = 1) (hvb : vb.category = 1) (hq : pc + 1 = q) (kk : SW X d me E R q L (va :: vb :: va :: vb :: rest) σ) : SW X d me E R pc L (va :: vb :: rest) σ := by
  subst hq
  intro p e s m args below meth c H locs ls C hl
  exact lv_dup2_11 C.1 C.2.1 hd hva hvb (kk p e s m args below meth c H locs ls C hl)
theorem SW.goto {off : Int} (hd : decode me.2.1 pc = .ok (.goto off, 3)) (hq : (pc : Int) + off = (q : Int)) (kk : SW X d me E R q L st σ) : SW X d me E R pc L st σ := by
  intro p e s m args below meth c H locs ls C hl
  exact lv_goto C.1 C.2.1 hd hq (kk p e s m args below meth c H locs ls C hl)
theorem SW.tableIn {dflt lo hi : Int} {offs : Array Int} {len : Nat} {off : Int} (hd : decode me.2.1 pc = .ok (.tableswitch dflt lo hi offs, len)) (h1 : ¬ x.toInt < lo) (h2 : ¬ hi < x.toInt) (ho : offs[(x.toInt - lo).toNat]? = some off) (hq : (pc : Int) + off = (q : Int)) (kk : SW X d me E R q L rest σ) : SW X d me E R pc L (.int x :: rest) σ := by
  intro p e s m args below meth c H locs ls C hl
  exact lv_tableIn C.1 C.2.1 hd h1 h2 ho hq (kk p e s m args below meth c H locs ls C hl)
theorem SW.tableOut {dflt lo hi : Int} {offs : Array Int} {len : Nat} (hd : decode me.2.1 pc = .ok (.tableswitch dflt lo hi offs, len)) (h : x.toInt < lo ∨ hi < x.toInt) (hq : (pc : Int) + dflt = (q : Int)) (kk : SW X d me E R q L rest σ) : SW X d me E R pc L (.int x :: rest) σ := by
  intro p e s m args below meth c H locs ls C hl
  exact lv_tableOut C.1 C.2.1 hd h hq (kk p e s m args below meth c H locs ls C hl)
theorem SW.icmp_eq {off : Int} {tgt : Nat} (hd : decode me.2.1 pc = .ok (.if_icmp .eq off, 3)) (ht : (pc : Int) + off = (tgt : Int)) (hq : pc + 3 = q) (kt : x = y → SW X d me E R tgt L rest σ) (kf : ¬ x = y → SW X d me E R q L rest σ) : SW X d me E R pc L (.int y :: .int x :: rest) σ := by
  subst hq
  intro p e s m args below meth c H locs ls C hl
  exact lv_icmp_eq C.1 C.2.1 hd ht (fun h => kt h p e s m args below meth c H locs ls C hl) (fun h => kf h p e s m args below meth c H locs ls C hl)
theorem SW.if_eq {off : Int} {tgt : Nat} (hd : decode me.2.1 pc = .ok (.ifCond .eq off, 3)) (ht : (pc : Int) + off = (tgt : Int)) (hq : pc + 3 = q) (kt : x = 0 → SW X d me E R tgt L rest σ) (kf : ¬ x = 0 → SW X d me E R q L rest σ) : SW X d me E R pc L (.int x :: rest) σ := by
  subst hq
  intro p e s m args below meth c H locs ls C hl
  exact lv_if_eq C.1 C.2.1 hd ht (fun h => kt h p e s m args below meth c H locs ls C hl) (fun h => kf h p e s m args below meth c H locs ls C hl)
theorem SW.icmp_ne {off : Int} {tgt : Nat} (hd : decode me.2.1 pc = .ok (.if_icmp .ne off, 3)) (ht : (pc : Int) + off = (tgt : Int)) (hq : pc + 3 = q) (kt : ¬ x = y → SW X d me E R tgt L rest σ) (kf : x = y → SW X d me E R q L rest σ) : SW X d me E R pc L (.int y :: .int x :: rest) σ := by
  subst hq
  intro p e s m args below meth c H locs ls C hl
  exact lv_icmp_ne C.1 C.2.1 hd ht (fun h => kt h p e s m args below meth c H locs ls C hl) (fun h => kf h p e s m args below meth c H locs ls C hl)
theorem SW.if_ne {off : Int} {tgt : Nat} (hd : decode me.2.1 pc = .ok (.ifCond .ne off, 3)) (ht : (pc : Int) + off = (tgt : Int)) (hq : pc + 3 = q) (kt : ¬ x = 0 → SW X d me E R tgt L rest σ) (kf : x = 0 → SW X d me E R q L rest σ) : SW X d me E R pc L (.int x :: rest) σ := by
  subst hq
  intro p e s m args below meth c H locs ls C hl
  exact lv_if_ne C.1 C.2.1 hd ht (fun h => kt h p e s m args below meth c H locs ls C hl) (fun h => kf h p e s m args below meth c H locs ls C hl)
theorem SW.icmp_lt {off : Int} {tgt : Nat} (hd : decode me.2.1 pc = .ok (.if_icmp .lt off, 3)) (ht : (pc : Int) + off = (tgt : Int)) (hq : pc + 3 = q) (kt : x < y → SW X d me E R tgt L rest σ) (kf : ¬ x < y → SW X d me E R q L rest σ) : SW X d me E R pc L (.int y :: .int x :: rest) σ := by
  subst hq
  intro p e s m args below meth c H locs ls C hl
  exact lv_icmp_lt C.1 C.2.1 hd ht (fun h => kt h p e s m args below meth c H locs ls C hl) (fun h => kf h p e s m args below meth c H locs ls C hl)
theorem SW.if_lt {off : Int} {tgt : Nat} (hd : decode me.2.1 pc = .ok (.ifCond .lt off, 3)) (ht : (pc : Int) + off = (tgt : Int)) (hq : pc + 3 = q) (kt : x < 0 → SW X d me E R tgt L rest σ) (kf : ¬ x < 0 → SW X d me E R q L rest σ) : SW X d me E R pc L (.int x :: rest) σ := by
  subst hq
  intro p e s m args below meth c H locs ls C hl
  exact lv_if_lt C.1 C.2.1 hd ht (fun h => kt h p e s m args below meth c H locs ls C hl) (fun h => kf h p e s m args below meth c H locs ls C hl)
theorem SW.icmp_ge {off : Int} {tgt : Nat} (hd : decode me.2.1 pc = .ok (.if_icmp .ge off, 3)) (ht : (pc : Int) + off = (tgt : Int)) (hq : pc + 3 = q) (kt : y ≤ x → SW X d me E R tgt L rest σ) (kf : ¬ y ≤ x → SW X d me E R q L rest σ) : SW X d me E R pc L (.int y :: .int x :: rest) σ := by
  subst hq
  intro p e s m args below meth c H locs ls C hl
  exact lv_icmp_ge C.1 C.2.1 hd ht (fun h => kt h p e s m args below meth c H locs ls C hl) (fun h => kf h p e s m args below meth c H locs ls C hl)
theorem SW.if_ge {off : Int} {tgt : Nat} (hd : decode me.2.1 pc = .ok (.ifCond .ge off, 3)) (ht : (pc : Int) + off = (tgt : Int)) (hq : pc + 3 = q) (kt : 0 ≤ x → SW X d me E R tgt L rest σ) (kf : ¬ 0 ≤ x → SW X d me E R q L rest σ) : SW X d me E R pc L (.int x :: rest) σ := by
  subst hq
  intro p e s m args below meth c H locs ls C hl
  exact lv_if_ge C.1 C.2.1 hd ht (fun h => kt h p e s m args below meth c H locs ls C hl) (fun h => kf h p e s m args below meth c H locs ls C hl)
theorem SW.icmp_gt {off : Int} {tgt : Nat} (hd : decode me.2.1 pc = .ok (.if_icmp .gt off, 3)) (ht : (pc : Int) + off = (tgt : Int)) (hq : pc + 3 = q) (kt : y < x → SW X d me E R tgt L rest σ) (kf : ¬ y < x → SW X d me E R q L rest σ) : SW X d me E R pc L (.int y :: .int x :: rest) σ := by
  subst hq
  intro p e s m args below meth c H locs ls C hl
  exact lv_icmp_gt C.1 C.2.1 hd ht (fun h => kt h p e s m args below meth c H locs ls C hl) (fun h => kf h p e s m args below meth c H locs ls C hl)
theorem SW.if_gt {off : Int} {tgt : Nat} (hd : decode me.2.1 pc = .ok (.ifCond .gt off, 3)) (ht : (pc : Int) + off = (tgt : Int)) (hq : pc + 3 = q) (kt : 0 < x → SW X d me E R tgt L rest σ) (kf : ¬ 0 < x → SW X d me E R q L rest σ) : SW X d me E R pc L (.int x :: rest) σ := by
  subst hq
  intro p e s m args below meth c H locs ls C hl
  exact lv_if_gt C.1 C.2.1 hd ht (fun h => kt h p e s m args below meth c H locs ls C hl) (fun h => kf h p e s m args below meth c H locs ls C hl)
theorem SW.icmp_le {off : Int} {tgt : Nat} (hd : decode me.2.1 pc = .ok (.if_icmp .le off, 3)) (ht : (pc : Int) + off = (tgt : Int)) (hq : pc + 3 = q) (kt : x ≤ y → SW X d me E R tgt L rest σ) (kf : ¬ x ≤ y → SW X d me E R q L rest σ) : SW X d me E R pc L (.int y :: .int x :: rest) σ := by
  subst hq
  intro p e s m args below meth c H locs ls C hl
  exact lv_icmp_le C.1 C.2.1 hd ht (fun h => kt h p e s m args below meth c H locs ls C hl) (fun h => kf h p e s m args below meth c H locs ls C hl)
theorem SW.if_le {off : Int} {tgt : Nat} (hd : decode me.2.1 pc = .ok (.ifCond .le off, 3)) (ht : (pc : Int) + off = (tgt : Int)) (hq : pc + 3 = q) (kt : x ≤ 0 → SW X d me E R tgt L rest σ) (kf : ¬ x ≤ 0 → SW X d me E R q L rest σ) : SW X d me E R pc L (.int x :: rest) σ := by
  subst hq
  intro p e s m args below meth c H locs ls C hl
  exact lv_if_le C.1 C.2.1 hd ht (fun h => kt h p e s m args below meth c H locs ls C hl) (fun h => kf h p e s m args below meth c H locs ls C hl)

/-! fields and arrays -/
/-- the field k of the objects of kind ci, as own's constant pool names it at idx -/
def sw_FL (own : String) (idx ci k : Nat) : Prop := ∃ (C : String) (T : u_T) (N : Nat), vwCl[ci]? = some (C, T, N) ∧ k < N ∧ (Cond.fieldLink own idx (T k).1 (T k).2.1 (T k).2.2.1 ∈ sw_W ∨ ∃ host : String, Cond.fieldLinkNest own idx (T k).1 (T k).2.1 (T k).2.2.1 host ∈ lw_tbl)
/-- it may be written; its type -/
def sw_FP (own : String) (idx ci k : Nat) (ty : FieldType) : Prop := ∃ (C : String) (T : u_T) (N : Nat), vwCl[ci]? = some (C, T, N) ∧ k < N ∧ (Cond.fieldLink own idx (T k).1 (T k).2.1 (T k).2.2.1 ∈ sw_W ∨ ∃ host : String, Cond.fieldLinkNest own idx (T k).1 (T k).2.1 (T k).2.2.1 host ∈ lw_tbl) ∧ (T k).2.2.2 = false ∧ parseFieldDescriptor (T k).2.2.1 = some ty
/-- what is known of each class -/
def sw_clOk (q : vw_C) : Prop := (∀ w ∈ u_ws q.1 q.2.1 q.2.2, w ∈ sw_W) ∧ (∃ ty0 : Nat → FieldType, ∀ k, k < q.2.2 → parseFieldDescriptor (q.2.1 k).2.2.1 = some (ty0 k)) ∧ ∀ a, a < q.2.2 → ∀ b, b < q.2.2 → a ≠ b → (q.2.1 a).2.1 ≠ (q.2.1 b).2.1
theorem sw_cl0 : sw_clOk (RX0, TX0, 3) := ⟨by decide +kernel, ⟨_, tyX0_ok⟩, nmX0⟩
theorem sw_cl1 : sw_clOk (RX1, TX1, 8) := ⟨by decide +kernel, ⟨_, tyX1_ok⟩, nmX1⟩
theorem sw_cl2 : sw_clOk (RX2, TX2, 4) := ⟨by decide +kernel, ⟨_, tyX2_ok⟩, nmX2⟩
theorem sw_cl3 : sw_clOk (RX3, TX3, 1) := ⟨by decide +kernel, ⟨_, tyX3_ok⟩, nmX3⟩
theorem sw_cl4 : sw_clOk (RX4, TX4, 3) := ⟨by decide +kernel, ⟨_, tyX4_ok⟩, nmX4⟩
theorem sw_cl5 : sw_clOk (RX5, TX5, 13) := ⟨by decide +kernel, ⟨_, tyX5_ok⟩, nmX5⟩
theorem sw_cl6 : sw_clOk (RX6, TX6, 9) := ⟨by decide +kernel, ⟨_, tyX6_ok⟩, nmX6⟩
theorem sw_cl7 : sw_clOk (RX7, TX7, 9) := ⟨by decide +kernel, ⟨_, tyX7_ok⟩, nmX7⟩
theorem sw_cl8 : sw_clOk (RX8, TX8, 30) := ⟨by decide +kernel, ⟨_, tyX8_ok⟩, nmX8⟩
theorem sw_cls : ∀ (ci : Nat) (q : vw_C), vwCl[ci]? = some q → sw_clOk q := by
  intro ci q h
  match ci, h with
  | 0, h => cases h; exact sw_cl0
  | 1, h => cases h; exact sw_cl1
  | 2, h => cases h; exact sw_cl2
  | 3, h => cases h; exact sw_cl3
  | 4, h => cases h; exact sw_cl4
  | 5, h => cases h; exact sw_cl5
  | 6, h => cases h; exact sw_cl6
  | 7, h => cases h; exact sw_cl7
  | 8, h => cases h; exact sw_cl8
  | k + 9, h => simp [vwCl] at h
theorem SW.getV {idx ci k i : Nat} {fk : List (Option Nat)} {v : Value} (hF : sw_FL me.1.cls idx ci k) (hsh : sw_sh i = .inr (ci, fk)) (hv : (sw_fs (sw_ad X) (σ i) fk)[k]? = some v) (hd : decode me.2.1 pc = .ok (.getfield idx, 3)) (hq : pc + 3 = q) (kk : SW X d me E R q L (v :: rest) σ) : SW X d me E R pc L (.ref (sw_ad X i) :: rest) σ := by
  subst hq
  intro p e s m args below meth c H locs ls C hl
  have kk := kk p e s m args below meth c H locs ls C hl
  obtain ⟨hx, hb, hr, hml, hown, hts, hlk, hK, hdis, hE, hP, hS⟩ := C
  obtain ⟨C, T, N, hc, hk, hw⟩ := hF
  have hi := sw_sh_lt hsh
  have he := sw_ws_get (X := X) (σ := σ) hi
  rw [sw_cellO hsh] at he
  rcases hw with hw | ⟨host, hw⟩
  · exact va_get (Ts := sw_W) hx hb hts (sw_cls ci _ hc).1 hown hK.1 hP i he hc k hk (hts _ hw) (fun _ h => h) hv hd kk
  · exact va_getN (Ts := sw_W) hx hb hts (sw_cls ci _ hc).1 hown hK.1 hP i he hc k hk (va_Nw.use rfl (hK.2 _ hw rfl)) (fun _ h => h) hv hd kk
theorem SW.getI {idx ci k i : Nat} {fk : List (Option Nat)} (hF : sw_FL me.1.cls idx ci k) (hsh : sw_sh i = .inr (ci, fk)) (hk : fk[k]? = some none) (hd : decode me.2.1 pc = .ok (.getfield idx, 3)) (hq : pc + 3 = q) (kk : SW X d me E R q L (.int (σ i k) :: rest) σ) : SW X d me E R pc L (.ref (sw_ad X i) :: rest) σ :=
  SW.getV hF hsh (sw_fs_int hk) hd hq kk
theorem SW.getR {idx ci k i j : Nat} {fk : List (Option Nat)} (hF : sw_FL me.1.cls idx ci k) (hsh : sw_sh i = .inr (ci, fk)) (hk : fk[k]? = some (some j)) (hd : decode me.2.1 pc = .ok (.getfield idx, 3)) (hq : pc + 3 = q) (kk : SW X d me E R q L (.ref (sw_ad X j) :: rest) σ) : SW X d me E R pc L (.ref (sw_ad X i) :: rest) σ :=
  SW.getV hF hsh (sw_fs_ref hk) hd hq kk
theorem SW.put {idx ci k i : Nat} {fk : List (Option Nat)} {ty : FieldType} (hF : sw_FP me.1.cls idx ci k ty) (hsh : sw_sh i = .inr (ci, fk)) (hk : fk[k]? = some none) (hn : narrow ty (.int x) = .int x) (hfit : fits ty (.int x) = true) (hd : decode me.2.1 pc = .ok (.putfield idx, 3)) (hq : pc + 3 = q) (kk : SW X d me E R q L rest (sw_up σ i k x)) : SW X d me E R pc L (.int x :: .ref (sw_ad X i) :: rest) σ := by
  subst hq
  intro p e s m args below meth c H locs ls C hl
  obtain ⟨hx, hb, hr, hml, hown, hts, hlk, hK, hdis, hE, hP, hS⟩ := C
  obtain ⟨C, T, N, hc, hkN, hw, hfin, hpd⟩ := hF
  have hi := sw_sh_lt hsh
  have he := sw_ws_get (X := X) (σ := σ) hi
  rw [sw_cellO hsh] at he
  have hcl := sw_cls ci _ hc
  obtain ⟨ty0, hty⟩ := hcl.2.1
  have hkl : k < (sw_fs (sw_ad X) (σ i) fk).length := by
    have := (List.getElem?_eq_some_iff.mp hk).1
    simpa [sw_fs] using this
  have hset : (sw_ws X σ).set i (sw_ad X i, .inr (ci, (sw_fs (sw_ad X) (σ i) fk).set k (.int x))) = sw_ws X (sw_up σ i k x) := by
    rw [sw_fs_set hk, ← sw_ws_set hi (σ' := sw_up σ i k x) sw_up_o, sw_cellO hsh, sw_up_i]
  rcases hw with hw | ⟨host, hw⟩
  · refine va_put (Ts := sw_W) (A := sw_A X s.heap.size) hx hb hts hcl.1 ty0 hty hcl.2.2 hown hK.1 hP (sw_D hdis) hS i he hc k hkN (hts _ hw) (fun _ h => h) hfin hpd hn hfit hkl hd (fun H1 locs1 hP1 hD1 hS1 => ?_)
    rw [hset] at hP1
    exact kk p e s m args below meth c H1 locs1 ls ⟨hx, hb, hr, hml, hown, hts, hlk, hK, hdis, hE, hP1, hS1⟩ hl
  · refine va_putN (Ts := sw_W) (A := sw_A X s.heap.size) hx hb hts hcl.1 ty0 hty hcl.2.2 hown hK.1 hP (sw_D hdis) hS i he hc k hkN (va_Nw.use rfl (hK.2 _ hw rfl)) (fun _ h => h) hfin hpd hn hfit hkl hd (fun H1 locs1 hP1 hD1 hS1 => ?_)
    rw [hset] at hP1
    exact kk p e s m args below meth c H1 locs1 ls ⟨hx, hb, hr, hml, hown, hts, hlk, hK, hdis, hE, hP1, hS1⟩ hl
theorem SW.putI {idx ci k i : Nat} {fk : List (Option Nat)} (hF : sw_FP me.1.cls idx ci k .int) (hsh : sw_sh i = .inr (ci, fk)) (hk : fk[k]? = some none) (hd : decode me.2.1 pc = .ok (.putfield idx, 3)) (hq : pc + 3 = q) (kk : SW X d me E R q L rest (sw_up σ i k x)) : SW X d me E R pc L (.int x :: .ref (sw_ad X i) :: rest) σ :=
  SW.put hF hsh hk rfl rfl hd hq kk
theorem vp_in_lt {x : Int32} {n : Nat} (h : vp_in x n) : 0 < n := by
  rcases Nat.eq_zero_or_pos n with h0 | h0
  · subst h0
    exact absurd (Or.inr (Nat.zero_le _)) h
  · exact h0
theorem SW.iald {i n : Nat} (hsh : sw_sh i = .inl (false, n)) (hin : vp_in x n) (hd : decode me.2.1 pc = .ok (.iaload, 1)) (hq : pc + 1 = q) (kk : SW X d me E R q L (.int (σ i x.toNatClampNeg) :: rest) σ) : SW X d me E R pc L (.int x :: .ref (sw_ad X i) :: rest) σ := by
  subst hq
  intro p e s m args below meth c H locs ls C hl
  have kk := kk p e s m args below meth c H locs ls C hl
  obtain ⟨hx, hb, hr, hml, hown, hts, hlk, hK, hdis, hE, hP, hS⟩ := C
  have he := sw_ws_get (X := X) (σ := σ) (sw_sh_ltA hsh (vp_in_lt hin))
  rw [sw_cellA hsh] at he
  exact va_iald hx hb hK.1 hP i 0 he rfl hin hd kk
theorem SW.zald {i n : Nat} (hsh : sw_sh i = .inl (true, n)) (hin : vp_in x n) (hd : decode me.2.1 pc = .ok (.baload, 1)) (hq : pc + 1 = q) (kk : SW X d me E R q L (.int (σ i x.toNatClampNeg) :: rest) σ) : SW X d me E R pc L (.int x :: .ref (sw_ad X i) :: rest) σ := by
  subst hq
  intro p e s m args below meth c H locs ls C hl
  have kk := kk p e s m args below meth c H locs ls C hl
  obtain ⟨hx, hb, hr, hml, hown, hts, hlk, hK, hdis, hE, hP, hS⟩ := C
  have he := sw_ws_get (X := X) (σ := σ) (sw_sh_ltA hsh (vp_in_lt hin))
  rw [sw_cellA hsh] at he
  exact va_zald hx hb hK.1 hP i 1 he rfl hin hd kk
theorem SW.iast {i n : Nat} (hsh : sw_sh i = .inl (false, n)) (hin : vp_in x n) (hd : decode me.2.1 pc = .ok (.iastore, 1)) (hq : pc + 1 = q) (kk : SW X d me E R q L rest (sw_up σ i x.toNatClampNeg y)) : SW X d me E R pc L (.int y :: .int x :: .ref (sw_ad X i) :: rest) σ := by
  subst hq
  intro p e s m args below meth c H locs ls C hl
  obtain ⟨hx, hb, hr, hml, hown, hts, hlk, hK, hdis, hE, hP, hS⟩ := C
  have hi := sw_sh_ltA hsh (vp_in_lt hin)
  have he := sw_ws_get (X := X) (σ := σ) hi
  rw [sw_cellA hsh] at he
  refine va_iast (A := sw_A X s.heap.size) hx hb hK.1 hP (sw_D hdis) hS i 0 he rfl hin hd (fun H1 locs1 hP1 hD1 hS1 => ?_)
  have hset : (sw_ws X σ).set i (sw_ad X i, .inl (X.2.2.2.1, n, .inl (upd (σ i) x.toNatClampNeg y))) = sw_ws X (sw_up σ i x.toNatClampNeg y) := by
    rw [← sw_ws_set hi (σ' := sw_up σ i x.toNatClampNeg y) sw_up_o, sw_cellA hsh, sw_up_i]
    rfl
  rw [show (if false = true then X.2.2.2.2 else X.2.2.2.1) = X.2.2.2.1 from rfl, hset] at hP1
  exact kk p e s m args below meth c H1 locs1 ls ⟨hx, hb, hr, hml, hown, hts, hlk, hK, hdis, hE, hP1, hS1⟩ hl
theorem SW.zast {i n : Nat} (hsh : sw_sh i = .inl (true, n)) (hin : vp_in x n) (hy : vp_nar .boolean y = y) (hd : decode me.2.1 pc = .ok (.bastore, 1)) (hq : pc + 1 = q) (kk : SW X d me E R q L rest (sw_up σ i x.toNatClampNeg y)) : SW X d me E R pc L (.int y :: .int x :: .ref (sw_ad X i) :: rest) σ := by
  subst hq
  intro p e s m args below meth c H locs ls C hl
  obtain ⟨hx, hb, hr, hml, hown, hts, hlk, hK, hdis, hE, hP, hS⟩ := C
  have hi := sw_sh_ltA hsh (vp_in_lt hin)
  have he := sw_ws_get (X := X) (σ := σ) hi
  rw [sw_cellA hsh] at he
  refine va_zast (A := sw_A X s.heap.size) hx hb hK.1 hP (sw_D hdis) hS i 1 he rfl hin hd (fun H1 locs1 hP1 hD1 hS1 => ?_)
  have hset : (sw_ws X σ).set i (sw_ad X i, .inl (X.2.2.2.2, n, .inl (upd (σ i) x.toNatClampNeg y))) = sw_ws X (sw_up σ i x.toNatClampNeg y) := by
    rw [← sw_ws_set hi (σ' := sw_up σ i x.toNatClampNeg y) sw_up_o, sw_cellA hsh, sw_up_i]
    rfl
  rw [hy, show (if true = true then X.2.2.2.2 else X.2.2.2.1) = X.2.2.2.2 from rfl, hset] at hP1
  exact kk p e s m args below meth c H1 locs1 ls ⟨hx, hb, hr, hml, hown, hts, hlk, hK, hdis, hE, hP1, hS1⟩ hl
theorem SW.alen {i n : Nat} {b : Bool} {v : Int32} (hsh : sw_sh i = .inl (b, n)) (h0 : 0 < n) (hv : Int32.ofNat n = v) (hd : decode me.2.1 pc = .ok (.arraylength, 1)) (hq : pc + 1 = q) (kk : SW X d me E R q L (.int v :: rest) σ) : SW X d me E R pc L (.ref (sw_ad X i) :: rest) σ := by
  subst hq
  intro p e s m args below meth c H locs ls C hl
  have kk := kk p e s m args below meth c H locs ls C hl
  obtain ⟨hx, hb, hr, hml, hown, hts, hlk, hK, hdis, hE, hP, hS⟩ := C
  have he := sw_ws_get (X := X) (σ := σ) (sw_sh_ltA hsh h0)
  rw [sw_cellA hsh] at he
  cases b
  · exact va_alen hx hb hK.1 hP i 0 (ty := .int) he rfl hv hd kk
  · exact va_alen hx hb hK.1 hP i 1 (ty := .boolean) he rfl hv hd kk
end SWR
section SWR2
variable {X : sw_X} {d : Nat} {me : sw_Me} {E : State → Prop} {R : Option Value → sw_Sg → Prop} {pc q : Nat} {L st rest : List Value} {σ : sw_Sg} {x y : Int32}
/-! answers -/
theorem SW.iret {ty : FieldType} (hr : me.2.2.2 = some ty) (hn : narrow ty (.int x) = .int x) (hd : decode me.2.1 pc = .ok (.ireturn, 1)) (hR : R (some (.int x)) σ) : SW X d me E R pc L [.int x] σ := by
  intro p e s m args below meth c H locs ls C hl
  obtain ⟨hx, hb, hr', hml, hown, hts, hlk, hK, hdis, hE, hP, hS⟩ := C
  exact W.zret hx hb (hr'.trans hr) hn (fun t ht hW => ⟨⟨_, _, rfl, hR, by rw [ht]; exact hP⟩, hS.F ht⟩) hS.2.2 hd hlk
theorem SW.vret (hr : me.2.2.2 = none) (hd : decode me.2.1 pc = .ok (.return_, 1)) (hR : R none σ) : SW X d me E R pc L [] σ := by
  intro p e s m args below meth c H locs ls C hl
  obtain ⟨hx, hb, hr', hml, hown, hts, hlk, hK, hdis, hE, hP, hS⟩ := C
  exact W.vret hx hb (hr'.trans hr) (fun t ht hW => ⟨⟨_, _, rfl, hR, by rw [ht]; exact hP⟩, hS.F ht⟩) hS.2.2 hd hlk
end SWR2
/-! calls -/
/-- what the tables say of a call of a method of an object, and of a static one -/
def sw_CB (own : String) (idx n : Nat) (me : sw_Me) : Prop := me.2.2.1 ≤ 19 ∧ Cond.code me.1 me.2.1 me.2.2.1 me.2.2.2 ∈ sw_W ∧ Cond.initialized me.1.cls ∈ sw_W ∧ (me.1.cls ≠ "java/lang/invoke/MethodHandle" ∧ me.1.cls ≠ "java/lang/invoke/VarHandle") ∧ (parseMethodDescriptor me.1.desc).map (fun d => d.parameters.length) = some n
def sw_CV (own : String) (idx n : Nat) (me : sw_Me) : Prop := sw_CB own idx n me ∧ Cond.methodLink own idx me.1 ∈ sw_W ∧ Cond.instanceMethod me.1 ∈ sw_W ∧ Cond.selects me.1.cls me.1 me.1 ∈ sw_W
def sw_CS (own : String) (idx n : Nat) (me : sw_Me) : Prop := sw_CB own idx n me ∧ Cond.methodLink own idx me.1 ∈ sw_W ∧ Cond.static me.1 ∈ sw_W
def sw_CSN (own : String) (idx n : Nat) (me : sw_Me) : Prop := sw_CB own idx n me ∧ (∃ host : String, Cond.methodLinkNest own idx me.1 host ∈ lw_tbl) ∧ Cond.static me.1 ∈ sw_W
theorem sw_wm_ok {me : sw_Me} {args : Array Value} {s : State} (hts : ∀ w ∈ sw_W, w.before args s = true) (hc : Cond.code me.1 me.2.1 me.2.2.1 me.2.2.2 ∈ sw_W) : ∀ w ∈ sw_wm me, ∀ (a' : Array Value) (U : State), s.WarmedH U.vm → w.before a' U = true := by
  intro w hw a' U hW
  rcases List.mem_cons.mp hw with rfl | hw
  · exact word_at hW (sw_good hc) (hts _ hc)
  · exact word_at hW (sw_good hw) (hts _ hw)
theorem sw_Pc_blind {X : sw_X} {E : State → Prop} (hE : ∀ (U : State) (g : JFrame) (mk : MethodId) (a : Array Value), E U → E (U.calling g mk a)) {args : List Value} {σ : sw_Sg} {sz : Nat} : FrameBlind (sw_Pc X E args σ sz) := by
  intro a U g mk hq
  obtain ⟨h1, h2, h3, ⟨h4, h6⟩, h5, hE1⟩ := hq
  exact ⟨h1, h2, h3, ⟨va_K.moved (u := U) (U := U.calling g mk a) (Vm.Alike.refl U.vm) h4, fun w hw hn => va_Nw.same (u := U) (by cases w <;> first | rfl | exact absurd hn (by simp [sw_isNest])) rfl (h6 w hw hn)⟩, h5, hE _ _ _ _ hE1⟩
theorem sw_cb {X : sw_X} {own : String} {idx n d d' : Nat} {me : sw_Me} {args : Array Value} {s : State} {E : State → Prop} {As : List Value} {σ : sw_Sg} {R' : Option Value → sw_Sg → Prop} (hlt : d' < d) (hts : ∀ w ∈ sw_W, w.before args s = true) (h : sw_CB own idx n me) (hl : (Cond.methodLink own idx me.1).before args s = true) : CallB (sw_rm d) s args own idx me.1 me.2.1 me.2.2.1 me.2.2.2 (sw_wm me) (sw_rm d') 0 0 n := by
  obtain ⟨h1, h2, h3, h4, h5⟩ := h
  refine ⟨rfl, rfl, hlt, ?_, sw_wm_ok hts h2, List.mem_cons_self, hts _ h2, hts _ h3, h4, fun sig h => ?_, hl⟩
  · show 8 + (me.2.2.1 + 11) + 38 * d' ≤ 38 * d
    omega
  · rw [h] at h5
    exact (Option.some.inj h5).symm
theorem sw_cbN {X : sw_X} {own host : String} {idx n d d' : Nat} {me : sw_Me} {args : Array Value} {s : State} (hlt : d' < d) (hts : ∀ w ∈ sw_W, w.before args s = true) (h : sw_CB own idx n me) (hl : (Cond.methodLinkNest own idx me.1 host).before args s = true) : va_CN (sw_rm d) s args own idx me.1 host me.2.1 me.2.2.1 me.2.2.2 (sw_wm me) (sw_rm d') 0 0 n := by
  obtain ⟨h1, h2, h3, h4, h5⟩ := h
  refine ⟨⟨rfl, rfl, hlt, ?_, sw_wm_ok hts h2, List.mem_cons_self⟩, hts _ h2, hts _ h3, h4, fun sig h => ?_, hl⟩
  · show 8 + (me.2.2.1 + 11) + 38 * d' ≤ 38 * d
    omega
  · rw [h] at h5
    exact (Option.some.inj h5).symm
section SWC
variable {X : sw_X} {d d' : Nat} {me mc : sw_Me} {E : State → Prop} {R R' : Option Value → sw_Sg → Prop} {pc q : Nat} {L st rest As : List Value} {σ : sw_Sg}
theorem sw_ret {d0 : Nat} {p : Program} {e : Env} {s : State} {m : MethodId} {args : Array Value} {below : List Frame} {meth : Method} {c : Code} {H : Heap} {locs : List Loc} {ls : Array Slot} {a : Array Value} (C0 : sw_C X d me E σ p s m args meth c H locs) (hl : sw_has ls me.2.2.1 L)
    (hr : va_Run p X.1 e (sw_rm d) s m args below meth c H locs 0 0 0 0 (F0 m pc ls st) rest (sw_Q X H.size R' a) (sw_A X H.size)) (kk : ∀ r σ', R' r σ' → SW X d me E R (pc + 3) L (r.toList ++ rest) σ') : W p X.1 e (sw_rm d) s m args below meth c H locs 0 0 (MQ below (sw_Q X s.heap.size R) args s 0 0 (sw_A X s.heap.size)) (F0 m pc ls st) := by
  obtain ⟨hx, hb, hr', hml, hown, hts, hlk, hK, hdis, hE, hP, hS⟩ := C0
  intro T hT Xs
  obtain ⟨v, st₀, t, T', L1, h0, X', hL, e1, e2, ⟨⟨r, σ', hv, hR, hP'⟩, hz, hk⟩, hst⟩ := hr T hT Xs
  cases hv
  rw [h0] at hz hk
  have hA : ∀ q, sw_A X H.size q → sw_A X s.heap.size q := by
    intro q hq
    rcases hq with hq | hq
    · exact Or.inl hq
    · exact Or.inr (Nat.le_trans hS.1 hq)
  have hS' : va_S (sw_A X s.heap.size) s.heap T'.heap (locs ++ L1) := by
    refine ⟨Nat.le_trans hS.1 (by rw [e1]; exact hz), fun q h1 h2 => ?_, fun q hq => ?_⟩
    · rw [e1, hk q (Nat.lt_of_lt_of_le h1 hS.1) (fun z => h2 (hA q z))]
      exact hS.2.1 q h1 h2
    · rcases List.mem_append.mp hq with h | h
      · exact hS.2.2 q h
      · exact hA _ (hL q h)
  obtain ⟨t2, a1, b1⟩ := kk v σ' hR p e s m args below meth c T'.heap (locs ++ L1) ls ⟨hx, hb, hr', hml, hown, hts, hlk, hK, hdis, hE, by rw [e1]; exact hP', hS'⟩ hl T' rfl X'
  exact ⟨t2, hst t2 a1, b1⟩
theorem sw_pre {E' : State → Prop} {p : Program} {s : State} {m : MethodId} {args : Array Value} {meth : Method} {c : Code} {H : Heap} {locs : List Loc} (C0 : sw_C X d me E σ p s m args meth c H locs) (hE' : ∀ U : State, U.heap = H → s.WarmedH U.vm → E' U) (av : List Value) : ∀ U : State, U.heap = H → s.WarmedH U.vm → sw_Pc X E' av σ H.size av.toArray U := by
  obtain ⟨hx, hb, hr', hml, hown, hts, hlk, hK, hdis, hE, hP, hS⟩ := C0
  intro U hU hW
  exact ⟨rfl, by rw [hU], by rw [hU]; exact hP, hK.warm hW, hdis, hE' U hU hW⟩
theorem SW.callV {idx n i ci : Nat} {fk : List (Option Nat)} (hM : sw_M X d' mc (.ref (sw_ad X i) :: As) σ R') (hC : sw_CV me.1.cls idx n mc) (hlt : d' < d) (hsh : sw_sh i = .inr (ci, fk)) (hcl : (vwCl[ci]?).map (fun q => q.1) = some mc.1.cls) (hn : As.length = n) (hst : st = As.reverse ++ .ref (sw_ad X i) :: rest) (hrm : (rest.map fun v => v.category).sum ≤ 8) (hd : decode me.2.1 pc = .ok (.invokevirtual idx, 3)) (hq : pc + 3 = q) (kk : ∀ r σ', R' r σ' → SW X d me E R q L (r.toList ++ rest) σ') : SW X d me E R pc L st σ := by
  subst hq
  intro p e s m args below meth c H locs ls C0 hl
  have C1 := C0
  obtain ⟨hx, hb, hr', hml, hown, hts, hlk, hK, hdis, hE, hP, hS⟩ := C1
  obtain ⟨c1, c2, c3, c4⟩ := hC
  have hi := sw_sh_lt hsh
  have he := sw_ws_get (X := X) (σ := σ) hi
  rw [sw_cellO hsh] at he
  obtain ⟨q0, hq0, hq1⟩ := Option.map_eq_some_iff.mp hcl
  have hrec := va_recv hK.1 hP hq0 he
  rw [hq1] at hrec
  refine sw_ret (d0 := d') C0 hl (va_runV (As := As) (rest := rest) (Ts := sw_W) ⟨hx, hb, hml, hown, hts⟩ (hM H.size) ⟨sw_cb (X := X) (E := E) (As := As) (σ := σ) (R' := R') hlt hts c1 (hts _ c2), hts _ c3, hts _ c4⟩ ⟨sw_Pc_blind (fun _ _ _ _ h => h), hrec, sw_pre C0 (fun _ _ _ => trivial) _⟩ rfl hn ?_ hst (lv_room hrm) hd ⟨Nat.le_refl _, Nat.le_refl _⟩) kk
  exact hl.1
theorem SW.callS {idx n : Nat} (hM : sw_M X d' mc As σ R') (hC : sw_CS me.1.cls idx n mc) (hlt : d' < d) (hn : As.length = n) (hst : st = As.reverse ++ rest) (hrm : (rest.map fun v => v.category).sum ≤ 8) (hd : decode me.2.1 pc = .ok (.invokestatic idx, 3)) (hq : pc + 3 = q) (kk : ∀ r σ', R' r σ' → SW X d me E R q L (r.toList ++ rest) σ') : SW X d me E R pc L st σ := by
  subst hq
  intro p e s m args below meth c H locs ls C0 hl
  have C1 := C0
  obtain ⟨hx, hb, hr', hml, hown, hts, hlk, hK, hdis, hE, hP, hS⟩ := C1
  obtain ⟨c1, c2, c3⟩ := hC
  refine sw_ret (d0 := d') C0 hl (va_runS (As := As) (rest := rest) (Ts := sw_W) ⟨hx, hb, hml, hown, hts⟩ (hM H.size) ⟨sw_cb (X := X) (E := E) (As := As) (σ := σ) (R' := R') hlt hts c1 (hts _ c2), hts _ c3⟩ ⟨sw_Pc_blind (fun _ _ _ _ h => h), sw_pre C0 (fun _ _ _ => trivial) _⟩ rfl hn ?_ hst (lv_room hrm) hd ⟨Nat.le_refl _, Nat.le_refl _⟩) kk
  exact hl.1
theorem SW.callSN {idx n : Nat} (hM : sw_M X d' mc As σ R') (hC : sw_CSN me.1.cls idx n mc) (hlt : d' < d) (hn : As.length = n) (hst : st = As.reverse ++ rest) (hrm : (rest.map fun v => v.category).sum ≤ 8) (hd : decode me.2.1 pc = .ok (.invokestatic idx, 3)) (hq : pc + 3 = q) (kk : ∀ r σ', R' r σ' → SW X d me E R q L (r.toList ++ rest) σ') : SW X d me E R pc L st σ := by
  subst hq
  intro p e s m args below meth c H locs ls C0 hl
  have C1 := C0
  obtain ⟨hx, hb, hr', hml, hown, hts, hlk, hK, hdis, hE, hP, hS⟩ := C1
  obtain ⟨c1, ⟨host, c2⟩, c3⟩ := hC
  refine sw_ret (d0 := d') C0 hl (va_runSN (As := As) (rest := rest) (Ts := sw_W) ⟨hx, hb, hml, hown, hts⟩ (hM H.size) ⟨sw_cbN (X := X) hlt hts c1 (va_Nw.use rfl (hK.2 _ c2 rfl)), hts _ c3, trivial⟩ ⟨sw_Pc_blind (fun _ _ _ _ h => h), sw_pre C0 (fun _ _ _ => trivial) _⟩ rfl hn ?_ hst (lv_room hrm) hd ⟨Nat.le_refl _, Nat.le_refl _⟩) kk
  exact hl.1
/-- a method's contract out of a walk from its entry -/
theorem sw_ME.of {args : List Value} {Lu : List Value} (hp : plainName me.1.cls = true) (hL : args ++ List.replicate (me.2.2.1 - args.length) .null = Lu) (hlen : args.length ≤ me.2.2.1) (hcat : args.all (fun v => decide (v.category = 1)) = true) (kk : SW X d me E R 0 Lu [] σ) : sw_ME X d E me args σ R := by
  intro sz
  refine Met.ofW (cc := me.2.1) (maxL := me.2.2.1) (ret := me.2.2.2) hp rfl ?_
  intro p e s m av below meth c s₁ B hml hv
  obtain ⟨rfl, hsz, hP, hK, hdis, hE⟩ := hv
  have hts : ∀ w ∈ sw_W, w.before args.toArray s = true := fun w hw => atoms_spec (ws := sw_wm me) B.pre w (List.mem_cons_of_mem _ hw)
  have hown : s.vm.findClass me.1.cls = some m.cls := findClass_of_methodNamed B.named
  subst hsz
  have hc1 : ∀ v ∈ args, v.category = 1 := fun v hv => by simpa using List.all_eq_true.mp hcat v hv
  have hsl : ∀ l : List Value, (∀ v ∈ l, v.category = 1) → lg_sl l = l.map (fun v => Slot.val v) ∧ ∀ (k i : Nat) (v : Value), l[i]? = some v → (k + i, v) ∈ lv_args k l := by
    intro l
    induction l with
    | nil => exact fun _ => ⟨rfl, fun k i v h => by simp at h⟩
    | cons a l ih =>
      intro h
      obtain ⟨i1, i2⟩ := ih (fun v hv => h v (List.mem_cons_of_mem _ hv))
      have ha : a.category = 1 := h a List.mem_cons_self
      refine ⟨?_, fun k i v hi => ?_⟩
      · rw [List.map_cons, ← i1]
        simp [lg_sl, List.flatMap_cons, ha]
      · simp only [lv_args, ha]
        cases i with
        | zero =>
          simp at hi
          subst hi
          exact List.mem_cons_self
        | succ i =>
          have := i2 (k + 1) i v (by simpa using hi)
          rw [show k + (i + 1) = k + 1 + i by omega]
          exact List.mem_cons_of_mem _ this
  obtain ⟨hs1, hs2⟩ := hsl args hc1
  have hlen' : (lg_sl args).length ≤ me.2.2.1 := by rw [hs1, List.length_map]; exact hlen
  have hl := lv_entry args (n := me.2.2.1) hlen'
  rw [lg_entry_eq]
  generalize (lg_sl args ++ List.replicate (me.2.2.1 - (lg_sl args).length) Slot.unset).toArray = ls at hl ⊢
  refine kk p e s m args.toArray below meth c s.heap [] ls ⟨B.exec, B.bytes, B.returns, hml, hown, hts, B.notSynchronized, hK, hdis, hE, hP, va_S.rf⟩ ⟨hl.1, hl.2.1, fun i v hi hv => ?_⟩
  rw [← hL, List.getElem?_append] at hi
  split at hi
  · refine ⟨?_, hc1 v (List.mem_of_getElem? hi)⟩
    have := hl.2.2 _ (hs2 0 i v hi)
    simpa using this
  · rw [List.getElem?_replicate] at hi
    split at hi
    · cases hi
      exact absurd rfl hv
    · cases hi
end SWC
end
section
/-! what the tables say of each field, constant and call: by program -/
abbrev mX0_empty : sw_Me := (yX0_empty, cX0_empty, 1, none)
abbrev mX0_insert : sw_Me := (yX0_insert, cX0_insert, 5, none)
abbrev mX0_remove : sw_Me := (yX0_remove, cX0_remove, 1, some .boolean)
abbrev mX0_removedPlace : sw_Me := (yX0_removedPlace, cX0_removedPlace, 1, some .int)
abbrev mX0_removedRank : sw_Me := (yX0_removedRank, cX0_removedRank, 1, some .int)
abbrev mX0_sink : sw_Me := (yX0_sink, cX0_sink, 4, none)
abbrev mX1_build : sw_Me := (yX1_build, cX1_build, 7, none)
abbrev mX1_costOf : sw_Me := (yX1_costOf, cX1_costOf, 3, some .int)
abbrev mX1_findCosts : sw_Me := (yX1_findCosts, cX1_findCosts, 10, none)
abbrev mX1_spreadCosts : sw_Me := (yX1_spreadCosts, cX1_spreadCosts, 10, none)
abbrev mX1_stepCost : sw_Me := (yX1_stepCost, cX1_stepCost, 6, some .int)
abbrev mX1_nextPlace : sw_Me := (yX1_nextPlace, cX1_nextPlace, 7, some .int)
abbrev mX1_placeOfWay : sw_Me := (yX1_placeOfWay, cX1_placeOfWay, 8, some .int)
abbrev mX1_joinCheapest : sw_Me := (yX1_joinCheapest, cX1_joinCheapest, 8, none)
abbrev mX1_layRoad : sw_Me := (yX1_layRoad, cX1_layRoad, 7, none)
abbrev mX1_endOfRoad : sw_Me := (yX1_endOfRoad, cX1_endOfRoad, 2, some .int)
abbrev mX2_gather : sw_Me := (yX2_gather, cX2_gather, 4, none)
abbrev mX2_spread : sw_Me := (yX2_spread, cX2_spread, 9, some .int)
abbrev mX2_placesAt : sw_Me := (yX2_placesAt, cX2_placesAt, 2, some .int)
abbrev mX3_at : sw_Me := (yX3_at, cX3_at, 2, some .int)
abbrev mX3_put : sw_Me := (yX3_put, cX3_put, 3, none)
abbrev mX3_add : sw_Me := (yX3_add, cX3_add, 3, none)
abbrev mX3_fill : sw_Me := (yX3_fill, cX3_fill, 2, none)
abbrev mX4_found : sw_Me := (yX4_found, cX4_found, 7, none)
abbrev mX4_worthOf : sw_Me := (yX4_worthOf, cX4_worthOf, 6, some .int)
abbrev mX4_bestPlace : sw_Me := (yX4_bestPlace, cX4_bestPlace, 5, some .int)
abbrev mX4_isFarFromAll : sw_Me := (yX4_isFarFromAll, cX4_isFarFromAll, 5, some .boolean)
abbrev mX4_isAt : sw_Me := (yX4_isAt, cX4_isAt, 3, some .boolean)
abbrev mX5_hasPlace : sw_Me := (yX5_hasPlace, cX5_hasPlace, 2, some .boolean)
abbrev mX5_growGround : sw_Me := (yX5_growGround, cX5_growGround, 4, none)
abbrev mX5_groundOf : sw_Me := (yX5_groundOf, cX5_groundOf, 3, some .int)
abbrev mX5_layerOf : sw_Me := (yX5_layerOf, cX5_layerOf, 12, some .int)
abbrev mX5_cornerOf : sw_Me := (yX5_cornerOf, cX5_cornerOf, 5, some .int)
abbrev mX5_addChange : sw_Me := (yX5_addChange, cX5_addChange, 3, none)
abbrev mX5_raiseHeights : sw_Me := (yX5_raiseHeights, cX5_raiseHeights, 4, none)
abbrev mX5_beside : sw_Me := (yX5_beside, cX5_beside, 3, some .int)
abbrev mX5_isRim : sw_Me := (yX5_isRim, cX5_isRim, 4, some .boolean)
abbrev mX5_rowsAndColumnsBetween : sw_Me := (yX5_rowsAndColumnsBetween, cX5_rowsAndColumnsBetween, 3, some .int)
abbrev mX6_run : sw_Me := (yX6_run, cX6_run, 6, none)
abbrev mX6_takeOutlets : sw_Me := (yX6_takeOutlets, cX6_takeOutlets, 6, none)
abbrev mX6_takeOthers : sw_Me := (yX6_takeOthers, cX6_takeOthers, 6, none)
abbrev mX6_take : sw_Me := (yX6_take, cX6_take, 6, none)
abbrev mX6_firstTakenBeside : sw_Me := (yX6_firstTakenBeside, cX6_firstTakenBeside, 6, some .int)
abbrev mX6_gatherFlow : sw_Me := (yX6_gatherFlow, cX6_gatherFlow, 4, none)
abbrev mX6_kindOf : sw_Me := (yX6_kindOf, cX6_kindOf, 5, some .int)
abbrev mX6_isPassable : sw_Me := (yX6_isPassable, cX6_isPassable, 2, some .boolean)
abbrev mX7_seed : sw_Me := (yX7_seed, cX7_seed, 3, some .int)
abbrev mX7_ground : sw_Me := (yX7_ground, cX7_ground, 3, some .int)
abbrev mX7_size : sw_Me := (yX7_size, cX7_size, 3, some .int)
abbrev mX7_window : sw_Me := (yX7_window, cX7_window, 3, some .int)
abbrev mX7_change : sw_Me := (yX7_change, cX7_change, 3, some .int)
abbrev mX7_changed : sw_Me := (yX7_changed, cX7_changed, 3, some .int)
abbrev mX7_undo : sw_Me := (yX7_undo, cX7_undo, 1, some .int)
abbrev mX7_rule : sw_Me := (yX7_rule, cX7_rule, 4, some .int)
abbrev mX7_about : sw_Me := (yX7_about, cX7_about, 3, some .int)
abbrev mX7_is : sw_Me := (yX7_is, cX7_is, 2, some .int)
abbrev mX7_many : sw_Me := (yX7_many, cX7_many, 4, some .int)
abbrev mX7_lakes : sw_Me := (yX7_lakes, cX7_lakes, 1, some .int)
abbrev mX7_lake : sw_Me := (yX7_lake, cX7_lake, 2, some .int)
abbrev mX7_towns : sw_Me := (yX7_towns, cX7_towns, 2, some .int)
abbrev mX7_town : sw_Me := (yX7_town, cX7_town, 2, some .int)
abbrev mX7_cost : sw_Me := (yX7_cost, cX7_cost, 3, some .int)
abbrev mX7_way : sw_Me := (yX7_way, cX7_way, 4, some .int)
abbrev mX7_net : sw_Me := (yX7_net, cX7_net, 2, some .int)
abbrev mX7_roads : sw_Me := (yX7_roads, cX7_roads, 2, some .int)
abbrev mX7_told : sw_Me := (yX7_told, cX7_told, 2, some .int)
abbrev mX7_within : sw_Me := (yX7_within, cX7_within, 3, some .boolean)
abbrev mX7_stageAhead : sw_Me := (yX7_stageAhead, cX7_stageAhead, 1, some .int)
abbrev mX7_keepUpTo : sw_Me := (yX7_keepUpTo, cX7_keepUpTo, 2, none)
abbrev mX7_makeUpTo : sw_Me := (yX7_makeUpTo, cX7_makeUpTo, 2, none)
abbrev mX7_isTown : sw_Me := (yX7_isTown, cX7_isTown, 2, some .boolean)
abbrev mX7_signsOf : sw_Me := (yX7_signsOf, cX7_signsOf, 3, some .int)
abbrev mX8_in : sw_Me := (yX8_in, cX8_in, 3, some .boolean)
abbrev mX8_isPlace : sw_Me := (yX8_isPlace, cX8_isPlace, 2, some .boolean)
abbrev mX8_seed : sw_Me := (yX8_seed, cX8_seed, 3, some .int)
abbrev mX8_corner : sw_Me := (yX8_corner, cX8_corner, 6, some .int)
abbrev mX8_layer : sw_Me := (yX8_layer, cX8_layer, 11, some .int)
abbrev mX8_groundAt : sw_Me := (yX8_groundAt, cX8_groundAt, 3, some .int)
abbrev mX8_ground : sw_Me := (yX8_ground, cX8_ground, 3, some .int)
abbrev mX8_size : sw_Me := (yX8_size, cX8_size, 3, some .int)
abbrev mX8_window : sw_Me := (yX8_window, cX8_window, 3, some .int)
abbrev mX8_change : sw_Me := (yX8_change, cX8_change, 3, some .int)
abbrev mX8_changed : sw_Me := (yX8_changed, cX8_changed, 3, some .int)
abbrev mX8_undo : sw_Me := (yX8_undo, cX8_undo, 1, some .int)
abbrev mX8_rule : sw_Me := (yX8_rule, cX8_rule, 5, some .int)
abbrev mX8_beside : sw_Me := (yX8_beside, cX8_beside, 5, some .int)
abbrev mX8_isSea : sw_Me := (yX8_isSea, cX8_isSea, 2, some .boolean)
abbrev mX8_isRim : sw_Me := (yX8_isRim, cX8_isRim, 4, some .boolean)
abbrev mX8_take : sw_Me := (yX8_take, cX8_take, 4, none)
abbrev mX8_lowest : sw_Me := (yX8_lowest, cX8_lowest, 6, some .int)
abbrev mX8_water : sw_Me := (yX8_water, cX8_water, 3, some .int)
abbrev mX8_layWater : sw_Me := (yX8_layWater, cX8_layWater, 5, none)
abbrev mX8_worth : sw_Me := (yX8_worth, cX8_worth, 5, some .int)
abbrev mX8_isFar : sw_Me := (yX8_isFar, cX8_isFar, 6, some .boolean)
abbrev mX8_layTowns : sw_Me := (yX8_layTowns, cX8_layTowns, 5, none)
abbrev mX8_stepCost : sw_Me := (yX8_stepCost, cX8_stepCost, 4, some .int)
abbrev mX8_isWay : sw_Me := (yX8_isWay, cX8_isWay, 2, some .boolean)
abbrev mX8_reckon : sw_Me := (yX8_reckon, cX8_reckon, 6, none)
abbrev mX8_next : sw_Me := (yX8_next, cX8_next, 5, some .int)
abbrev mX8_layNet : sw_Me := (yX8_layNet, cX8_layNet, 10, none)
abbrev mX8_lay : sw_Me := (yX8_lay, cX8_lay, 1, none)
abbrev mX8_outletOf : sw_Me := (yX8_outletOf, cX8_outletOf, 3, some .int)
abbrev mX8_about : sw_Me := (yX8_about, cX8_about, 3, some .int)
abbrev mX8_isAll : sw_Me := (yX8_isAll, cX8_isAll, 4, some .int)
abbrev mX8_is : sw_Me := (yX8_is, cX8_is, 2, some .int)
abbrev mX8_many : sw_Me := (yX8_many, cX8_many, 4, some .int)
abbrev mX8_layMarks : sw_Me := (yX8_layMarks, cX8_layMarks, 5, none)
abbrev mX8_lakes : sw_Me := (yX8_lakes, cX8_lakes, 3, some .int)
abbrev mX8_lake : sw_Me := (yX8_lake, cX8_lake, 4, some .int)
abbrev mX8_towns : sw_Me := (yX8_towns, cX8_towns, 2, some .int)
abbrev mX8_isTown : sw_Me := (yX8_isTown, cX8_isTown, 2, some .boolean)
abbrev mX8_town : sw_Me := (yX8_town, cX8_town, 2, some .int)
abbrev mX8_cost : sw_Me := (yX8_cost, cX8_cost, 3, some .int)
abbrev mX8_way : sw_Me := (yX8_way, cX8_way, 6, some .int)
abbrev mX8_net : sw_Me := (yX8_net, cX8_net, 3, some .int)
abbrev mX8_roads : sw_Me := (yX8_roads, cX8_roads, 2, some .int)
abbrev mX8_told : sw_Me := (yX8_told, cX8_told, 2, some .int)
abbrev mJ6_bitCount_0f7a4 : sw_Me := (yJ6_bitCount_0f7a4, cJ6_bitCount_0f7a4, 1, some .int)
abbrev mJ9_abs_0f7a4 : sw_Me := (yJ9_abs_0f7a4, cJ9_abs_0f7a4, 1, some .int)
abbrev mJ9_max_7cf53 : sw_Me := (yJ9_max_7cf53, cJ9_max_7cf53, 2, some .int)
abbrev mJ9_min_7cf53 : sw_Me := (yJ9_min_7cf53, cJ9_min_7cf53, 2, some .int)
abbrev mJ7_fill_53178 : sw_Me := (yJ7_fill_53178, cJ7_fill_53178, 4, none)
theorem fX3_15 : sw_FL RX3 15 3 0 := ⟨RX3, TX3, 1, rfl, by decide, Or.inl (sw_in (List.mem_append_right _ (List.mem_of_getElem? (i := 36) (by decide +kernel))) (by decide +kernel))⟩
theorem fX5_9 : sw_FL RX5 9 5 0 := ⟨RX5, TX5, 13, rfl, by decide, Or.inl (sw_in (List.mem_append_right _ (List.mem_of_getElem? (i := 41) (by decide +kernel))) (by decide +kernel))⟩
theorem pX5_9 : sw_FP RX5 9 5 0 .int := ⟨RX5, TX5, 13, rfl, by decide, Or.inl (sw_in (List.mem_append_right _ (List.mem_of_getElem? (i := 41) (by decide +kernel))) (by decide +kernel)), rfl, by decide +kernel⟩
theorem fX7_75 : sw_FL RX7 75 5 0 := ⟨RX5, TX5, 13, rfl, by decide, Or.inr ⟨"MadeLand", List.mem_append_right _ (List.mem_of_getElem? (i := 42) (by decide +kernel))⟩⟩
theorem pX7_75 : sw_FP RX7 75 5 0 .int := ⟨RX5, TX5, 13, rfl, by decide, Or.inr ⟨"MadeLand", List.mem_append_right _ (List.mem_of_getElem? (i := 42) (by decide +kernel))⟩, rfl, by decide +kernel⟩
theorem fX5_15 : sw_FL RX5 15 5 1 := ⟨RX5, TX5, 13, rfl, by decide, Or.inl (sw_in (List.mem_append_right _ (List.mem_of_getElem? (i := 43) (by decide +kernel))) (by decide +kernel))⟩
theorem pX5_15 : sw_FP RX5 15 5 1 .int := ⟨RX5, TX5, 13, rfl, by decide, Or.inl (sw_in (List.mem_append_right _ (List.mem_of_getElem? (i := 43) (by decide +kernel))) (by decide +kernel)), rfl, by decide +kernel⟩
theorem fX7_90 : sw_FL RX7 90 5 1 := ⟨RX5, TX5, 13, rfl, by decide, Or.inr ⟨"MadeLand", List.mem_append_right _ (List.mem_of_getElem? (i := 44) (by decide +kernel))⟩⟩
theorem pX7_90 : sw_FP RX7 90 5 1 .int := ⟨RX5, TX5, 13, rfl, by decide, Or.inr ⟨"MadeLand", List.mem_append_right _ (List.mem_of_getElem? (i := 44) (by decide +kernel))⟩, rfl, by decide +kernel⟩
theorem fX5_18 : sw_FL RX5 18 5 2 := ⟨RX5, TX5, 13, rfl, by decide, Or.inl (sw_in (List.mem_append_right _ (List.mem_of_getElem? (i := 45) (by decide +kernel))) (by decide +kernel))⟩
theorem pX5_18 : sw_FP RX5 18 5 2 .int := ⟨RX5, TX5, 13, rfl, by decide, Or.inl (sw_in (List.mem_append_right _ (List.mem_of_getElem? (i := 45) (by decide +kernel))) (by decide +kernel)), rfl, by decide +kernel⟩
theorem fX4_27 : sw_FL RX4 27 5 2 := ⟨RX5, TX5, 13, rfl, by decide, Or.inr ⟨"MadeLand", List.mem_append_right _ (List.mem_of_getElem? (i := 46) (by decide +kernel))⟩⟩
theorem pX4_27 : sw_FP RX4 27 5 2 .int := ⟨RX5, TX5, 13, rfl, by decide, Or.inr ⟨"MadeLand", List.mem_append_right _ (List.mem_of_getElem? (i := 46) (by decide +kernel))⟩, rfl, by decide +kernel⟩
theorem fX2_33 : sw_FL RX2 33 5 2 := ⟨RX5, TX5, 13, rfl, by decide, Or.inr ⟨"MadeLand", List.mem_append_right _ (List.mem_of_getElem? (i := 47) (by decide +kernel))⟩⟩
theorem pX2_33 : sw_FP RX2 33 5 2 .int := ⟨RX5, TX5, 13, rfl, by decide, Or.inr ⟨"MadeLand", List.mem_append_right _ (List.mem_of_getElem? (i := 47) (by decide +kernel))⟩, rfl, by decide +kernel⟩
theorem fX6_68 : sw_FL RX6 68 5 2 := ⟨RX5, TX5, 13, rfl, by decide, Or.inr ⟨"MadeLand", List.mem_append_right _ (List.mem_of_getElem? (i := 48) (by decide +kernel))⟩⟩
theorem pX6_68 : sw_FP RX6 68 5 2 .int := ⟨RX5, TX5, 13, rfl, by decide, Or.inr ⟨"MadeLand", List.mem_append_right _ (List.mem_of_getElem? (i := 48) (by decide +kernel))⟩, rfl, by decide +kernel⟩
theorem fX1_73 : sw_FL RX1 73 5 2 := ⟨RX5, TX5, 13, rfl, by decide, Or.inr ⟨"MadeLand", List.mem_append_right _ (List.mem_of_getElem? (i := 49) (by decide +kernel))⟩⟩
theorem pX1_73 : sw_FP RX1 73 5 2 .int := ⟨RX5, TX5, 13, rfl, by decide, Or.inr ⟨"MadeLand", List.mem_append_right _ (List.mem_of_getElem? (i := 49) (by decide +kernel))⟩, rfl, by decide +kernel⟩
theorem fX7_93 : sw_FL RX7 93 5 2 := ⟨RX5, TX5, 13, rfl, by decide, Or.inr ⟨"MadeLand", List.mem_append_right _ (List.mem_of_getElem? (i := 50) (by decide +kernel))⟩⟩
theorem pX7_93 : sw_FP RX7 93 5 2 .int := ⟨RX5, TX5, 13, rfl, by decide, Or.inr ⟨"MadeLand", List.mem_append_right _ (List.mem_of_getElem? (i := 50) (by decide +kernel))⟩, rfl, by decide +kernel⟩
theorem fX5_21 : sw_FL RX5 21 5 3 := ⟨RX5, TX5, 13, rfl, by decide, Or.inl (sw_in (List.mem_append_right _ (List.mem_of_getElem? (i := 51) (by decide +kernel))) (by decide +kernel))⟩
theorem pX5_21 : sw_FP RX5 21 5 3 .int := ⟨RX5, TX5, 13, rfl, by decide, Or.inl (sw_in (List.mem_append_right _ (List.mem_of_getElem? (i := 51) (by decide +kernel))) (by decide +kernel)), rfl, by decide +kernel⟩
theorem fX7_97 : sw_FL RX7 97 5 3 := ⟨RX5, TX5, 13, rfl, by decide, Or.inr ⟨"MadeLand", List.mem_append_right _ (List.mem_of_getElem? (i := 52) (by decide +kernel))⟩⟩
theorem pX7_97 : sw_FP RX7 97 5 3 .int := ⟨RX5, TX5, 13, rfl, by decide, Or.inr ⟨"MadeLand", List.mem_append_right _ (List.mem_of_getElem? (i := 52) (by decide +kernel))⟩, rfl, by decide +kernel⟩
theorem fX5_24 : sw_FL RX5 24 5 4 := ⟨RX5, TX5, 13, rfl, by decide, Or.inl (sw_in (List.mem_append_right _ (List.mem_of_getElem? (i := 53) (by decide +kernel))) (by decide +kernel))⟩
theorem pX5_24 : sw_FP RX5 24 5 4 .int := ⟨RX5, TX5, 13, rfl, by decide, Or.inl (sw_in (List.mem_append_right _ (List.mem_of_getElem? (i := 53) (by decide +kernel))) (by decide +kernel)), rfl, by decide +kernel⟩
theorem fX7_100 : sw_FL RX7 100 5 4 := ⟨RX5, TX5, 13, rfl, by decide, Or.inr ⟨"MadeLand", List.mem_append_right _ (List.mem_of_getElem? (i := 54) (by decide +kernel))⟩⟩
theorem pX7_100 : sw_FP RX7 100 5 4 .int := ⟨RX5, TX5, 13, rfl, by decide, Or.inr ⟨"MadeLand", List.mem_append_right _ (List.mem_of_getElem? (i := 54) (by decide +kernel))⟩, rfl, by decide +kernel⟩
theorem fX5_27 : sw_FL RX5 27 5 5 := ⟨RX5, TX5, 13, rfl, by decide, Or.inl (sw_in (List.mem_append_right _ (List.mem_of_getElem? (i := 55) (by decide +kernel))) (by decide +kernel))⟩
theorem pX5_27 : sw_FP RX5 27 5 5 .int := ⟨RX5, TX5, 13, rfl, by decide, Or.inl (sw_in (List.mem_append_right _ (List.mem_of_getElem? (i := 55) (by decide +kernel))) (by decide +kernel)), rfl, by decide +kernel⟩
theorem fX7_107 : sw_FL RX7 107 5 5 := ⟨RX5, TX5, 13, rfl, by decide, Or.inr ⟨"MadeLand", List.mem_append_right _ (List.mem_of_getElem? (i := 56) (by decide +kernel))⟩⟩
theorem pX7_107 : sw_FP RX7 107 5 5 .int := ⟨RX5, TX5, 13, rfl, by decide, Or.inr ⟨"MadeLand", List.mem_append_right _ (List.mem_of_getElem? (i := 56) (by decide +kernel))⟩, rfl, by decide +kernel⟩
theorem fX5_35 : sw_FL RX5 35 5 6 := ⟨RX5, TX5, 13, rfl, by decide, Or.inl (sw_in (List.mem_append_right _ (List.mem_of_getElem? (i := 57) (by decide +kernel))) (by decide +kernel))⟩
theorem fX7_116 : sw_FL RX7 116 5 6 := ⟨RX5, TX5, 13, rfl, by decide, Or.inr ⟨"MadeLand", List.mem_append_right _ (List.mem_of_getElem? (i := 58) (by decide +kernel))⟩⟩
theorem fX5_39 : sw_FL RX5 39 5 7 := ⟨RX5, TX5, 13, rfl, by decide, Or.inl (sw_in (List.mem_append_right _ (List.mem_of_getElem? (i := 59) (by decide +kernel))) (by decide +kernel))⟩
theorem fX7_123 : sw_FL RX7 123 5 7 := ⟨RX5, TX5, 13, rfl, by decide, Or.inr ⟨"MadeLand", List.mem_append_right _ (List.mem_of_getElem? (i := 60) (by decide +kernel))⟩⟩
theorem fX5_42 : sw_FL RX5 42 5 8 := ⟨RX5, TX5, 13, rfl, by decide, Or.inl (sw_in (List.mem_append_right _ (List.mem_of_getElem? (i := 61) (by decide +kernel))) (by decide +kernel))⟩
theorem fX7_126 : sw_FL RX7 126 5 8 := ⟨RX5, TX5, 13, rfl, by decide, Or.inr ⟨"MadeLand", List.mem_append_right _ (List.mem_of_getElem? (i := 62) (by decide +kernel))⟩⟩
theorem fX5_45 : sw_FL RX5 45 5 9 := ⟨RX5, TX5, 13, rfl, by decide, Or.inl (sw_in (List.mem_append_right _ (List.mem_of_getElem? (i := 63) (by decide +kernel))) (by decide +kernel))⟩
theorem fX5_48 : sw_FL RX5 48 5 10 := ⟨RX5, TX5, 13, rfl, by decide, Or.inl (sw_in (List.mem_append_right _ (List.mem_of_getElem? (i := 64) (by decide +kernel))) (by decide +kernel))⟩
theorem fX5_51 : sw_FL RX5 51 5 11 := ⟨RX5, TX5, 13, rfl, by decide, Or.inl (sw_in (List.mem_append_right _ (List.mem_of_getElem? (i := 65) (by decide +kernel))) (by decide +kernel))⟩
theorem fX5_54 : sw_FL RX5 54 5 12 := ⟨RX5, TX5, 13, rfl, by decide, Or.inl (sw_in (List.mem_append_right _ (List.mem_of_getElem? (i := 66) (by decide +kernel))) (by decide +kernel))⟩
theorem fX6_73 : sw_FL RX6 73 5 12 := ⟨RX5, TX5, 13, rfl, by decide, Or.inr ⟨"MadeLand", List.mem_append_right _ (List.mem_of_getElem? (i := 67) (by decide +kernel))⟩⟩
theorem fX4_65 : sw_FL RX4 65 5 12 := ⟨RX5, TX5, 13, rfl, by decide, Or.inr ⟨"MadeLand", List.mem_append_right _ (List.mem_of_getElem? (i := 68) (by decide +kernel))⟩⟩
theorem fX1_117 : sw_FL RX1 117 5 12 := ⟨RX5, TX5, 13, rfl, by decide, Or.inr ⟨"MadeLand", List.mem_append_right _ (List.mem_of_getElem? (i := 69) (by decide +kernel))⟩⟩
theorem fX7_138 : sw_FL RX7 138 5 12 := ⟨RX5, TX5, 13, rfl, by decide, Or.inr ⟨"MadeLand", List.mem_append_right _ (List.mem_of_getElem? (i := 70) (by decide +kernel))⟩⟩
theorem fX6_14 : sw_FL RX6 14 6 0 := ⟨RX6, TX6, 9, rfl, by decide, Or.inl (sw_in (List.mem_append_right _ (List.mem_of_getElem? (i := 106) (by decide +kernel))) (by decide +kernel))⟩
theorem fX2_59 : sw_FL RX2 59 6 0 := ⟨RX6, TX6, 9, rfl, by decide, Or.inr ⟨"MadeLand", List.mem_append_right _ (List.mem_of_getElem? (i := 107) (by decide +kernel))⟩⟩
theorem fX7_141 : sw_FL RX7 141 6 0 := ⟨RX6, TX6, 9, rfl, by decide, Or.inr ⟨"MadeLand", List.mem_append_right _ (List.mem_of_getElem? (i := 108) (by decide +kernel))⟩⟩
theorem fX6_20 : sw_FL RX6 20 6 1 := ⟨RX6, TX6, 9, rfl, by decide, Or.inl (sw_in (List.mem_append_right _ (List.mem_of_getElem? (i := 109) (by decide +kernel))) (by decide +kernel))⟩
theorem fX7_144 : sw_FL RX7 144 6 1 := ⟨RX6, TX6, 9, rfl, by decide, Or.inr ⟨"MadeLand", List.mem_append_right _ (List.mem_of_getElem? (i := 110) (by decide +kernel))⟩⟩
theorem fX6_23 : sw_FL RX6 23 6 2 := ⟨RX6, TX6, 9, rfl, by decide, Or.inl (sw_in (List.mem_append_right _ (List.mem_of_getElem? (i := 111) (by decide +kernel))) (by decide +kernel))⟩
theorem fX4_57 : sw_FL RX4 57 6 2 := ⟨RX6, TX6, 9, rfl, by decide, Or.inr ⟨"MadeLand", List.mem_append_right _ (List.mem_of_getElem? (i := 112) (by decide +kernel))⟩⟩
theorem fX7_147 : sw_FL RX7 147 6 2 := ⟨RX6, TX6, 9, rfl, by decide, Or.inr ⟨"MadeLand", List.mem_append_right _ (List.mem_of_getElem? (i := 113) (by decide +kernel))⟩⟩
theorem fX6_26 : sw_FL RX6 26 6 3 := ⟨RX6, TX6, 9, rfl, by decide, Or.inl (sw_in (List.mem_append_right _ (List.mem_of_getElem? (i := 114) (by decide +kernel))) (by decide +kernel))⟩
theorem fX7_150 : sw_FL RX7 150 6 3 := ⟨RX6, TX6, 9, rfl, by decide, Or.inr ⟨"MadeLand", List.mem_append_right _ (List.mem_of_getElem? (i := 115) (by decide +kernel))⟩⟩
theorem fX6_29 : sw_FL RX6 29 6 4 := ⟨RX6, TX6, 9, rfl, by decide, Or.inl (sw_in (List.mem_append_right _ (List.mem_of_getElem? (i := 116) (by decide +kernel))) (by decide +kernel))⟩
theorem fX7_153 : sw_FL RX7 153 6 4 := ⟨RX6, TX6, 9, rfl, by decide, Or.inr ⟨"MadeLand", List.mem_append_right _ (List.mem_of_getElem? (i := 117) (by decide +kernel))⟩⟩
theorem fX6_32 : sw_FL RX6 32 6 5 := ⟨RX6, TX6, 9, rfl, by decide, Or.inl (sw_in (List.mem_append_right _ (List.mem_of_getElem? (i := 118) (by decide +kernel))) (by decide +kernel))⟩
theorem fX6_35 : sw_FL RX6 35 6 6 := ⟨RX6, TX6, 9, rfl, by decide, Or.inl (sw_in (List.mem_append_right _ (List.mem_of_getElem? (i := 119) (by decide +kernel))) (by decide +kernel))⟩
theorem fX6_38 : sw_FL RX6 38 6 7 := ⟨RX6, TX6, 9, rfl, by decide, Or.inl (sw_in (List.mem_append_right _ (List.mem_of_getElem? (i := 120) (by decide +kernel))) (by decide +kernel))⟩
theorem fX2_38 : sw_FL RX2 38 6 7 := ⟨RX6, TX6, 9, rfl, by decide, Or.inr ⟨"MadeLand", List.mem_append_right _ (List.mem_of_getElem? (i := 121) (by decide +kernel))⟩⟩
theorem fX4_44 : sw_FL RX4 44 6 7 := ⟨RX6, TX6, 9, rfl, by decide, Or.inr ⟨"MadeLand", List.mem_append_right _ (List.mem_of_getElem? (i := 122) (by decide +kernel))⟩⟩
theorem fX1_114 : sw_FL RX1 114 6 7 := ⟨RX6, TX6, 9, rfl, by decide, Or.inr ⟨"MadeLand", List.mem_append_right _ (List.mem_of_getElem? (i := 123) (by decide +kernel))⟩⟩
theorem fX7_232 : sw_FL RX7 232 6 7 := ⟨RX6, TX6, 9, rfl, by decide, Or.inr ⟨"MadeLand", List.mem_append_right _ (List.mem_of_getElem? (i := 124) (by decide +kernel))⟩⟩
theorem fX6_41 : sw_FL RX6 41 6 8 := ⟨RX6, TX6, 9, rfl, by decide, Or.inl (sw_in (List.mem_append_right _ (List.mem_of_getElem? (i := 125) (by decide +kernel))) (by decide +kernel))⟩
theorem pX6_41 : sw_FP RX6 41 6 8 .int := ⟨RX6, TX6, 9, rfl, by decide, Or.inl (sw_in (List.mem_append_right _ (List.mem_of_getElem? (i := 125) (by decide +kernel))) (by decide +kernel)), rfl, by decide +kernel⟩
theorem fX2_14 : sw_FL RX2 14 2 0 := ⟨RX2, TX2, 4, rfl, by decide, Or.inl (sw_in (List.mem_append_right _ (List.mem_of_getElem? (i := 153) (by decide +kernel))) (by decide +kernel))⟩
theorem fX2_20 : sw_FL RX2 20 2 1 := ⟨RX2, TX2, 4, rfl, by decide, Or.inl (sw_in (List.mem_append_right _ (List.mem_of_getElem? (i := 154) (by decide +kernel))) (by decide +kernel))⟩
theorem fX2_23 : sw_FL RX2 23 2 2 := ⟨RX2, TX2, 4, rfl, by decide, Or.inl (sw_in (List.mem_append_right _ (List.mem_of_getElem? (i := 155) (by decide +kernel))) (by decide +kernel))⟩
theorem fX2_26 : sw_FL RX2 26 2 3 := ⟨RX2, TX2, 4, rfl, by decide, Or.inl (sw_in (List.mem_append_right _ (List.mem_of_getElem? (i := 156) (by decide +kernel))) (by decide +kernel))⟩
theorem pX2_26 : sw_FP RX2 26 2 3 .int := ⟨RX2, TX2, 4, rfl, by decide, Or.inl (sw_in (List.mem_append_right _ (List.mem_of_getElem? (i := 156) (by decide +kernel))) (by decide +kernel)), rfl, by decide +kernel⟩
theorem fX7_167 : sw_FL RX7 167 2 3 := ⟨RX2, TX2, 4, rfl, by decide, Or.inr ⟨"MadeLand", List.mem_append_right _ (List.mem_of_getElem? (i := 157) (by decide +kernel))⟩⟩
theorem pX7_167 : sw_FP RX7 167 2 3 .int := ⟨RX2, TX2, 4, rfl, by decide, Or.inr ⟨"MadeLand", List.mem_append_right _ (List.mem_of_getElem? (i := 157) (by decide +kernel))⟩, rfl, by decide +kernel⟩
theorem fX4_14 : sw_FL RX4 14 4 0 := ⟨RX4, TX4, 3, rfl, by decide, Or.inl (sw_in (List.mem_append_right _ (List.mem_of_getElem? (i := 175) (by decide +kernel))) (by decide +kernel))⟩
theorem fX7_156 : sw_FL RX7 156 4 0 := ⟨RX4, TX4, 3, rfl, by decide, Or.inr ⟨"MadeLand", List.mem_append_right _ (List.mem_of_getElem? (i := 176) (by decide +kernel))⟩⟩
theorem fX4_20 : sw_FL RX4 20 4 1 := ⟨RX4, TX4, 3, rfl, by decide, Or.inl (sw_in (List.mem_append_right _ (List.mem_of_getElem? (i := 177) (by decide +kernel))) (by decide +kernel))⟩
theorem fX1_47 : sw_FL RX1 47 4 1 := ⟨RX4, TX4, 3, rfl, by decide, Or.inr ⟨"MadeLand", List.mem_append_right _ (List.mem_of_getElem? (i := 178) (by decide +kernel))⟩⟩
theorem fX7_177 : sw_FL RX7 177 4 1 := ⟨RX4, TX4, 3, rfl, by decide, Or.inr ⟨"MadeLand", List.mem_append_right _ (List.mem_of_getElem? (i := 179) (by decide +kernel))⟩⟩
theorem fX4_23 : sw_FL RX4 23 4 2 := ⟨RX4, TX4, 3, rfl, by decide, Or.inl (sw_in (List.mem_append_right _ (List.mem_of_getElem? (i := 180) (by decide +kernel))) (by decide +kernel))⟩
theorem pX4_23 : sw_FP RX4 23 4 2 .int := ⟨RX4, TX4, 3, rfl, by decide, Or.inl (sw_in (List.mem_append_right _ (List.mem_of_getElem? (i := 180) (by decide +kernel))) (by decide +kernel)), rfl, by decide +kernel⟩
theorem fX1_42 : sw_FL RX1 42 4 2 := ⟨RX4, TX4, 3, rfl, by decide, Or.inr ⟨"MadeLand", List.mem_append_right _ (List.mem_of_getElem? (i := 181) (by decide +kernel))⟩⟩
theorem pX1_42 : sw_FP RX1 42 4 2 .int := ⟨RX4, TX4, 3, rfl, by decide, Or.inr ⟨"MadeLand", List.mem_append_right _ (List.mem_of_getElem? (i := 181) (by decide +kernel))⟩, rfl, by decide +kernel⟩
theorem fX7_173 : sw_FL RX7 173 4 2 := ⟨RX4, TX4, 3, rfl, by decide, Or.inr ⟨"MadeLand", List.mem_append_right _ (List.mem_of_getElem? (i := 182) (by decide +kernel))⟩⟩
theorem pX7_173 : sw_FP RX7 173 4 2 .int := ⟨RX4, TX4, 3, rfl, by decide, Or.inr ⟨"MadeLand", List.mem_append_right _ (List.mem_of_getElem? (i := 182) (by decide +kernel))⟩, rfl, by decide +kernel⟩
theorem fX1_14 : sw_FL RX1 14 1 0 := ⟨RX1, TX1, 8, rfl, by decide, Or.inl (sw_in (List.mem_append_right _ (List.mem_of_getElem? (i := 198) (by decide +kernel))) (by decide +kernel))⟩
theorem fX1_20 : sw_FL RX1 20 1 1 := ⟨RX1, TX1, 8, rfl, by decide, Or.inl (sw_in (List.mem_append_right _ (List.mem_of_getElem? (i := 199) (by decide +kernel))) (by decide +kernel))⟩
theorem fX7_199 : sw_FL RX7 199 1 1 := ⟨RX1, TX1, 8, rfl, by decide, Or.inr ⟨"MadeLand", List.mem_append_right _ (List.mem_of_getElem? (i := 200) (by decide +kernel))⟩⟩
theorem fX1_23 : sw_FL RX1 23 1 2 := ⟨RX1, TX1, 8, rfl, by decide, Or.inl (sw_in (List.mem_append_right _ (List.mem_of_getElem? (i := 201) (by decide +kernel))) (by decide +kernel))⟩
theorem fX1_26 : sw_FL RX1 26 1 3 := ⟨RX1, TX1, 8, rfl, by decide, Or.inl (sw_in (List.mem_append_right _ (List.mem_of_getElem? (i := 202) (by decide +kernel))) (by decide +kernel))⟩
theorem fX1_29 : sw_FL RX1 29 1 4 := ⟨RX1, TX1, 8, rfl, by decide, Or.inl (sw_in (List.mem_append_right _ (List.mem_of_getElem? (i := 203) (by decide +kernel))) (by decide +kernel))⟩
theorem pX1_29 : sw_FP RX1 29 1 4 .int := ⟨RX1, TX1, 8, rfl, by decide, Or.inl (sw_in (List.mem_append_right _ (List.mem_of_getElem? (i := 203) (by decide +kernel))) (by decide +kernel)), rfl, by decide +kernel⟩
theorem fX1_33 : sw_FL RX1 33 1 5 := ⟨RX1, TX1, 8, rfl, by decide, Or.inl (sw_in (List.mem_append_right _ (List.mem_of_getElem? (i := 204) (by decide +kernel))) (by decide +kernel))⟩
theorem pX1_33 : sw_FP RX1 33 1 5 .int := ⟨RX1, TX1, 8, rfl, by decide, Or.inl (sw_in (List.mem_append_right _ (List.mem_of_getElem? (i := 204) (by decide +kernel))) (by decide +kernel)), rfl, by decide +kernel⟩
theorem fX7_187 : sw_FL RX7 187 1 5 := ⟨RX1, TX1, 8, rfl, by decide, Or.inr ⟨"MadeLand", List.mem_append_right _ (List.mem_of_getElem? (i := 205) (by decide +kernel))⟩⟩
theorem pX7_187 : sw_FP RX7 187 1 5 .int := ⟨RX1, TX1, 8, rfl, by decide, Or.inr ⟨"MadeLand", List.mem_append_right _ (List.mem_of_getElem? (i := 205) (by decide +kernel))⟩, rfl, by decide +kernel⟩
theorem fX1_36 : sw_FL RX1 36 1 6 := ⟨RX1, TX1, 8, rfl, by decide, Or.inl (sw_in (List.mem_append_right _ (List.mem_of_getElem? (i := 206) (by decide +kernel))) (by decide +kernel))⟩
theorem pX1_36 : sw_FP RX1 36 1 6 .int := ⟨RX1, TX1, 8, rfl, by decide, Or.inl (sw_in (List.mem_append_right _ (List.mem_of_getElem? (i := 206) (by decide +kernel))) (by decide +kernel)), rfl, by decide +kernel⟩
theorem fX7_190 : sw_FL RX7 190 1 6 := ⟨RX1, TX1, 8, rfl, by decide, Or.inr ⟨"MadeLand", List.mem_append_right _ (List.mem_of_getElem? (i := 207) (by decide +kernel))⟩⟩
theorem pX7_190 : sw_FP RX7 190 1 6 .int := ⟨RX1, TX1, 8, rfl, by decide, Or.inr ⟨"MadeLand", List.mem_append_right _ (List.mem_of_getElem? (i := 207) (by decide +kernel))⟩, rfl, by decide +kernel⟩
theorem fX1_39 : sw_FL RX1 39 1 7 := ⟨RX1, TX1, 8, rfl, by decide, Or.inl (sw_in (List.mem_append_right _ (List.mem_of_getElem? (i := 208) (by decide +kernel))) (by decide +kernel))⟩
theorem pX1_39 : sw_FP RX1 39 1 7 .int := ⟨RX1, TX1, 8, rfl, by decide, Or.inl (sw_in (List.mem_append_right _ (List.mem_of_getElem? (i := 208) (by decide +kernel))) (by decide +kernel)), rfl, by decide +kernel⟩
theorem fX7_193 : sw_FL RX7 193 1 7 := ⟨RX1, TX1, 8, rfl, by decide, Or.inr ⟨"MadeLand", List.mem_append_right _ (List.mem_of_getElem? (i := 209) (by decide +kernel))⟩⟩
theorem pX7_193 : sw_FP RX7 193 1 7 .int := ⟨RX1, TX1, 8, rfl, by decide, Or.inr ⟨"MadeLand", List.mem_append_right _ (List.mem_of_getElem? (i := 209) (by decide +kernel))⟩, rfl, by decide +kernel⟩
theorem fX0_16 : sw_FL RX0 16 0 0 := ⟨RX0, TX0, 3, rfl, by decide, Or.inl (sw_in (List.mem_append_right _ (List.mem_of_getElem? (i := 235) (by decide +kernel))) (by decide +kernel))⟩
theorem fX0_20 : sw_FL RX0 20 0 1 := ⟨RX0, TX0, 3, rfl, by decide, Or.inl (sw_in (List.mem_append_right _ (List.mem_of_getElem? (i := 236) (by decide +kernel))) (by decide +kernel))⟩
theorem pX0_20 : sw_FP RX0 20 0 1 .int := ⟨RX0, TX0, 3, rfl, by decide, Or.inl (sw_in (List.mem_append_right _ (List.mem_of_getElem? (i := 236) (by decide +kernel))) (by decide +kernel)), rfl, by decide +kernel⟩
theorem fX0_24 : sw_FL RX0 24 0 2 := ⟨RX0, TX0, 3, rfl, by decide, Or.inl (sw_in (List.mem_append_right _ (List.mem_of_getElem? (i := 237) (by decide +kernel))) (by decide +kernel))⟩
theorem pX0_24 : sw_FP RX0 24 0 2 .int := ⟨RX0, TX0, 3, rfl, by decide, Or.inl (sw_in (List.mem_append_right _ (List.mem_of_getElem? (i := 237) (by decide +kernel))) (by decide +kernel)), rfl, by decide +kernel⟩
theorem fX7_12 : sw_FL RX7 12 7 0 := ⟨RX7, TX7, 9, rfl, by decide, Or.inl (sw_in (List.mem_append_right _ (List.mem_of_getElem? (i := 253) (by decide +kernel))) (by decide +kernel))⟩
theorem fX7_19 : sw_FL RX7 19 7 1 := ⟨RX7, TX7, 9, rfl, by decide, Or.inl (sw_in (List.mem_append_right _ (List.mem_of_getElem? (i := 254) (by decide +kernel))) (by decide +kernel))⟩
theorem fX7_26 : sw_FL RX7 26 7 2 := ⟨RX7, TX7, 9, rfl, by decide, Or.inl (sw_in (List.mem_append_right _ (List.mem_of_getElem? (i := 255) (by decide +kernel))) (by decide +kernel))⟩
theorem fX7_33 : sw_FL RX7 33 7 3 := ⟨RX7, TX7, 9, rfl, by decide, Or.inl (sw_in (List.mem_append_right _ (List.mem_of_getElem? (i := 256) (by decide +kernel))) (by decide +kernel))⟩
theorem fX7_40 : sw_FL RX7 40 7 4 := ⟨RX7, TX7, 9, rfl, by decide, Or.inl (sw_in (List.mem_append_right _ (List.mem_of_getElem? (i := 257) (by decide +kernel))) (by decide +kernel))⟩
theorem fX7_47 : sw_FL RX7 47 7 5 := ⟨RX7, TX7, 9, rfl, by decide, Or.inl (sw_in (List.mem_append_right _ (List.mem_of_getElem? (i := 258) (by decide +kernel))) (by decide +kernel))⟩
theorem fX7_56 : sw_FL RX7 56 7 6 := ⟨RX7, TX7, 9, rfl, by decide, Or.inl (sw_in (List.mem_append_right _ (List.mem_of_getElem? (i := 259) (by decide +kernel))) (by decide +kernel))⟩
theorem fX7_60 : sw_FL RX7 60 7 7 := ⟨RX7, TX7, 9, rfl, by decide, Or.inl (sw_in (List.mem_append_right _ (List.mem_of_getElem? (i := 260) (by decide +kernel))) (by decide +kernel))⟩
theorem pX7_60 : sw_FP RX7 60 7 7 .int := ⟨RX7, TX7, 9, rfl, by decide, Or.inl (sw_in (List.mem_append_right _ (List.mem_of_getElem? (i := 260) (by decide +kernel))) (by decide +kernel)), rfl, by decide +kernel⟩
theorem fX7_64 : sw_FL RX7 64 7 8 := ⟨RX7, TX7, 9, rfl, by decide, Or.inl (sw_in (List.mem_append_right _ (List.mem_of_getElem? (i := 261) (by decide +kernel))) (by decide +kernel))⟩
theorem pX7_64 : sw_FP RX7 64 7 8 .int := ⟨RX7, TX7, 9, rfl, by decide, Or.inl (sw_in (List.mem_append_right _ (List.mem_of_getElem? (i := 261) (by decide +kernel))) (by decide +kernel)), rfl, by decide +kernel⟩
theorem fX8_73 : sw_FL RX8 73 8 0 := ⟨RX8, TX8, 30, rfl, by decide, Or.inl (sw_in (List.mem_append_right _ (List.mem_of_getElem? (i := 632) (by decide +kernel))) (by decide +kernel))⟩
theorem pX8_73 : sw_FP RX8 73 8 0 .int := ⟨RX8, TX8, 30, rfl, by decide, Or.inl (sw_in (List.mem_append_right _ (List.mem_of_getElem? (i := 632) (by decide +kernel))) (by decide +kernel)), rfl, by decide +kernel⟩
theorem fX8_7 : sw_FL RX8 7 8 1 := ⟨RX8, TX8, 30, rfl, by decide, Or.inl (sw_in (List.mem_append_right _ (List.mem_of_getElem? (i := 633) (by decide +kernel))) (by decide +kernel))⟩
theorem pX8_7 : sw_FP RX8 7 8 1 .int := ⟨RX8, TX8, 30, rfl, by decide, Or.inl (sw_in (List.mem_append_right _ (List.mem_of_getElem? (i := 633) (by decide +kernel))) (by decide +kernel)), rfl, by decide +kernel⟩
theorem fX8_98 : sw_FL RX8 98 8 2 := ⟨RX8, TX8, 30, rfl, by decide, Or.inl (sw_in (List.mem_append_right _ (List.mem_of_getElem? (i := 634) (by decide +kernel))) (by decide +kernel))⟩
theorem pX8_98 : sw_FP RX8 98 8 2 .int := ⟨RX8, TX8, 30, rfl, by decide, Or.inl (sw_in (List.mem_append_right _ (List.mem_of_getElem? (i := 634) (by decide +kernel))) (by decide +kernel)), rfl, by decide +kernel⟩
theorem fX8_101 : sw_FL RX8 101 8 3 := ⟨RX8, TX8, 30, rfl, by decide, Or.inl (sw_in (List.mem_append_right _ (List.mem_of_getElem? (i := 635) (by decide +kernel))) (by decide +kernel))⟩
theorem pX8_101 : sw_FP RX8 101 8 3 .int := ⟨RX8, TX8, 30, rfl, by decide, Or.inl (sw_in (List.mem_append_right _ (List.mem_of_getElem? (i := 635) (by decide +kernel))) (by decide +kernel)), rfl, by decide +kernel⟩
theorem fX8_13 : sw_FL RX8 13 8 4 := ⟨RX8, TX8, 30, rfl, by decide, Or.inl (sw_in (List.mem_append_right _ (List.mem_of_getElem? (i := 636) (by decide +kernel))) (by decide +kernel))⟩
theorem fX8_137 : sw_FL RX8 137 8 5 := ⟨RX8, TX8, 30, rfl, by decide, Or.inl (sw_in (List.mem_append_right _ (List.mem_of_getElem? (i := 637) (by decide +kernel))) (by decide +kernel))⟩
theorem pX8_137 : sw_FP RX8 137 8 5 .int := ⟨RX8, TX8, 30, rfl, by decide, Or.inl (sw_in (List.mem_append_right _ (List.mem_of_getElem? (i := 637) (by decide +kernel))) (by decide +kernel)), rfl, by decide +kernel⟩
theorem fX8_108 : sw_FL RX8 108 8 6 := ⟨RX8, TX8, 30, rfl, by decide, Or.inl (sw_in (List.mem_append_right _ (List.mem_of_getElem? (i := 638) (by decide +kernel))) (by decide +kernel))⟩
theorem pX8_108 : sw_FP RX8 108 8 6 .int := ⟨RX8, TX8, 30, rfl, by decide, Or.inl (sw_in (List.mem_append_right _ (List.mem_of_getElem? (i := 638) (by decide +kernel))) (by decide +kernel)), rfl, by decide +kernel⟩
theorem fX8_17 : sw_FL RX8 17 8 7 := ⟨RX8, TX8, 30, rfl, by decide, Or.inl (sw_in (List.mem_append_right _ (List.mem_of_getElem? (i := 639) (by decide +kernel))) (by decide +kernel))⟩
theorem fX8_20 : sw_FL RX8 20 8 8 := ⟨RX8, TX8, 30, rfl, by decide, Or.inl (sw_in (List.mem_append_right _ (List.mem_of_getElem? (i := 640) (by decide +kernel))) (by decide +kernel))⟩
theorem fX8_23 : sw_FL RX8 23 8 9 := ⟨RX8, TX8, 30, rfl, by decide, Or.inl (sw_in (List.mem_append_right _ (List.mem_of_getElem? (i := 641) (by decide +kernel))) (by decide +kernel))⟩
theorem fX8_76 : sw_FL RX8 76 8 10 := ⟨RX8, TX8, 30, rfl, by decide, Or.inl (sw_in (List.mem_append_right _ (List.mem_of_getElem? (i := 642) (by decide +kernel))) (by decide +kernel))⟩
theorem pX8_76 : sw_FP RX8 76 8 10 .boolean := ⟨RX8, TX8, 30, rfl, by decide, Or.inl (sw_in (List.mem_append_right _ (List.mem_of_getElem? (i := 642) (by decide +kernel))) (by decide +kernel)), rfl, by decide +kernel⟩
theorem fX8_26 : sw_FL RX8 26 8 11 := ⟨RX8, TX8, 30, rfl, by decide, Or.inl (sw_in (List.mem_append_right _ (List.mem_of_getElem? (i := 643) (by decide +kernel))) (by decide +kernel))⟩
theorem fX8_29 : sw_FL RX8 29 8 12 := ⟨RX8, TX8, 30, rfl, by decide, Or.inl (sw_in (List.mem_append_right _ (List.mem_of_getElem? (i := 644) (by decide +kernel))) (by decide +kernel))⟩
theorem fX8_32 : sw_FL RX8 32 8 13 := ⟨RX8, TX8, 30, rfl, by decide, Or.inl (sw_in (List.mem_append_right _ (List.mem_of_getElem? (i := 645) (by decide +kernel))) (by decide +kernel))⟩
theorem fX8_35 : sw_FL RX8 35 8 14 := ⟨RX8, TX8, 30, rfl, by decide, Or.inl (sw_in (List.mem_append_right _ (List.mem_of_getElem? (i := 646) (by decide +kernel))) (by decide +kernel))⟩
theorem fX8_38 : sw_FL RX8 38 8 15 := ⟨RX8, TX8, 30, rfl, by decide, Or.inl (sw_in (List.mem_append_right _ (List.mem_of_getElem? (i := 647) (by decide +kernel))) (by decide +kernel))⟩
theorem fX8_41 : sw_FL RX8 41 8 16 := ⟨RX8, TX8, 30, rfl, by decide, Or.inl (sw_in (List.mem_append_right _ (List.mem_of_getElem? (i := 648) (by decide +kernel))) (by decide +kernel))⟩
theorem fX8_44 : sw_FL RX8 44 8 17 := ⟨RX8, TX8, 30, rfl, by decide, Or.inl (sw_in (List.mem_append_right _ (List.mem_of_getElem? (i := 649) (by decide +kernel))) (by decide +kernel))⟩
theorem fX8_111 : sw_FL RX8 111 8 18 := ⟨RX8, TX8, 30, rfl, by decide, Or.inl (sw_in (List.mem_append_right _ (List.mem_of_getElem? (i := 650) (by decide +kernel))) (by decide +kernel))⟩
theorem pX8_111 : sw_FP RX8 111 8 18 .int := ⟨RX8, TX8, 30, rfl, by decide, Or.inl (sw_in (List.mem_append_right _ (List.mem_of_getElem? (i := 650) (by decide +kernel))) (by decide +kernel)), rfl, by decide +kernel⟩
theorem fX8_134 : sw_FL RX8 134 8 19 := ⟨RX8, TX8, 30, rfl, by decide, Or.inl (sw_in (List.mem_append_right _ (List.mem_of_getElem? (i := 651) (by decide +kernel))) (by decide +kernel))⟩
theorem pX8_134 : sw_FP RX8 134 8 19 .int := ⟨RX8, TX8, 30, rfl, by decide, Or.inl (sw_in (List.mem_append_right _ (List.mem_of_getElem? (i := 651) (by decide +kernel))) (by decide +kernel)), rfl, by decide +kernel⟩
theorem fX8_47 : sw_FL RX8 47 8 20 := ⟨RX8, TX8, 30, rfl, by decide, Or.inl (sw_in (List.mem_append_right _ (List.mem_of_getElem? (i := 652) (by decide +kernel))) (by decide +kernel))⟩
theorem fX8_152 : sw_FL RX8 152 8 21 := ⟨RX8, TX8, 30, rfl, by decide, Or.inl (sw_in (List.mem_append_right _ (List.mem_of_getElem? (i := 653) (by decide +kernel))) (by decide +kernel))⟩
theorem pX8_152 : sw_FP RX8 152 8 21 .int := ⟨RX8, TX8, 30, rfl, by decide, Or.inl (sw_in (List.mem_append_right _ (List.mem_of_getElem? (i := 653) (by decide +kernel))) (by decide +kernel)), rfl, by decide +kernel⟩
theorem fX8_155 : sw_FL RX8 155 8 22 := ⟨RX8, TX8, 30, rfl, by decide, Or.inl (sw_in (List.mem_append_right _ (List.mem_of_getElem? (i := 654) (by decide +kernel))) (by decide +kernel))⟩
theorem pX8_155 : sw_FP RX8 155 8 22 .int := ⟨RX8, TX8, 30, rfl, by decide, Or.inl (sw_in (List.mem_append_right _ (List.mem_of_getElem? (i := 654) (by decide +kernel))) (by decide +kernel)), rfl, by decide +kernel⟩
theorem fX8_158 : sw_FL RX8 158 8 23 := ⟨RX8, TX8, 30, rfl, by decide, Or.inl (sw_in (List.mem_append_right _ (List.mem_of_getElem? (i := 655) (by decide +kernel))) (by decide +kernel))⟩
theorem pX8_158 : sw_FP RX8 158 8 23 .int := ⟨RX8, TX8, 30, rfl, by decide, Or.inl (sw_in (List.mem_append_right _ (List.mem_of_getElem? (i := 655) (by decide +kernel))) (by decide +kernel)), rfl, by decide +kernel⟩
theorem fX8_50 : sw_FL RX8 50 8 24 := ⟨RX8, TX8, 30, rfl, by decide, Or.inl (sw_in (List.mem_append_right _ (List.mem_of_getElem? (i := 656) (by decide +kernel))) (by decide +kernel))⟩
theorem fX8_53 : sw_FL RX8 53 8 25 := ⟨RX8, TX8, 30, rfl, by decide, Or.inl (sw_in (List.mem_append_right _ (List.mem_of_getElem? (i := 657) (by decide +kernel))) (by decide +kernel))⟩
theorem fX8_56 : sw_FL RX8 56 8 26 := ⟨RX8, TX8, 30, rfl, by decide, Or.inl (sw_in (List.mem_append_right _ (List.mem_of_getElem? (i := 658) (by decide +kernel))) (by decide +kernel))⟩
theorem fX8_59 : sw_FL RX8 59 8 27 := ⟨RX8, TX8, 30, rfl, by decide, Or.inl (sw_in (List.mem_append_right _ (List.mem_of_getElem? (i := 659) (by decide +kernel))) (by decide +kernel))⟩
theorem fX8_62 : sw_FL RX8 62 8 28 := ⟨RX8, TX8, 30, rfl, by decide, Or.inl (sw_in (List.mem_append_right _ (List.mem_of_getElem? (i := 660) (by decide +kernel))) (by decide +kernel))⟩
theorem fX8_66 : sw_FL RX8 66 8 29 := ⟨RX8, TX8, 30, rfl, by decide, Or.inl (sw_in (List.mem_append_right _ (List.mem_of_getElem? (i := 661) (by decide +kernel))) (by decide +kernel))⟩
theorem kX7_81 : Cond.constant RX7 81 200000 ∈ sw_W := sw_in (List.mem_append_right _ (List.mem_of_getElem? (i := 296) (by decide +kernel))) (by decide +kernel)
theorem kX5_72 : Cond.constant RX5 72 73856093 ∈ sw_W := sw_in (List.mem_append_right _ (List.mem_of_getElem? (i := 312) (by decide +kernel))) (by decide +kernel)
theorem kX5_73 : Cond.constant RX5 73 19349663 ∈ sw_W := sw_in (List.mem_append_right _ (List.mem_of_getElem? (i := 313) (by decide +kernel))) (by decide +kernel)
theorem kX5_74 : Cond.constant RX5 74 83492791 ∈ sw_W := sw_in (List.mem_append_right _ (List.mem_of_getElem? (i := 314) (by decide +kernel))) (by decide +kernel)
theorem kX5_75 : Cond.constant RX5 75 265443576 ∈ sw_W := sw_in (List.mem_append_right _ (List.mem_of_getElem? (i := 315) (by decide +kernel))) (by decide +kernel)
theorem kX5_76 : Cond.constant RX5 76 739982445 ∈ sw_W := sw_in (List.mem_append_right _ (List.mem_of_getElem? (i := 316) (by decide +kernel))) (by decide +kernel)
theorem kX7_96 : Cond.constant RX7 96 100000 ∈ sw_W := sw_in (List.mem_append_right _ (List.mem_of_getElem? (i := 325) (by decide +kernel))) (by decide +kernel)
theorem kX6_55 : Cond.constant RX6 55 2147483647 ∈ sw_W := sw_in (List.mem_append_right _ (List.mem_of_getElem? (i := 377) (by decide +kernel))) (by decide +kernel)
theorem kX1_133 : Cond.constant RX1 133 2147483647 ∈ sw_W := sw_in (List.mem_append_right _ (List.mem_of_getElem? (i := 509) (by decide +kernel))) (by decide +kernel)
theorem kJ6_265 : Cond.constant RJ6 265 1431655765 ∈ sw_W := sw_in (List.mem_append_right _ (List.mem_of_getElem? (i := 570) (by decide +kernel))) (by decide +kernel)
theorem kJ6_266 : Cond.constant RJ6 266 858993459 ∈ sw_W := sw_in (List.mem_append_right _ (List.mem_of_getElem? (i := 571) (by decide +kernel))) (by decide +kernel)
theorem kJ6_267 : Cond.constant RJ6 267 252645135 ∈ sw_W := sw_in (List.mem_append_right _ (List.mem_of_getElem? (i := 572) (by decide +kernel))) (by decide +kernel)
theorem kX8_92 : Cond.constant RX8 92 200000 ∈ sw_W := sw_in (List.mem_append_right _ (List.mem_of_getElem? (i := 732) (by decide +kernel))) (by decide +kernel)
theorem kX8_80 : Cond.constant RX8 80 73856093 ∈ sw_W := sw_in (List.mem_append_right _ (List.mem_of_getElem? (i := 748) (by decide +kernel))) (by decide +kernel)
theorem kX8_81 : Cond.constant RX8 81 19349663 ∈ sw_W := sw_in (List.mem_append_right _ (List.mem_of_getElem? (i := 749) (by decide +kernel))) (by decide +kernel)
theorem kX8_82 : Cond.constant RX8 82 83492791 ∈ sw_W := sw_in (List.mem_append_right _ (List.mem_of_getElem? (i := 750) (by decide +kernel))) (by decide +kernel)
theorem kX8_83 : Cond.constant RX8 83 265443576 ∈ sw_W := sw_in (List.mem_append_right _ (List.mem_of_getElem? (i := 751) (by decide +kernel))) (by decide +kernel)
theorem kX8_84 : Cond.constant RX8 84 739982445 ∈ sw_W := sw_in (List.mem_append_right _ (List.mem_of_getElem? (i := 752) (by decide +kernel))) (by decide +kernel)
theorem kX8_97 : Cond.constant RX8 97 100000 ∈ sw_W := sw_in (List.mem_append_right _ (List.mem_of_getElem? (i := 761) (by decide +kernel))) (by decide +kernel)
theorem bJ9_max_7cf53 (own : String) (idx : Nat) : sw_CB own idx 2 mJ9_max_7cf53 := ⟨by decide, sw_in (List.mem_append_right _ (List.mem_of_getElem? (i := 35) (by decide +kernel))) (by decide +kernel), sw_in (List.mem_append_right _ (List.mem_of_getElem? (i := 4) (by decide +kernel))) (by decide +kernel), ⟨by decide +kernel, by decide +kernel⟩, by decide +kernel⟩
theorem eJ9_max_7cf53 : Cond.static yJ9_max_7cf53 ∈ sw_W := sw_in (List.mem_append_right _ (List.mem_of_getElem? (i := 34) (by decide +kernel))) (by decide +kernel)
theorem vX3_9 : sw_CS RX3 9 2 mJ9_max_7cf53 := ⟨bJ9_max_7cf53 _ _, sw_in (List.mem_append_right _ (List.mem_of_getElem? (i := 33) (by decide +kernel))) (by decide +kernel), eJ9_max_7cf53⟩
theorem bX3_put (own : String) (idx : Nat) : sw_CB own idx 2 mX3_put := ⟨by decide, sw_in (List.mem_append_right _ (List.mem_of_getElem? (i := 252) (by decide +kernel))) (by decide +kernel), sw_in (List.mem_append_right _ (List.mem_of_getElem? (i := 3) (by decide +kernel))) (by decide +kernel), ⟨by decide +kernel, by decide +kernel⟩, by decide +kernel⟩
theorem eX3_put : Cond.instanceMethod yX3_put ∈ sw_W ∧ Cond.selects (yX3_put).cls yX3_put yX3_put ∈ sw_W := ⟨sw_in (List.mem_append_right _ (List.mem_of_getElem? (i := 250) (by decide +kernel))) (by decide +kernel), sw_in (List.mem_append_right _ (List.mem_of_getElem? (i := 251) (by decide +kernel))) (by decide +kernel)⟩
theorem vX7_71 : sw_CV RX7 71 2 mX3_put := ⟨bX3_put _ _, sw_in (List.mem_append_right _ (List.mem_of_getElem? (i := 249) (by decide +kernel))) (by decide +kernel), eX3_put.1, eX3_put.2⟩
theorem bX7_keepUpTo (own : String) (idx : Nat) : sw_CB own idx 1 mX7_keepUpTo := ⟨by decide, sw_in (List.mem_append_right _ (List.mem_of_getElem? (i := 288) (by decide +kernel))) (by decide +kernel), sw_in (List.mem_append_right _ (List.mem_of_getElem? (i := 1) (by decide +kernel))) (by decide +kernel), ⟨by decide +kernel, by decide +kernel⟩, by decide +kernel⟩
theorem eX7_keepUpTo : Cond.instanceMethod yX7_keepUpTo ∈ sw_W ∧ Cond.selects (yX7_keepUpTo).cls yX7_keepUpTo yX7_keepUpTo ∈ sw_W := ⟨sw_in (List.mem_append_right _ (List.mem_of_getElem? (i := 287) (by decide +kernel))) (by decide +kernel), sw_in (List.mem_append_left _ (List.mem_of_getElem? (i := 0) (by decide +kernel))) (by decide +kernel)⟩
theorem vX7_78 : sw_CV RX7 78 1 mX7_keepUpTo := ⟨bX7_keepUpTo _ _, sw_in (List.mem_append_right _ (List.mem_of_getElem? (i := 285) (by decide +kernel))) (by decide +kernel), eX7_keepUpTo.1, eX7_keepUpTo.2⟩
theorem bJ9_min_7cf53 (own : String) (idx : Nat) : sw_CB own idx 2 mJ9_min_7cf53 := ⟨by decide, sw_in (List.mem_append_right _ (List.mem_of_getElem? (i := 291) (by decide +kernel))) (by decide +kernel), sw_in (List.mem_append_right _ (List.mem_of_getElem? (i := 4) (by decide +kernel))) (by decide +kernel), ⟨by decide +kernel, by decide +kernel⟩, by decide +kernel⟩
theorem eJ9_min_7cf53 : Cond.static yJ9_min_7cf53 ∈ sw_W := sw_in (List.mem_append_right _ (List.mem_of_getElem? (i := 290) (by decide +kernel))) (by decide +kernel)
theorem vX7_202 : sw_CS RX7 202 2 mJ9_min_7cf53 := ⟨bJ9_min_7cf53 _ _, sw_in (List.mem_append_right _ (List.mem_of_getElem? (i := 289) (by decide +kernel))) (by decide +kernel), eJ9_min_7cf53⟩
theorem bX7_within (own : String) (idx : Nat) : sw_CB own idx 3 mX7_within := ⟨by decide, sw_in (List.mem_append_right _ (List.mem_of_getElem? (i := 299) (by decide +kernel))) (by decide +kernel), sw_in (List.mem_append_right _ (List.mem_of_getElem? (i := 1) (by decide +kernel))) (by decide +kernel), ⟨by decide +kernel, by decide +kernel⟩, by decide +kernel⟩
theorem eX7_within : Cond.static yX7_within ∈ sw_W := sw_in (List.mem_append_right _ (List.mem_of_getElem? (i := 298) (by decide +kernel))) (by decide +kernel)
theorem vX7_82 : sw_CS RX7 82 3 mX7_within := ⟨bX7_within _ _, sw_in (List.mem_append_right _ (List.mem_of_getElem? (i := 297) (by decide +kernel))) (by decide +kernel), eX7_within⟩
theorem bX5_groundOf (own : String) (idx : Nat) : sw_CB own idx 2 mX5_groundOf := ⟨by decide, sw_in (List.mem_append_right _ (List.mem_of_getElem? (i := 303) (by decide +kernel))) (by decide +kernel), sw_in (List.mem_append_right _ (List.mem_of_getElem? (i := 2) (by decide +kernel))) (by decide +kernel), ⟨by decide +kernel, by decide +kernel⟩, by decide +kernel⟩
theorem eX5_groundOf : Cond.instanceMethod yX5_groundOf ∈ sw_W ∧ Cond.selects (yX5_groundOf).cls yX5_groundOf yX5_groundOf ∈ sw_W := ⟨sw_in (List.mem_append_right _ (List.mem_of_getElem? (i := 301) (by decide +kernel))) (by decide +kernel), sw_in (List.mem_append_right _ (List.mem_of_getElem? (i := 302) (by decide +kernel))) (by decide +kernel)⟩
theorem vX7_86 : sw_CV RX7 86 2 mX5_groundOf := ⟨bX5_groundOf _ _, sw_in (List.mem_append_right _ (List.mem_of_getElem? (i := 300) (by decide +kernel))) (by decide +kernel), eX5_groundOf.1, eX5_groundOf.2⟩
theorem bX5_layerOf (own : String) (idx : Nat) : sw_CB own idx 3 mX5_layerOf := ⟨by decide, sw_in (List.mem_append_right _ (List.mem_of_getElem? (i := 307) (by decide +kernel))) (by decide +kernel), sw_in (List.mem_append_right _ (List.mem_of_getElem? (i := 2) (by decide +kernel))) (by decide +kernel), ⟨by decide +kernel, by decide +kernel⟩, by decide +kernel⟩
theorem eX5_layerOf : Cond.instanceMethod yX5_layerOf ∈ sw_W ∧ Cond.selects (yX5_layerOf).cls yX5_layerOf yX5_layerOf ∈ sw_W := ⟨sw_in (List.mem_append_right _ (List.mem_of_getElem? (i := 306) (by decide +kernel))) (by decide +kernel), sw_in (List.mem_append_left _ (List.mem_of_getElem? (i := 1) (by decide +kernel))) (by decide +kernel)⟩
theorem vX5_65 : sw_CV RX5 65 3 mX5_layerOf := ⟨bX5_layerOf _ _, sw_in (List.mem_append_right _ (List.mem_of_getElem? (i := 304) (by decide +kernel))) (by decide +kernel), eX5_layerOf.1, eX5_layerOf.2⟩
theorem bX5_cornerOf (own : String) (idx : Nat) : sw_CB own idx 3 mX5_cornerOf := ⟨by decide, sw_in (List.mem_append_right _ (List.mem_of_getElem? (i := 311) (by decide +kernel))) (by decide +kernel), sw_in (List.mem_append_right _ (List.mem_of_getElem? (i := 2) (by decide +kernel))) (by decide +kernel), ⟨by decide +kernel, by decide +kernel⟩, by decide +kernel⟩
theorem eX5_cornerOf : Cond.instanceMethod yX5_cornerOf ∈ sw_W ∧ Cond.selects (yX5_cornerOf).cls yX5_cornerOf yX5_cornerOf ∈ sw_W := ⟨sw_in (List.mem_append_right _ (List.mem_of_getElem? (i := 310) (by decide +kernel))) (by decide +kernel), sw_in (List.mem_append_left _ (List.mem_of_getElem? (i := 2) (by decide +kernel))) (by decide +kernel)⟩
theorem vX5_69 : sw_CV RX5 69 3 mX5_cornerOf := ⟨bX5_cornerOf _ _, sw_in (List.mem_append_right _ (List.mem_of_getElem? (i := 308) (by decide +kernel))) (by decide +kernel), eX5_cornerOf.1, eX5_cornerOf.2⟩
theorem bX5_hasPlace (own : String) (idx : Nat) : sw_CB own idx 1 mX5_hasPlace := ⟨by decide, sw_in (List.mem_append_right _ (List.mem_of_getElem? (i := 333) (by decide +kernel))) (by decide +kernel), sw_in (List.mem_append_right _ (List.mem_of_getElem? (i := 2) (by decide +kernel))) (by decide +kernel), ⟨by decide +kernel, by decide +kernel⟩, by decide +kernel⟩
theorem eX5_hasPlace : Cond.instanceMethod yX5_hasPlace ∈ sw_W ∧ Cond.selects (yX5_hasPlace).cls yX5_hasPlace yX5_hasPlace ∈ sw_W := ⟨sw_in (List.mem_append_right _ (List.mem_of_getElem? (i := 331) (by decide +kernel))) (by decide +kernel), sw_in (List.mem_append_right _ (List.mem_of_getElem? (i := 332) (by decide +kernel))) (by decide +kernel)⟩
theorem vX7_103 : sw_CV RX7 103 1 mX5_hasPlace := ⟨bX5_hasPlace _ _, sw_in (List.mem_append_right _ (List.mem_of_getElem? (i := 330) (by decide +kernel))) (by decide +kernel), eX5_hasPlace.1, eX5_hasPlace.2⟩
theorem bX7_makeUpTo (own : String) (idx : Nat) : sw_CB own idx 1 mX7_makeUpTo := ⟨by decide, sw_in (List.mem_append_right _ (List.mem_of_getElem? (i := 337) (by decide +kernel))) (by decide +kernel), sw_in (List.mem_append_right _ (List.mem_of_getElem? (i := 1) (by decide +kernel))) (by decide +kernel), ⟨by decide +kernel, by decide +kernel⟩, by decide +kernel⟩
theorem eX7_makeUpTo : Cond.instanceMethod yX7_makeUpTo ∈ sw_W ∧ Cond.selects (yX7_makeUpTo).cls yX7_makeUpTo yX7_makeUpTo ∈ sw_W := ⟨sw_in (List.mem_append_right _ (List.mem_of_getElem? (i := 336) (by decide +kernel))) (by decide +kernel), sw_in (List.mem_append_left _ (List.mem_of_getElem? (i := 3) (by decide +kernel))) (by decide +kernel)⟩
theorem vX7_110 : sw_CV RX7 110 1 mX7_makeUpTo := ⟨bX7_makeUpTo _ _, sw_in (List.mem_append_right _ (List.mem_of_getElem? (i := 334) (by decide +kernel))) (by decide +kernel), eX7_makeUpTo.1, eX7_makeUpTo.2⟩
theorem bX5_growGround (own : String) (idx : Nat) : sw_CB own idx 0 mX5_growGround := ⟨by decide, sw_in (List.mem_append_right _ (List.mem_of_getElem? (i := 341) (by decide +kernel))) (by decide +kernel), sw_in (List.mem_append_right _ (List.mem_of_getElem? (i := 2) (by decide +kernel))) (by decide +kernel), ⟨by decide +kernel, by decide +kernel⟩, by decide +kernel⟩
theorem eX5_growGround : Cond.instanceMethod yX5_growGround ∈ sw_W ∧ Cond.selects (yX5_growGround).cls yX5_growGround yX5_growGround ∈ sw_W := ⟨sw_in (List.mem_append_right _ (List.mem_of_getElem? (i := 339) (by decide +kernel))) (by decide +kernel), sw_in (List.mem_append_right _ (List.mem_of_getElem? (i := 340) (by decide +kernel))) (by decide +kernel)⟩
theorem vX7_207 : sw_CV RX7 207 0 mX5_growGround := ⟨bX5_growGround _ _, sw_in (List.mem_append_right _ (List.mem_of_getElem? (i := 338) (by decide +kernel))) (by decide +kernel), eX5_growGround.1, eX5_growGround.2⟩
theorem vX5_57 : sw_CV RX5 57 2 mX3_put := ⟨bX3_put _ _, sw_in (List.mem_append_right _ (List.mem_of_getElem? (i := 342) (by decide +kernel))) (by decide +kernel), eX3_put.1, eX3_put.2⟩
theorem vX5_61 : sw_CV RX5 61 2 mX5_groundOf := ⟨bX5_groundOf _ _, sw_in (List.mem_append_right _ (List.mem_of_getElem? (i := 343) (by decide +kernel))) (by decide +kernel), eX5_groundOf.1, eX5_groundOf.2⟩
theorem bX5_raiseHeights (own : String) (idx : Nat) : sw_CB own idx 0 mX5_raiseHeights := ⟨by decide, sw_in (List.mem_append_right _ (List.mem_of_getElem? (i := 347) (by decide +kernel))) (by decide +kernel), sw_in (List.mem_append_right _ (List.mem_of_getElem? (i := 2) (by decide +kernel))) (by decide +kernel), ⟨by decide +kernel, by decide +kernel⟩, by decide +kernel⟩
theorem eX5_raiseHeights : Cond.instanceMethod yX5_raiseHeights ∈ sw_W ∧ Cond.selects (yX5_raiseHeights).cls yX5_raiseHeights yX5_raiseHeights ∈ sw_W := ⟨sw_in (List.mem_append_right _ (List.mem_of_getElem? (i := 345) (by decide +kernel))) (by decide +kernel), sw_in (List.mem_append_right _ (List.mem_of_getElem? (i := 346) (by decide +kernel))) (by decide +kernel)⟩
theorem vX7_210 : sw_CV RX7 210 0 mX5_raiseHeights := ⟨bX5_raiseHeights _ _, sw_in (List.mem_append_right _ (List.mem_of_getElem? (i := 344) (by decide +kernel))) (by decide +kernel), eX5_raiseHeights.1, eX5_raiseHeights.2⟩
theorem bX3_at (own : String) (idx : Nat) : sw_CB own idx 1 mX3_at := ⟨by decide, sw_in (List.mem_append_right _ (List.mem_of_getElem? (i := 351) (by decide +kernel))) (by decide +kernel), sw_in (List.mem_append_right _ (List.mem_of_getElem? (i := 3) (by decide +kernel))) (by decide +kernel), ⟨by decide +kernel, by decide +kernel⟩, by decide +kernel⟩
theorem eX3_at : Cond.instanceMethod yX3_at ∈ sw_W ∧ Cond.selects (yX3_at).cls yX3_at yX3_at ∈ sw_W := ⟨sw_in (List.mem_append_right _ (List.mem_of_getElem? (i := 349) (by decide +kernel))) (by decide +kernel), sw_in (List.mem_append_right _ (List.mem_of_getElem? (i := 350) (by decide +kernel))) (by decide +kernel)⟩
theorem vX5_77 : sw_CV RX5 77 1 mX3_at := ⟨bX3_at _ _, sw_in (List.mem_append_right _ (List.mem_of_getElem? (i := 348) (by decide +kernel))) (by decide +kernel), eX3_at.1, eX3_at.2⟩
theorem vX5_81 : sw_CSN RX5 81 3 mX7_within := ⟨bX7_within _ _, ⟨"MadeLand", List.mem_append_right _ (List.mem_of_getElem? (i := 352) (by decide +kernel))⟩, eX7_within⟩
theorem bX3_add (own : String) (idx : Nat) : sw_CB own idx 2 mX3_add := ⟨by decide, sw_in (List.mem_append_right _ (List.mem_of_getElem? (i := 356) (by decide +kernel))) (by decide +kernel), sw_in (List.mem_append_right _ (List.mem_of_getElem? (i := 3) (by decide +kernel))) (by decide +kernel), ⟨by decide +kernel, by decide +kernel⟩, by decide +kernel⟩
theorem eX3_add : Cond.instanceMethod yX3_add ∈ sw_W ∧ Cond.selects (yX3_add).cls yX3_add yX3_add ∈ sw_W := ⟨sw_in (List.mem_append_right _ (List.mem_of_getElem? (i := 354) (by decide +kernel))) (by decide +kernel), sw_in (List.mem_append_right _ (List.mem_of_getElem? (i := 355) (by decide +kernel))) (by decide +kernel)⟩
theorem vX5_85 : sw_CV RX5 85 2 mX3_add := ⟨bX3_add _ _, sw_in (List.mem_append_right _ (List.mem_of_getElem? (i := 353) (by decide +kernel))) (by decide +kernel), eX3_add.1, eX3_add.2⟩
theorem vX3_21 : sw_CV RX3 21 1 mX3_at := ⟨bX3_at _ _, sw_in (List.mem_append_right _ (List.mem_of_getElem? (i := 357) (by decide +kernel))) (by decide +kernel), eX3_at.1, eX3_at.2⟩
theorem vX3_25 : sw_CV RX3 25 2 mX3_put := ⟨bX3_put _ _, sw_in (List.mem_append_right _ (List.mem_of_getElem? (i := 358) (by decide +kernel))) (by decide +kernel), eX3_put.1, eX3_put.2⟩
theorem vX5_88 : sw_CS RX5 88 2 mJ9_min_7cf53 := ⟨bJ9_min_7cf53 _ _, sw_in (List.mem_append_right _ (List.mem_of_getElem? (i := 359) (by decide +kernel))) (by decide +kernel), eJ9_min_7cf53⟩
theorem vX5_93 : sw_CS RX5 93 2 mJ9_max_7cf53 := ⟨bJ9_max_7cf53 _ _, sw_in (List.mem_append_right _ (List.mem_of_getElem? (i := 360) (by decide +kernel))) (by decide +kernel), eJ9_max_7cf53⟩
theorem vX7_119 : sw_CV RX7 119 1 mX3_at := ⟨bX3_at _ _, sw_in (List.mem_append_right _ (List.mem_of_getElem? (i := 361) (by decide +kernel))) (by decide +kernel), eX3_at.1, eX3_at.2⟩
theorem bX6_run (own : String) (idx : Nat) : sw_CB own idx 4 mX6_run := ⟨by decide, sw_in (List.mem_append_right _ (List.mem_of_getElem? (i := 365) (by decide +kernel))) (by decide +kernel), sw_in (List.mem_append_right _ (List.mem_of_getElem? (i := 5) (by decide +kernel))) (by decide +kernel), ⟨by decide +kernel, by decide +kernel⟩, by decide +kernel⟩
theorem eX6_run : Cond.instanceMethod yX6_run ∈ sw_W ∧ Cond.selects (yX6_run).cls yX6_run yX6_run ∈ sw_W := ⟨sw_in (List.mem_append_right _ (List.mem_of_getElem? (i := 363) (by decide +kernel))) (by decide +kernel), sw_in (List.mem_append_right _ (List.mem_of_getElem? (i := 364) (by decide +kernel))) (by decide +kernel)⟩
theorem vX7_213 : sw_CV RX7 213 4 mX6_run := ⟨bX6_run _ _, sw_in (List.mem_append_right _ (List.mem_of_getElem? (i := 362) (by decide +kernel))) (by decide +kernel), eX6_run.1, eX6_run.2⟩
theorem bX0_empty (own : String) (idx : Nat) : sw_CB own idx 0 mX0_empty := ⟨by decide, sw_in (List.mem_append_right _ (List.mem_of_getElem? (i := 369) (by decide +kernel))) (by decide +kernel), sw_in (List.mem_append_right _ (List.mem_of_getElem? (i := 9) (by decide +kernel))) (by decide +kernel), ⟨by decide +kernel, by decide +kernel⟩, by decide +kernel⟩
theorem eX0_empty : Cond.instanceMethod yX0_empty ∈ sw_W ∧ Cond.selects (yX0_empty).cls yX0_empty yX0_empty ∈ sw_W := ⟨sw_in (List.mem_append_right _ (List.mem_of_getElem? (i := 367) (by decide +kernel))) (by decide +kernel), sw_in (List.mem_append_right _ (List.mem_of_getElem? (i := 368) (by decide +kernel))) (by decide +kernel)⟩
theorem vX6_45 : sw_CV RX6 45 0 mX0_empty := ⟨bX0_empty _ _, sw_in (List.mem_append_right _ (List.mem_of_getElem? (i := 366) (by decide +kernel))) (by decide +kernel), eX0_empty.1, eX0_empty.2⟩
theorem bX3_fill (own : String) (idx : Nat) : sw_CB own idx 1 mX3_fill := ⟨by decide, sw_in (List.mem_append_right _ (List.mem_of_getElem? (i := 373) (by decide +kernel))) (by decide +kernel), sw_in (List.mem_append_right _ (List.mem_of_getElem? (i := 3) (by decide +kernel))) (by decide +kernel), ⟨by decide +kernel, by decide +kernel⟩, by decide +kernel⟩
theorem eX3_fill : Cond.instanceMethod yX3_fill ∈ sw_W ∧ Cond.selects (yX3_fill).cls yX3_fill yX3_fill ∈ sw_W := ⟨sw_in (List.mem_append_right _ (List.mem_of_getElem? (i := 371) (by decide +kernel))) (by decide +kernel), sw_in (List.mem_append_right _ (List.mem_of_getElem? (i := 372) (by decide +kernel))) (by decide +kernel)⟩
theorem vX6_50 : sw_CV RX6 50 1 mX3_fill := ⟨bX3_fill _ _, sw_in (List.mem_append_right _ (List.mem_of_getElem? (i := 370) (by decide +kernel))) (by decide +kernel), eX3_fill.1, eX3_fill.2⟩
theorem bJ7_fill_53178 (own : String) (idx : Nat) : sw_CB own idx 2 mJ7_fill_53178 := ⟨by decide, sw_in (List.mem_append_right _ (List.mem_of_getElem? (i := 376) (by decide +kernel))) (by decide +kernel), sw_in (List.mem_append_right _ (List.mem_of_getElem? (i := 11) (by decide +kernel))) (by decide +kernel), ⟨by decide +kernel, by decide +kernel⟩, by decide +kernel⟩
theorem eJ7_fill_53178 : Cond.static yJ7_fill_53178 ∈ sw_W := sw_in (List.mem_append_right _ (List.mem_of_getElem? (i := 375) (by decide +kernel))) (by decide +kernel)
theorem vX3_29 : sw_CS RX3 29 2 mJ7_fill_53178 := ⟨bJ7_fill_53178 _ _, sw_in (List.mem_append_right _ (List.mem_of_getElem? (i := 374) (by decide +kernel))) (by decide +kernel), eJ7_fill_53178⟩
theorem bX6_takeOutlets (own : String) (idx : Nat) : sw_CB own idx 3 mX6_takeOutlets := ⟨by decide, sw_in (List.mem_append_right _ (List.mem_of_getElem? (i := 381) (by decide +kernel))) (by decide +kernel), sw_in (List.mem_append_right _ (List.mem_of_getElem? (i := 5) (by decide +kernel))) (by decide +kernel), ⟨by decide +kernel, by decide +kernel⟩, by decide +kernel⟩
theorem eX6_takeOutlets : Cond.instanceMethod yX6_takeOutlets ∈ sw_W ∧ Cond.selects (yX6_takeOutlets).cls yX6_takeOutlets yX6_takeOutlets ∈ sw_W := ⟨sw_in (List.mem_append_right _ (List.mem_of_getElem? (i := 380) (by decide +kernel))) (by decide +kernel), sw_in (List.mem_append_left _ (List.mem_of_getElem? (i := 4) (by decide +kernel))) (by decide +kernel)⟩
theorem vX6_56 : sw_CV RX6 56 3 mX6_takeOutlets := ⟨bX6_takeOutlets _ _, sw_in (List.mem_append_right _ (List.mem_of_getElem? (i := 378) (by decide +kernel))) (by decide +kernel), eX6_takeOutlets.1, eX6_takeOutlets.2⟩
theorem vX6_76 : sw_CV RX6 76 1 mX3_at := ⟨bX3_at _ _, sw_in (List.mem_append_right _ (List.mem_of_getElem? (i := 382) (by decide +kernel))) (by decide +kernel), eX3_at.1, eX3_at.2⟩
theorem bX5_isRim (own : String) (idx : Nat) : sw_CB own idx 1 mX5_isRim := ⟨by decide, sw_in (List.mem_append_right _ (List.mem_of_getElem? (i := 386) (by decide +kernel))) (by decide +kernel), sw_in (List.mem_append_right _ (List.mem_of_getElem? (i := 2) (by decide +kernel))) (by decide +kernel), ⟨by decide +kernel, by decide +kernel⟩, by decide +kernel⟩
theorem eX5_isRim : Cond.instanceMethod yX5_isRim ∈ sw_W ∧ Cond.selects (yX5_isRim).cls yX5_isRim yX5_isRim ∈ sw_W := ⟨sw_in (List.mem_append_right _ (List.mem_of_getElem? (i := 384) (by decide +kernel))) (by decide +kernel), sw_in (List.mem_append_right _ (List.mem_of_getElem? (i := 385) (by decide +kernel))) (by decide +kernel)⟩
theorem vX6_88 : sw_CV RX6 88 1 mX5_isRim := ⟨bX5_isRim _ _, sw_in (List.mem_append_right _ (List.mem_of_getElem? (i := 383) (by decide +kernel))) (by decide +kernel), eX5_isRim.1, eX5_isRim.2⟩
theorem vX6_84 : sw_CV RX6 84 2 mX3_put := ⟨bX3_put _ _, sw_in (List.mem_append_right _ (List.mem_of_getElem? (i := 387) (by decide +kernel))) (by decide +kernel), eX3_put.1, eX3_put.2⟩
theorem bX6_take (own : String) (idx : Nat) : sw_CB own idx 3 mX6_take := ⟨by decide, sw_in (List.mem_append_right _ (List.mem_of_getElem? (i := 391) (by decide +kernel))) (by decide +kernel), sw_in (List.mem_append_right _ (List.mem_of_getElem? (i := 5) (by decide +kernel))) (by decide +kernel), ⟨by decide +kernel, by decide +kernel⟩, by decide +kernel⟩
theorem eX6_take : Cond.instanceMethod yX6_take ∈ sw_W ∧ Cond.selects (yX6_take).cls yX6_take yX6_take ∈ sw_W := ⟨sw_in (List.mem_append_right _ (List.mem_of_getElem? (i := 390) (by decide +kernel))) (by decide +kernel), sw_in (List.mem_append_left _ (List.mem_of_getElem? (i := 5) (by decide +kernel))) (by decide +kernel)⟩
theorem vX6_92 : sw_CV RX6 92 3 mX6_take := ⟨bX6_take _ _, sw_in (List.mem_append_right _ (List.mem_of_getElem? (i := 388) (by decide +kernel))) (by decide +kernel), eX6_take.1, eX6_take.2⟩
theorem bX5_beside (own : String) (idx : Nat) : sw_CB own idx 2 mX5_beside := ⟨by decide, sw_in (List.mem_append_right _ (List.mem_of_getElem? (i := 395) (by decide +kernel))) (by decide +kernel), sw_in (List.mem_append_right _ (List.mem_of_getElem? (i := 2) (by decide +kernel))) (by decide +kernel), ⟨by decide +kernel, by decide +kernel⟩, by decide +kernel⟩
theorem eX5_beside : Cond.instanceMethod yX5_beside ∈ sw_W ∧ Cond.selects (yX5_beside).cls yX5_beside yX5_beside ∈ sw_W := ⟨sw_in (List.mem_append_right _ (List.mem_of_getElem? (i := 393) (by decide +kernel))) (by decide +kernel), sw_in (List.mem_append_right _ (List.mem_of_getElem? (i := 394) (by decide +kernel))) (by decide +kernel)⟩
theorem vX6_110 : sw_CV RX6 110 2 mX5_beside := ⟨bX5_beside _ _, sw_in (List.mem_append_right _ (List.mem_of_getElem? (i := 392) (by decide +kernel))) (by decide +kernel), eX5_beside.1, eX5_beside.2⟩
theorem vX6_114 : sw_CS RX6 114 2 mJ9_max_7cf53 := ⟨bJ9_max_7cf53 _ _, sw_in (List.mem_append_right _ (List.mem_of_getElem? (i := 396) (by decide +kernel))) (by decide +kernel), eJ9_max_7cf53⟩
theorem bX0_insert (own : String) (idx : Nat) : sw_CB own idx 2 mX0_insert := ⟨by decide, sw_in (List.mem_append_right _ (List.mem_of_getElem? (i := 400) (by decide +kernel))) (by decide +kernel), sw_in (List.mem_append_right _ (List.mem_of_getElem? (i := 9) (by decide +kernel))) (by decide +kernel), ⟨by decide +kernel, by decide +kernel⟩, by decide +kernel⟩
theorem eX0_insert : Cond.instanceMethod yX0_insert ∈ sw_W ∧ Cond.selects (yX0_insert).cls yX0_insert yX0_insert ∈ sw_W := ⟨sw_in (List.mem_append_right _ (List.mem_of_getElem? (i := 398) (by decide +kernel))) (by decide +kernel), sw_in (List.mem_append_right _ (List.mem_of_getElem? (i := 399) (by decide +kernel))) (by decide +kernel)⟩
theorem vX6_119 : sw_CV RX6 119 2 mX0_insert := ⟨bX0_insert _ _, sw_in (List.mem_append_right _ (List.mem_of_getElem? (i := 397) (by decide +kernel))) (by decide +kernel), eX0_insert.1, eX0_insert.2⟩
theorem vX0_27 : sw_CV RX0 27 1 mX3_at := ⟨bX3_at _ _, sw_in (List.mem_append_right _ (List.mem_of_getElem? (i := 401) (by decide +kernel))) (by decide +kernel), eX3_at.1, eX3_at.2⟩
theorem vX0_31 : sw_CV RX0 31 2 mX3_put := ⟨bX3_put _ _, sw_in (List.mem_append_right _ (List.mem_of_getElem? (i := 402) (by decide +kernel))) (by decide +kernel), eX3_put.1, eX3_put.2⟩
theorem bX6_takeOthers (own : String) (idx : Nat) : sw_CB own idx 2 mX6_takeOthers := ⟨by decide, sw_in (List.mem_append_right _ (List.mem_of_getElem? (i := 406) (by decide +kernel))) (by decide +kernel), sw_in (List.mem_append_right _ (List.mem_of_getElem? (i := 5) (by decide +kernel))) (by decide +kernel), ⟨by decide +kernel, by decide +kernel⟩, by decide +kernel⟩
theorem eX6_takeOthers : Cond.instanceMethod yX6_takeOthers ∈ sw_W ∧ Cond.selects (yX6_takeOthers).cls yX6_takeOthers yX6_takeOthers ∈ sw_W := ⟨sw_in (List.mem_append_right _ (List.mem_of_getElem? (i := 405) (by decide +kernel))) (by decide +kernel), sw_in (List.mem_append_left _ (List.mem_of_getElem? (i := 6) (by decide +kernel))) (by decide +kernel)⟩
theorem vX6_60 : sw_CV RX6 60 2 mX6_takeOthers := ⟨bX6_takeOthers _ _, sw_in (List.mem_append_right _ (List.mem_of_getElem? (i := 403) (by decide +kernel))) (by decide +kernel), eX6_takeOthers.1, eX6_takeOthers.2⟩
theorem bX0_remove (own : String) (idx : Nat) : sw_CB own idx 0 mX0_remove := ⟨by decide, sw_in (List.mem_append_right _ (List.mem_of_getElem? (i := 410) (by decide +kernel))) (by decide +kernel), sw_in (List.mem_append_right _ (List.mem_of_getElem? (i := 9) (by decide +kernel))) (by decide +kernel), ⟨by decide +kernel, by decide +kernel⟩, by decide +kernel⟩
theorem eX0_remove : Cond.instanceMethod yX0_remove ∈ sw_W ∧ Cond.selects (yX0_remove).cls yX0_remove yX0_remove ∈ sw_W := ⟨sw_in (List.mem_append_right _ (List.mem_of_getElem? (i := 408) (by decide +kernel))) (by decide +kernel), sw_in (List.mem_append_right _ (List.mem_of_getElem? (i := 409) (by decide +kernel))) (by decide +kernel)⟩
theorem vX6_95 : sw_CV RX6 95 0 mX0_remove := ⟨bX0_remove _ _, sw_in (List.mem_append_right _ (List.mem_of_getElem? (i := 407) (by decide +kernel))) (by decide +kernel), eX0_remove.1, eX0_remove.2⟩
theorem bX0_sink (own : String) (idx : Nat) : sw_CB own idx 1 mX0_sink := ⟨by decide, sw_in (List.mem_append_right _ (List.mem_of_getElem? (i := 414) (by decide +kernel))) (by decide +kernel), sw_in (List.mem_append_right _ (List.mem_of_getElem? (i := 9) (by decide +kernel))) (by decide +kernel), ⟨by decide +kernel, by decide +kernel⟩, by decide +kernel⟩
theorem eX0_sink : Cond.instanceMethod yX0_sink ∈ sw_W ∧ Cond.selects (yX0_sink).cls yX0_sink yX0_sink ∈ sw_W := ⟨sw_in (List.mem_append_right _ (List.mem_of_getElem? (i := 413) (by decide +kernel))) (by decide +kernel), sw_in (List.mem_append_left _ (List.mem_of_getElem? (i := 7) (by decide +kernel))) (by decide +kernel)⟩
theorem vX0_35 : sw_CV RX0 35 1 mX0_sink := ⟨bX0_sink _ _, sw_in (List.mem_append_right _ (List.mem_of_getElem? (i := 411) (by decide +kernel))) (by decide +kernel), eX0_sink.1, eX0_sink.2⟩
theorem bX0_removedPlace (own : String) (idx : Nat) : sw_CB own idx 0 mX0_removedPlace := ⟨by decide, sw_in (List.mem_append_right _ (List.mem_of_getElem? (i := 418) (by decide +kernel))) (by decide +kernel), sw_in (List.mem_append_right _ (List.mem_of_getElem? (i := 9) (by decide +kernel))) (by decide +kernel), ⟨by decide +kernel, by decide +kernel⟩, by decide +kernel⟩
theorem eX0_removedPlace : Cond.instanceMethod yX0_removedPlace ∈ sw_W ∧ Cond.selects (yX0_removedPlace).cls yX0_removedPlace yX0_removedPlace ∈ sw_W := ⟨sw_in (List.mem_append_right _ (List.mem_of_getElem? (i := 416) (by decide +kernel))) (by decide +kernel), sw_in (List.mem_append_right _ (List.mem_of_getElem? (i := 417) (by decide +kernel))) (by decide +kernel)⟩
theorem vX6_99 : sw_CV RX6 99 0 mX0_removedPlace := ⟨bX0_removedPlace _ _, sw_in (List.mem_append_right _ (List.mem_of_getElem? (i := 415) (by decide +kernel))) (by decide +kernel), eX0_removedPlace.1, eX0_removedPlace.2⟩
theorem bX0_removedRank (own : String) (idx : Nat) : sw_CB own idx 0 mX0_removedRank := ⟨by decide, sw_in (List.mem_append_right _ (List.mem_of_getElem? (i := 422) (by decide +kernel))) (by decide +kernel), sw_in (List.mem_append_right _ (List.mem_of_getElem? (i := 9) (by decide +kernel))) (by decide +kernel), ⟨by decide +kernel, by decide +kernel⟩, by decide +kernel⟩
theorem eX0_removedRank : Cond.instanceMethod yX0_removedRank ∈ sw_W ∧ Cond.selects (yX0_removedRank).cls yX0_removedRank yX0_removedRank ∈ sw_W := ⟨sw_in (List.mem_append_right _ (List.mem_of_getElem? (i := 420) (by decide +kernel))) (by decide +kernel), sw_in (List.mem_append_right _ (List.mem_of_getElem? (i := 421) (by decide +kernel))) (by decide +kernel)⟩
theorem vX6_103 : sw_CV RX6 103 0 mX0_removedRank := ⟨bX0_removedRank _ _, sw_in (List.mem_append_right _ (List.mem_of_getElem? (i := 419) (by decide +kernel))) (by decide +kernel), eX0_removedRank.1, eX0_removedRank.2⟩
theorem bX6_firstTakenBeside (own : String) (idx : Nat) : sw_CB own idx 2 mX6_firstTakenBeside := ⟨by decide, sw_in (List.mem_append_right _ (List.mem_of_getElem? (i := 426) (by decide +kernel))) (by decide +kernel), sw_in (List.mem_append_right _ (List.mem_of_getElem? (i := 5) (by decide +kernel))) (by decide +kernel), ⟨by decide +kernel, by decide +kernel⟩, by decide +kernel⟩
theorem eX6_firstTakenBeside : Cond.instanceMethod yX6_firstTakenBeside ∈ sw_W ∧ Cond.selects (yX6_firstTakenBeside).cls yX6_firstTakenBeside yX6_firstTakenBeside ∈ sw_W := ⟨sw_in (List.mem_append_right _ (List.mem_of_getElem? (i := 425) (by decide +kernel))) (by decide +kernel), sw_in (List.mem_append_left _ (List.mem_of_getElem? (i := 8) (by decide +kernel))) (by decide +kernel)⟩
theorem vX6_106 : sw_CV RX6 106 2 mX6_firstTakenBeside := ⟨bX6_firstTakenBeside _ _, sw_in (List.mem_append_right _ (List.mem_of_getElem? (i := 423) (by decide +kernel))) (by decide +kernel), eX6_firstTakenBeside.1, eX6_firstTakenBeside.2⟩
theorem bX6_gatherFlow (own : String) (idx : Nat) : sw_CB own idx 1 mX6_gatherFlow := ⟨by decide, sw_in (List.mem_append_right _ (List.mem_of_getElem? (i := 430) (by decide +kernel))) (by decide +kernel), sw_in (List.mem_append_right _ (List.mem_of_getElem? (i := 5) (by decide +kernel))) (by decide +kernel), ⟨by decide +kernel, by decide +kernel⟩, by decide +kernel⟩
theorem eX6_gatherFlow : Cond.instanceMethod yX6_gatherFlow ∈ sw_W ∧ Cond.selects (yX6_gatherFlow).cls yX6_gatherFlow yX6_gatherFlow ∈ sw_W := ⟨sw_in (List.mem_append_right _ (List.mem_of_getElem? (i := 429) (by decide +kernel))) (by decide +kernel), sw_in (List.mem_append_left _ (List.mem_of_getElem? (i := 9) (by decide +kernel))) (by decide +kernel)⟩
theorem vX6_64 : sw_CV RX6 64 1 mX6_gatherFlow := ⟨bX6_gatherFlow _ _, sw_in (List.mem_append_right _ (List.mem_of_getElem? (i := 427) (by decide +kernel))) (by decide +kernel), eX6_gatherFlow.1, eX6_gatherFlow.2⟩
theorem vX6_122 : sw_CV RX6 122 2 mX3_add := ⟨bX3_add _ _, sw_in (List.mem_append_right _ (List.mem_of_getElem? (i := 431) (by decide +kernel))) (by decide +kernel), eX3_add.1, eX3_add.2⟩
theorem bX6_kindOf (own : String) (idx : Nat) : sw_CB own idx 4 mX6_kindOf := ⟨by decide, sw_in (List.mem_append_right _ (List.mem_of_getElem? (i := 435) (by decide +kernel))) (by decide +kernel), sw_in (List.mem_append_right _ (List.mem_of_getElem? (i := 5) (by decide +kernel))) (by decide +kernel), ⟨by decide +kernel, by decide +kernel⟩, by decide +kernel⟩
theorem eX6_kindOf : Cond.instanceMethod yX6_kindOf ∈ sw_W ∧ Cond.selects (yX6_kindOf).cls yX6_kindOf yX6_kindOf ∈ sw_W := ⟨sw_in (List.mem_append_right _ (List.mem_of_getElem? (i := 434) (by decide +kernel))) (by decide +kernel), sw_in (List.mem_append_left _ (List.mem_of_getElem? (i := 10) (by decide +kernel))) (by decide +kernel)⟩
theorem vX6_80 : sw_CV RX6 80 4 mX6_kindOf := ⟨bX6_kindOf _ _, sw_in (List.mem_append_right _ (List.mem_of_getElem? (i := 432) (by decide +kernel))) (by decide +kernel), eX6_kindOf.1, eX6_kindOf.2⟩
theorem bX2_gather (own : String) (idx : Nat) : sw_CB own idx 2 mX2_gather := ⟨by decide, sw_in (List.mem_append_right _ (List.mem_of_getElem? (i := 439) (by decide +kernel))) (by decide +kernel), sw_in (List.mem_append_right _ (List.mem_of_getElem? (i := 6) (by decide +kernel))) (by decide +kernel), ⟨by decide +kernel, by decide +kernel⟩, by decide +kernel⟩
theorem eX2_gather : Cond.instanceMethod yX2_gather ∈ sw_W ∧ Cond.selects (yX2_gather).cls yX2_gather yX2_gather ∈ sw_W := ⟨sw_in (List.mem_append_right _ (List.mem_of_getElem? (i := 437) (by decide +kernel))) (by decide +kernel), sw_in (List.mem_append_right _ (List.mem_of_getElem? (i := 438) (by decide +kernel))) (by decide +kernel)⟩
theorem vX7_217 : sw_CV RX7 217 2 mX2_gather := ⟨bX2_gather _ _, sw_in (List.mem_append_right _ (List.mem_of_getElem? (i := 436) (by decide +kernel))) (by decide +kernel), eX2_gather.1, eX2_gather.2⟩
theorem vX2_30 : sw_CV RX2 30 1 mX3_fill := ⟨bX3_fill _ _, sw_in (List.mem_append_right _ (List.mem_of_getElem? (i := 440) (by decide +kernel))) (by decide +kernel), eX3_fill.1, eX3_fill.2⟩
theorem vX2_43 : sw_CV RX2 43 1 mX3_at := ⟨bX3_at _ _, sw_in (List.mem_append_right _ (List.mem_of_getElem? (i := 441) (by decide +kernel))) (by decide +kernel), eX3_at.1, eX3_at.2⟩
theorem bX2_spread (own : String) (idx : Nat) : sw_CB own idx 3 mX2_spread := ⟨by decide, sw_in (List.mem_append_right _ (List.mem_of_getElem? (i := 445) (by decide +kernel))) (by decide +kernel), sw_in (List.mem_append_right _ (List.mem_of_getElem? (i := 6) (by decide +kernel))) (by decide +kernel), ⟨by decide +kernel, by decide +kernel⟩, by decide +kernel⟩
theorem eX2_spread : Cond.instanceMethod yX2_spread ∈ sw_W ∧ Cond.selects (yX2_spread).cls yX2_spread yX2_spread ∈ sw_W := ⟨sw_in (List.mem_append_right _ (List.mem_of_getElem? (i := 444) (by decide +kernel))) (by decide +kernel), sw_in (List.mem_append_left _ (List.mem_of_getElem? (i := 11) (by decide +kernel))) (by decide +kernel)⟩
theorem vX2_47 : sw_CV RX2 47 3 mX2_spread := ⟨bX2_spread _ _, sw_in (List.mem_append_right _ (List.mem_of_getElem? (i := 442) (by decide +kernel))) (by decide +kernel), eX2_spread.1, eX2_spread.2⟩
theorem vX2_51 : sw_CV RX2 51 2 mX3_put := ⟨bX3_put _ _, sw_in (List.mem_append_right _ (List.mem_of_getElem? (i := 446) (by decide +kernel))) (by decide +kernel), eX3_put.1, eX3_put.2⟩
theorem vX2_55 : sw_CV RX2 55 2 mX5_beside := ⟨bX5_beside _ _, sw_in (List.mem_append_right _ (List.mem_of_getElem? (i := 447) (by decide +kernel))) (by decide +kernel), eX5_beside.1, eX5_beside.2⟩
theorem bX4_found (own : String) (idx : Nat) : sw_CB own idx 4 mX4_found := ⟨by decide, sw_in (List.mem_append_right _ (List.mem_of_getElem? (i := 451) (by decide +kernel))) (by decide +kernel), sw_in (List.mem_append_right _ (List.mem_of_getElem? (i := 7) (by decide +kernel))) (by decide +kernel), ⟨by decide +kernel, by decide +kernel⟩, by decide +kernel⟩
theorem eX4_found : Cond.instanceMethod yX4_found ∈ sw_W ∧ Cond.selects (yX4_found).cls yX4_found yX4_found ∈ sw_W := ⟨sw_in (List.mem_append_right _ (List.mem_of_getElem? (i := 449) (by decide +kernel))) (by decide +kernel), sw_in (List.mem_append_right _ (List.mem_of_getElem? (i := 450) (by decide +kernel))) (by decide +kernel)⟩
theorem vX7_221 : sw_CV RX7 221 4 mX4_found := ⟨bX4_found _ _, sw_in (List.mem_append_right _ (List.mem_of_getElem? (i := 448) (by decide +kernel))) (by decide +kernel), eX4_found.1, eX4_found.2⟩
theorem bX4_worthOf (own : String) (idx : Nat) : sw_CB own idx 3 mX4_worthOf := ⟨by decide, sw_in (List.mem_append_right _ (List.mem_of_getElem? (i := 454) (by decide +kernel))) (by decide +kernel), sw_in (List.mem_append_right _ (List.mem_of_getElem? (i := 7) (by decide +kernel))) (by decide +kernel), ⟨by decide +kernel, by decide +kernel⟩, by decide +kernel⟩
theorem eX4_worthOf : Cond.static yX4_worthOf ∈ sw_W := sw_in (List.mem_append_right _ (List.mem_of_getElem? (i := 453) (by decide +kernel))) (by decide +kernel)
theorem vX4_32 : sw_CS RX4 32 3 mX4_worthOf := ⟨bX4_worthOf _ _, sw_in (List.mem_append_right _ (List.mem_of_getElem? (i := 452) (by decide +kernel))) (by decide +kernel), eX4_worthOf⟩
theorem vX4_49 : sw_CV RX4 49 1 mX3_at := ⟨bX3_at _ _, sw_in (List.mem_append_right _ (List.mem_of_getElem? (i := 455) (by decide +kernel))) (by decide +kernel), eX3_at.1, eX3_at.2⟩
theorem vX4_53 : sw_CV RX4 53 2 mX5_beside := ⟨bX5_beside _ _, sw_in (List.mem_append_right _ (List.mem_of_getElem? (i := 456) (by decide +kernel))) (by decide +kernel), eX5_beside.1, eX5_beside.2⟩
theorem vX4_60 : sw_CS RX4 60 2 mJ9_max_7cf53 := ⟨bJ9_max_7cf53 _ _, sw_in (List.mem_append_right _ (List.mem_of_getElem? (i := 457) (by decide +kernel))) (by decide +kernel), eJ9_max_7cf53⟩
theorem vX4_68 : sw_CS RX4 68 2 mJ9_min_7cf53 := ⟨bJ9_min_7cf53 _ _, sw_in (List.mem_append_right _ (List.mem_of_getElem? (i := 458) (by decide +kernel))) (by decide +kernel), eJ9_min_7cf53⟩
theorem vX4_36 : sw_CV RX4 36 2 mX3_put := ⟨bX3_put _ _, sw_in (List.mem_append_right _ (List.mem_of_getElem? (i := 459) (by decide +kernel))) (by decide +kernel), eX3_put.1, eX3_put.2⟩
theorem bX4_bestPlace (own : String) (idx : Nat) : sw_CB own idx 2 mX4_bestPlace := ⟨by decide, sw_in (List.mem_append_right _ (List.mem_of_getElem? (i := 463) (by decide +kernel))) (by decide +kernel), sw_in (List.mem_append_right _ (List.mem_of_getElem? (i := 7) (by decide +kernel))) (by decide +kernel), ⟨by decide +kernel, by decide +kernel⟩, by decide +kernel⟩
theorem eX4_bestPlace : Cond.instanceMethod yX4_bestPlace ∈ sw_W ∧ Cond.selects (yX4_bestPlace).cls yX4_bestPlace yX4_bestPlace ∈ sw_W := ⟨sw_in (List.mem_append_right _ (List.mem_of_getElem? (i := 462) (by decide +kernel))) (by decide +kernel), sw_in (List.mem_append_left _ (List.mem_of_getElem? (i := 12) (by decide +kernel))) (by decide +kernel)⟩
theorem vX4_40 : sw_CV RX4 40 2 mX4_bestPlace := ⟨bX4_bestPlace _ _, sw_in (List.mem_append_right _ (List.mem_of_getElem? (i := 460) (by decide +kernel))) (by decide +kernel), eX4_bestPlace.1, eX4_bestPlace.2⟩
theorem bX4_isFarFromAll (own : String) (idx : Nat) : sw_CB own idx 3 mX4_isFarFromAll := ⟨by decide, sw_in (List.mem_append_right _ (List.mem_of_getElem? (i := 467) (by decide +kernel))) (by decide +kernel), sw_in (List.mem_append_right _ (List.mem_of_getElem? (i := 7) (by decide +kernel))) (by decide +kernel), ⟨by decide +kernel, by decide +kernel⟩, by decide +kernel⟩
theorem eX4_isFarFromAll : Cond.instanceMethod yX4_isFarFromAll ∈ sw_W ∧ Cond.selects (yX4_isFarFromAll).cls yX4_isFarFromAll yX4_isFarFromAll ∈ sw_W := ⟨sw_in (List.mem_append_right _ (List.mem_of_getElem? (i := 466) (by decide +kernel))) (by decide +kernel), sw_in (List.mem_append_left _ (List.mem_of_getElem? (i := 13) (by decide +kernel))) (by decide +kernel)⟩
theorem vX4_71 : sw_CV RX4 71 3 mX4_isFarFromAll := ⟨bX4_isFarFromAll _ _, sw_in (List.mem_append_right _ (List.mem_of_getElem? (i := 464) (by decide +kernel))) (by decide +kernel), eX4_isFarFromAll.1, eX4_isFarFromAll.2⟩
theorem bX5_rowsAndColumnsBetween (own : String) (idx : Nat) : sw_CB own idx 2 mX5_rowsAndColumnsBetween := ⟨by decide, sw_in (List.mem_append_right _ (List.mem_of_getElem? (i := 471) (by decide +kernel))) (by decide +kernel), sw_in (List.mem_append_right _ (List.mem_of_getElem? (i := 2) (by decide +kernel))) (by decide +kernel), ⟨by decide +kernel, by decide +kernel⟩, by decide +kernel⟩
theorem eX5_rowsAndColumnsBetween : Cond.instanceMethod yX5_rowsAndColumnsBetween ∈ sw_W ∧ Cond.selects (yX5_rowsAndColumnsBetween).cls yX5_rowsAndColumnsBetween yX5_rowsAndColumnsBetween ∈ sw_W := ⟨sw_in (List.mem_append_right _ (List.mem_of_getElem? (i := 469) (by decide +kernel))) (by decide +kernel), sw_in (List.mem_append_right _ (List.mem_of_getElem? (i := 470) (by decide +kernel))) (by decide +kernel)⟩
theorem vX4_75 : sw_CV RX4 75 2 mX5_rowsAndColumnsBetween := ⟨bX5_rowsAndColumnsBetween _ _, sw_in (List.mem_append_right _ (List.mem_of_getElem? (i := 468) (by decide +kernel))) (by decide +kernel), eX5_rowsAndColumnsBetween.1, eX5_rowsAndColumnsBetween.2⟩
theorem bJ9_abs_0f7a4 (own : String) (idx : Nat) : sw_CB own idx 1 mJ9_abs_0f7a4 := ⟨by decide, sw_in (List.mem_append_right _ (List.mem_of_getElem? (i := 474) (by decide +kernel))) (by decide +kernel), sw_in (List.mem_append_right _ (List.mem_of_getElem? (i := 4) (by decide +kernel))) (by decide +kernel), ⟨by decide +kernel, by decide +kernel⟩, by decide +kernel⟩
theorem eJ9_abs_0f7a4 : Cond.static yJ9_abs_0f7a4 ∈ sw_W := sw_in (List.mem_append_right _ (List.mem_of_getElem? (i := 473) (by decide +kernel))) (by decide +kernel)
theorem vX5_96 : sw_CS RX5 96 1 mJ9_abs_0f7a4 := ⟨bJ9_abs_0f7a4 _ _, sw_in (List.mem_append_right _ (List.mem_of_getElem? (i := 472) (by decide +kernel))) (by decide +kernel), eJ9_abs_0f7a4⟩
theorem bX1_build (own : String) (idx : Nat) : sw_CB own idx 5 mX1_build := ⟨by decide, sw_in (List.mem_append_right _ (List.mem_of_getElem? (i := 478) (by decide +kernel))) (by decide +kernel), sw_in (List.mem_append_right _ (List.mem_of_getElem? (i := 8) (by decide +kernel))) (by decide +kernel), ⟨by decide +kernel, by decide +kernel⟩, by decide +kernel⟩
theorem eX1_build : Cond.instanceMethod yX1_build ∈ sw_W ∧ Cond.selects (yX1_build).cls yX1_build yX1_build ∈ sw_W := ⟨sw_in (List.mem_append_right _ (List.mem_of_getElem? (i := 476) (by decide +kernel))) (by decide +kernel), sw_in (List.mem_append_right _ (List.mem_of_getElem? (i := 477) (by decide +kernel))) (by decide +kernel)⟩
theorem vX7_225 : sw_CV RX7 225 5 mX1_build := ⟨bX1_build _ _, sw_in (List.mem_append_right _ (List.mem_of_getElem? (i := 475) (by decide +kernel))) (by decide +kernel), eX1_build.1, eX1_build.2⟩
theorem vX1_50 : sw_CV RX1 50 1 mX3_at := ⟨bX3_at _ _, sw_in (List.mem_append_right _ (List.mem_of_getElem? (i := 479) (by decide +kernel))) (by decide +kernel), eX3_at.1, eX3_at.2⟩
theorem bX1_findCosts (own : String) (idx : Nat) : sw_CB own idx 5 mX1_findCosts := ⟨by decide, sw_in (List.mem_append_right _ (List.mem_of_getElem? (i := 483) (by decide +kernel))) (by decide +kernel), sw_in (List.mem_append_right _ (List.mem_of_getElem? (i := 8) (by decide +kernel))) (by decide +kernel), ⟨by decide +kernel, by decide +kernel⟩, by decide +kernel⟩
theorem eX1_findCosts : Cond.instanceMethod yX1_findCosts ∈ sw_W ∧ Cond.selects (yX1_findCosts).cls yX1_findCosts yX1_findCosts ∈ sw_W := ⟨sw_in (List.mem_append_right _ (List.mem_of_getElem? (i := 482) (by decide +kernel))) (by decide +kernel), sw_in (List.mem_append_left _ (List.mem_of_getElem? (i := 14) (by decide +kernel))) (by decide +kernel)⟩
theorem vX1_54 : sw_CV RX1 54 5 mX1_findCosts := ⟨bX1_findCosts _ _, sw_in (List.mem_append_right _ (List.mem_of_getElem? (i := 480) (by decide +kernel))) (by decide +kernel), eX1_findCosts.1, eX1_findCosts.2⟩
theorem vX1_61 : sw_CV RX1 61 2 mX3_put := ⟨bX3_put _ _, sw_in (List.mem_append_right _ (List.mem_of_getElem? (i := 484) (by decide +kernel))) (by decide +kernel), eX3_put.1, eX3_put.2⟩
theorem vX1_78 : sw_CV RX1 78 0 mX0_empty := ⟨bX0_empty _ _, sw_in (List.mem_append_right _ (List.mem_of_getElem? (i := 485) (by decide +kernel))) (by decide +kernel), eX0_empty.1, eX0_empty.2⟩
theorem vX1_83 : sw_CV RX1 83 2 mX0_insert := ⟨bX0_insert _ _, sw_in (List.mem_append_right _ (List.mem_of_getElem? (i := 486) (by decide +kernel))) (by decide +kernel), eX0_insert.1, eX0_insert.2⟩
theorem vX1_86 : sw_CV RX1 86 0 mX0_remove := ⟨bX0_remove _ _, sw_in (List.mem_append_right _ (List.mem_of_getElem? (i := 487) (by decide +kernel))) (by decide +kernel), eX0_remove.1, eX0_remove.2⟩
theorem vX1_90 : sw_CV RX1 90 0 mX0_removedPlace := ⟨bX0_removedPlace _ _, sw_in (List.mem_append_right _ (List.mem_of_getElem? (i := 488) (by decide +kernel))) (by decide +kernel), eX0_removedPlace.1, eX0_removedPlace.2⟩
theorem vX1_94 : sw_CV RX1 94 0 mX0_removedRank := ⟨bX0_removedRank _ _, sw_in (List.mem_append_right _ (List.mem_of_getElem? (i := 489) (by decide +kernel))) (by decide +kernel), eX0_removedRank.1, eX0_removedRank.2⟩
theorem bX1_spreadCosts (own : String) (idx : Nat) : sw_CB own idx 5 mX1_spreadCosts := ⟨by decide, sw_in (List.mem_append_right _ (List.mem_of_getElem? (i := 493) (by decide +kernel))) (by decide +kernel), sw_in (List.mem_append_right _ (List.mem_of_getElem? (i := 8) (by decide +kernel))) (by decide +kernel), ⟨by decide +kernel, by decide +kernel⟩, by decide +kernel⟩
theorem eX1_spreadCosts : Cond.instanceMethod yX1_spreadCosts ∈ sw_W ∧ Cond.selects (yX1_spreadCosts).cls yX1_spreadCosts yX1_spreadCosts ∈ sw_W := ⟨sw_in (List.mem_append_right _ (List.mem_of_getElem? (i := 492) (by decide +kernel))) (by decide +kernel), sw_in (List.mem_append_left _ (List.mem_of_getElem? (i := 15) (by decide +kernel))) (by decide +kernel)⟩
theorem vX1_97 : sw_CV RX1 97 5 mX1_spreadCosts := ⟨bX1_spreadCosts _ _, sw_in (List.mem_append_right _ (List.mem_of_getElem? (i := 490) (by decide +kernel))) (by decide +kernel), eX1_spreadCosts.1, eX1_spreadCosts.2⟩
theorem vX1_100 : sw_CV RX1 100 2 mX5_beside := ⟨bX5_beside _ _, sw_in (List.mem_append_right _ (List.mem_of_getElem? (i := 494) (by decide +kernel))) (by decide +kernel), eX5_beside.1, eX5_beside.2⟩
theorem bX6_isPassable (own : String) (idx : Nat) : sw_CB own idx 1 mX6_isPassable := ⟨by decide, sw_in (List.mem_append_right _ (List.mem_of_getElem? (i := 498) (by decide +kernel))) (by decide +kernel), sw_in (List.mem_append_right _ (List.mem_of_getElem? (i := 5) (by decide +kernel))) (by decide +kernel), ⟨by decide +kernel, by decide +kernel⟩, by decide +kernel⟩
theorem eX6_isPassable : Cond.instanceMethod yX6_isPassable ∈ sw_W ∧ Cond.selects (yX6_isPassable).cls yX6_isPassable yX6_isPassable ∈ sw_W := ⟨sw_in (List.mem_append_right _ (List.mem_of_getElem? (i := 496) (by decide +kernel))) (by decide +kernel), sw_in (List.mem_append_right _ (List.mem_of_getElem? (i := 497) (by decide +kernel))) (by decide +kernel)⟩
theorem vX1_104 : sw_CV RX1 104 1 mX6_isPassable := ⟨bX6_isPassable _ _, sw_in (List.mem_append_right _ (List.mem_of_getElem? (i := 495) (by decide +kernel))) (by decide +kernel), eX6_isPassable.1, eX6_isPassable.2⟩
theorem bX1_stepCost (own : String) (idx : Nat) : sw_CB own idx 4 mX1_stepCost := ⟨by decide, sw_in (List.mem_append_right _ (List.mem_of_getElem? (i := 502) (by decide +kernel))) (by decide +kernel), sw_in (List.mem_append_right _ (List.mem_of_getElem? (i := 8) (by decide +kernel))) (by decide +kernel), ⟨by decide +kernel, by decide +kernel⟩, by decide +kernel⟩
theorem eX1_stepCost : Cond.instanceMethod yX1_stepCost ∈ sw_W ∧ Cond.selects (yX1_stepCost).cls yX1_stepCost yX1_stepCost ∈ sw_W := ⟨sw_in (List.mem_append_right _ (List.mem_of_getElem? (i := 501) (by decide +kernel))) (by decide +kernel), sw_in (List.mem_append_left _ (List.mem_of_getElem? (i := 16) (by decide +kernel))) (by decide +kernel)⟩
theorem vX1_110 : sw_CV RX1 110 4 mX1_stepCost := ⟨bX1_stepCost _ _, sw_in (List.mem_append_right _ (List.mem_of_getElem? (i := 499) (by decide +kernel))) (by decide +kernel), eX1_stepCost.1, eX1_stepCost.2⟩
theorem vX1_120 : sw_CS RX1 120 1 mJ9_abs_0f7a4 := ⟨bJ9_abs_0f7a4 _ _, sw_in (List.mem_append_right _ (List.mem_of_getElem? (i := 503) (by decide +kernel))) (by decide +kernel), eJ9_abs_0f7a4⟩
theorem vX1_58 : sw_CV RX1 58 1 mX3_fill := ⟨bX3_fill _ _, sw_in (List.mem_append_right _ (List.mem_of_getElem? (i := 504) (by decide +kernel))) (by decide +kernel), eX3_fill.1, eX3_fill.2⟩
theorem bX1_joinCheapest (own : String) (idx : Nat) : sw_CB own idx 1 mX1_joinCheapest := ⟨by decide, sw_in (List.mem_append_right _ (List.mem_of_getElem? (i := 508) (by decide +kernel))) (by decide +kernel), sw_in (List.mem_append_right _ (List.mem_of_getElem? (i := 8) (by decide +kernel))) (by decide +kernel), ⟨by decide +kernel, by decide +kernel⟩, by decide +kernel⟩
theorem eX1_joinCheapest : Cond.instanceMethod yX1_joinCheapest ∈ sw_W ∧ Cond.selects (yX1_joinCheapest).cls yX1_joinCheapest yX1_joinCheapest ∈ sw_W := ⟨sw_in (List.mem_append_right _ (List.mem_of_getElem? (i := 507) (by decide +kernel))) (by decide +kernel), sw_in (List.mem_append_left _ (List.mem_of_getElem? (i := 17) (by decide +kernel))) (by decide +kernel)⟩
theorem vX1_65 : sw_CV RX1 65 1 mX1_joinCheapest := ⟨bX1_joinCheapest _ _, sw_in (List.mem_append_right _ (List.mem_of_getElem? (i := 505) (by decide +kernel))) (by decide +kernel), eX1_joinCheapest.1, eX1_joinCheapest.2⟩
theorem bX1_costOf (own : String) (idx : Nat) : sw_CB own idx 2 mX1_costOf := ⟨by decide, sw_in (List.mem_append_right _ (List.mem_of_getElem? (i := 513) (by decide +kernel))) (by decide +kernel), sw_in (List.mem_append_right _ (List.mem_of_getElem? (i := 8) (by decide +kernel))) (by decide +kernel), ⟨by decide +kernel, by decide +kernel⟩, by decide +kernel⟩
theorem eX1_costOf : Cond.instanceMethod yX1_costOf ∈ sw_W ∧ Cond.selects (yX1_costOf).cls yX1_costOf yX1_costOf ∈ sw_W := ⟨sw_in (List.mem_append_right _ (List.mem_of_getElem? (i := 511) (by decide +kernel))) (by decide +kernel), sw_in (List.mem_append_right _ (List.mem_of_getElem? (i := 512) (by decide +kernel))) (by decide +kernel)⟩
theorem vX1_125 : sw_CV RX1 125 2 mX1_costOf := ⟨bX1_costOf _ _, sw_in (List.mem_append_right _ (List.mem_of_getElem? (i := 510) (by decide +kernel))) (by decide +kernel), eX1_costOf.1, eX1_costOf.2⟩
theorem bX1_layRoad (own : String) (idx : Nat) : sw_CB own idx 4 mX1_layRoad := ⟨by decide, sw_in (List.mem_append_right _ (List.mem_of_getElem? (i := 517) (by decide +kernel))) (by decide +kernel), sw_in (List.mem_append_right _ (List.mem_of_getElem? (i := 8) (by decide +kernel))) (by decide +kernel), ⟨by decide +kernel, by decide +kernel⟩, by decide +kernel⟩
theorem eX1_layRoad : Cond.instanceMethod yX1_layRoad ∈ sw_W ∧ Cond.selects (yX1_layRoad).cls yX1_layRoad yX1_layRoad ∈ sw_W := ⟨sw_in (List.mem_append_right _ (List.mem_of_getElem? (i := 516) (by decide +kernel))) (by decide +kernel), sw_in (List.mem_append_left _ (List.mem_of_getElem? (i := 18) (by decide +kernel))) (by decide +kernel)⟩
theorem vX1_69 : sw_CV RX1 69 4 mX1_layRoad := ⟨bX1_layRoad _ _, sw_in (List.mem_append_right _ (List.mem_of_getElem? (i := 514) (by decide +kernel))) (by decide +kernel), eX1_layRoad.1, eX1_layRoad.2⟩
theorem vX1_134 : sw_CV RX1 134 2 mX3_add := ⟨bX3_add _ _, sw_in (List.mem_append_right _ (List.mem_of_getElem? (i := 518) (by decide +kernel))) (by decide +kernel), eX3_add.1, eX3_add.2⟩
theorem bX1_nextPlace (own : String) (idx : Nat) : sw_CB own idx 4 mX1_nextPlace := ⟨by decide, sw_in (List.mem_append_right _ (List.mem_of_getElem? (i := 522) (by decide +kernel))) (by decide +kernel), sw_in (List.mem_append_right _ (List.mem_of_getElem? (i := 8) (by decide +kernel))) (by decide +kernel), ⟨by decide +kernel, by decide +kernel⟩, by decide +kernel⟩
theorem eX1_nextPlace : Cond.instanceMethod yX1_nextPlace ∈ sw_W ∧ Cond.selects (yX1_nextPlace).cls yX1_nextPlace yX1_nextPlace ∈ sw_W := ⟨sw_in (List.mem_append_right _ (List.mem_of_getElem? (i := 521) (by decide +kernel))) (by decide +kernel), sw_in (List.mem_append_left _ (List.mem_of_getElem? (i := 19) (by decide +kernel))) (by decide +kernel)⟩
theorem vX1_128 : sw_CV RX1 128 4 mX1_nextPlace := ⟨bX1_nextPlace _ _, sw_in (List.mem_append_right _ (List.mem_of_getElem? (i := 519) (by decide +kernel))) (by decide +kernel), eX1_nextPlace.1, eX1_nextPlace.2⟩
theorem vX7_229 : sw_CS RX7 229 2 mJ9_max_7cf53 := ⟨bJ9_max_7cf53 _ _, sw_in (List.mem_append_right _ (List.mem_of_getElem? (i := 523) (by decide +kernel))) (by decide +kernel), eJ9_max_7cf53⟩
theorem bX5_addChange (own : String) (idx : Nat) : sw_CB own idx 2 mX5_addChange := ⟨by decide, sw_in (List.mem_append_right _ (List.mem_of_getElem? (i := 527) (by decide +kernel))) (by decide +kernel), sw_in (List.mem_append_right _ (List.mem_of_getElem? (i := 2) (by decide +kernel))) (by decide +kernel), ⟨by decide +kernel, by decide +kernel⟩, by decide +kernel⟩
theorem eX5_addChange : Cond.instanceMethod yX5_addChange ∈ sw_W ∧ Cond.selects (yX5_addChange).cls yX5_addChange yX5_addChange ∈ sw_W := ⟨sw_in (List.mem_append_right _ (List.mem_of_getElem? (i := 525) (by decide +kernel))) (by decide +kernel), sw_in (List.mem_append_right _ (List.mem_of_getElem? (i := 526) (by decide +kernel))) (by decide +kernel)⟩
theorem vX7_113 : sw_CV RX7 113 2 mX5_addChange := ⟨bX5_addChange _ _, sw_in (List.mem_append_right _ (List.mem_of_getElem? (i := 524) (by decide +kernel))) (by decide +kernel), eX5_addChange.1, eX5_addChange.2⟩
theorem bX7_stageAhead (own : String) (idx : Nat) : sw_CB own idx 1 mX7_stageAhead := ⟨by decide, sw_in (List.mem_append_right _ (List.mem_of_getElem? (i := 546) (by decide +kernel))) (by decide +kernel), sw_in (List.mem_append_right _ (List.mem_of_getElem? (i := 1) (by decide +kernel))) (by decide +kernel), ⟨by decide +kernel, by decide +kernel⟩, by decide +kernel⟩
theorem eX7_stageAhead : Cond.static yX7_stageAhead ∈ sw_W := sw_in (List.mem_append_right _ (List.mem_of_getElem? (i := 545) (by decide +kernel))) (by decide +kernel)
theorem vX7_135 : sw_CS RX7 135 1 mX7_stageAhead := ⟨bX7_stageAhead _ _, sw_in (List.mem_append_right _ (List.mem_of_getElem? (i := 544) (by decide +kernel))) (by decide +kernel), eX7_stageAhead⟩
theorem bX7_signsOf (own : String) (idx : Nat) : sw_CB own idx 1 mX7_signsOf := ⟨by decide, sw_in (List.mem_append_right _ (List.mem_of_getElem? (i := 558) (by decide +kernel))) (by decide +kernel), sw_in (List.mem_append_right _ (List.mem_of_getElem? (i := 1) (by decide +kernel))) (by decide +kernel), ⟨by decide +kernel, by decide +kernel⟩, by decide +kernel⟩
theorem eX7_signsOf : Cond.instanceMethod yX7_signsOf ∈ sw_W ∧ Cond.selects (yX7_signsOf).cls yX7_signsOf yX7_signsOf ∈ sw_W := ⟨sw_in (List.mem_append_right _ (List.mem_of_getElem? (i := 557) (by decide +kernel))) (by decide +kernel), sw_in (List.mem_append_left _ (List.mem_of_getElem? (i := 20) (by decide +kernel))) (by decide +kernel)⟩
theorem vX7_159 : sw_CV RX7 159 1 mX7_signsOf := ⟨bX7_signsOf _ _, sw_in (List.mem_append_right _ (List.mem_of_getElem? (i := 555) (by decide +kernel))) (by decide +kernel), eX7_signsOf.1, eX7_signsOf.2⟩
theorem bX4_isAt (own : String) (idx : Nat) : sw_CB own idx 1 mX4_isAt := ⟨by decide, sw_in (List.mem_append_right _ (List.mem_of_getElem? (i := 562) (by decide +kernel))) (by decide +kernel), sw_in (List.mem_append_right _ (List.mem_of_getElem? (i := 7) (by decide +kernel))) (by decide +kernel), ⟨by decide +kernel, by decide +kernel⟩, by decide +kernel⟩
theorem eX4_isAt : Cond.instanceMethod yX4_isAt ∈ sw_W ∧ Cond.selects (yX4_isAt).cls yX4_isAt yX4_isAt ∈ sw_W := ⟨sw_in (List.mem_append_right _ (List.mem_of_getElem? (i := 560) (by decide +kernel))) (by decide +kernel), sw_in (List.mem_append_right _ (List.mem_of_getElem? (i := 561) (by decide +kernel))) (by decide +kernel)⟩
theorem vX7_235 : sw_CV RX7 235 1 mX4_isAt := ⟨bX4_isAt _ _, sw_in (List.mem_append_right _ (List.mem_of_getElem? (i := 559) (by decide +kernel))) (by decide +kernel), eX4_isAt.1, eX4_isAt.2⟩
theorem bJ6_bitCount_0f7a4 (own : String) (idx : Nat) : sw_CB own idx 1 mJ6_bitCount_0f7a4 := ⟨by decide, sw_in (List.mem_append_right _ (List.mem_of_getElem? (i := 569) (by decide +kernel))) (by decide +kernel), sw_in (List.mem_append_right _ (List.mem_of_getElem? (i := 12) (by decide +kernel))) (by decide +kernel), ⟨by decide +kernel, by decide +kernel⟩, by decide +kernel⟩
theorem eJ6_bitCount_0f7a4 : Cond.static yJ6_bitCount_0f7a4 ∈ sw_W := sw_in (List.mem_append_right _ (List.mem_of_getElem? (i := 568) (by decide +kernel))) (by decide +kernel)
theorem vX7_162 : sw_CS RX7 162 1 mJ6_bitCount_0f7a4 := ⟨bJ6_bitCount_0f7a4 _ _, sw_in (List.mem_append_right _ (List.mem_of_getElem? (i := 567) (by decide +kernel))) (by decide +kernel), eJ6_bitCount_0f7a4⟩
theorem bX2_placesAt (own : String) (idx : Nat) : sw_CB own idx 1 mX2_placesAt := ⟨by decide, sw_in (List.mem_append_right _ (List.mem_of_getElem? (i := 584) (by decide +kernel))) (by decide +kernel), sw_in (List.mem_append_right _ (List.mem_of_getElem? (i := 6) (by decide +kernel))) (by decide +kernel), ⟨by decide +kernel, by decide +kernel⟩, by decide +kernel⟩
theorem eX2_placesAt : Cond.instanceMethod yX2_placesAt ∈ sw_W ∧ Cond.selects (yX2_placesAt).cls yX2_placesAt yX2_placesAt ∈ sw_W := ⟨sw_in (List.mem_append_right _ (List.mem_of_getElem? (i := 582) (by decide +kernel))) (by decide +kernel), sw_in (List.mem_append_right _ (List.mem_of_getElem? (i := 583) (by decide +kernel))) (by decide +kernel)⟩
theorem vX7_170 : sw_CV RX7 170 1 mX2_placesAt := ⟨bX2_placesAt _ _, sw_in (List.mem_append_right _ (List.mem_of_getElem? (i := 581) (by decide +kernel))) (by decide +kernel), eX2_placesAt.1, eX2_placesAt.2⟩
theorem bX7_isTown (own : String) (idx : Nat) : sw_CB own idx 1 mX7_isTown := ⟨by decide, sw_in (List.mem_append_right _ (List.mem_of_getElem? (i := 596) (by decide +kernel))) (by decide +kernel), sw_in (List.mem_append_right _ (List.mem_of_getElem? (i := 1) (by decide +kernel))) (by decide +kernel), ⟨by decide +kernel, by decide +kernel⟩, by decide +kernel⟩
theorem eX7_isTown : Cond.instanceMethod yX7_isTown ∈ sw_W ∧ Cond.selects (yX7_isTown).cls yX7_isTown yX7_isTown ∈ sw_W := ⟨sw_in (List.mem_append_right _ (List.mem_of_getElem? (i := 595) (by decide +kernel))) (by decide +kernel), sw_in (List.mem_append_left _ (List.mem_of_getElem? (i := 21) (by decide +kernel))) (by decide +kernel)⟩
theorem vX7_174 : sw_CV RX7 174 1 mX7_isTown := ⟨bX7_isTown _ _, sw_in (List.mem_append_right _ (List.mem_of_getElem? (i := 593) (by decide +kernel))) (by decide +kernel), eX7_isTown.1, eX7_isTown.2⟩
theorem vX7_180 : sw_CV RX7 180 2 mX1_costOf := ⟨bX1_costOf _ _, sw_in (List.mem_append_right _ (List.mem_of_getElem? (i := 601) (by decide +kernel))) (by decide +kernel), eX1_costOf.1, eX1_costOf.2⟩
theorem bX1_placeOfWay (own : String) (idx : Nat) : sw_CB own idx 5 mX1_placeOfWay := ⟨by decide, sw_in (List.mem_append_right _ (List.mem_of_getElem? (i := 609) (by decide +kernel))) (by decide +kernel), sw_in (List.mem_append_right _ (List.mem_of_getElem? (i := 8) (by decide +kernel))) (by decide +kernel), ⟨by decide +kernel, by decide +kernel⟩, by decide +kernel⟩
theorem eX1_placeOfWay : Cond.instanceMethod yX1_placeOfWay ∈ sw_W ∧ Cond.selects (yX1_placeOfWay).cls yX1_placeOfWay yX1_placeOfWay ∈ sw_W := ⟨sw_in (List.mem_append_right _ (List.mem_of_getElem? (i := 607) (by decide +kernel))) (by decide +kernel), sw_in (List.mem_append_right _ (List.mem_of_getElem? (i := 608) (by decide +kernel))) (by decide +kernel)⟩
theorem vX7_183 : sw_CV RX7 183 5 mX1_placeOfWay := ⟨bX1_placeOfWay _ _, sw_in (List.mem_append_right _ (List.mem_of_getElem? (i := 606) (by decide +kernel))) (by decide +kernel), eX1_placeOfWay.1, eX1_placeOfWay.2⟩
theorem bX1_endOfRoad (own : String) (idx : Nat) : sw_CB own idx 1 mX1_endOfRoad := ⟨by decide, sw_in (List.mem_append_right _ (List.mem_of_getElem? (i := 617) (by decide +kernel))) (by decide +kernel), sw_in (List.mem_append_right _ (List.mem_of_getElem? (i := 8) (by decide +kernel))) (by decide +kernel), ⟨by decide +kernel, by decide +kernel⟩, by decide +kernel⟩
theorem eX1_endOfRoad : Cond.instanceMethod yX1_endOfRoad ∈ sw_W ∧ Cond.selects (yX1_endOfRoad).cls yX1_endOfRoad yX1_endOfRoad ∈ sw_W := ⟨sw_in (List.mem_append_right _ (List.mem_of_getElem? (i := 615) (by decide +kernel))) (by decide +kernel), sw_in (List.mem_append_right _ (List.mem_of_getElem? (i := 616) (by decide +kernel))) (by decide +kernel)⟩
theorem vX7_196 : sw_CV RX7 196 1 mX1_endOfRoad := ⟨bX1_endOfRoad _ _, sw_in (List.mem_append_right _ (List.mem_of_getElem? (i := 614) (by decide +kernel))) (by decide +kernel), eX1_endOfRoad.1, eX1_endOfRoad.2⟩
theorem bX8_in (own : String) (idx : Nat) : sw_CB own idx 3 mX8_in := ⟨by decide, sw_in (List.mem_append_right _ (List.mem_of_getElem? (i := 735) (by decide +kernel))) (by decide +kernel), sw_in (List.mem_append_right _ (List.mem_of_getElem? (i := 10) (by decide +kernel))) (by decide +kernel), ⟨by decide +kernel, by decide +kernel⟩, by decide +kernel⟩
theorem eX8_in : Cond.static yX8_in ∈ sw_W := sw_in (List.mem_append_right _ (List.mem_of_getElem? (i := 734) (by decide +kernel))) (by decide +kernel)
theorem vX8_69 : sw_CS RX8 69 3 mX8_in := ⟨bX8_in _ _, sw_in (List.mem_append_right _ (List.mem_of_getElem? (i := 733) (by decide +kernel))) (by decide +kernel), eX8_in⟩
theorem bX8_groundAt (own : String) (idx : Nat) : sw_CB own idx 2 mX8_groundAt := ⟨by decide, sw_in (List.mem_append_right _ (List.mem_of_getElem? (i := 739) (by decide +kernel))) (by decide +kernel), sw_in (List.mem_append_right _ (List.mem_of_getElem? (i := 10) (by decide +kernel))) (by decide +kernel), ⟨by decide +kernel, by decide +kernel⟩, by decide +kernel⟩
theorem eX8_groundAt : Cond.instanceMethod yX8_groundAt ∈ sw_W ∧ Cond.selects (yX8_groundAt).cls yX8_groundAt yX8_groundAt ∈ sw_W := ⟨sw_in (List.mem_append_right _ (List.mem_of_getElem? (i := 738) (by decide +kernel))) (by decide +kernel), sw_in (List.mem_append_left _ (List.mem_of_getElem? (i := 22) (by decide +kernel))) (by decide +kernel)⟩
theorem vX8_93 : sw_CV RX8 93 2 mX8_groundAt := ⟨bX8_groundAt _ _, sw_in (List.mem_append_right _ (List.mem_of_getElem? (i := 736) (by decide +kernel))) (by decide +kernel), eX8_groundAt.1, eX8_groundAt.2⟩
theorem bX8_layer (own : String) (idx : Nat) : sw_CB own idx 3 mX8_layer := ⟨by decide, sw_in (List.mem_append_right _ (List.mem_of_getElem? (i := 743) (by decide +kernel))) (by decide +kernel), sw_in (List.mem_append_right _ (List.mem_of_getElem? (i := 10) (by decide +kernel))) (by decide +kernel), ⟨by decide +kernel, by decide +kernel⟩, by decide +kernel⟩
theorem eX8_layer : Cond.instanceMethod yX8_layer ∈ sw_W ∧ Cond.selects (yX8_layer).cls yX8_layer yX8_layer ∈ sw_W := ⟨sw_in (List.mem_append_right _ (List.mem_of_getElem? (i := 742) (by decide +kernel))) (by decide +kernel), sw_in (List.mem_append_left _ (List.mem_of_getElem? (i := 23) (by decide +kernel))) (by decide +kernel)⟩
theorem vX8_89 : sw_CV RX8 89 3 mX8_layer := ⟨bX8_layer _ _, sw_in (List.mem_append_right _ (List.mem_of_getElem? (i := 740) (by decide +kernel))) (by decide +kernel), eX8_layer.1, eX8_layer.2⟩
theorem bX8_corner (own : String) (idx : Nat) : sw_CB own idx 3 mX8_corner := ⟨by decide, sw_in (List.mem_append_right _ (List.mem_of_getElem? (i := 747) (by decide +kernel))) (by decide +kernel), sw_in (List.mem_append_right _ (List.mem_of_getElem? (i := 10) (by decide +kernel))) (by decide +kernel), ⟨by decide +kernel, by decide +kernel⟩, by decide +kernel⟩
theorem eX8_corner : Cond.instanceMethod yX8_corner ∈ sw_W ∧ Cond.selects (yX8_corner).cls yX8_corner yX8_corner ∈ sw_W := ⟨sw_in (List.mem_append_right _ (List.mem_of_getElem? (i := 746) (by decide +kernel))) (by decide +kernel), sw_in (List.mem_append_left _ (List.mem_of_getElem? (i := 24) (by decide +kernel))) (by decide +kernel)⟩
theorem vX8_85 : sw_CV RX8 85 3 mX8_corner := ⟨bX8_corner _ _, sw_in (List.mem_append_right _ (List.mem_of_getElem? (i := 744) (by decide +kernel))) (by decide +kernel), eX8_corner.1, eX8_corner.2⟩
theorem bX8_isPlace (own : String) (idx : Nat) : sw_CB own idx 1 mX8_isPlace := ⟨by decide, sw_in (List.mem_append_right _ (List.mem_of_getElem? (i := 769) (by decide +kernel))) (by decide +kernel), sw_in (List.mem_append_right _ (List.mem_of_getElem? (i := 10) (by decide +kernel))) (by decide +kernel), ⟨by decide +kernel, by decide +kernel⟩, by decide +kernel⟩
theorem eX8_isPlace : Cond.instanceMethod yX8_isPlace ∈ sw_W ∧ Cond.selects (yX8_isPlace).cls yX8_isPlace yX8_isPlace ∈ sw_W := ⟨sw_in (List.mem_append_right _ (List.mem_of_getElem? (i := 768) (by decide +kernel))) (by decide +kernel), sw_in (List.mem_append_left _ (List.mem_of_getElem? (i := 25) (by decide +kernel))) (by decide +kernel)⟩
theorem vX8_104 : sw_CV RX8 104 1 mX8_isPlace := ⟨bX8_isPlace _ _, sw_in (List.mem_append_right _ (List.mem_of_getElem? (i := 766) (by decide +kernel))) (by decide +kernel), eX8_isPlace.1, eX8_isPlace.2⟩
theorem bX8_lay (own : String) (idx : Nat) : sw_CB own idx 0 mX8_lay := ⟨by decide, sw_in (List.mem_append_right _ (List.mem_of_getElem? (i := 789) (by decide +kernel))) (by decide +kernel), sw_in (List.mem_append_right _ (List.mem_of_getElem? (i := 10) (by decide +kernel))) (by decide +kernel), ⟨by decide +kernel, by decide +kernel⟩, by decide +kernel⟩
theorem eX8_lay : Cond.instanceMethod yX8_lay ∈ sw_W ∧ Cond.selects (yX8_lay).cls yX8_lay yX8_lay ∈ sw_W := ⟨sw_in (List.mem_append_right _ (List.mem_of_getElem? (i := 788) (by decide +kernel))) (by decide +kernel), sw_in (List.mem_append_left _ (List.mem_of_getElem? (i := 26) (by decide +kernel))) (by decide +kernel)⟩
theorem vX8_177 : sw_CV RX8 177 0 mX8_lay := ⟨bX8_lay _ _, sw_in (List.mem_append_right _ (List.mem_of_getElem? (i := 786) (by decide +kernel))) (by decide +kernel), eX8_lay.1, eX8_lay.2⟩
theorem bX8_layWater (own : String) (idx : Nat) : sw_CB own idx 0 mX8_layWater := ⟨by decide, sw_in (List.mem_append_right _ (List.mem_of_getElem? (i := 793) (by decide +kernel))) (by decide +kernel), sw_in (List.mem_append_right _ (List.mem_of_getElem? (i := 10) (by decide +kernel))) (by decide +kernel), ⟨by decide +kernel, by decide +kernel⟩, by decide +kernel⟩
theorem eX8_layWater : Cond.instanceMethod yX8_layWater ∈ sw_W ∧ Cond.selects (yX8_layWater).cls yX8_layWater yX8_layWater ∈ sw_W := ⟨sw_in (List.mem_append_right _ (List.mem_of_getElem? (i := 792) (by decide +kernel))) (by decide +kernel), sw_in (List.mem_append_left _ (List.mem_of_getElem? (i := 27) (by decide +kernel))) (by decide +kernel)⟩
theorem vX8_168 : sw_CV RX8 168 0 mX8_layWater := ⟨bX8_layWater _ _, sw_in (List.mem_append_right _ (List.mem_of_getElem? (i := 790) (by decide +kernel))) (by decide +kernel), eX8_layWater.1, eX8_layWater.2⟩
theorem bX8_isSea (own : String) (idx : Nat) : sw_CB own idx 1 mX8_isSea := ⟨by decide, sw_in (List.mem_append_right _ (List.mem_of_getElem? (i := 797) (by decide +kernel))) (by decide +kernel), sw_in (List.mem_append_right _ (List.mem_of_getElem? (i := 10) (by decide +kernel))) (by decide +kernel), ⟨by decide +kernel, by decide +kernel⟩, by decide +kernel⟩
theorem eX8_isSea : Cond.instanceMethod yX8_isSea ∈ sw_W ∧ Cond.selects (yX8_isSea).cls yX8_isSea yX8_isSea ∈ sw_W := ⟨sw_in (List.mem_append_right _ (List.mem_of_getElem? (i := 796) (by decide +kernel))) (by decide +kernel), sw_in (List.mem_append_left _ (List.mem_of_getElem? (i := 28) (by decide +kernel))) (by decide +kernel)⟩
theorem vX8_117 : sw_CV RX8 117 1 mX8_isSea := ⟨bX8_isSea _ _, sw_in (List.mem_append_right _ (List.mem_of_getElem? (i := 794) (by decide +kernel))) (by decide +kernel), eX8_isSea.1, eX8_isSea.2⟩
theorem bX8_isRim (own : String) (idx : Nat) : sw_CB own idx 1 mX8_isRim := ⟨by decide, sw_in (List.mem_append_right _ (List.mem_of_getElem? (i := 801) (by decide +kernel))) (by decide +kernel), sw_in (List.mem_append_right _ (List.mem_of_getElem? (i := 10) (by decide +kernel))) (by decide +kernel), ⟨by decide +kernel, by decide +kernel⟩, by decide +kernel⟩
theorem eX8_isRim : Cond.instanceMethod yX8_isRim ∈ sw_W ∧ Cond.selects (yX8_isRim).cls yX8_isRim yX8_isRim ∈ sw_W := ⟨sw_in (List.mem_append_right _ (List.mem_of_getElem? (i := 800) (by decide +kernel))) (by decide +kernel), sw_in (List.mem_append_left _ (List.mem_of_getElem? (i := 29) (by decide +kernel))) (by decide +kernel)⟩
theorem vX8_120 : sw_CV RX8 120 1 mX8_isRim := ⟨bX8_isRim _ _, sw_in (List.mem_append_right _ (List.mem_of_getElem? (i := 798) (by decide +kernel))) (by decide +kernel), eX8_isRim.1, eX8_isRim.2⟩
theorem bX8_take (own : String) (idx : Nat) : sw_CB own idx 3 mX8_take := ⟨by decide, sw_in (List.mem_append_right _ (List.mem_of_getElem? (i := 805) (by decide +kernel))) (by decide +kernel), sw_in (List.mem_append_right _ (List.mem_of_getElem? (i := 10) (by decide +kernel))) (by decide +kernel), ⟨by decide +kernel, by decide +kernel⟩, by decide +kernel⟩
theorem eX8_take : Cond.instanceMethod yX8_take ∈ sw_W ∧ Cond.selects (yX8_take).cls yX8_take yX8_take ∈ sw_W := ⟨sw_in (List.mem_append_right _ (List.mem_of_getElem? (i := 804) (by decide +kernel))) (by decide +kernel), sw_in (List.mem_append_left _ (List.mem_of_getElem? (i := 30) (by decide +kernel))) (by decide +kernel)⟩
theorem vX8_123 : sw_CV RX8 123 3 mX8_take := ⟨bX8_take _ _, sw_in (List.mem_append_right _ (List.mem_of_getElem? (i := 802) (by decide +kernel))) (by decide +kernel), eX8_take.1, eX8_take.2⟩
theorem bX8_lowest (own : String) (idx : Nat) : sw_CB own idx 1 mX8_lowest := ⟨by decide, sw_in (List.mem_append_right _ (List.mem_of_getElem? (i := 809) (by decide +kernel))) (by decide +kernel), sw_in (List.mem_append_right _ (List.mem_of_getElem? (i := 10) (by decide +kernel))) (by decide +kernel), ⟨by decide +kernel, by decide +kernel⟩, by decide +kernel⟩
theorem eX8_lowest : Cond.instanceMethod yX8_lowest ∈ sw_W ∧ Cond.selects (yX8_lowest).cls yX8_lowest yX8_lowest ∈ sw_W := ⟨sw_in (List.mem_append_right _ (List.mem_of_getElem? (i := 808) (by decide +kernel))) (by decide +kernel), sw_in (List.mem_append_left _ (List.mem_of_getElem? (i := 31) (by decide +kernel))) (by decide +kernel)⟩
theorem vX8_127 : sw_CV RX8 127 1 mX8_lowest := ⟨bX8_lowest _ _, sw_in (List.mem_append_right _ (List.mem_of_getElem? (i := 806) (by decide +kernel))) (by decide +kernel), eX8_lowest.1, eX8_lowest.2⟩
theorem bX8_beside (own : String) (idx : Nat) : sw_CB own idx 2 mX8_beside := ⟨by decide, sw_in (List.mem_append_right _ (List.mem_of_getElem? (i := 813) (by decide +kernel))) (by decide +kernel), sw_in (List.mem_append_right _ (List.mem_of_getElem? (i := 10) (by decide +kernel))) (by decide +kernel), ⟨by decide +kernel, by decide +kernel⟩, by decide +kernel⟩
theorem eX8_beside : Cond.instanceMethod yX8_beside ∈ sw_W ∧ Cond.selects (yX8_beside).cls yX8_beside yX8_beside ∈ sw_W := ⟨sw_in (List.mem_append_right _ (List.mem_of_getElem? (i := 812) (by decide +kernel))) (by decide +kernel), sw_in (List.mem_append_left _ (List.mem_of_getElem? (i := 32) (by decide +kernel))) (by decide +kernel)⟩
theorem vX8_114 : sw_CV RX8 114 2 mX8_beside := ⟨bX8_beside _ _, sw_in (List.mem_append_right _ (List.mem_of_getElem? (i := 810) (by decide +kernel))) (by decide +kernel), eX8_beside.1, eX8_beside.2⟩
theorem bX8_water (own : String) (idx : Nat) : sw_CB own idx 2 mX8_water := ⟨by decide, sw_in (List.mem_append_right _ (List.mem_of_getElem? (i := 817) (by decide +kernel))) (by decide +kernel), sw_in (List.mem_append_right _ (List.mem_of_getElem? (i := 10) (by decide +kernel))) (by decide +kernel), ⟨by decide +kernel, by decide +kernel⟩, by decide +kernel⟩
theorem eX8_water : Cond.instanceMethod yX8_water ∈ sw_W ∧ Cond.selects (yX8_water).cls yX8_water yX8_water ∈ sw_W := ⟨sw_in (List.mem_append_right _ (List.mem_of_getElem? (i := 816) (by decide +kernel))) (by decide +kernel), sw_in (List.mem_append_left _ (List.mem_of_getElem? (i := 33) (by decide +kernel))) (by decide +kernel)⟩
theorem vX8_131 : sw_CV RX8 131 2 mX8_water := ⟨bX8_water _ _, sw_in (List.mem_append_right _ (List.mem_of_getElem? (i := 814) (by decide +kernel))) (by decide +kernel), eX8_water.1, eX8_water.2⟩
theorem bX8_layTowns (own : String) (idx : Nat) : sw_CB own idx 0 mX8_layTowns := ⟨by decide, sw_in (List.mem_append_right _ (List.mem_of_getElem? (i := 821) (by decide +kernel))) (by decide +kernel), sw_in (List.mem_append_right _ (List.mem_of_getElem? (i := 10) (by decide +kernel))) (by decide +kernel), ⟨by decide +kernel, by decide +kernel⟩, by decide +kernel⟩
theorem eX8_layTowns : Cond.instanceMethod yX8_layTowns ∈ sw_W ∧ Cond.selects (yX8_layTowns).cls yX8_layTowns yX8_layTowns ∈ sw_W := ⟨sw_in (List.mem_append_right _ (List.mem_of_getElem? (i := 820) (by decide +kernel))) (by decide +kernel), sw_in (List.mem_append_left _ (List.mem_of_getElem? (i := 34) (by decide +kernel))) (by decide +kernel)⟩
theorem vX8_171 : sw_CV RX8 171 0 mX8_layTowns := ⟨bX8_layTowns _ _, sw_in (List.mem_append_right _ (List.mem_of_getElem? (i := 818) (by decide +kernel))) (by decide +kernel), eX8_layTowns.1, eX8_layTowns.2⟩
theorem bX8_isFar (own : String) (idx : Nat) : sw_CB own idx 1 mX8_isFar := ⟨by decide, sw_in (List.mem_append_right _ (List.mem_of_getElem? (i := 825) (by decide +kernel))) (by decide +kernel), sw_in (List.mem_append_right _ (List.mem_of_getElem? (i := 10) (by decide +kernel))) (by decide +kernel), ⟨by decide +kernel, by decide +kernel⟩, by decide +kernel⟩
theorem eX8_isFar : Cond.instanceMethod yX8_isFar ∈ sw_W ∧ Cond.selects (yX8_isFar).cls yX8_isFar yX8_isFar ∈ sw_W := ⟨sw_in (List.mem_append_right _ (List.mem_of_getElem? (i := 824) (by decide +kernel))) (by decide +kernel), sw_in (List.mem_append_left _ (List.mem_of_getElem? (i := 35) (by decide +kernel))) (by decide +kernel)⟩
theorem vX8_140 : sw_CV RX8 140 1 mX8_isFar := ⟨bX8_isFar _ _, sw_in (List.mem_append_right _ (List.mem_of_getElem? (i := 822) (by decide +kernel))) (by decide +kernel), eX8_isFar.1, eX8_isFar.2⟩
theorem bX8_worth (own : String) (idx : Nat) : sw_CB own idx 1 mX8_worth := ⟨by decide, sw_in (List.mem_append_right _ (List.mem_of_getElem? (i := 829) (by decide +kernel))) (by decide +kernel), sw_in (List.mem_append_right _ (List.mem_of_getElem? (i := 10) (by decide +kernel))) (by decide +kernel), ⟨by decide +kernel, by decide +kernel⟩, by decide +kernel⟩
theorem eX8_worth : Cond.instanceMethod yX8_worth ∈ sw_W ∧ Cond.selects (yX8_worth).cls yX8_worth yX8_worth ∈ sw_W := ⟨sw_in (List.mem_append_right _ (List.mem_of_getElem? (i := 828) (by decide +kernel))) (by decide +kernel), sw_in (List.mem_append_left _ (List.mem_of_getElem? (i := 36) (by decide +kernel))) (by decide +kernel)⟩
theorem vX8_143 : sw_CV RX8 143 1 mX8_worth := ⟨bX8_worth _ _, sw_in (List.mem_append_right _ (List.mem_of_getElem? (i := 826) (by decide +kernel))) (by decide +kernel), eX8_worth.1, eX8_worth.2⟩
theorem bX8_layNet (own : String) (idx : Nat) : sw_CB own idx 0 mX8_layNet := ⟨by decide, sw_in (List.mem_append_right _ (List.mem_of_getElem? (i := 833) (by decide +kernel))) (by decide +kernel), sw_in (List.mem_append_right _ (List.mem_of_getElem? (i := 10) (by decide +kernel))) (by decide +kernel), ⟨by decide +kernel, by decide +kernel⟩, by decide +kernel⟩
theorem eX8_layNet : Cond.instanceMethod yX8_layNet ∈ sw_W ∧ Cond.selects (yX8_layNet).cls yX8_layNet yX8_layNet ∈ sw_W := ⟨sw_in (List.mem_append_right _ (List.mem_of_getElem? (i := 832) (by decide +kernel))) (by decide +kernel), sw_in (List.mem_append_left _ (List.mem_of_getElem? (i := 37) (by decide +kernel))) (by decide +kernel)⟩
theorem vX8_174 : sw_CV RX8 174 0 mX8_layNet := ⟨bX8_layNet _ _, sw_in (List.mem_append_right _ (List.mem_of_getElem? (i := 830) (by decide +kernel))) (by decide +kernel), eX8_layNet.1, eX8_layNet.2⟩
theorem bX8_reckon (own : String) (idx : Nat) : sw_CB own idx 1 mX8_reckon := ⟨by decide, sw_in (List.mem_append_right _ (List.mem_of_getElem? (i := 837) (by decide +kernel))) (by decide +kernel), sw_in (List.mem_append_right _ (List.mem_of_getElem? (i := 10) (by decide +kernel))) (by decide +kernel), ⟨by decide +kernel, by decide +kernel⟩, by decide +kernel⟩
theorem eX8_reckon : Cond.instanceMethod yX8_reckon ∈ sw_W ∧ Cond.selects (yX8_reckon).cls yX8_reckon yX8_reckon ∈ sw_W := ⟨sw_in (List.mem_append_right _ (List.mem_of_getElem? (i := 836) (by decide +kernel))) (by decide +kernel), sw_in (List.mem_append_left _ (List.mem_of_getElem? (i := 38) (by decide +kernel))) (by decide +kernel)⟩
theorem vX8_161 : sw_CV RX8 161 1 mX8_reckon := ⟨bX8_reckon _ _, sw_in (List.mem_append_right _ (List.mem_of_getElem? (i := 834) (by decide +kernel))) (by decide +kernel), eX8_reckon.1, eX8_reckon.2⟩
theorem bX8_isWay (own : String) (idx : Nat) : sw_CB own idx 1 mX8_isWay := ⟨by decide, sw_in (List.mem_append_right _ (List.mem_of_getElem? (i := 841) (by decide +kernel))) (by decide +kernel), sw_in (List.mem_append_right _ (List.mem_of_getElem? (i := 10) (by decide +kernel))) (by decide +kernel), ⟨by decide +kernel, by decide +kernel⟩, by decide +kernel⟩
theorem eX8_isWay : Cond.instanceMethod yX8_isWay ∈ sw_W ∧ Cond.selects (yX8_isWay).cls yX8_isWay yX8_isWay ∈ sw_W := ⟨sw_in (List.mem_append_right _ (List.mem_of_getElem? (i := 840) (by decide +kernel))) (by decide +kernel), sw_in (List.mem_append_left _ (List.mem_of_getElem? (i := 39) (by decide +kernel))) (by decide +kernel)⟩
theorem vX8_146 : sw_CV RX8 146 1 mX8_isWay := ⟨bX8_isWay _ _, sw_in (List.mem_append_right _ (List.mem_of_getElem? (i := 838) (by decide +kernel))) (by decide +kernel), eX8_isWay.1, eX8_isWay.2⟩
theorem bX8_stepCost (own : String) (idx : Nat) : sw_CB own idx 2 mX8_stepCost := ⟨by decide, sw_in (List.mem_append_right _ (List.mem_of_getElem? (i := 845) (by decide +kernel))) (by decide +kernel), sw_in (List.mem_append_right _ (List.mem_of_getElem? (i := 10) (by decide +kernel))) (by decide +kernel), ⟨by decide +kernel, by decide +kernel⟩, by decide +kernel⟩
theorem eX8_stepCost : Cond.instanceMethod yX8_stepCost ∈ sw_W ∧ Cond.selects (yX8_stepCost).cls yX8_stepCost yX8_stepCost ∈ sw_W := ⟨sw_in (List.mem_append_right _ (List.mem_of_getElem? (i := 844) (by decide +kernel))) (by decide +kernel), sw_in (List.mem_append_left _ (List.mem_of_getElem? (i := 40) (by decide +kernel))) (by decide +kernel)⟩
theorem vX8_149 : sw_CV RX8 149 2 mX8_stepCost := ⟨bX8_stepCost _ _, sw_in (List.mem_append_right _ (List.mem_of_getElem? (i := 842) (by decide +kernel))) (by decide +kernel), eX8_stepCost.1, eX8_stepCost.2⟩
theorem bX8_next (own : String) (idx : Nat) : sw_CB own idx 1 mX8_next := ⟨by decide, sw_in (List.mem_append_right _ (List.mem_of_getElem? (i := 849) (by decide +kernel))) (by decide +kernel), sw_in (List.mem_append_right _ (List.mem_of_getElem? (i := 10) (by decide +kernel))) (by decide +kernel), ⟨by decide +kernel, by decide +kernel⟩, by decide +kernel⟩
theorem eX8_next : Cond.instanceMethod yX8_next ∈ sw_W ∧ Cond.selects (yX8_next).cls yX8_next yX8_next ∈ sw_W := ⟨sw_in (List.mem_append_right _ (List.mem_of_getElem? (i := 848) (by decide +kernel))) (by decide +kernel), sw_in (List.mem_append_left _ (List.mem_of_getElem? (i := 41) (by decide +kernel))) (by decide +kernel)⟩
theorem vX8_165 : sw_CV RX8 165 1 mX8_next := ⟨bX8_next _ _, sw_in (List.mem_append_right _ (List.mem_of_getElem? (i := 846) (by decide +kernel))) (by decide +kernel), eX8_next.1, eX8_next.2⟩
theorem bX8_outletOf (own : String) (idx : Nat) : sw_CB own idx 1 mX8_outletOf := ⟨by decide, sw_in (List.mem_append_right _ (List.mem_of_getElem? (i := 853) (by decide +kernel))) (by decide +kernel), sw_in (List.mem_append_right _ (List.mem_of_getElem? (i := 10) (by decide +kernel))) (by decide +kernel), ⟨by decide +kernel, by decide +kernel⟩, by decide +kernel⟩
theorem eX8_outletOf : Cond.instanceMethod yX8_outletOf ∈ sw_W ∧ Cond.selects (yX8_outletOf).cls yX8_outletOf yX8_outletOf ∈ sw_W := ⟨sw_in (List.mem_append_right _ (List.mem_of_getElem? (i := 852) (by decide +kernel))) (by decide +kernel), sw_in (List.mem_append_left _ (List.mem_of_getElem? (i := 42) (by decide +kernel))) (by decide +kernel)⟩
theorem vX8_180 : sw_CV RX8 180 1 mX8_outletOf := ⟨bX8_outletOf _ _, sw_in (List.mem_append_right _ (List.mem_of_getElem? (i := 850) (by decide +kernel))) (by decide +kernel), eX8_outletOf.1, eX8_outletOf.2⟩
theorem bX8_isAll (own : String) (idx : Nat) : sw_CB own idx 1 mX8_isAll := ⟨by decide, sw_in (List.mem_append_right _ (List.mem_of_getElem? (i := 861) (by decide +kernel))) (by decide +kernel), sw_in (List.mem_append_right _ (List.mem_of_getElem? (i := 10) (by decide +kernel))) (by decide +kernel), ⟨by decide +kernel, by decide +kernel⟩, by decide +kernel⟩
theorem eX8_isAll : Cond.instanceMethod yX8_isAll ∈ sw_W ∧ Cond.selects (yX8_isAll).cls yX8_isAll yX8_isAll ∈ sw_W := ⟨sw_in (List.mem_append_right _ (List.mem_of_getElem? (i := 860) (by decide +kernel))) (by decide +kernel), sw_in (List.mem_append_left _ (List.mem_of_getElem? (i := 43) (by decide +kernel))) (by decide +kernel)⟩
theorem vX8_183 : sw_CV RX8 183 1 mX8_isAll := ⟨bX8_isAll _ _, sw_in (List.mem_append_right _ (List.mem_of_getElem? (i := 858) (by decide +kernel))) (by decide +kernel), eX8_isAll.1, eX8_isAll.2⟩
theorem bX8_layMarks (own : String) (idx : Nat) : sw_CB own idx 0 mX8_layMarks := ⟨by decide, sw_in (List.mem_append_right _ (List.mem_of_getElem? (i := 873) (by decide +kernel))) (by decide +kernel), sw_in (List.mem_append_right _ (List.mem_of_getElem? (i := 10) (by decide +kernel))) (by decide +kernel), ⟨by decide +kernel, by decide +kernel⟩, by decide +kernel⟩
theorem eX8_layMarks : Cond.instanceMethod yX8_layMarks ∈ sw_W ∧ Cond.selects (yX8_layMarks).cls yX8_layMarks yX8_layMarks ∈ sw_W := ⟨sw_in (List.mem_append_right _ (List.mem_of_getElem? (i := 872) (by decide +kernel))) (by decide +kernel), sw_in (List.mem_append_left _ (List.mem_of_getElem? (i := 44) (by decide +kernel))) (by decide +kernel)⟩
theorem vX8_186 : sw_CV RX8 186 0 mX8_layMarks := ⟨bX8_layMarks _ _, sw_in (List.mem_append_right _ (List.mem_of_getElem? (i := 870) (by decide +kernel))) (by decide +kernel), eX8_layMarks.1, eX8_layMarks.2⟩
theorem bX8_isTown (own : String) (idx : Nat) : sw_CB own idx 1 mX8_isTown := ⟨by decide, sw_in (List.mem_append_right _ (List.mem_of_getElem? (i := 889) (by decide +kernel))) (by decide +kernel), sw_in (List.mem_append_right _ (List.mem_of_getElem? (i := 10) (by decide +kernel))) (by decide +kernel), ⟨by decide +kernel, by decide +kernel⟩, by decide +kernel⟩
theorem eX8_isTown : Cond.instanceMethod yX8_isTown ∈ sw_W ∧ Cond.selects (yX8_isTown).cls yX8_isTown yX8_isTown ∈ sw_W := ⟨sw_in (List.mem_append_right _ (List.mem_of_getElem? (i := 888) (by decide +kernel))) (by decide +kernel), sw_in (List.mem_append_left _ (List.mem_of_getElem? (i := 45) (by decide +kernel))) (by decide +kernel)⟩
theorem vX8_189 : sw_CV RX8 189 1 mX8_isTown := ⟨bX8_isTown _ _, sw_in (List.mem_append_right _ (List.mem_of_getElem? (i := 886) (by decide +kernel))) (by decide +kernel), eX8_isTown.1, eX8_isTown.2⟩
end
section
/-! the rows of calls and answers in the forms that the walks use -/
/-- a method that answers the int f and leaves the ints u0 -/
abbrev sw_F (X : sw_X) (d : Nat) (me : sw_Me) (args : List Value) (σ : sw_Sg) (f : Int32) (u0 : sw_Sg) : Prop := sw_Mi X d me args σ (fun r u => r = f ∧ u = u0)
/-- a method that answers nothing and leaves the ints u0 -/
abbrev sw_G (X : sw_X) (d : Nat) (me : sw_Me) (args : List Value) (σ : sw_Sg) (u0 : sw_Sg) : Prop := sw_Mv X d me args σ (fun u => u = u0)
/-- a method's contract out of a walk of its body, for any method whose own code runs -/
theorem sw_metF {l : Launch} {y : MethodName} {ws ws' : List Cond} {rm : Room} {Pc : Array Value → State → Prop} {Qc : Array Value → State → Outcome → State → Prop} {mc ms : Nat} {free : Addr → Prop} {cc : ByteArray} {maxL : Nat} {ret : Option FieldType}
    (hy : plainFor y = true) (hw : ws = Cond.code y cc maxL ret :: ws')
    (body : ∀ p e s m args below meth c s₁, BodyLoose p l y (headSpec ws rm) cc maxL ret e s m args below meth c s₁ → c.maxLocals = maxL → Pc args s →
      W p l e (headSpec ws rm).room s m args below meth c s.heap [] 0 0 (MQ below Qc args s mc ms free) (entryFrame m args maxL)) : Met l y ws rm Pc Qc mc ms free := by
  have hcode : ∀ (args : Array Value) (s : State) (m : MethodId), (headSpec ws rm).pre.before args s = true → s.methodNamed? y = some m → ∃ meth c, s.vm.method? m = some meth ∧ meth.code = some c ∧ c.code = cc ∧ c.maxLocals = maxL ∧ meth.sig.returnType = ret ∧ meth.locks = false := by
    intro args s m h hn
    obtain ⟨meth, c, q1, q2, q3, q4, q5, q6, -, -⟩ := Cond.code_spec hn (atoms_spec (ws := ws) h _ (by rw [hw]; exact List.mem_cons_self))
    exact ⟨meth, c, q1, q2, q3, q4, q5, q6⟩
  refine MetFree.of_bodySF (code := cc) (maxLocals := maxL) (ret := ret) hy hcode ?_
  intro p e s m args below meth c s₁ B hml hP _
  have hheap : s₁.heap = s.heap := by rw [B.state]; rfl
  obtain ⟨t, st, o, hr, he, hq⟩ := body p e s m args below meth c s₁ B hml hP s₁ hheap (Stand.of_body B)
  exact ⟨t, o, st, hr, he, hq⟩
section SWK
variable {X : sw_X} {d d' : Nat} {me mc : sw_Me} {E : State → Prop} {R : Option Value → sw_Sg → Prop} {pc q : Nat} {L st rest As : List Value} {σ u0 : sw_Sg} {x f : Int32}
theorem SW.iretR {R' : Int32 → sw_Sg → Prop} {ty : FieldType} (hr : me.2.2.2 = some ty) (hn : narrow ty (.int x) = .int x) (hd : decode me.2.1 pc = .ok (.ireturn, 1)) (hR : R' x σ) : SW X d me E (sw_Ri R') pc L [.int x] σ := SW.iret hr hn hd ⟨x, rfl, hR⟩
theorem SW.vretR {R' : sw_Sg → Prop} (hr : me.2.2.2 = none) (hd : decode me.2.1 pc = .ok (.return_, 1)) (hR : R' σ) : SW X d me E (sw_Rv R') pc L [] σ := SW.vret hr hd ⟨rfl, hR⟩
theorem SW.cR {R' : Int32 → sw_Sg → Prop} {idx n i ci : Nat} {fk : List (Option Nat)} (hM : sw_Mi X d' mc (.ref (sw_ad X i) :: As) σ R') (hC : sw_CV me.1.cls idx n mc) (hlt : d' < d) (hsh : sw_sh i = .inr (ci, fk)) (hcl : (vwCl[ci]?).map (fun q => q.1) = some mc.1.cls) (hn : As.length = n) (hst : st = As.reverse ++ .ref (sw_ad X i) :: rest) (hrm : (rest.map fun v => v.category).sum ≤ 8) (hd : decode me.2.1 pc = .ok (.invokevirtual idx, 3)) (hq : pc + 3 = q) (kk : ∀ v u, R' v u → SW X d me E R q L (.int v :: rest) u) : SW X d me E R pc L st σ :=
  SW.callV hM hC hlt hsh hcl hn hst hrm hd hq (fun r u h => by obtain ⟨v, rfl, h⟩ := h; exact kk v u h)
theorem SW.cV {R' : sw_Sg → Prop} {idx n i ci : Nat} {fk : List (Option Nat)} (hM : sw_Mv X d' mc (.ref (sw_ad X i) :: As) σ R') (hC : sw_CV me.1.cls idx n mc) (hlt : d' < d) (hsh : sw_sh i = .inr (ci, fk)) (hcl : (vwCl[ci]?).map (fun q => q.1) = some mc.1.cls) (hn : As.length = n) (hst : st = As.reverse ++ .ref (sw_ad X i) :: rest) (hrm : (rest.map fun v => v.category).sum ≤ 8) (hd : decode me.2.1 pc = .ok (.invokevirtual idx, 3)) (hq : pc + 3 = q) (kk : ∀ u, R' u → SW X d me E R q L rest u) : SW X d me E R pc L st σ :=
  SW.callV hM hC hlt hsh hcl hn hst hrm hd hq (fun r u h => by obtain ⟨rfl, h⟩ := h; exact kk u h)
theorem SW.sR {R' : Int32 → sw_Sg → Prop} {idx n : Nat} (hM : sw_Mi X d' mc As σ R') (hC : sw_CS me.1.cls idx n mc) (hlt : d' < d) (hn : As.length = n) (hst : st = As.reverse ++ rest) (hrm : (rest.map fun v => v.category).sum ≤ 8) (hd : decode me.2.1 pc = .ok (.invokestatic idx, 3)) (hq : pc + 3 = q) (kk : ∀ v u, R' v u → SW X d me E R q L (.int v :: rest) u) : SW X d me E R pc L st σ :=
  SW.callS hM hC hlt hn hst hrm hd hq (fun r u h => by obtain ⟨v, rfl, h⟩ := h; exact kk v u h)
theorem SW.sV {R' : sw_Sg → Prop} {idx n : Nat} (hM : sw_Mv X d' mc As σ R') (hC : sw_CS me.1.cls idx n mc) (hlt : d' < d) (hn : As.length = n) (hst : st = As.reverse ++ rest) (hrm : (rest.map fun v => v.category).sum ≤ 8) (hd : decode me.2.1 pc = .ok (.invokestatic idx, 3)) (hq : pc + 3 = q) (kk : ∀ u, R' u → SW X d me E R q L rest u) : SW X d me E R pc L st σ :=
  SW.callS hM hC hlt hn hst hrm hd hq (fun r u h => by obtain ⟨rfl, h⟩ := h; exact kk u h)
theorem SW.snR {R' : Int32 → sw_Sg → Prop} {idx n : Nat} (hM : sw_Mi X d' mc As σ R') (hC : sw_CSN me.1.cls idx n mc) (hlt : d' < d) (hn : As.length = n) (hst : st = As.reverse ++ rest) (hrm : (rest.map fun v => v.category).sum ≤ 8) (hd : decode me.2.1 pc = .ok (.invokestatic idx, 3)) (hq : pc + 3 = q) (kk : ∀ v u, R' v u → SW X d me E R q L (.int v :: rest) u) : SW X d me E R pc L st σ :=
  SW.callSN hM hC hlt hn hst hrm hd hq (fun r u h => by obtain ⟨v, rfl, h⟩ := h; exact kk v u h)
theorem SW.cF {idx n i ci : Nat} {fk : List (Option Nat)} (hM : sw_F X d' mc (.ref (sw_ad X i) :: As) σ f u0) (hC : sw_CV me.1.cls idx n mc) (hlt : d' < d) (hsh : sw_sh i = .inr (ci, fk)) (hcl : (vwCl[ci]?).map (fun q => q.1) = some mc.1.cls) (hn : As.length = n) (hst : st = As.reverse ++ .ref (sw_ad X i) :: rest) (hrm : (rest.map fun v => v.category).sum ≤ 8) (hd : decode me.2.1 pc = .ok (.invokevirtual idx, 3)) (hq : pc + 3 = q) (kk : SW X d me E R q L (.int f :: rest) u0) : SW X d me E R pc L st σ :=
  SW.cR hM hC hlt hsh hcl hn hst hrm hd hq (fun v u h => by obtain ⟨rfl, rfl⟩ := h; exact kk)
theorem SW.cG {idx n i ci : Nat} {fk : List (Option Nat)} (hM : sw_G X d' mc (.ref (sw_ad X i) :: As) σ u0) (hC : sw_CV me.1.cls idx n mc) (hlt : d' < d) (hsh : sw_sh i = .inr (ci, fk)) (hcl : (vwCl[ci]?).map (fun q => q.1) = some mc.1.cls) (hn : As.length = n) (hst : st = As.reverse ++ .ref (sw_ad X i) :: rest) (hrm : (rest.map fun v => v.category).sum ≤ 8) (hd : decode me.2.1 pc = .ok (.invokevirtual idx, 3)) (hq : pc + 3 = q) (kk : SW X d me E R q L rest u0) : SW X d me E R pc L st σ :=
  SW.cV hM hC hlt hsh hcl hn hst hrm hd hq (fun u h => by subst h; exact kk)
theorem SW.sF {idx n : Nat} (hM : sw_F X d' mc As σ f u0) (hC : sw_CS me.1.cls idx n mc) (hlt : d' < d) (hn : As.length = n) (hst : st = As.reverse ++ rest) (hrm : (rest.map fun v => v.category).sum ≤ 8) (hd : decode me.2.1 pc = .ok (.invokestatic idx, 3)) (hq : pc + 3 = q) (kk : SW X d me E R q L (.int f :: rest) u0) : SW X d me E R pc L st σ :=
  SW.sR hM hC hlt hn hst hrm hd hq (fun v u h => by obtain ⟨rfl, rfl⟩ := h; exact kk)
theorem SW.sG {idx n : Nat} (hM : sw_G X d' mc As σ u0) (hC : sw_CS me.1.cls idx n mc) (hlt : d' < d) (hn : As.length = n) (hst : st = As.reverse ++ rest) (hrm : (rest.map fun v => v.category).sum ≤ 8) (hd : decode me.2.1 pc = .ok (.invokestatic idx, 3)) (hq : pc + 3 = q) (kk : SW X d me E R q L rest u0) : SW X d me E R pc L st σ :=
  SW.sV hM hC hlt hn hst hrm hd hq (fun u h => by subst h; exact kk)
theorem SW.snF {idx n : Nat} (hM : sw_F X d' mc As σ f u0) (hC : sw_CSN me.1.cls idx n mc) (hlt : d' < d) (hn : As.length = n) (hst : st = As.reverse ++ rest) (hrm : (rest.map fun v => v.category).sum ≤ 8) (hd : decode me.2.1 pc = .ok (.invokestatic idx, 3)) (hq : pc + 3 = q) (kk : SW X d me E R q L (.int f :: rest) u0) : SW X d me E R pc L st σ :=
  SW.snR hM hC hlt hn hst hrm hd hq (fun v u h => by obtain ⟨rfl, rfl⟩ := h; exact kk)
theorem sw_ME.ofF {args : List Value} {Lu : List Value} (hp : plainFor me.1 = true) (hL : args ++ List.replicate (me.2.2.1 - args.length) .null = Lu) (hlen : args.length ≤ me.2.2.1) (hcat : args.all (fun v => decide (v.category = 1)) = true) (kk : SW X d me E R 0 Lu [] σ) : sw_ME X d E me args σ R := by
  intro sz
  refine sw_metF (cc := me.2.1) (maxL := me.2.2.1) (ret := me.2.2.2) hp rfl ?_
  intro p e s m av below meth c s₁ B hml hv
  obtain ⟨rfl, hsz, hP, hK, hdis, hE⟩ := hv
  have hts : ∀ w ∈ sw_W, w.before args.toArray s = true := fun w hw => atoms_spec (ws := sw_wm me) B.pre w (List.mem_cons_of_mem _ hw)
  have hown : s.vm.findClass me.1.cls = some m.cls := findClass_of_methodNamed B.named
  subst hsz
  have hc1 : ∀ v ∈ args, v.category = 1 := fun v hv => by simpa using List.all_eq_true.mp hcat v hv
  have hsl : ∀ l : List Value, (∀ v ∈ l, v.category = 1) → lg_sl l = l.map (fun v => Slot.val v) ∧ ∀ (k i : Nat) (v : Value), l[i]? = some v → (k + i, v) ∈ lv_args k l := by
    intro l
    induction l with
    | nil => exact fun _ => ⟨rfl, fun k i v h => by simp at h⟩
    | cons a l ih =>
      intro h
      obtain ⟨i1, i2⟩ := ih (fun v hv => h v (List.mem_cons_of_mem _ hv))
      have ha : a.category = 1 := h a List.mem_cons_self
      refine ⟨?_, fun k i v hi => ?_⟩
      · rw [List.map_cons, ← i1]
        simp [lg_sl, List.flatMap_cons, ha]
      · simp only [lv_args, ha]
        cases i with
        | zero =>
          simp at hi
          subst hi
          exact List.mem_cons_self
        | succ i =>
          have := i2 (k + 1) i v (by simpa using hi)
          rw [show k + (i + 1) = k + 1 + i by omega]
          exact List.mem_cons_of_mem _ this
  obtain ⟨hs1, hs2⟩ := hsl args hc1
  have hlen' : (lg_sl args).length ≤ me.2.2.1 := by rw [hs1, List.length_map]; exact hlen
  have hl := lv_entry args (n := me.2.2.1) hlen'
  rw [lg_entry_eq]
  generalize (lg_sl args ++ List.replicate (me.2.2.1 - (lg_sl args).length) Slot.unset).toArray = ls at hl ⊢
  refine kk p e s m args.toArray below meth c s.heap [] ls ⟨B.exec, B.bytes, B.returns, hml, hown, hts, B.notSynchronized, hK, hdis, hE, hP, va_S.rf⟩ ⟨hl.1, hl.2.1, fun i v hi hv => ?_⟩
  rw [← hL, List.getElem?_append] at hi
  split at hi
  · refine ⟨?_, hc1 v (List.mem_of_getElem? hi)⟩
    have := hl.2.2 _ (hs2 0 i v hi)
    simpa using this
  · rw [List.getElem?_replicate] at hi
    split at hi
    · cases hi
      exact absurd rfl hv
    · cases hi
/-- the same ints, written otherwise -/
theorem SW.eq {L' st' : List Value} {σ' : sw_Sg} (hL : L = L') (hs : st = st') (hσ : σ = σ') (kk : SW X d me E R pc L' st' σ') : SW X d me E R pc L st σ := by subst hL; subst hs; subst hσ; exact kk
end SWK
end
section
/-! the leaves: the JDK's own, Row -/
theorem sw_out {x : Int32} (lo hi : Nat) (h1 : lo < 2 ^ 30) (h2 : hi < 2 ^ 30) (h : ∀ k : Nat, lo ≤ k → k ≤ hi → ¬ x = nI k) : x.toInt < (lo : Int) ∨ (hi : Int) < x.toInt := by
  apply Classical.byContradiction
  intro hn
  have h3 : (lo : Int) ≤ x.toInt ∧ x.toInt ≤ (hi : Int) := by omega
  have h4 : x.toInt = ((x.toInt.toNat : Nat) : Int) := by omega
  refine h x.toInt.toNat (by omega) (by omega) ?_
  apply Int32.toInt_inj.mp
  rw [nI_toInt (by omega)]
  exact h4
def sw_max (x y : Int32) : Int32 := if x < y then y else x
def sw_min (x y : Int32) : Int32 := if y < x then y else x
def sw_abs (x : Int32) : Int32 := if 0 ≤ x then x else -x
def sw_at (f : Nat → Int32) (n : Nat) (x : Int32) : Int32 := if x < 0 ∨ n ≤ x.toNatClampNeg then -6 else f x.toNatClampNeg
def sw_pt (σ : sw_Sg) (j n : Nat) (x v : Int32) : sw_Sg := if x < 0 ∨ n ≤ x.toNatClampNeg then σ else sw_up σ j x.toNatClampNeg v
theorem sw_lenle {x : Int32} {n : Nat} (h0 : ¬ x < 0) (hn : n < 2 ^ 31) : Int32.ofNat n ≤ x ↔ n ≤ x.toNatClampNeg := by
  obtain ⟨k, hk, rfl⟩ := nI_of h0
  rw [nI_clamp hk]
  exact nI_leI hn hk
section LEAF
variable {X : sw_X} {σ : sw_Sg} {i j n : Nat} {x y v : Int32}
theorem C_max : sw_F X 0 mJ9_max_7cf53 [.int x, .int y] σ (sw_max x y) σ := by
  refine sw_ME.ofF (by decide +kernel) rfl (Nat.le_of_ble_eq_true rfl) rfl ?_
  refine SW.iload_n (q := 1) (i := 0) dJ9_max_7cf53_0 rfl rfl rfl ?_
  refine SW.iload_n (q := 2) (i := 1) dJ9_max_7cf53_1 rfl rfl rfl ?_
  refine SW.icmp_lt (q := 5) (tgt := 9) dJ9_max_7cf53_2 (by decide) rfl (fun c2 => ?_) (fun c2 => ?_)
  · refine SW.iload_n (q := 10) (i := 1) dJ9_max_7cf53_9 rfl rfl rfl ?_
    exact SW.iretR rfl rfl dJ9_max_7cf53_10 (⟨by simp [sw_max, *], rfl⟩)
  · refine SW.iload_n (q := 6) (i := 0) dJ9_max_7cf53_5 rfl rfl rfl ?_
    refine SW.goto (q := 10) dJ9_max_7cf53_6 (by decide) ?_
    exact SW.iretR rfl rfl dJ9_max_7cf53_10 (⟨by simp [sw_max, *], rfl⟩)
theorem C_min : sw_F X 0 mJ9_min_7cf53 [.int x, .int y] σ (sw_min x y) σ := by
  refine sw_ME.ofF (by decide +kernel) rfl (Nat.le_of_ble_eq_true rfl) rfl ?_
  refine SW.iload_n (q := 1) (i := 0) dJ9_min_7cf53_0 rfl rfl rfl ?_
  refine SW.iload_n (q := 2) (i := 1) dJ9_min_7cf53_1 rfl rfl rfl ?_
  refine SW.icmp_gt (q := 5) (tgt := 9) dJ9_min_7cf53_2 (by decide) rfl (fun c2 => ?_) (fun c2 => ?_)
  · refine SW.iload_n (q := 10) (i := 1) dJ9_min_7cf53_9 rfl rfl rfl ?_
    exact SW.iretR rfl rfl dJ9_min_7cf53_10 (⟨by simp [sw_min, *], rfl⟩)
  · refine SW.iload_n (q := 6) (i := 0) dJ9_min_7cf53_5 rfl rfl rfl ?_
    refine SW.goto (q := 10) dJ9_min_7cf53_6 (by decide) ?_
    exact SW.iretR rfl rfl dJ9_min_7cf53_10 (⟨by simp [sw_min, *], rfl⟩)
theorem C_abs : sw_F X 0 mJ9_abs_0f7a4 [.int x] σ (sw_abs x) σ := by
  refine sw_ME.ofF (by decide +kernel) rfl (Nat.le_of_ble_eq_true rfl) rfl ?_
  refine SW.iload_n (q := 1) (i := 0) dJ9_abs_0f7a4_0 rfl rfl rfl ?_
  refine SW.if_ge (q := 4) (tgt := 9) dJ9_abs_0f7a4_1 (by decide) rfl (fun c1 => ?_) (fun c1 => ?_)
  · refine SW.iload_n (q := 10) (i := 0) dJ9_abs_0f7a4_9 rfl rfl rfl ?_
    exact SW.iretR rfl rfl dJ9_abs_0f7a4_10 (⟨by simp [sw_abs, *], rfl⟩)
  · refine SW.iload_n (q := 5) (i := 0) dJ9_abs_0f7a4_4 rfl rfl rfl ?_
    refine SW.ineg (q := 6) dJ9_abs_0f7a4_5 rfl ?_
    refine SW.goto (q := 10) dJ9_abs_0f7a4_6 (by decide) ?_
    exact SW.iretR rfl rfl dJ9_abs_0f7a4_10 (⟨by simp [sw_abs, *], rfl⟩)
theorem C_X3_at (h1 : sw_sh i = .inr (3, [some j])) (h2 : sw_sh j = .inl (false, n)) (h0 : 0 < n ∧ n < 2 ^ 31 := by decide) : sw_F X 0 mX3_at [.ref (sw_ad X i), .int x] σ (sw_at (σ j) n x) σ := by
  have hn := h0.2
  have h0 := h0.1
  refine sw_ME.ofF (by decide +kernel) rfl (Nat.le_of_ble_eq_true rfl) rfl ?_
  have no : ∀ (p1 : ¬ x < 0) (p2 : ¬ Int32.ofNat n ≤ x), ¬ (x < 0 ∨ n ≤ x.toNatClampNeg) := fun p1 p2 h => h.elim p1 (fun h => p2 ((sw_lenle p1 hn).mpr h))
  refine SW.iload_n (q := 1) (i := 1) dX3_at_0 rfl rfl rfl ?_
  refine SW.if_lt (q := 4) (tgt := 22) dX3_at_1 (by decide) rfl (fun c1 => ?_) (fun c1 => ?_)
  · refine SW.bipush (q := 24) (v := (-6)) dX3_at_22 (by decide) rfl ?_
    exact SW.iretR rfl rfl dX3_at_24 (⟨by first | (rw [sw_at, if_neg (no c1 c10)]; done) | simp_all [sw_at, sw_lenle], rfl⟩)
  · refine SW.iload_n (q := 5) (i := 1) dX3_at_4 rfl rfl rfl ?_
    refine SW.aload_n (q := 6) (i := 0) dX3_at_5 rfl rfl rfl ?_
    refine SW.getR (q := 9) fX3_15 h1 rfl dX3_at_6 rfl ?_
    refine SW.alen (q := 10) h2 h0 rfl dX3_at_9 rfl ?_
    refine SW.icmp_ge (q := 13) (tgt := 22) dX3_at_10 (by decide) rfl (fun c10 => ?_) (fun c10 => ?_)
    · refine SW.bipush (q := 24) (v := (-6)) dX3_at_22 (by decide) rfl ?_
      exact SW.iretR rfl rfl dX3_at_24 (⟨by first | (rw [sw_at, if_neg (no c1 c10)]; done) | simp_all [sw_at, sw_lenle], rfl⟩)
    · refine SW.aload_n (q := 14) (i := 0) dX3_at_13 rfl rfl rfl ?_
      refine SW.getR (q := 17) fX3_15 h1 rfl dX3_at_14 rfl ?_
      refine SW.iload_n (q := 18) (i := 1) dX3_at_17 rfl rfl rfl ?_
      refine SW.iald (q := 19) h2 (by rw [vp_in]; simp_all [sw_lenle]) dX3_at_18 rfl ?_
      refine SW.goto (q := 24) dX3_at_19 (by decide) ?_
      exact SW.iretR rfl rfl dX3_at_24 (⟨by first | (rw [sw_at, if_neg (no c1 c10)]; done) | simp_all [sw_at, sw_lenle], rfl⟩)
theorem C_X3_put (h1 : sw_sh i = .inr (3, [some j])) (h2 : sw_sh j = .inl (false, n)) (h0 : 0 < n ∧ n < 2 ^ 31 := by decide) : sw_G X 0 mX3_put [.ref (sw_ad X i), .int x, .int v] σ (sw_pt σ j n x v) := by
  have hn := h0.2
  have h0 := h0.1
  refine sw_ME.ofF (by decide +kernel) rfl (Nat.le_of_ble_eq_true rfl) rfl ?_
  have no : ∀ (p1 : ¬ x < 0) (p2 : ¬ Int32.ofNat n ≤ x), ¬ (x < 0 ∨ n ≤ x.toNatClampNeg) := fun p1 p2 h => h.elim p1 (fun h => p2 ((sw_lenle p1 hn).mpr h))
  refine SW.iload_n (q := 1) (i := 1) dX3_put_0 rfl rfl rfl ?_
  refine SW.if_lt (q := 4) (tgt := 20) dX3_put_1 (by decide) rfl (fun c1 => ?_) (fun c1 => ?_)
  · exact SW.vretR rfl dX3_put_20 (by first | (rw [sw_pt, if_neg (no c1 c10)]; done) | simp_all [sw_pt, sw_lenle])
  · refine SW.iload_n (q := 5) (i := 1) dX3_put_4 rfl rfl rfl ?_
    refine SW.aload_n (q := 6) (i := 0) dX3_put_5 rfl rfl rfl ?_
    refine SW.getR (q := 9) fX3_15 h1 rfl dX3_put_6 rfl ?_
    refine SW.alen (q := 10) h2 h0 rfl dX3_put_9 rfl ?_
    refine SW.icmp_ge (q := 13) (tgt := 20) dX3_put_10 (by decide) rfl (fun c10 => ?_) (fun c10 => ?_)
    · exact SW.vretR rfl dX3_put_20 (by first | (rw [sw_pt, if_neg (no c1 c10)]; done) | simp_all [sw_pt, sw_lenle])
    · refine SW.aload_n (q := 14) (i := 0) dX3_put_13 rfl rfl rfl ?_
      refine SW.getR (q := 17) fX3_15 h1 rfl dX3_put_14 rfl ?_
      refine SW.iload_n (q := 18) (i := 1) dX3_put_17 rfl rfl rfl ?_
      refine SW.iload_n (q := 19) (i := 2) dX3_put_18 rfl rfl rfl ?_
      refine SW.iast (q := 20) h2 (by rw [vp_in]; simp_all [sw_lenle]) dX3_put_19 rfl ?_
      exact SW.vretR rfl dX3_put_20 (by first | (rw [sw_pt, if_neg (no c1 c10)]; done) | simp_all [sw_pt, sw_lenle])
theorem C_X3_add (h1 : sw_sh i = .inr (3, [some j])) (h2 : sw_sh j = .inl (false, n)) (h0 : 0 < n ∧ n < 2 ^ 31 := by decide) : sw_G X 1 mX3_add [.ref (sw_ad X i), .int x, .int v] σ (sw_pt σ j n x (sw_at (σ j) n x + v)) := by
  refine sw_ME.ofF (by decide +kernel) rfl (Nat.le_of_ble_eq_true rfl) rfl ?_
  refine SW.aload_n (q := 1) (i := 0) dX3_add_0 rfl rfl rfl ?_
  refine SW.iload_n (q := 2) (i := 1) dX3_add_1 rfl rfl rfl ?_
  refine SW.aload_n (q := 3) (i := 0) dX3_add_2 rfl rfl rfl ?_
  refine SW.iload_n (q := 4) (i := 1) dX3_add_3 rfl rfl rfl ?_
  refine SW.cF (q := 7) (C_X3_at h1 h2 h0) vX3_21 (by decide) h1 rfl rfl rfl (Nat.le_of_ble_eq_true rfl) dX3_add_4 rfl ?_
  refine SW.iload_n (q := 8) (i := 2) dX3_add_7 rfl rfl rfl ?_
  refine SW.iadd (q := 9) dX3_add_8 rfl ?_
  refine SW.cG (q := 12) (C_X3_put h1 h2 h0) vX3_25 (by decide) h1 rfl rfl rfl (Nat.le_of_ble_eq_true rfl) dX3_add_9 rfl ?_
  exact SW.vretR rfl dX3_add_12 (rfl)
end LEAF
end
section
/-! more leaves: rows at known places, fill; and the heap -/
def sw_row (σ : sw_Sg) (j : Nat) (f : Nat → Int32) : sw_Sg := va_up σ j f
theorem sw_row_i {σ : sw_Sg} {j : Nat} {f : Nat → Int32} : sw_row σ j f j = f := by simp [sw_row, va_up]
theorem sw_row_o {σ : sw_Sg} {j k : Nat} {f : Nat → Int32} (h : k ≠ j) : sw_row σ j f k = σ k := by simp [sw_row, va_up, h]
theorem sw_row_self {σ : sw_Sg} {j : Nat} : sw_row σ j (σ j) = σ := by
  funext k
  by_cases h : k = j
  · subst h; exact sw_row_i
  · exact sw_row_o h
theorem sw_up_row {σ : sw_Sg} {j k : Nat} {v : Int32} : sw_up σ j k v = sw_row σ j (upd (σ j) k v) := rfl
theorem sw_row_row {σ : sw_Sg} {j : Nat} {f g : Nat → Int32} : sw_row (sw_row σ j f) j g = sw_row σ j g := by
  funext k
  by_cases h : k = j
  · subst h; rw [sw_row_i, sw_row_i]
  · rw [sw_row_o h, sw_row_o h, sw_row_o h]
/-- all cells but these hold what they held -/
def fr_ (l : List Nat) (σ u : sw_Sg) : Prop := ∀ i, i ∉ l → u i = σ i
theorem fr_rf {l : List Nat} {σ : sw_Sg} : fr_ l σ σ := fun _ _ => rfl
theorem fr_up {l : List Nat} {σ u : sw_Sg} {i k : Nat} {v : Int32} (h : fr_ l σ u) (hi : i ∈ l) : fr_ l σ (sw_up u i k v) := fun j hj => (sw_up_o j (fun e => hj (e ▸ hi))).trans (h j hj)
theorem fr_tr {l l' : List Nat} {σ u w : sw_Sg} (h : fr_ l σ u) (h' : fr_ l' u w) (hs : ∀ i ∈ l', i ∈ l) : fr_ l σ w := fun j hj => (h' j (fun e => hj (hs j e))).trans (h j hj)
theorem fr_sub {l l' : List Nat} {σ u : sw_Sg} (h : fr_ l' σ u) (hs : ∀ i ∈ l', i ∈ l) : fr_ l σ u := fun j hj => h j (fun e => hj (hs j e))
theorem upd_i {f : Nat → Int32} {k : Nat} {v : Int32} : upd f k v k = v := by simp [upd]
theorem upd_o {f : Nat → Int32} {k j : Nat} {v : Int32} (h : j ≠ k) : upd f k v j = f j := by simp [upd, h]
theorem sw_at_n {f : Nat → Int32} {n k : Nat} (h : k < n) (hn : n < 2 ^ 31) : sw_at f n (nI k) = f k := by
  have hc : (nI k).toNatClampNeg = k := nI_clamp (by omega)
  rw [sw_at, hc, if_neg]
  rintro (h1 | h1)
  · exact nI_pos (by omega) h1
  · omega
theorem sw_pt_n {σ : sw_Sg} {j n k : Nat} {v : Int32} (h : k < n) (hn : n < 2 ^ 31) : sw_pt σ j n (nI k) v = sw_up σ j k v := by
  have hc : (nI k).toNatClampNeg = k := nI_clamp (by omega)
  rw [sw_pt, hc, if_neg]
  rintro (h1 | h1)
  · exact nI_pos (by omega) h1
  · omega
section ROWN
variable {X : sw_X} {σ : sw_Sg} {i j n k : Nat} {x v : Int32}
theorem C_X3_atn (h1 : sw_sh i = .inr (3, [some j])) (h2 : sw_sh j = .inl (false, n)) (hx : x = nI k) (hk : k < n) (h0 : 0 < n ∧ n < 2 ^ 31 := by decide) : sw_F X 0 mX3_at [.ref (sw_ad X i), .int x] σ (σ j k) σ := by
  subst hx
  rw [← sw_at_n (f := σ j) hk h0.2]
  exact C_X3_at h1 h2 h0
theorem C_X3_putn (h1 : sw_sh i = .inr (3, [some j])) (h2 : sw_sh j = .inl (false, n)) (hx : x = nI k) (hk : k < n) (h0 : 0 < n ∧ n < 2 ^ 31 := by decide) : sw_G X 0 mX3_put [.ref (sw_ad X i), .int x, .int v] σ (sw_up σ j k v) := by
  subst hx
  rw [← sw_pt_n hk h0.2]
  exact C_X3_put h1 h2 h0
theorem C_X3_addn (h1 : sw_sh i = .inr (3, [some j])) (h2 : sw_sh j = .inl (false, n)) (hx : x = nI k) (hk : k < n) (h0 : 0 < n ∧ n < 2 ^ 31 := by decide) : sw_G X 1 mX3_add [.ref (sw_ad X i), .int x, .int v] σ (sw_up σ j k (σ j k + v)) := by
  subst hx
  have h := C_X3_add (X := X) (σ := σ) (x := nI k) (v := v) h1 h2 h0
  rw [sw_pt_n hk h0.2, sw_at_n hk h0.2] at h
  exact h
theorem C_fill (h2 : sw_sh j = .inl (false, n)) (hn : 0 < n ∧ n < 2 ^ 31) : sw_G X 0 mJ7_fill_53178 [.ref (sw_ad X j), .int v] σ (sw_row σ j (fun k => if k < n then v else σ j k)) := by
  have h0 := hn.1
  refine sw_ME.ofF (by decide +kernel) rfl (Nat.le_of_ble_eq_true rfl) rfl ?_
  have loop : ∀ (m k : Nat), k + m = n → SW X 0 mJ7_fill_53178 sw_E0 (sw_Rv (fun u => u = sw_row σ j (fun k => if k < n then v else σ j k))) 5 [.ref (sw_ad X j), .int v, .int (nI k), .int (nI n)] [] (sw_row σ j (fun q => if q < k then v else σ j q)) := by
    intro m
    induction m with
    | zero =>
      intro k hk
      obtain rfl : k = n := by omega
      refine SW.iload_n (q := 6) (i := 2) dJ7_fill_53178_5 rfl rfl rfl ?_
      refine SW.iload_n (q := 7) (i := 3) dJ7_fill_53178_6 rfl rfl rfl ?_
      refine SW.icmp_ge (q := 10) (tgt := 20) dJ7_fill_53178_7 (by decide) rfl (fun _ => ?_) (fun c7 => absurd ((Int32.le_refl _)) c7)
      exact SW.vretR rfl dJ7_fill_53178_20 (rfl)
    | succ m ih =>
      intro k hk
      refine SW.iload_n (q := 6) (i := 2) dJ7_fill_53178_5 rfl rfl rfl ?_
      refine SW.iload_n (q := 7) (i := 3) dJ7_fill_53178_6 rfl rfl rfl ?_
      refine SW.icmp_ge (q := 10) (tgt := 20) dJ7_fill_53178_7 (by decide) rfl (fun c7 => absurd c7 ((nI_ge (by omega) hn.2))) (fun _ => ?_)
      refine SW.aload_n (q := 11) (i := 0) dJ7_fill_53178_10 rfl rfl rfl ?_
      refine SW.iload_n (q := 12) (i := 2) dJ7_fill_53178_11 rfl rfl rfl ?_
      refine SW.iload_n (q := 13) (i := 1) dJ7_fill_53178_12 rfl rfl rfl ?_
      refine SW.iast (q := 14) h2 (vp_in_nI (n := k) (by omega) hn.2) dJ7_fill_53178_13 rfl ?_
      refine SW.iinc (q := 17) (v := _ + 1) dJ7_fill_53178_14 rfl rfl (by decide) rfl ?_
      refine SW.goto (q := 5) dJ7_fill_53178_17 (by decide) ?_
      refine SW.eq (by rw [nI_1]; rfl) rfl ?_ (ih (k + 1) (by omega))
      rw [nI_clamp (by omega), sw_up_row, sw_row_row, sw_row_i]
      refine congrArg (sw_row σ j) (funext fun q => ?_)
      by_cases hq : q = k
      · subst hq; rw [upd_i, if_pos (by omega)]
      · rw [upd_o hq]; by_cases h5 : q < k
        · rw [if_pos h5, if_pos (by omega)]
        · rw [if_neg h5, if_neg (by omega)]
  refine SW.iconst (v := 0) dJ7_fill_53178_0 (by decide) rfl ?_
  refine SW.istore_n (i := 2) dJ7_fill_53178_1 rfl (by decide) rfl ?_
  refine SW.aload_n (i := 0) dJ7_fill_53178_2 rfl rfl rfl ?_
  refine SW.alen h2 h0 rfl dJ7_fill_53178_3 rfl ?_
  refine SW.istore_n (i := 3) dJ7_fill_53178_4 rfl (by decide) rfl ?_
  exact SW.eq rfl rfl (by simp [sw_row_self]) (loop n 0 (by omega))
theorem C_X3_fill (h1 : sw_sh i = .inr (3, [some j])) (h2 : sw_sh j = .inl (false, n)) (h0 : 0 < n ∧ n < 2 ^ 31 := by decide) : sw_G X 1 mX3_fill [.ref (sw_ad X i), .int v] σ (sw_row σ j (fun k => if k < n then v else σ j k)) := by
  refine sw_ME.ofF (by decide +kernel) rfl (Nat.le_of_ble_eq_true rfl) rfl ?_
  refine SW.aload_n (q := 1) (i := 0) dX3_fill_0 rfl rfl rfl ?_
  refine SW.getR (q := 4) fX3_15 h1 rfl dX3_fill_1 rfl ?_
  refine SW.iload_n (q := 5) (i := 1) dX3_fill_4 rfl rfl rfl ?_
  refine SW.sG (q := 8) (C_fill h2 h0) vX3_29 (by decide) rfl rfl (Nat.le_of_ble_eq_true rfl) dX3_fill_5 rfl ?_
  exact SW.vretR rfl dX3_fill_8 (rfl)
end ROWN
end
section
/-! the heap of keys: no key above its parent's; what is in it, as a set -/
theorem sw_un {σ : sw_Sg} {i k j : Nat} {v : Int32} (h : j ≠ i) : sw_up σ i k v j = σ j := sw_up_o j h
theorem i_le {x y : Int32} : x ≤ y ↔ x.toInt ≤ y.toInt := Int32.le_iff_toInt_le
theorem i_lt {x y : Int32} : x < y ↔ x.toInt < y.toInt := Int32.lt_iff_toInt_lt
def hp_ok (K : Nat → Int32) (c : Nat) : Prop := ∀ i, 0 < i → i < c → (K ((i - 1) / 2)).toInt ≤ (K i).toInt
def hp_in (K : Nat → Int32) (c : Nat) (z : Int32) : Prop := ∃ i, i < c ∧ K i = z
def hp_key (x y : Int32) : Int32 := x <<< ((10 : Int32) &&& 31) ||| (y &&& 1023)
theorem hp_min {K : Nat → Int32} {c : Nat} (h : hp_ok K c) : ∀ i, i < c → (K 0).toInt ≤ (K i).toInt := by
  intro i
  induction i using Nat.strongRecOn with
  | ind i ih =>
    intro hi
    rcases Nat.eq_zero_or_pos i with rfl | h0
    · exact Int.le_refl _
    · exact Int.le_trans (ih ((i - 1) / 2) (by omega) (by omega)) (h i h0 hi)
/-- a heap with a hole at h (h < c), into which key is to go: no higher than h -/
def hp_hole (K : Nat → Int32) (c h : Nat) (key : Int32) : Prop :=
  (∀ i, 0 < i → i < c → i ≠ h → (i - 1) / 2 ≠ h → (K ((i - 1) / 2)).toInt ≤ (K i).toInt) ∧
  (∀ i, 0 < i → i < c → (i - 1) / 2 = h → key.toInt ≤ (K i).toInt) ∧
  (∀ i, 0 < i → i < c → (i - 1) / 2 = h → 0 < h → (K ((h - 1) / 2)).toInt ≤ (K i).toInt)
def hp_holeIn (K : Nat → Int32) (c h : Nat) (z : Int32) : Prop := ∃ i, i < c ∧ i ≠ h ∧ K i = z
theorem hp_up {K : Nat → Int32} {c h : Nat} {key : Int32} (hh : hp_hole K c h key) (h0 : 0 < h) (hc : h < c) (hk : key.toInt < (K ((h - 1) / 2)).toInt) : hp_hole (upd K h (K ((h - 1) / 2))) c ((h - 1) / 2) key := by
  obtain ⟨h1, h2, h3⟩ := hh
  have hp : (h - 1) / 2 ≠ h := by omega
  refine ⟨fun i i0 ic n1 n2 => ?_, fun i i0 ic e => ?_, fun i i0 ic e p0 => ?_⟩
  · by_cases e1 : i = h
    · subst e1; exact absurd rfl n2
    · rw [upd_o e1]
      by_cases e2 : (i - 1) / 2 = h
      · rw [e2, upd_i]; exact h3 i i0 ic e2 h0
      · rw [upd_o e2]; exact h1 i i0 ic e1 e2
  · by_cases e1 : i = h
    · subst e1; rw [upd_i]; omega
    · rw [upd_o e1]
      have := h1 i i0 ic e1 (by omega)
      rw [e] at this
      omega
  · have q := h1 ((h - 1) / 2) p0 (by omega) hp (by omega)
    rw [upd_o (show ((h - 1) / 2 - 1) / 2 ≠ h by omega)]
    by_cases e1 : i = h
    · subst e1; rw [upd_i]; exact q
    · rw [upd_o e1]
      have := h1 i i0 ic e1 (by omega)
      rw [e] at this
      omega
theorem hp_upIn {K : Nat → Int32} {c h g : Nat} (hg : g ≠ h) (hc : h < c) (hgc : g < c) (z : Int32) : hp_holeIn (upd K h (K g)) c g z ↔ hp_holeIn K c h z := by
  constructor
  · rintro ⟨i, i1, i2, i3⟩
    by_cases e : i = h
    · subst e; rw [upd_i] at i3; exact ⟨g, hgc, hg, i3⟩
    · rw [upd_o e] at i3; exact ⟨i, i1, e, i3⟩
  · rintro ⟨i, i1, i2, i3⟩
    by_cases e : i = g
    · subst e; exact ⟨h, hc, fun q => hg q.symm, by rw [upd_i]; exact i3⟩
    · exact ⟨i, i1, e, by rw [upd_o i2]; exact i3⟩
theorem hp_end {K : Nat → Int32} {c h : Nat} {key : Int32} (hh : hp_hole K c h key) (hk : h = 0 ∨ (K ((h - 1) / 2)).toInt ≤ key.toInt) : hp_ok (upd K h key) c := by
  obtain ⟨h1, h2, h3⟩ := hh
  intro i i0 ic
  by_cases e1 : i = h
  · subst e1
    rw [upd_i, upd_o (by omega)]
    rcases hk with hk | hk
    · omega
    · exact hk
  · rw [upd_o e1]
    by_cases e2 : (i - 1) / 2 = h
    · rw [e2, upd_i]; exact h2 i i0 ic e2
    · rw [upd_o e2]; exact h1 i i0 ic e1 e2
theorem hp_endIn {K : Nat → Int32} {c h : Nat} {key : Int32} (hc : h < c) (z : Int32) : hp_in (upd K h key) c z ↔ hp_holeIn K c h z ∨ z = key := by
  constructor
  · rintro ⟨i, i1, i2⟩
    by_cases e : i = h
    · subst e; rw [upd_i] at i2; exact Or.inr i2.symm
    · rw [upd_o e] at i2; exact Or.inl ⟨i, i1, e, i2⟩
  · rintro (⟨i, i1, i2, i3⟩ | rfl)
    · exact ⟨i, i1, by rw [upd_o i2]; exact i3⟩
    · exact ⟨h, hc, upd_i⟩
/-- the hole seen from above: key is not below what stands over the hole -/
def hp_down (K : Nat → Int32) (c h : Nat) (key : Int32) : Prop :=
  (∀ i, 0 < i → i < c → i ≠ h → (i - 1) / 2 ≠ h → (K ((i - 1) / 2)).toInt ≤ (K i).toInt) ∧
  (0 < h → (K ((h - 1) / 2)).toInt ≤ key.toInt) ∧
  (∀ i, 0 < i → i < c → (i - 1) / 2 = h → 0 < h → (K ((h - 1) / 2)).toInt ≤ (K i).toInt)
theorem hp_dn {K : Nat → Int32} {c h g : Nat} {key : Int32} (hh : hp_down K c h key) (hg : (g - 1) / 2 = h) (g0 : 0 < g) (hc : g < c) (hm : ∀ i, 0 < i → i < c → (i - 1) / 2 = h → (K g).toInt ≤ (K i).toInt) (hk : (K g).toInt < key.toInt) : hp_down (upd K h (K g)) c g key := by
  obtain ⟨h1, h2, h3⟩ := hh
  have hgh : g ≠ h := by omega
  refine ⟨fun i i0 ic n1 n2 => ?_, fun _ => ?_, fun i i0 ic e _ => ?_⟩
  · by_cases e1 : i = h
    · subst e1
      rw [upd_i, upd_o (by omega)]
      exact h3 g g0 hc hg (by omega)
    · rw [upd_o e1]
      by_cases e2 : (i - 1) / 2 = h
      · rw [e2, upd_i]; exact hm i i0 ic e2
      · rw [upd_o e2]; exact h1 i i0 ic e1 e2
  · rw [hg, upd_i]; omega
  · rw [hg, upd_i, upd_o (by omega)]
    have := h1 i i0 ic (by omega) (by omega)
    rw [e] at this
    exact this
theorem hp_dend {K : Nat → Int32} {c h : Nat} {key : Int32} (hh : hp_down K c h key) (hk : ∀ i, 0 < i → i < c → (i - 1) / 2 = h → key.toInt ≤ (K i).toInt) : hp_ok (upd K h key) c := by
  obtain ⟨h1, h2, h3⟩ := hh
  refine hp_end ⟨h1, hk, h3⟩ ?_
  rcases Nat.eq_zero_or_pos h with h0 | h0
  · exact Or.inl h0
  · exact Or.inr (h2 h0)
theorem hp_par {h : Nat} (h0 : 0 < h) (hh : h < 2 ^ 31) : (nI h - 1) >>> ((1 : Int32) &&& 31) = nI ((h - 1) / 2) := by
  have e : nI h - 1 = nI (h - 1) := by
    have := nI_pred (h - 1)
    rwa [show h - 1 + 1 = h by omega] at this
  rw [e, pk_shrN (by omega) _ 1 (by decide)]
section HEAP
variable {X : sw_X} {σ : sw_Sg} {x y : Int32} {c : Nat}
theorem C_X0_empty : sw_G X 0 mX0_empty [.ref (sw_ad X 6)] σ (sw_up σ 6 1 0) := by
  refine sw_ME.ofF (by decide +kernel) rfl (Nat.le_of_ble_eq_true rfl) rfl ?_
  refine SW.aload_n (q := 1) (i := 0) dX0_empty_0 rfl rfl rfl ?_
  refine SW.iconst (q := 2) (v := 0) dX0_empty_1 (by decide) rfl ?_
  refine SW.putI (q := 5) (i := 6) pX0_20 rfl rfl dX0_empty_2 rfl ?_
  exact SW.vretR rfl dX0_empty_5 (rfl)
theorem C_X0_removedPlace : sw_F X 0 mX0_removedPlace [.ref (sw_ad X 6)] σ (σ 6 2 &&& 1023) σ := by
  refine sw_ME.ofF (by decide +kernel) rfl (Nat.le_of_ble_eq_true rfl) rfl ?_
  refine SW.aload_n (q := 1) (i := 0) dX0_removedPlace_0 rfl rfl rfl ?_
  refine SW.getI (q := 4) (i := 6) fX0_24 rfl rfl dX0_removedPlace_1 rfl ?_
  refine SW.sipush (q := 7) (v := 1023) dX0_removedPlace_4 (by decide) rfl ?_
  refine SW.iand (q := 8) dX0_removedPlace_7 rfl ?_
  exact SW.iretR rfl rfl dX0_removedPlace_8 (⟨rfl, rfl⟩)
theorem C_X0_removedRank : sw_F X 0 mX0_removedRank [.ref (sw_ad X 6)] σ (σ 6 2 >>> ((10 : Int32) &&& 31)) σ := by
  refine sw_ME.ofF (by decide +kernel) rfl (Nat.le_of_ble_eq_true rfl) rfl ?_
  refine SW.aload_n (q := 1) (i := 0) dX0_removedRank_0 rfl rfl rfl ?_
  refine SW.getI (q := 4) (i := 6) fX0_24 rfl rfl dX0_removedRank_1 rfl ?_
  refine SW.bipush (q := 6) (v := 10) dX0_removedRank_4 (by decide) rfl ?_
  refine SW.ishr (q := 7) dX0_removedRank_6 rfl ?_
  exact SW.iretR rfl rfl dX0_removedRank_7 (⟨rfl, rfl⟩)
theorem C_X0_insert (hc : σ 6 1 = nI c) (hlt : c < 2308) (hH : hp_ok (σ 58) c) : sw_Mv X 1 mX0_insert [.ref (sw_ad X 6), .int x, .int y] σ (fun u => fr_ [6, 58] σ u ∧ u 6 1 = nI (c + 1) ∧ hp_ok (u 58) (c + 1) ∧ ∀ z, hp_in (u 58) (c + 1) z ↔ hp_in (σ 58) c z ∨ z = hp_key x y) := by
  refine sw_ME.ofF (by decide +kernel) rfl (Nat.le_of_ble_eq_true rfl) rfl ?_
  have loop : ∀ (h : Nat) (τ : sw_Sg), h ≤ c → fr_ [6, 58] σ τ → τ 6 1 = nI (c + 1) → hp_hole (τ 58) (c + 1) h (hp_key x y) → (∀ z, hp_holeIn (τ 58) (c + 1) h z ↔ hp_in (σ 58) c z) →
      SW X 1 mX0_insert sw_E0 (sw_Rv (fun u => fr_ [6, 58] σ u ∧ u 6 1 = nI (c + 1) ∧ hp_ok (u 58) (c + 1) ∧ ∀ z, hp_in (u 58) (c + 1) z ↔ hp_in (σ 58) c z ∨ z = hp_key x y)) 38 [.ref (sw_ad X 6), .int x, .int y, .int (hp_key x y), .int (nI h)] [] τ := by
    intro h
    induction h using Nat.strongRecOn with
    | ind h ih =>
      intro τ hle hf hcnt hho hin
      have fin : (h = 0 ∨ (τ 58 ((h - 1) / 2)).toInt ≤ (hp_key x y).toInt) → (fun u => fr_ [6, 58] σ u ∧ u 6 1 = nI (c + 1) ∧ hp_ok (u 58) (c + 1) ∧ ∀ z, hp_in (u 58) (c + 1) z ↔ hp_in (σ 58) c z ∨ z = hp_key x y) (sw_up τ 58 h (hp_key x y)) := by
        intro hk
        refine ⟨fr_up hf (by decide), ?_, ?_, fun z => ?_⟩
        · rw [sw_un (by decide)]; exact hcnt
        · rw [sw_up_i]; exact hp_end hho hk
        · rw [sw_up_i, hp_endIn (by omega), hin]
      by_cases h0 : h = 0
      · subst h0
        refine SW.iload (q := 40) (i := 4) dX0_insert_38 rfl rfl ?_
        refine SW.if_le (q := 43) (tgt := 93) dX0_insert_40 (by decide) rfl (fun _ => ?_) (fun c40 => absurd ((Int32.le_refl _)) c40)
        refine SW.aload_n (q := 94) (i := 0) dX0_insert_93 rfl rfl rfl ?_
        refine SW.getR (q := 97) (i := 6) (j := 32) fX0_16 rfl rfl dX0_insert_94 rfl ?_
        refine SW.iload (q := 99) (i := 4) dX0_insert_97 rfl rfl ?_
        refine SW.iload_n (q := 100) (i := 3) dX0_insert_99 rfl rfl rfl ?_
        refine SW.cG (q := 103) (C_X3_putn (i := 32) (j := 58) (n := 2308) rfl rfl (k := 0) rfl (by omega)) vX0_31 (by decide) rfl rfl rfl rfl (Nat.le_of_ble_eq_true rfl) dX0_insert_100 rfl ?_
        refine SW.vretR rfl dX0_insert_103 ?_
        exact fin (Or.inl rfl)
      · refine SW.iload (q := 40) (i := 4) dX0_insert_38 rfl rfl ?_
        refine SW.if_le (q := 43) (tgt := 93) dX0_insert_40 (by decide) rfl (fun c40 => absurd c40 ((nI_nle (by omega) (by omega)))) (fun _ => ?_)
        refine SW.aload_n (q := 44) (i := 0) dX0_insert_43 rfl rfl rfl ?_
        refine SW.getR (q := 47) (i := 6) (j := 32) fX0_16 rfl rfl dX0_insert_44 rfl ?_
        refine SW.iload (q := 49) (i := 4) dX0_insert_47 rfl rfl ?_
        refine SW.iconst (q := 50) (v := 1) dX0_insert_49 (by decide) rfl ?_
        refine SW.isub (q := 51) dX0_insert_50 rfl ?_
        refine SW.iconst (q := 52) (v := 1) dX0_insert_51 (by decide) rfl ?_
        refine SW.ishr (q := 53) dX0_insert_52 rfl ?_
        refine SW.cF (q := 56) (C_X3_atn (i := 32) (j := 58) (n := 2308) rfl rfl (k := (h - 1) / 2) (hp_par (by omega) (by omega)) (by omega)) vX0_27 (by decide) rfl rfl rfl rfl (Nat.le_of_ble_eq_true rfl) dX0_insert_53 rfl ?_
        refine SW.iload_n (q := 57) (i := 3) dX0_insert_56 rfl rfl rfl ?_
        refine SW.icmp_le (q := 60) (tgt := 93) dX0_insert_57 (by decide) rfl (fun c57 => ?_) (fun c57 => ?_)
        · refine SW.aload_n (q := 94) (i := 0) dX0_insert_93 rfl rfl rfl ?_
          refine SW.getR (q := 97) (i := 6) (j := 32) fX0_16 rfl rfl dX0_insert_94 rfl ?_
          refine SW.iload (q := 99) (i := 4) dX0_insert_97 rfl rfl ?_
          refine SW.iload_n (q := 100) (i := 3) dX0_insert_99 rfl rfl rfl ?_
          refine SW.cG (q := 103) (C_X3_putn (i := 32) (j := 58) (n := 2308) rfl rfl (k := h) rfl (by omega)) vX0_31 (by decide) rfl rfl rfl rfl (Nat.le_of_ble_eq_true rfl) dX0_insert_100 rfl ?_
          refine SW.vretR rfl dX0_insert_103 ?_
          exact fin (Or.inr (i_le.mp c57))
        · refine SW.aload_n (q := 61) (i := 0) dX0_insert_60 rfl rfl rfl ?_
          refine SW.getR (q := 64) (i := 6) (j := 32) fX0_16 rfl rfl dX0_insert_61 rfl ?_
          refine SW.iload (q := 66) (i := 4) dX0_insert_64 rfl rfl ?_
          refine SW.aload_n (q := 67) (i := 0) dX0_insert_66 rfl rfl rfl ?_
          refine SW.getR (q := 70) (i := 6) (j := 32) fX0_16 rfl rfl dX0_insert_67 rfl ?_
          refine SW.iload (q := 72) (i := 4) dX0_insert_70 rfl rfl ?_
          refine SW.iconst (q := 73) (v := 1) dX0_insert_72 (by decide) rfl ?_
          refine SW.isub (q := 74) dX0_insert_73 rfl ?_
          refine SW.iconst (q := 75) (v := 1) dX0_insert_74 (by decide) rfl ?_
          refine SW.ishr (q := 76) dX0_insert_75 rfl ?_
          refine SW.cF (q := 79) (C_X3_atn (i := 32) (j := 58) (n := 2308) rfl rfl (k := (h - 1) / 2) (hp_par (by omega) (by omega)) (by omega)) vX0_27 (by decide) rfl rfl rfl rfl (Nat.le_of_ble_eq_true rfl) dX0_insert_76 rfl ?_
          refine SW.cG (q := 82) (C_X3_putn (i := 32) (j := 58) (n := 2308) rfl rfl (k := h) rfl (by omega)) vX0_31 (by decide) rfl rfl rfl rfl (Nat.le_of_ble_eq_true rfl) dX0_insert_79 rfl ?_
          refine SW.iload (q := 84) (i := 4) dX0_insert_82 rfl rfl ?_
          refine SW.iconst (q := 85) (v := 1) dX0_insert_84 (by decide) rfl ?_
          refine SW.isub (q := 86) dX0_insert_85 rfl ?_
          refine SW.iconst (q := 87) (v := 1) dX0_insert_86 (by decide) rfl ?_
          refine SW.ishr (q := 88) dX0_insert_87 rfl ?_
          refine SW.istore (q := 90) (i := 4) dX0_insert_88 (by decide) rfl ?_
          refine SW.goto (q := 38) dX0_insert_90 (by decide) ?_
          refine SW.eq (by rw [hp_par (by omega) (by omega)]; rfl) rfl rfl (ih ((h - 1) / 2) (by omega) (sw_up τ 58 h (τ 58 ((h - 1) / 2))) (by omega) (fr_up hf (by decide)) ?_ ?_ (fun z => ?_))
          · rw [sw_un (by decide)]; exact hcnt
          · rw [sw_up_i]; exact hp_up hho (by omega) (by omega) (by have := mt i_le.mpr c57; omega)
          · rw [sw_up_i, hp_upIn (by omega) (by omega) (by omega), hin]
  refine SW.aload_n (q := 1) (i := 0) dX0_insert_0 rfl rfl rfl ?_
  refine SW.getI (q := 4) (i := 6) fX0_20 rfl rfl dX0_insert_1 rfl ?_
  refine SW.sipush (q := 7) (v := 2308) dX0_insert_4 (by decide) rfl ?_
  refine SW.icmp_lt (q := 10) (tgt := 11) dX0_insert_7 (by decide) rfl (fun _ => ?_) (fun c7 => absurd ((by rw [hc]; exact nI_lt (b := 2308) hlt (by omega))) c7)
  refine SW.iload_n (q := 12) (i := 1) dX0_insert_11 rfl rfl rfl ?_
  refine SW.bipush (q := 14) (v := 10) dX0_insert_12 (by decide) rfl ?_
  refine SW.ishl (q := 15) dX0_insert_14 rfl ?_
  refine SW.iload_n (q := 16) (i := 2) dX0_insert_15 rfl rfl rfl ?_
  refine SW.sipush (q := 19) (v := 1023) dX0_insert_16 (by decide) rfl ?_
  refine SW.iand (q := 20) dX0_insert_19 rfl ?_
  refine SW.ior (q := 21) dX0_insert_20 rfl ?_
  refine SW.istore_n (q := 22) (i := 3) dX0_insert_21 rfl (by decide) rfl ?_
  refine SW.aload_n (q := 23) (i := 0) dX0_insert_22 rfl rfl rfl ?_
  refine SW.getI (q := 26) (i := 6) fX0_20 rfl rfl dX0_insert_23 rfl ?_
  refine SW.istore (q := 28) (i := 4) dX0_insert_26 (by decide) rfl ?_
  refine SW.aload_n (q := 29) (i := 0) dX0_insert_28 rfl rfl rfl ?_
  refine SW.dup (q := 30) dX0_insert_29 rfl rfl ?_
  refine SW.getI (q := 33) (i := 6) fX0_20 rfl rfl dX0_insert_30 rfl ?_
  refine SW.iconst (q := 34) (v := 1) dX0_insert_33 (by decide) rfl ?_
  refine SW.iadd (q := 35) dX0_insert_34 rfl ?_
  refine SW.putI (q := 38) (i := 6) pX0_20 rfl rfl dX0_insert_35 rfl ?_
  refine SW.eq (by rw [hc]; rfl) rfl rfl (loop c _ (Nat.le_refl _) (fr_up fr_rf (by decide)) ?_ ?_ (fun z => ?_))
  · rw [sw_up_i, upd_i, hc, nI_1]
  · rw [sw_un (by decide)]
    exact ⟨fun i i0 ic n1 _ => hH i i0 (by omega), fun i i0 ic e => by omega, fun i i0 ic e => by omega⟩
  · rw [sw_un (by decide)]
    exact ⟨fun ⟨i, i1, i2, i3⟩ => ⟨i, by omega, i3⟩, fun ⟨i, i1, i3⟩ => ⟨i, by omega, by omega, i3⟩⟩
end HEAP
end
section
/-! the heap: taking the first one out -/
section HEAP2
variable {X : sw_X} {σ : sw_Sg} {x y : Int32} {c : Nat}
theorem C_X0_sink (hc : σ 6 1 = nI c) (hlt : c ≤ 2308) (hH : hp_down (σ 58) c 0 x) : sw_Mv X 1 mX0_sink [.ref (sw_ad X 6), .int x] σ (fun u => fr_ [58] σ u ∧ hp_ok (u 58) c ∧ ∀ z, hp_in (u 58) c z ↔ 0 < c ∧ (hp_holeIn (σ 58) c 0 z ∨ z = x)) := by
  refine sw_ME.ofF (by decide +kernel) rfl (Nat.le_of_ble_eq_true rfl) rfl ?_
  have loop : ∀ (m h : Nat) (τ : sw_Sg), c - h = m → h < c → fr_ [58] σ τ → hp_down (τ 58) c h x → (∀ z, hp_holeIn (τ 58) c h z ↔ hp_holeIn (σ 58) c 0 z) →
      SW X 1 mX0_sink sw_E0 (sw_Rv (fun u => fr_ [58] σ u ∧ hp_ok (u 58) c ∧ ∀ z, hp_in (u 58) c z ↔ 0 < c ∧ (hp_holeIn (σ 58) c 0 z ∨ z = x))) 4 [.ref (sw_ad X 6), .int x, .int (nI h), .int (nI (2 * h + 1))] [] τ := by
    intro m
    induction m using Nat.strongRecOn with
    | ind m ih =>
      intro h τ hm hlt2 hf hd hin
      have hcnt : τ 6 1 = nI c := by rw [hf 6 (by decide)]; exact hc
      have fin : (∀ i, 0 < i → i < c → (i - 1) / 2 = h → x.toInt ≤ (τ 58 i).toInt) → (fun u => fr_ [58] σ u ∧ hp_ok (u 58) c ∧ ∀ z, hp_in (u 58) c z ↔ 0 < c ∧ (hp_holeIn (σ 58) c 0 z ∨ z = x)) (sw_up τ 58 h x) := by
        intro hk
        refine ⟨fr_up hf (by decide), ?_, fun z => ?_⟩
        · rw [sw_up_i]; exact hp_dend hd hk
        · rw [sw_up_i, hp_endIn hlt2, hin]
          exact ⟨fun h => ⟨by omega, h⟩, fun h => h.2⟩
      have J46 : ∀ (g : Nat), (g - 1) / 2 = h → 0 < g → g < c → (∀ i, 0 < i → i < c → (i - 1) / 2 = h → (τ 58 g).toInt ≤ (τ 58 i).toInt) →
          SW X 1 mX0_sink sw_E0 (sw_Rv (fun u => fr_ [58] σ u ∧ hp_ok (u 58) c ∧ ∀ z, hp_in (u 58) c z ↔ 0 < c ∧ (hp_holeIn (σ 58) c 0 z ∨ z = x))) 46 [.ref (sw_ad X 6), .int x, .int (nI h), .int (nI g)] [] τ := by
        intro g g1 g0 gc gm
        refine SW.aload_n (q := 47) (i := 0) dX0_sink_46 rfl rfl rfl ?_
        refine SW.getR (q := 50) (i := 6) (j := 32) fX0_16 rfl rfl dX0_sink_47 rfl ?_
        refine SW.iload_n (q := 51) (i := 3) dX0_sink_50 rfl rfl rfl ?_
        refine SW.cF (q := 54) (C_X3_atn (i := 32) (j := 58) (n := 2308) rfl rfl (k := g) rfl (by omega)) vX0_27 (by decide) rfl rfl rfl rfl (Nat.le_of_ble_eq_true rfl) dX0_sink_51 rfl ?_
        refine SW.iload_n (q := 55) (i := 1) dX0_sink_54 rfl rfl rfl ?_
        refine SW.icmp_lt (q := 58) (tgt := 61) dX0_sink_55 (by decide) rfl (fun c55 => ?_) (fun c55 => ?_)
        · refine SW.aload_n (q := 62) (i := 0) dX0_sink_61 rfl rfl rfl ?_
          refine SW.getR (q := 65) (i := 6) (j := 32) fX0_16 rfl rfl dX0_sink_62 rfl ?_
          refine SW.iload_n (q := 66) (i := 2) dX0_sink_65 rfl rfl rfl ?_
          refine SW.aload_n (q := 67) (i := 0) dX0_sink_66 rfl rfl rfl ?_
          refine SW.getR (q := 70) (i := 6) (j := 32) fX0_16 rfl rfl dX0_sink_67 rfl ?_
          refine SW.iload_n (q := 71) (i := 3) dX0_sink_70 rfl rfl rfl ?_
          refine SW.cF (q := 74) (C_X3_atn (i := 32) (j := 58) (n := 2308) rfl rfl (k := g) rfl (by omega)) vX0_27 (by decide) rfl rfl rfl rfl (Nat.le_of_ble_eq_true rfl) dX0_sink_71 rfl ?_
          refine SW.cG (q := 77) (C_X3_putn (i := 32) (j := 58) (n := 2308) rfl rfl (k := h) rfl (by omega)) vX0_31 (by decide) rfl rfl rfl rfl (Nat.le_of_ble_eq_true rfl) dX0_sink_74 rfl ?_
          refine SW.iload_n (q := 78) (i := 3) dX0_sink_77 rfl rfl rfl ?_
          refine SW.istore_n (q := 79) (i := 2) dX0_sink_78 rfl (by decide) rfl ?_
          refine SW.iconst (q := 80) (v := 2) dX0_sink_79 (by decide) rfl ?_
          refine SW.iload_n (q := 81) (i := 2) dX0_sink_80 rfl rfl rfl ?_
          refine SW.imul (q := 82) dX0_sink_81 rfl ?_
          refine SW.iconst (q := 83) (v := 1) dX0_sink_82 (by decide) rfl ?_
          refine SW.iadd (q := 84) dX0_sink_83 rfl ?_
          refine SW.istore_n (q := 85) (i := 3) dX0_sink_84 rfl (by decide) rfl ?_
          refine SW.goto (q := 4) dX0_sink_85 (by decide) ?_
          refine SW.eq (by rw [show (2 : Int32) = nI 2 from rfl, pk_mul, nI_1]; rfl) rfl rfl (ih (c - g) (by omega) g (sw_up τ 58 h (τ 58 g)) rfl gc (fr_up hf (by decide)) ?_ (fun z => ?_))
          · rw [sw_up_i]; exact hp_dn hd g1 g0 gc gm (i_lt.mp c55)
          · rw [sw_up_i, hp_upIn (by omega) hlt2 gc, hin]
        · refine SW.goto (q := 88) dX0_sink_58 (by decide) ?_
          refine SW.aload_n (q := 89) (i := 0) dX0_sink_88 rfl rfl rfl ?_
          refine SW.getR (q := 92) (i := 6) (j := 32) fX0_16 rfl rfl dX0_sink_89 rfl ?_
          refine SW.iload_n (q := 93) (i := 2) dX0_sink_92 rfl rfl rfl ?_
          refine SW.iload_n (q := 94) (i := 1) dX0_sink_93 rfl rfl rfl ?_
          refine SW.cG (q := 97) (C_X3_putn (i := 32) (j := 58) (n := 2308) rfl rfl (k := h) rfl (by omega)) vX0_31 (by decide) rfl rfl rfl rfl (Nat.le_of_ble_eq_true rfl) dX0_sink_94 rfl ?_
          refine SW.vretR rfl dX0_sink_97 ?_
          exact fin (fun i i0 ic ip => by have := gm i i0 ic ip; have := mt i_lt.mpr c55; omega)
      by_cases h1 : c ≤ 2 * h + 1
      · refine SW.iload_n (q := 5) (i := 3) dX0_sink_4 rfl rfl rfl ?_
        refine SW.aload_n (q := 6) (i := 0) dX0_sink_5 rfl rfl rfl ?_
        refine SW.getI (q := 9) (i := 6) fX0_20 rfl rfl dX0_sink_6 rfl ?_
        refine SW.icmp_ge (q := 12) (tgt := 88) dX0_sink_9 (by decide) rfl (fun _ => ?_) (fun c9 => absurd ((by rw [hcnt]; exact nI_le h1 (by omega))) c9)
        refine SW.aload_n (q := 89) (i := 0) dX0_sink_88 rfl rfl rfl ?_
        refine SW.getR (q := 92) (i := 6) (j := 32) fX0_16 rfl rfl dX0_sink_89 rfl ?_
        refine SW.iload_n (q := 93) (i := 2) dX0_sink_92 rfl rfl rfl ?_
        refine SW.iload_n (q := 94) (i := 1) dX0_sink_93 rfl rfl rfl ?_
        refine SW.cG (q := 97) (C_X3_putn (i := 32) (j := 58) (n := 2308) rfl rfl (k := h) rfl (by omega)) vX0_31 (by decide) rfl rfl rfl rfl (Nat.le_of_ble_eq_true rfl) dX0_sink_94 rfl ?_
        refine SW.vretR rfl dX0_sink_97 ?_
        exact fin (fun i i0 ic ip => by omega)
      · by_cases h2 : c ≤ 2 * h + 2
        · refine SW.iload_n (q := 5) (i := 3) dX0_sink_4 rfl rfl rfl ?_
          refine SW.aload_n (q := 6) (i := 0) dX0_sink_5 rfl rfl rfl ?_
          refine SW.getI (q := 9) (i := 6) fX0_20 rfl rfl dX0_sink_6 rfl ?_
          refine SW.icmp_ge (q := 12) (tgt := 88) dX0_sink_9 (by decide) rfl (fun c9 => absurd c9 ((by rw [hcnt]; exact nI_ge (by omega) (by omega)))) (fun _ => ?_)
          refine SW.iload_n (q := 13) (i := 3) dX0_sink_12 rfl rfl rfl ?_
          refine SW.iconst (q := 14) (v := 1) dX0_sink_13 (by decide) rfl ?_
          refine SW.iadd (q := 15) dX0_sink_14 rfl ?_
          refine SW.aload_n (q := 16) (i := 0) dX0_sink_15 rfl rfl rfl ?_
          refine SW.getI (q := 19) (i := 6) fX0_20 rfl rfl dX0_sink_16 rfl ?_
          refine SW.icmp_ge (q := 22) (tgt := 46) dX0_sink_19 (by decide) rfl (fun _ => ?_) (fun c19 => absurd ((by rw [hcnt, nI_1]; exact nI_le (by omega) (by omega))) c19)
          exact J46 (2 * h + 1) (by omega) (by omega) (by omega) (fun i i0 ic ip => by rw [show i = 2 * h + 1 by omega]; exact Int.le_refl _)
        · refine SW.iload_n (q := 5) (i := 3) dX0_sink_4 rfl rfl rfl ?_
          refine SW.aload_n (q := 6) (i := 0) dX0_sink_5 rfl rfl rfl ?_
          refine SW.getI (q := 9) (i := 6) fX0_20 rfl rfl dX0_sink_6 rfl ?_
          refine SW.icmp_ge (q := 12) (tgt := 88) dX0_sink_9 (by decide) rfl (fun c9 => absurd c9 ((by rw [hcnt]; exact nI_ge (by omega) (by omega)))) (fun _ => ?_)
          refine SW.iload_n (q := 13) (i := 3) dX0_sink_12 rfl rfl rfl ?_
          refine SW.iconst (q := 14) (v := 1) dX0_sink_13 (by decide) rfl ?_
          refine SW.iadd (q := 15) dX0_sink_14 rfl ?_
          refine SW.aload_n (q := 16) (i := 0) dX0_sink_15 rfl rfl rfl ?_
          refine SW.getI (q := 19) (i := 6) fX0_20 rfl rfl dX0_sink_16 rfl ?_
          refine SW.icmp_ge (q := 22) (tgt := 46) dX0_sink_19 (by decide) rfl (fun c19 => absurd c19 ((by rw [hcnt, nI_1]; exact nI_ge (by omega) (by omega)))) (fun _ => ?_)
          refine SW.aload_n (q := 23) (i := 0) dX0_sink_22 rfl rfl rfl ?_
          refine SW.getR (q := 26) (i := 6) (j := 32) fX0_16 rfl rfl dX0_sink_23 rfl ?_
          refine SW.iload_n (q := 27) (i := 3) dX0_sink_26 rfl rfl rfl ?_
          refine SW.iconst (q := 28) (v := 1) dX0_sink_27 (by decide) rfl ?_
          refine SW.iadd (q := 29) dX0_sink_28 rfl ?_
          refine SW.cF (q := 32) (C_X3_atn (i := 32) (j := 58) (n := 2308) rfl rfl (k := 2 * h + 2) (nI_1 _) (by omega)) vX0_27 (by decide) rfl rfl rfl rfl (Nat.le_of_ble_eq_true rfl) dX0_sink_29 rfl ?_
          refine SW.aload_n (q := 33) (i := 0) dX0_sink_32 rfl rfl rfl ?_
          refine SW.getR (q := 36) (i := 6) (j := 32) fX0_16 rfl rfl dX0_sink_33 rfl ?_
          refine SW.iload_n (q := 37) (i := 3) dX0_sink_36 rfl rfl rfl ?_
          refine SW.cF (q := 40) (C_X3_atn (i := 32) (j := 58) (n := 2308) rfl rfl (k := 2 * h + 1) rfl (by omega)) vX0_27 (by decide) rfl rfl rfl rfl (Nat.le_of_ble_eq_true rfl) dX0_sink_37 rfl ?_
          refine SW.icmp_ge (q := 43) (tgt := 46) dX0_sink_40 (by decide) rfl (fun c40 => ?_) (fun c40 => ?_)
          · first
            | exact J46 (2 * h + 1) (by omega) (by omega) (by omega) (fun i i0 ic ip => by rcases (show i = 2 * h + 1 ∨ i = 2 * h + 2 by omega) with rfl | rfl <;> first | exact Int.le_refl _ | exact i_le.mp c40)
            | exact SW.eq (by rw [nI_1]; rfl) rfl rfl (J46 (2 * h + 2) (by omega) (by omega) (by omega) (fun i i0 ic ip => by rcases (show i = 2 * h + 1 ∨ i = 2 * h + 2 by omega) with rfl | rfl <;> first | exact Int.le_refl _ | (have := mt i_le.mpr c40; omega)))
          · refine SW.iinc (q := 46) (v := _ + 1) dX0_sink_43 rfl rfl (by decide) rfl ?_
            first
            | exact J46 (2 * h + 1) (by omega) (by omega) (by omega) (fun i i0 ic ip => by rcases (show i = 2 * h + 1 ∨ i = 2 * h + 2 by omega) with rfl | rfl <;> first | exact Int.le_refl _ | exact i_le.mp c40)
            | exact SW.eq (by rw [nI_1]; rfl) rfl rfl (J46 (2 * h + 2) (by omega) (by omega) (by omega) (fun i i0 ic ip => by rcases (show i = 2 * h + 1 ∨ i = 2 * h + 2 by omega) with rfl | rfl <;> first | exact Int.le_refl _ | (have := mt i_le.mpr c40; omega)))
  by_cases hz : c = 0
  · subst hz
    refine SW.iconst (q := 1) (v := 0) dX0_sink_0 (by decide) rfl ?_
    refine SW.istore_n (q := 2) (i := 2) dX0_sink_1 rfl (by decide) rfl ?_
    refine SW.iconst (q := 3) (v := 1) dX0_sink_2 (by decide) rfl ?_
    refine SW.istore_n (q := 4) (i := 3) dX0_sink_3 rfl (by decide) rfl ?_
    refine SW.iload_n (q := 5) (i := 3) dX0_sink_4 rfl rfl rfl ?_
    refine SW.aload_n (q := 6) (i := 0) dX0_sink_5 rfl rfl rfl ?_
    refine SW.getI (q := 9) (i := 6) fX0_20 rfl rfl dX0_sink_6 rfl ?_
    refine SW.icmp_ge (q := 12) (tgt := 88) dX0_sink_9 (by decide) rfl (fun _ => ?_) (fun c9 => absurd ((by rw [hc]; decide)) c9)
    refine SW.aload_n (q := 89) (i := 0) dX0_sink_88 rfl rfl rfl ?_
    refine SW.getR (q := 92) (i := 6) (j := 32) fX0_16 rfl rfl dX0_sink_89 rfl ?_
    refine SW.iload_n (q := 93) (i := 2) dX0_sink_92 rfl rfl rfl ?_
    refine SW.iload_n (q := 94) (i := 1) dX0_sink_93 rfl rfl rfl ?_
    refine SW.cG (q := 97) (C_X3_putn (i := 32) (j := 58) (n := 2308) rfl rfl (k := 0) rfl (by decide)) vX0_31 (by decide) rfl rfl rfl rfl (Nat.le_of_ble_eq_true rfl) dX0_sink_94 rfl ?_
    refine SW.vretR rfl dX0_sink_97 ?_
    exact ⟨fr_up fr_rf (by decide), fun i _ h => absurd h (Nat.not_lt_zero _), fun z => ⟨fun ⟨i, h, _⟩ => absurd h (Nat.not_lt_zero _), fun h => absurd h.1 (Nat.not_lt_zero _)⟩⟩
  · refine SW.iconst (q := 1) (v := 0) dX0_sink_0 (by decide) rfl ?_
    refine SW.istore_n (q := 2) (i := 2) dX0_sink_1 rfl (by decide) rfl ?_
    refine SW.iconst (q := 3) (v := 1) dX0_sink_2 (by decide) rfl ?_
    refine SW.istore_n (q := 4) (i := 3) dX0_sink_3 rfl (by decide) rfl ?_
    exact loop (c - 0) 0 σ rfl (by omega) fr_rf hH (fun z => Iff.rfl)
theorem C_X0_remove (hc : σ 6 1 = nI c) (hlt : c ≤ 2308) (hH : hp_ok (σ 58) c) : sw_Mi X 2 mX0_remove [.ref (sw_ad X 6)] σ (fun v u => (c = 0 ∧ v = 0 ∧ u = σ) ∨ (0 < c ∧ v = 1 ∧ fr_ [6, 58] σ u ∧ u 6 1 = nI (c - 1) ∧ u 6 2 = σ 58 0 ∧ hp_ok (u 58) (c - 1) ∧ (∀ z, hp_in (u 58) (c - 1) z → hp_in (σ 58) c z) ∧ ∀ z, hp_in (σ 58) c z → z = σ 58 0 ∨ hp_in (u 58) (c - 1) z)) := by
  refine sw_ME.ofF (by decide +kernel) rfl (Nat.le_of_ble_eq_true rfl) rfl ?_
  by_cases hz : c = 0
  · subst hz
    refine SW.aload_n (q := 1) (i := 0) dX0_remove_0 rfl rfl rfl ?_
    refine SW.getI (q := 4) (i := 6) fX0_20 rfl rfl dX0_remove_1 rfl ?_
    refine SW.if_gt (q := 7) (tgt := 9) dX0_remove_4 (by decide) rfl (fun c4 => absurd c4 ((by rw [hc]; decide))) (fun _ => ?_)
    refine SW.iconst (q := 8) (v := 0) dX0_remove_7 (by decide) rfl ?_
    refine SW.iretR rfl rfl dX0_remove_8 ?_
    exact Or.inl ⟨rfl, rfl, rfl⟩
  · have e1 : nI c - 1 = nI (c - 1) := by
      have := nI_pred (c - 1)
      rwa [show c - 1 + 1 = c by omega] at this
    refine SW.aload_n (q := 1) (i := 0) dX0_remove_0 rfl rfl rfl ?_
    refine SW.getI (q := 4) (i := 6) fX0_20 rfl rfl dX0_remove_1 rfl ?_
    refine SW.if_gt (q := 7) (tgt := 9) dX0_remove_4 (by decide) rfl (fun _ => ?_) (fun c4 => absurd ((by rw [hc]; exact nI_lt (a := 0) (by omega) (by omega))) c4)
    refine SW.aload_n (q := 10) (i := 0) dX0_remove_9 rfl rfl rfl ?_
    refine SW.aload_n (q := 11) (i := 0) dX0_remove_10 rfl rfl rfl ?_
    refine SW.getR (q := 14) (i := 6) (j := 32) fX0_16 rfl rfl dX0_remove_11 rfl ?_
    refine SW.iconst (q := 15) (v := 0) dX0_remove_14 (by decide) rfl ?_
    refine SW.cF (q := 18) (C_X3_atn (i := 32) (j := 58) (n := 2308) rfl rfl (k := 0) rfl (by decide)) vX0_27 (by decide) rfl rfl rfl rfl (Nat.le_of_ble_eq_true rfl) dX0_remove_15 rfl ?_
    refine SW.putI (q := 21) (i := 6) pX0_24 rfl rfl dX0_remove_18 rfl ?_
    refine SW.aload_n (q := 22) (i := 0) dX0_remove_21 rfl rfl rfl ?_
    refine SW.dup (q := 23) dX0_remove_22 rfl rfl ?_
    refine SW.getI (q := 26) (i := 6) fX0_20 rfl rfl dX0_remove_23 rfl ?_
    refine SW.iconst (q := 27) (v := 1) dX0_remove_26 (by decide) rfl ?_
    refine SW.isub (q := 28) dX0_remove_27 rfl ?_
    refine SW.putI (q := 31) (i := 6) pX0_20 rfl rfl dX0_remove_28 rfl ?_
    generalize hτ : sw_up (sw_up σ 6 2 (σ 58 0)) 6 1 _ = τ
    have t1 : τ 6 1 = nI (c - 1) := by rw [← hτ, sw_up_i, upd_i, sw_up_i, upd_o (by decide), hc, e1]
    have t2 : τ 6 2 = σ 58 0 := by rw [← hτ, sw_up_i, upd_o (by decide), sw_up_i, upd_i]
    have t3 : fr_ [6, 58] σ τ := by rw [← hτ]; exact fr_up (fr_up fr_rf (by decide)) (by decide)
    have t4 : τ 58 = σ 58 := by rw [← hτ, sw_un (by decide), sw_un (by decide)]
    refine SW.aload_n (q := 32) (i := 0) dX0_remove_31 rfl rfl rfl ?_
    refine SW.aload_n (q := 33) (i := 0) dX0_remove_32 rfl rfl rfl ?_
    refine SW.getR (q := 36) (i := 6) (j := 32) fX0_16 rfl rfl dX0_remove_33 rfl ?_
    refine SW.aload_n (q := 37) (i := 0) dX0_remove_36 rfl rfl rfl ?_
    refine SW.getI (q := 40) (i := 6) fX0_20 rfl rfl dX0_remove_37 rfl ?_
    refine SW.cF (q := 43) (C_X3_atn (i := 32) (j := 58) (n := 2308) rfl rfl (k := c - 1) t1 (by omega)) vX0_27 (by decide) rfl rfl rfl rfl (Nat.le_of_ble_eq_true rfl) dX0_remove_40 rfl ?_
    refine SW.cV (q := 46) (C_X0_sink t1 (by omega) ⟨fun i i0 ic _ _ => by rw [t4]; exact hH i i0 (by omega), fun h => absurd h (Nat.lt_irrefl 0), fun _ _ _ _ h => absurd h (Nat.lt_irrefl 0)⟩) vX0_35 (by decide) rfl rfl rfl rfl (Nat.le_of_ble_eq_true rfl) dX0_remove_43 rfl (fun u43 r43 => ?_)
    obtain ⟨s1, s2, s3⟩ := r43
    refine SW.iconst (q := 47) (v := 1) dX0_remove_46 (by decide) rfl ?_
    refine SW.iretR rfl rfl dX0_remove_47 ?_
    refine Or.inr ⟨by omega, rfl, fr_tr t3 s1 (by decide), by rw [s1 6 (by decide)]; exact t1, by rw [s1 6 (by decide)]; exact t2, s2, fun z hz1 => ?_, fun z hz1 => ?_⟩
    · obtain ⟨q1, q2⟩ := (s3 z).mp hz1
      rw [t4] at q2
      rcases q2 with ⟨i, i1, i2, i3⟩ | rfl
      · exact ⟨i, by omega, i3⟩
      · exact ⟨c - 1, by omega, rfl⟩
    · obtain ⟨i, i1, i2⟩ := hz1
      by_cases i0 : i = 0
      · subst i0; exact Or.inl i2.symm
      · refine Or.inr ((s3 z).mpr ⟨by omega, ?_⟩)
        rw [t4]
        by_cases ic : i = c - 1
        · exact Or.inr (by rw [← i2, ic])
        · exact Or.inl ⟨i, by omega, i0, i2⟩
end HEAP2
end
section
/-! the ground: corners, layers, alike in the class and in the reference -/
def gr_mix (m : Int32) : Int32 := (m ^^^ (m.toUInt32 >>> ((15 : Int32).toUInt32 &&& Int32.toUInt32 31)).toInt32) * 739982445
def gr_c0 (s l i j : Int32) : Int32 := s * 73856093 + l * 19349663 + i * 83492791 + j * 265443576
def gr_c (s l i j : Int32) : Nat := ((gr_mix (gr_mix (gr_c0 s l i j))).toUInt32 >>> ((16 : Int32).toUInt32 &&& Int32.toUInt32 31)).toInt32.toBitVec.toNat % 2 ^ 8
theorem gr_c_le {s l i j : Int32} : gr_c s l i j ≤ 255 := by
  have : gr_c s l i j < 2 ^ 8 := Nat.mod_lt _ (by decide)
  omega
def gr_lay (s l : Int32) (P a b : Nat) : Nat :=
  ((gr_c s l (nI (a / P)) (nI (b / P)) * (P - a % P) + gr_c s l (nI (a / P + 1)) (nI (b / P)) * (a % P)) * (P - b % P) + (gr_c s l (nI (a / P)) (nI (b / P + 1)) * (P - a % P) + gr_c s l (nI (a / P + 1)) (nI (b / P + 1)) * (a % P)) * (b % P)) / (P * P)
def gr_g (s : Int32) (a b : Nat) : Nat := (4 * gr_lay s 0 8 a b + 2 * gr_lay s 1 4 a b + gr_lay s 2 2 a b) / 7
theorem gr_bl {c d P u B : Nat} (hc : c ≤ B) (hd : d ≤ B) (hu : u ≤ P) : c * (P - u) + d * u ≤ B * P := by
  have h1 := Nat.mul_le_mul_right (P - u) hc
  have h2 := Nat.mul_le_mul_right u hd
  have h3 : B * (P - u) + B * u = B * P := by rw [← Nat.mul_add, Nat.sub_add_cancel hu]
  omega
theorem gr_num_le (s l : Int32) (P a b : Nat) (hP : 0 < P) : (gr_c s l (nI (a / P)) (nI (b / P)) * (P - a % P) + gr_c s l (nI (a / P + 1)) (nI (b / P)) * (a % P)) * (P - b % P) + (gr_c s l (nI (a / P)) (nI (b / P + 1)) * (P - a % P) + gr_c s l (nI (a / P + 1)) (nI (b / P + 1)) * (a % P)) * (b % P) ≤ 255 * P * P :=
  gr_bl (gr_bl gr_c_le gr_c_le (Nat.le_of_lt (Nat.mod_lt _ hP))) (gr_bl gr_c_le gr_c_le (Nat.le_of_lt (Nat.mod_lt _ hP))) (Nat.le_of_lt (Nat.mod_lt _ hP))
theorem gr_lay_le (s l : Int32) (P a b : Nat) (hP : 0 < P) : gr_lay s l P a b ≤ 255 := by
  unfold gr_lay
  refine Nat.div_le_of_le_mul (Nat.le_trans (gr_num_le s l P a b hP) ?_)
  rw [Nat.mul_assoc, Nat.mul_comm]
  exact Nat.le_refl _
theorem gr_g_le (s : Int32) (a b : Nat) : gr_g s a b ≤ 255 := by
  have h0 := gr_lay_le s 0 8 a b (by decide)
  have h1 := gr_lay_le s 1 4 a b (by decide)
  have h2 := gr_lay_le s 2 2 a b (by decide)
  unfold gr_g
  omega
section GROUND
variable {X : sw_X} {σ : sw_Sg} {l x y : Int32} {a b P : Nat}
theorem C_X5_cornerOf : sw_F X 0 mX5_cornerOf [.ref (sw_ad X 1), .int l, .int x, .int y] σ (nI (gr_c (σ 1 0) l x y)) σ := by
  refine sw_ME.ofF (by decide +kernel) rfl (Nat.le_of_ble_eq_true rfl) rfl ?_
  refine SW.aload_n (q := 1) (i := 0) dX5_cornerOf_0 rfl rfl rfl ?_
  refine SW.getI (q := 4) (i := 1) fX5_9 rfl rfl dX5_cornerOf_1 rfl ?_
  refine SW.ldc (q := 6) kX5_72 dX5_cornerOf_4 rfl ?_
  refine SW.imul (q := 7) dX5_cornerOf_6 rfl ?_
  refine SW.iload_n (q := 8) (i := 1) dX5_cornerOf_7 rfl rfl rfl ?_
  refine SW.ldc (q := 10) kX5_73 dX5_cornerOf_8 rfl ?_
  refine SW.imul (q := 11) dX5_cornerOf_10 rfl ?_
  refine SW.iadd (q := 12) dX5_cornerOf_11 rfl ?_
  refine SW.iload_n (q := 13) (i := 2) dX5_cornerOf_12 rfl rfl rfl ?_
  refine SW.ldc (q := 15) kX5_74 dX5_cornerOf_13 rfl ?_
  refine SW.imul (q := 16) dX5_cornerOf_15 rfl ?_
  refine SW.iadd (q := 17) dX5_cornerOf_16 rfl ?_
  refine SW.iload_n (q := 18) (i := 3) dX5_cornerOf_17 rfl rfl rfl ?_
  refine SW.ldc (q := 20) kX5_75 dX5_cornerOf_18 rfl ?_
  refine SW.imul (q := 21) dX5_cornerOf_20 rfl ?_
  refine SW.iadd (q := 22) dX5_cornerOf_21 rfl ?_
  refine SW.istore (q := 24) (i := 4) dX5_cornerOf_22 (by decide) rfl ?_
  refine SW.iload (q := 26) (i := 4) dX5_cornerOf_24 rfl rfl ?_
  refine SW.iload (q := 28) (i := 4) dX5_cornerOf_26 rfl rfl ?_
  refine SW.bipush (q := 30) (v := 15) dX5_cornerOf_28 (by decide) rfl ?_
  refine SW.iushr (q := 31) dX5_cornerOf_30 rfl rfl ?_
  refine SW.ixor (q := 32) dX5_cornerOf_31 rfl ?_
  refine SW.ldc (q := 34) kX5_76 dX5_cornerOf_32 rfl ?_
  refine SW.imul (q := 35) dX5_cornerOf_34 rfl ?_
  refine SW.istore (q := 37) (i := 4) dX5_cornerOf_35 (by decide) rfl ?_
  refine SW.iload (q := 39) (i := 4) dX5_cornerOf_37 rfl rfl ?_
  refine SW.iload (q := 41) (i := 4) dX5_cornerOf_39 rfl rfl ?_
  refine SW.bipush (q := 43) (v := 15) dX5_cornerOf_41 (by decide) rfl ?_
  refine SW.iushr (q := 44) dX5_cornerOf_43 rfl rfl ?_
  refine SW.ixor (q := 45) dX5_cornerOf_44 rfl ?_
  refine SW.ldc (q := 47) kX5_76 dX5_cornerOf_45 rfl ?_
  refine SW.imul (q := 48) dX5_cornerOf_47 rfl ?_
  refine SW.istore (q := 50) (i := 4) dX5_cornerOf_48 (by decide) rfl ?_
  refine SW.iload (q := 52) (i := 4) dX5_cornerOf_50 rfl rfl ?_
  refine SW.bipush (q := 54) (v := 16) dX5_cornerOf_52 (by decide) rfl ?_
  refine SW.iushr (q := 55) dX5_cornerOf_54 rfl rfl ?_
  refine SW.sipush (q := 58) (v := 255) dX5_cornerOf_55 (by decide) rfl ?_
  refine SW.iand (q := 59) dX5_cornerOf_58 rfl ?_
  refine SW.iretR rfl rfl dX5_cornerOf_59 ?_
  exact ⟨pk_and _ 8 (by decide), rfl⟩
theorem C_X8_corner : sw_F X 0 mX8_corner [.ref (sw_ad X 59), .int l, .int x, .int y] σ (nI (gr_c (σ 59 0) l x y)) σ := by
  refine sw_ME.ofF (by decide +kernel) rfl (Nat.le_of_ble_eq_true rfl) rfl ?_
  have J : ∀ (m k : Int32), (k = 0 ∧ nI (((gr_mix (gr_mix m)).toUInt32 >>> ((16 : Int32).toUInt32 &&& Int32.toUInt32 31)).toInt32.toBitVec.toNat % 2 ^ 8) = nI (gr_c (σ 59 0) l x y) ∨ k = 1 ∧ nI (((gr_mix m).toUInt32 >>> ((16 : Int32).toUInt32 &&& Int32.toUInt32 31)).toInt32.toBitVec.toNat % 2 ^ 8) = nI (gr_c (σ 59 0) l x y) ∨ k = 2 ∧ nI ((m.toUInt32 >>> ((16 : Int32).toUInt32 &&& Int32.toUInt32 31)).toInt32.toBitVec.toNat % 2 ^ 8) = nI (gr_c (σ 59 0) l x y)) →
      SW X 0 mX8_corner sw_E0 (sw_Ri (fun r u => r = nI (gr_c (σ 59 0) l x y) ∧ u = σ)) 27 [.ref (sw_ad X 59), .int l, .int x, .int y, .int m, .int k] [] σ := by
    have J2 : ∀ (m k : Int32), (k = 2 ∧ nI ((m.toUInt32 >>> ((16 : Int32).toUInt32 &&& Int32.toUInt32 31)).toInt32.toBitVec.toNat % 2 ^ 8) = nI (gr_c (σ 59 0) l x y)) →
      SW X 0 mX8_corner sw_E0 (sw_Ri (fun r u => r = nI (gr_c (σ 59 0) l x y) ∧ u = σ)) 27 [.ref (sw_ad X 59), .int l, .int x, .int y, .int m, .int k] [] σ := by
      rintro m k ⟨rfl, h⟩
      refine SW.iload (q := 29) (i := 5) dX8_corner_27 rfl rfl ?_
      refine SW.iconst (q := 30) (v := 2) dX8_corner_29 (by decide) rfl ?_
      refine SW.icmp_ge (q := 33) (tgt := 52) dX8_corner_30 (by decide) rfl (fun _ => ?_) (fun c30 => absurd ((by decide)) c30)
      refine SW.iload (q := 54) (i := 4) dX8_corner_52 rfl rfl ?_
      refine SW.bipush (q := 56) (v := 16) dX8_corner_54 (by decide) rfl ?_
      refine SW.iushr (q := 57) dX8_corner_56 rfl rfl ?_
      refine SW.sipush (q := 60) (v := 255) dX8_corner_57 (by decide) rfl ?_
      refine SW.iand (q := 61) dX8_corner_60 rfl ?_
      refine SW.iretR rfl rfl dX8_corner_61 ?_
      exact ⟨(pk_and _ 8 (by decide)).trans h, rfl⟩
    have J1 : ∀ (m k : Int32), (k = 1 ∧ nI (((gr_mix m).toUInt32 >>> ((16 : Int32).toUInt32 &&& Int32.toUInt32 31)).toInt32.toBitVec.toNat % 2 ^ 8) = nI (gr_c (σ 59 0) l x y)) →
      SW X 0 mX8_corner sw_E0 (sw_Ri (fun r u => r = nI (gr_c (σ 59 0) l x y) ∧ u = σ)) 27 [.ref (sw_ad X 59), .int l, .int x, .int y, .int m, .int k] [] σ := by
      rintro m k ⟨rfl, h⟩
      refine SW.iload (q := 29) (i := 5) dX8_corner_27 rfl rfl ?_
      refine SW.iconst (q := 30) (v := 2) dX8_corner_29 (by decide) rfl ?_
      refine SW.icmp_ge (q := 33) (tgt := 52) dX8_corner_30 (by decide) rfl (fun c30 => absurd c30 ((by decide))) (fun _ => ?_)
      refine SW.iload (q := 35) (i := 4) dX8_corner_33 rfl rfl ?_
      refine SW.iload (q := 37) (i := 4) dX8_corner_35 rfl rfl ?_
      refine SW.bipush (q := 39) (v := 15) dX8_corner_37 (by decide) rfl ?_
      refine SW.iushr (q := 40) dX8_corner_39 rfl rfl ?_
      refine SW.ixor (q := 41) dX8_corner_40 rfl ?_
      refine SW.ldc (q := 43) kX8_84 dX8_corner_41 rfl ?_
      refine SW.imul (q := 44) dX8_corner_43 rfl ?_
      refine SW.istore (q := 46) (i := 4) dX8_corner_44 (by decide) rfl ?_
      refine SW.iinc (q := 49) (v := _ + 1) dX8_corner_46 rfl rfl (by decide) rfl ?_
      refine SW.goto (q := 27) dX8_corner_49 (by decide) ?_
      exact J2 _ _ ⟨by decide, h⟩
    rintro m k (⟨rfl, h⟩ | h | h)
    · refine SW.iload (q := 29) (i := 5) dX8_corner_27 rfl rfl ?_
      refine SW.iconst (q := 30) (v := 2) dX8_corner_29 (by decide) rfl ?_
      refine SW.icmp_ge (q := 33) (tgt := 52) dX8_corner_30 (by decide) rfl (fun c30 => absurd c30 ((by decide))) (fun _ => ?_)
      refine SW.iload (q := 35) (i := 4) dX8_corner_33 rfl rfl ?_
      refine SW.iload (q := 37) (i := 4) dX8_corner_35 rfl rfl ?_
      refine SW.bipush (q := 39) (v := 15) dX8_corner_37 (by decide) rfl ?_
      refine SW.iushr (q := 40) dX8_corner_39 rfl rfl ?_
      refine SW.ixor (q := 41) dX8_corner_40 rfl ?_
      refine SW.ldc (q := 43) kX8_84 dX8_corner_41 rfl ?_
      refine SW.imul (q := 44) dX8_corner_43 rfl ?_
      refine SW.istore (q := 46) (i := 4) dX8_corner_44 (by decide) rfl ?_
      refine SW.iinc (q := 49) (v := _ + 1) dX8_corner_46 rfl rfl (by decide) rfl ?_
      refine SW.goto (q := 27) dX8_corner_49 (by decide) ?_
      exact J1 _ _ ⟨by decide, h⟩
    · exact J1 m k h
    · exact J2 m k h
  refine SW.aload_n (q := 1) (i := 0) dX8_corner_0 rfl rfl rfl ?_
  refine SW.getI (q := 4) (i := 59) fX8_73 rfl rfl dX8_corner_1 rfl ?_
  refine SW.ldc (q := 6) kX8_80 dX8_corner_4 rfl ?_
  refine SW.imul (q := 7) dX8_corner_6 rfl ?_
  refine SW.iload_n (q := 8) (i := 1) dX8_corner_7 rfl rfl rfl ?_
  refine SW.ldc (q := 10) kX8_81 dX8_corner_8 rfl ?_
  refine SW.imul (q := 11) dX8_corner_10 rfl ?_
  refine SW.iadd (q := 12) dX8_corner_11 rfl ?_
  refine SW.iload_n (q := 13) (i := 2) dX8_corner_12 rfl rfl rfl ?_
  refine SW.ldc (q := 15) kX8_82 dX8_corner_13 rfl ?_
  refine SW.imul (q := 16) dX8_corner_15 rfl ?_
  refine SW.iadd (q := 17) dX8_corner_16 rfl ?_
  refine SW.iload_n (q := 18) (i := 3) dX8_corner_17 rfl rfl rfl ?_
  refine SW.ldc (q := 20) kX8_83 dX8_corner_18 rfl ?_
  refine SW.imul (q := 21) dX8_corner_20 rfl ?_
  refine SW.iadd (q := 22) dX8_corner_21 rfl ?_
  refine SW.istore (q := 24) (i := 4) dX8_corner_22 (by decide) rfl ?_
  refine SW.iconst (q := 25) (v := 0) dX8_corner_24 (by decide) rfl ?_
  refine SW.istore (q := 27) (i := 5) dX8_corner_25 (by decide) rfl ?_
  exact J _ _ (Or.inl ⟨rfl, rfl⟩)
theorem C_X5_layerOf0 {c : Nat} (hP : 0 < P ∧ P ≤ 8) (ha : a < 2 ^ 30) (hb : b < 2 ^ 30) (e1 : (3 : Int32) - l = nI c) (e2 : (1 : Int32) <<< (nI c &&& 31) = nI P) (e3 : ∀ a, a < 2 ^ 31 → nI a >>> (nI c &&& 31) = nI (a / P)) (e4 : ∀ a, a < 2 ^ 32 → nI a &&& (nI P - 1) = nI (a % P)) (e5 : ∀ a, a < 2 ^ 31 → nI a >>> (((2 : Int32) * nI c) &&& 31) = nI (a / (P * P))) :
    sw_F X 1 mX5_layerOf [.ref (sw_ad X 1), .int l, .int (nI a), .int (nI b)] σ (nI (gr_lay (σ 1 0) l P a b)) σ := by
  have eu : nI P - nI (a % P) = nI (P - a % P) := pk_sub (Nat.le_of_lt (Nat.mod_lt _ hP.1))
  have ev : nI P - nI (b % P) = nI (P - b % P) := pk_sub (Nat.le_of_lt (Nat.mod_lt _ hP.1))
  have hn := gr_num_le (σ 1 0) l P a b hP.1
  have hPP : 255 * P * P ≤ 255 * 8 * 8 := by
    have h1 : P * P ≤ 8 * 8 := Nat.mul_le_mul hP.2 hP.2
    rw [Nat.mul_assoc]; omega
  refine sw_ME.ofF (by decide +kernel) rfl (Nat.le_of_ble_eq_true rfl) rfl ?_
  refine SW.iconst (q := 1) (v := 3) dX5_layerOf_0 (by decide) rfl ?_
  refine SW.iload_n (q := 2) (i := 1) dX5_layerOf_1 rfl rfl rfl ?_
  refine SW.isub (q := 3) dX5_layerOf_2 rfl ?_
  refine SW.istore (q := 5) (i := 4) dX5_layerOf_3 (by decide) rfl ?_
  refine SW.iconst (q := 6) (v := 1) dX5_layerOf_5 (by decide) rfl ?_
  refine SW.iload (q := 8) (i := 4) dX5_layerOf_6 rfl rfl ?_
  refine SW.ishl (q := 9) dX5_layerOf_8 rfl ?_
  refine SW.istore (q := 11) (i := 5) dX5_layerOf_9 (by decide) rfl ?_
  refine SW.iload_n (q := 12) (i := 2) dX5_layerOf_11 rfl rfl rfl ?_
  refine SW.iload (q := 14) (i := 4) dX5_layerOf_12 rfl rfl ?_
  refine SW.ishr (q := 15) dX5_layerOf_14 rfl ?_
  refine SW.istore (q := 17) (i := 6) dX5_layerOf_15 (by decide) rfl ?_
  refine SW.iload_n (q := 18) (i := 3) dX5_layerOf_17 rfl rfl rfl ?_
  refine SW.iload (q := 20) (i := 4) dX5_layerOf_18 rfl rfl ?_
  refine SW.ishr (q := 21) dX5_layerOf_20 rfl ?_
  refine SW.istore (q := 23) (i := 7) dX5_layerOf_21 (by decide) rfl ?_
  refine SW.iload_n (q := 24) (i := 2) dX5_layerOf_23 rfl rfl rfl ?_
  refine SW.iload (q := 26) (i := 5) dX5_layerOf_24 rfl rfl ?_
  refine SW.iconst (q := 27) (v := 1) dX5_layerOf_26 (by decide) rfl ?_
  refine SW.isub (q := 28) dX5_layerOf_27 rfl ?_
  refine SW.iand (q := 29) dX5_layerOf_28 rfl ?_
  refine SW.istore (q := 31) (i := 8) dX5_layerOf_29 (by decide) rfl ?_
  refine SW.iload_n (q := 32) (i := 3) dX5_layerOf_31 rfl rfl rfl ?_
  refine SW.iload (q := 34) (i := 5) dX5_layerOf_32 rfl rfl ?_
  refine SW.iconst (q := 35) (v := 1) dX5_layerOf_34 (by decide) rfl ?_
  refine SW.isub (q := 36) dX5_layerOf_35 rfl ?_
  refine SW.iand (q := 37) dX5_layerOf_36 rfl ?_
  refine SW.istore (q := 39) (i := 9) dX5_layerOf_37 (by decide) rfl ?_
  refine SW.aload_n (q := 40) (i := 0) dX5_layerOf_39 rfl rfl rfl ?_
  refine SW.iload_n (q := 41) (i := 1) dX5_layerOf_40 rfl rfl rfl ?_
  refine SW.iload (q := 43) (i := 6) dX5_layerOf_41 rfl rfl ?_
  refine SW.iload (q := 45) (i := 7) dX5_layerOf_43 rfl rfl ?_
  refine SW.cF (q := 48) (C_X5_cornerOf) vX5_69 (by decide) rfl rfl rfl rfl (Nat.le_of_ble_eq_true rfl) dX5_layerOf_45 rfl ?_
  refine SW.iload (q := 50) (i := 5) dX5_layerOf_48 rfl rfl ?_
  refine SW.iload (q := 52) (i := 8) dX5_layerOf_50 rfl rfl ?_
  refine SW.isub (q := 53) dX5_layerOf_52 rfl ?_
  refine SW.imul (q := 54) dX5_layerOf_53 rfl ?_
  refine SW.aload_n (q := 55) (i := 0) dX5_layerOf_54 rfl rfl rfl ?_
  refine SW.iload_n (q := 56) (i := 1) dX5_layerOf_55 rfl rfl rfl ?_
  refine SW.iload (q := 58) (i := 6) dX5_layerOf_56 rfl rfl ?_
  refine SW.iconst (q := 59) (v := 1) dX5_layerOf_58 (by decide) rfl ?_
  refine SW.iadd (q := 60) dX5_layerOf_59 rfl ?_
  refine SW.iload (q := 62) (i := 7) dX5_layerOf_60 rfl rfl ?_
  refine SW.cF (q := 65) (C_X5_cornerOf) vX5_69 (by decide) rfl rfl rfl rfl (Nat.le_of_ble_eq_true rfl) dX5_layerOf_62 rfl ?_
  refine SW.iload (q := 67) (i := 8) dX5_layerOf_65 rfl rfl ?_
  refine SW.imul (q := 68) dX5_layerOf_67 rfl ?_
  refine SW.iadd (q := 69) dX5_layerOf_68 rfl ?_
  refine SW.istore (q := 71) (i := 10) dX5_layerOf_69 (by decide) rfl ?_
  refine SW.aload_n (q := 72) (i := 0) dX5_layerOf_71 rfl rfl rfl ?_
  refine SW.iload_n (q := 73) (i := 1) dX5_layerOf_72 rfl rfl rfl ?_
  refine SW.iload (q := 75) (i := 6) dX5_layerOf_73 rfl rfl ?_
  refine SW.iload (q := 77) (i := 7) dX5_layerOf_75 rfl rfl ?_
  refine SW.iconst (q := 78) (v := 1) dX5_layerOf_77 (by decide) rfl ?_
  refine SW.iadd (q := 79) dX5_layerOf_78 rfl ?_
  refine SW.cF (q := 82) (C_X5_cornerOf) vX5_69 (by decide) rfl rfl rfl rfl (Nat.le_of_ble_eq_true rfl) dX5_layerOf_79 rfl ?_
  refine SW.iload (q := 84) (i := 5) dX5_layerOf_82 rfl rfl ?_
  refine SW.iload (q := 86) (i := 8) dX5_layerOf_84 rfl rfl ?_
  refine SW.isub (q := 87) dX5_layerOf_86 rfl ?_
  refine SW.imul (q := 88) dX5_layerOf_87 rfl ?_
  refine SW.aload_n (q := 89) (i := 0) dX5_layerOf_88 rfl rfl rfl ?_
  refine SW.iload_n (q := 90) (i := 1) dX5_layerOf_89 rfl rfl rfl ?_
  refine SW.iload (q := 92) (i := 6) dX5_layerOf_90 rfl rfl ?_
  refine SW.iconst (q := 93) (v := 1) dX5_layerOf_92 (by decide) rfl ?_
  refine SW.iadd (q := 94) dX5_layerOf_93 rfl ?_
  refine SW.iload (q := 96) (i := 7) dX5_layerOf_94 rfl rfl ?_
  refine SW.iconst (q := 97) (v := 1) dX5_layerOf_96 (by decide) rfl ?_
  refine SW.iadd (q := 98) dX5_layerOf_97 rfl ?_
  refine SW.cF (q := 101) (C_X5_cornerOf) vX5_69 (by decide) rfl rfl rfl rfl (Nat.le_of_ble_eq_true rfl) dX5_layerOf_98 rfl ?_
  refine SW.iload (q := 103) (i := 8) dX5_layerOf_101 rfl rfl ?_
  refine SW.imul (q := 104) dX5_layerOf_103 rfl ?_
  refine SW.iadd (q := 105) dX5_layerOf_104 rfl ?_
  refine SW.istore (q := 107) (i := 11) dX5_layerOf_105 (by decide) rfl ?_
  refine SW.iload (q := 109) (i := 10) dX5_layerOf_107 rfl rfl ?_
  refine SW.iload (q := 111) (i := 5) dX5_layerOf_109 rfl rfl ?_
  refine SW.iload (q := 113) (i := 9) dX5_layerOf_111 rfl rfl ?_
  refine SW.isub (q := 114) dX5_layerOf_113 rfl ?_
  refine SW.imul (q := 115) dX5_layerOf_114 rfl ?_
  refine SW.iload (q := 117) (i := 11) dX5_layerOf_115 rfl rfl ?_
  refine SW.iload (q := 119) (i := 9) dX5_layerOf_117 rfl rfl ?_
  refine SW.imul (q := 120) dX5_layerOf_119 rfl ?_
  refine SW.iadd (q := 121) dX5_layerOf_120 rfl ?_
  refine SW.iconst (q := 122) (v := 2) dX5_layerOf_121 (by decide) rfl ?_
  refine SW.iload (q := 124) (i := 4) dX5_layerOf_122 rfl rfl ?_
  refine SW.imul (q := 125) dX5_layerOf_124 rfl ?_
  refine SW.ishr (q := 126) dX5_layerOf_125 rfl ?_
  refine SW.iretR rfl rfl dX5_layerOf_126 ?_
  refine ⟨?_, rfl⟩
  simp only [e1, e2, e3 a (by omega), e3 b (by omega), e4 a (by omega), e4 b (by omega), nI_1, eu, ev, pk_mul, nI_add]
  exact e5 _ (by omega)
theorem C_X5_layerOf_0 (ha : a < 2 ^ 30) (hb : b < 2 ^ 30) : sw_F X 1 mX5_layerOf [.ref (sw_ad X 1), .int 0, .int (nI a), .int (nI b)] σ (nI (gr_lay (σ 1 0) 0 8 a b)) σ :=
  C_X5_layerOf0 (c := 3) (by decide) ha hb (by decide) (by decide) (fun a h => pk_shrN h _ 3 (by decide)) (fun a h => pk_andN h 3 (by decide)) (fun a h => pk_shrN h _ 6 (by decide))
theorem C_X5_layerOf_1 (ha : a < 2 ^ 30) (hb : b < 2 ^ 30) : sw_F X 1 mX5_layerOf [.ref (sw_ad X 1), .int 1, .int (nI a), .int (nI b)] σ (nI (gr_lay (σ 1 0) 1 4 a b)) σ :=
  C_X5_layerOf0 (c := 2) (by decide) ha hb (by decide) (by decide) (fun a h => pk_shrN h _ 2 (by decide)) (fun a h => pk_andN h 2 (by decide)) (fun a h => pk_shrN h _ 4 (by decide))
theorem C_X5_layerOf_2 (ha : a < 2 ^ 30) (hb : b < 2 ^ 30) : sw_F X 1 mX5_layerOf [.ref (sw_ad X 1), .int 2, .int (nI a), .int (nI b)] σ (nI (gr_lay (σ 1 0) 2 2 a b)) σ :=
  C_X5_layerOf0 (c := 1) (by decide) ha hb (by decide) (by decide) (fun a h => pk_shrN h _ 1 (by decide)) (fun a h => pk_andN h 1 (by decide)) (fun a h => pk_shrN h _ 2 (by decide))
theorem gr_sum {s : Int32} {a b : Nat} : ((4 : Int32) * nI (gr_lay s 0 8 a b) + (2 : Int32) * nI (gr_lay s 1 4 a b) + nI (gr_lay s 2 2 a b)) / (7 : Int32) = nI (gr_g s a b) := by
  have h0 := gr_lay_le s 0 8 a b (by decide)
  have h1 := gr_lay_le s 1 4 a b (by decide)
  have h2 := gr_lay_le s 2 2 a b (by decide)
  unfold gr_g
  generalize gr_lay s 0 8 a b = A at *
  generalize gr_lay s 1 4 a b = B at *
  generalize gr_lay s 2 2 a b = C at *
  rw [show (4 : Int32) = nI 4 from rfl, show (2 : Int32) = nI 2 from rfl, show (7 : Int32) = nI 7 from rfl, pk_mul, pk_mul, nI_add, nI_add, pk_div (by omega) (by decide) (by decide)]
theorem C_X5_groundOf (hx : x = nI a) (hy : y = nI b) (ha : a < 2 ^ 30) (hb : b < 2 ^ 30) : sw_F X 2 mX5_groundOf [.ref (sw_ad X 1), .int x, .int y] σ (nI (gr_g (σ 1 0) a b)) σ := by
  subst hx; subst hy
  refine sw_ME.ofF (by decide +kernel) rfl (Nat.le_of_ble_eq_true rfl) rfl ?_
  refine SW.iconst (q := 1) (v := 4) dX5_groundOf_0 (by decide) rfl ?_
  refine SW.aload_n (q := 2) (i := 0) dX5_groundOf_1 rfl rfl rfl ?_
  refine SW.iconst (q := 3) (v := 0) dX5_groundOf_2 (by decide) rfl ?_
  refine SW.iload_n (q := 4) (i := 1) dX5_groundOf_3 rfl rfl rfl ?_
  refine SW.iload_n (q := 5) (i := 2) dX5_groundOf_4 rfl rfl rfl ?_
  refine SW.cF (q := 8) (C_X5_layerOf_0 ha hb) vX5_65 (by decide) rfl rfl rfl rfl (Nat.le_of_ble_eq_true rfl) dX5_groundOf_5 rfl ?_
  refine SW.imul (q := 9) dX5_groundOf_8 rfl ?_
  refine SW.iconst (q := 10) (v := 2) dX5_groundOf_9 (by decide) rfl ?_
  refine SW.aload_n (q := 11) (i := 0) dX5_groundOf_10 rfl rfl rfl ?_
  refine SW.iconst (q := 12) (v := 1) dX5_groundOf_11 (by decide) rfl ?_
  refine SW.iload_n (q := 13) (i := 1) dX5_groundOf_12 rfl rfl rfl ?_
  refine SW.iload_n (q := 14) (i := 2) dX5_groundOf_13 rfl rfl rfl ?_
  refine SW.cF (q := 17) (C_X5_layerOf_1 ha hb) vX5_65 (by decide) rfl rfl rfl rfl (Nat.le_of_ble_eq_true rfl) dX5_groundOf_14 rfl ?_
  refine SW.imul (q := 18) dX5_groundOf_17 rfl ?_
  refine SW.iadd (q := 19) dX5_groundOf_18 rfl ?_
  refine SW.aload_n (q := 20) (i := 0) dX5_groundOf_19 rfl rfl rfl ?_
  refine SW.iconst (q := 21) (v := 2) dX5_groundOf_20 (by decide) rfl ?_
  refine SW.iload_n (q := 22) (i := 1) dX5_groundOf_21 rfl rfl rfl ?_
  refine SW.iload_n (q := 23) (i := 2) dX5_groundOf_22 rfl rfl rfl ?_
  refine SW.cF (q := 26) (C_X5_layerOf_2 ha hb) vX5_65 (by decide) rfl rfl rfl rfl (Nat.le_of_ble_eq_true rfl) dX5_groundOf_23 rfl ?_
  refine SW.iadd (q := 27) dX5_groundOf_26 rfl ?_
  refine SW.bipush (q := 29) (v := 7) dX5_groundOf_27 (by decide) rfl ?_
  refine SW.idiv (q := 30) dX5_groundOf_29 (by decide) rfl ?_
  refine SW.iretR rfl rfl dX5_groundOf_30 ?_
  exact ⟨gr_sum, rfl⟩
theorem C_X8_layer0 (hP : 0 < P ∧ P ≤ 8) (hl : l = 0 ∧ P = 8 ∨ l = 1 ∧ P = 4 ∨ l = 2 ∧ P = 2) (ha : a < 2 ^ 30) (hb : b < 2 ^ 30) :
    sw_F X 1 mX8_layer [.ref (sw_ad X 59), .int l, .int (nI a), .int (nI b)] σ (nI (gr_lay (σ 59 0) l P a b)) σ := by
  have eu : nI P - nI (a % P) = nI (P - a % P) := pk_sub (Nat.le_of_lt (Nat.mod_lt _ hP.1))
  have ev : nI P - nI (b % P) = nI (P - b % P) := pk_sub (Nat.le_of_lt (Nat.mod_lt _ hP.1))
  have ea := pk_div (a := a) (d := P) (by omega) hP.1 (by omega)
  have eb := pk_div (a := b) (d := P) (by omega) hP.1 (by omega)
  have ra := pk_rem (a := a) (d := P) (by omega) hP.1 (by omega)
  have rb := pk_rem (a := b) (d := P) (by omega) hP.1 (by omega)
  have hn := gr_num_le (σ 59 0) l P a b hP.1
  have hPP : 255 * P * P ≤ 255 * 8 * 8 := by
    have h1 : P * P ≤ 8 * 8 := Nat.mul_le_mul hP.2 hP.2
    rw [Nat.mul_assoc]; omega
  have h0 : ¬ nI P = 0 := nI_ne0 hP.1 (by omega)
  have hP2 : P * P < 2 ^ 31 := by
    have h1 : P * P ≤ 8 * 8 := Nat.mul_le_mul hP.2 hP.2
    omega
  refine sw_ME.ofF (by decide +kernel) rfl (Nat.le_of_ble_eq_true rfl) rfl ?_
  have J : SW X 1 mX8_layer sw_E0 (sw_Ri (fun r u => r = nI (gr_lay (σ 59 0) l P a b) ∧ u = σ)) 19 [.ref (sw_ad X 59), .int l, .int (nI a), .int (nI b), .null, .null, .null, .null, .null, .null, .null] [.int (nI P)] σ := by
    refine SW.istore (q := 21) (i := 4) dX8_layer_19 (by decide) rfl ?_
    refine SW.iload_n (q := 22) (i := 2) dX8_layer_21 rfl rfl rfl ?_
    refine SW.iload (q := 24) (i := 4) dX8_layer_22 rfl rfl ?_
    refine SW.idiv (q := 25) dX8_layer_24 h0 rfl ?_
    refine SW.istore (q := 27) (i := 5) dX8_layer_25 (by decide) rfl ?_
    refine SW.iload_n (q := 28) (i := 3) dX8_layer_27 rfl rfl rfl ?_
    refine SW.iload (q := 30) (i := 4) dX8_layer_28 rfl rfl ?_
    refine SW.idiv (q := 31) dX8_layer_30 h0 rfl ?_
    refine SW.istore (q := 33) (i := 6) dX8_layer_31 (by decide) rfl ?_
    refine SW.iload_n (q := 34) (i := 2) dX8_layer_33 rfl rfl rfl ?_
    refine SW.iload (q := 36) (i := 4) dX8_layer_34 rfl rfl ?_
    refine SW.irem (q := 37) dX8_layer_36 h0 rfl ?_
    refine SW.istore (q := 39) (i := 7) dX8_layer_37 (by decide) rfl ?_
    refine SW.iload_n (q := 40) (i := 3) dX8_layer_39 rfl rfl rfl ?_
    refine SW.iload (q := 42) (i := 4) dX8_layer_40 rfl rfl ?_
    refine SW.irem (q := 43) dX8_layer_42 h0 rfl ?_
    refine SW.istore (q := 45) (i := 8) dX8_layer_43 (by decide) rfl ?_
    refine SW.aload_n (q := 46) (i := 0) dX8_layer_45 rfl rfl rfl ?_
    refine SW.iload_n (q := 47) (i := 1) dX8_layer_46 rfl rfl rfl ?_
    refine SW.iload (q := 49) (i := 5) dX8_layer_47 rfl rfl ?_
    refine SW.iload (q := 51) (i := 6) dX8_layer_49 rfl rfl ?_
    refine SW.cF (q := 54) (C_X8_corner) vX8_85 (by decide) rfl rfl rfl rfl (Nat.le_of_ble_eq_true rfl) dX8_layer_51 rfl ?_
    refine SW.iload (q := 56) (i := 4) dX8_layer_54 rfl rfl ?_
    refine SW.iload (q := 58) (i := 7) dX8_layer_56 rfl rfl ?_
    refine SW.isub (q := 59) dX8_layer_58 rfl ?_
    refine SW.imul (q := 60) dX8_layer_59 rfl ?_
    refine SW.aload_n (q := 61) (i := 0) dX8_layer_60 rfl rfl rfl ?_
    refine SW.iload_n (q := 62) (i := 1) dX8_layer_61 rfl rfl rfl ?_
    refine SW.iload (q := 64) (i := 5) dX8_layer_62 rfl rfl ?_
    refine SW.iconst (q := 65) (v := 1) dX8_layer_64 (by decide) rfl ?_
    refine SW.iadd (q := 66) dX8_layer_65 rfl ?_
    refine SW.iload (q := 68) (i := 6) dX8_layer_66 rfl rfl ?_
    refine SW.cF (q := 71) (C_X8_corner) vX8_85 (by decide) rfl rfl rfl rfl (Nat.le_of_ble_eq_true rfl) dX8_layer_68 rfl ?_
    refine SW.iload (q := 73) (i := 7) dX8_layer_71 rfl rfl ?_
    refine SW.imul (q := 74) dX8_layer_73 rfl ?_
    refine SW.iadd (q := 75) dX8_layer_74 rfl ?_
    refine SW.istore (q := 77) (i := 9) dX8_layer_75 (by decide) rfl ?_
    refine SW.aload_n (q := 78) (i := 0) dX8_layer_77 rfl rfl rfl ?_
    refine SW.iload_n (q := 79) (i := 1) dX8_layer_78 rfl rfl rfl ?_
    refine SW.iload (q := 81) (i := 5) dX8_layer_79 rfl rfl ?_
    refine SW.iload (q := 83) (i := 6) dX8_layer_81 rfl rfl ?_
    refine SW.iconst (q := 84) (v := 1) dX8_layer_83 (by decide) rfl ?_
    refine SW.iadd (q := 85) dX8_layer_84 rfl ?_
    refine SW.cF (q := 88) (C_X8_corner) vX8_85 (by decide) rfl rfl rfl rfl (Nat.le_of_ble_eq_true rfl) dX8_layer_85 rfl ?_
    refine SW.iload (q := 90) (i := 4) dX8_layer_88 rfl rfl ?_
    refine SW.iload (q := 92) (i := 7) dX8_layer_90 rfl rfl ?_
    refine SW.isub (q := 93) dX8_layer_92 rfl ?_
    refine SW.imul (q := 94) dX8_layer_93 rfl ?_
    refine SW.aload_n (q := 95) (i := 0) dX8_layer_94 rfl rfl rfl ?_
    refine SW.iload_n (q := 96) (i := 1) dX8_layer_95 rfl rfl rfl ?_
    refine SW.iload (q := 98) (i := 5) dX8_layer_96 rfl rfl ?_
    refine SW.iconst (q := 99) (v := 1) dX8_layer_98 (by decide) rfl ?_
    refine SW.iadd (q := 100) dX8_layer_99 rfl ?_
    refine SW.iload (q := 102) (i := 6) dX8_layer_100 rfl rfl ?_
    refine SW.iconst (q := 103) (v := 1) dX8_layer_102 (by decide) rfl ?_
    refine SW.iadd (q := 104) dX8_layer_103 rfl ?_
    refine SW.cF (q := 107) (C_X8_corner) vX8_85 (by decide) rfl rfl rfl rfl (Nat.le_of_ble_eq_true rfl) dX8_layer_104 rfl ?_
    refine SW.iload (q := 109) (i := 7) dX8_layer_107 rfl rfl ?_
    refine SW.imul (q := 110) dX8_layer_109 rfl ?_
    refine SW.iadd (q := 111) dX8_layer_110 rfl ?_
    refine SW.istore (q := 113) (i := 10) dX8_layer_111 (by decide) rfl ?_
    refine SW.iload (q := 115) (i := 9) dX8_layer_113 rfl rfl ?_
    refine SW.iload (q := 117) (i := 4) dX8_layer_115 rfl rfl ?_
    refine SW.iload (q := 119) (i := 8) dX8_layer_117 rfl rfl ?_
    refine SW.isub (q := 120) dX8_layer_119 rfl ?_
    refine SW.imul (q := 121) dX8_layer_120 rfl ?_
    refine SW.iload (q := 123) (i := 10) dX8_layer_121 rfl rfl ?_
    refine SW.iload (q := 125) (i := 8) dX8_layer_123 rfl rfl ?_
    refine SW.imul (q := 126) dX8_layer_125 rfl ?_
    refine SW.iadd (q := 127) dX8_layer_126 rfl ?_
    refine SW.iload (q := 129) (i := 4) dX8_layer_127 rfl rfl ?_
    refine SW.iload (q := 131) (i := 4) dX8_layer_129 rfl rfl ?_
    refine SW.imul (q := 132) dX8_layer_131 rfl ?_
    refine SW.idiv (q := 133) dX8_layer_132 (by rw [pk_mul]; exact nI_ne0 (Nat.mul_pos hP.1 hP.1) hP2) rfl ?_
    refine SW.iretR rfl rfl dX8_layer_133 ?_
    refine ⟨?_, rfl⟩
    simp only [ra, rb]
    simp only [ea, eb, nI_1, eu, ev, pk_mul, nI_add]
    exact pk_div (by omega) (Nat.mul_pos hP.1 hP.1) hP2
  rcases hl with ⟨rfl, rfl⟩ | ⟨rfl, rfl⟩ | ⟨rfl, rfl⟩
  · refine SW.iload_n (q := 1) (i := 1) dX8_layer_0 rfl rfl rfl ?_
    refine SW.if_ne (q := 4) (tgt := 9) dX8_layer_1 (by decide) rfl (fun c1 => absurd (rfl) c1) (fun _ => ?_)
    refine SW.bipush (q := 6) (v := 8) dX8_layer_4 (by decide) rfl ?_
    refine SW.goto (q := 19) dX8_layer_6 (by decide) ?_
    exact J
  · refine SW.iload_n (q := 1) (i := 1) dX8_layer_0 rfl rfl rfl ?_
    refine SW.if_ne (q := 4) (tgt := 9) dX8_layer_1 (by decide) rfl (fun _ => ?_) (fun c1 => absurd c1 ((by decide)))
    refine SW.iload_n (q := 10) (i := 1) dX8_layer_9 rfl rfl rfl ?_
    refine SW.iconst (q := 11) (v := 1) dX8_layer_10 (by decide) rfl ?_
    refine SW.icmp_ne (q := 14) (tgt := 18) dX8_layer_11 (by decide) rfl (fun c11 => absurd (rfl) c11) (fun _ => ?_)
    refine SW.iconst (q := 15) (v := 4) dX8_layer_14 (by decide) rfl ?_
    refine SW.goto (q := 19) dX8_layer_15 (by decide) ?_
    exact J
  · refine SW.iload_n (q := 1) (i := 1) dX8_layer_0 rfl rfl rfl ?_
    refine SW.if_ne (q := 4) (tgt := 9) dX8_layer_1 (by decide) rfl (fun _ => ?_) (fun c1 => absurd c1 ((by decide)))
    refine SW.iload_n (q := 10) (i := 1) dX8_layer_9 rfl rfl rfl ?_
    refine SW.iconst (q := 11) (v := 1) dX8_layer_10 (by decide) rfl ?_
    refine SW.icmp_ne (q := 14) (tgt := 18) dX8_layer_11 (by decide) rfl (fun _ => ?_) (fun c11 => absurd c11 ((by decide)))
    refine SW.iconst (q := 19) (v := 2) dX8_layer_18 (by decide) rfl ?_
    exact J
theorem C_X8_groundAt (hx : x = nI a) (hy : y = nI b) (ha : a < 2 ^ 30) (hb : b < 2 ^ 30) : sw_F X 2 mX8_groundAt [.ref (sw_ad X 59), .int x, .int y] σ (nI (gr_g (σ 59 0) a b)) σ := by
  subst hx; subst hy
  refine sw_ME.ofF (by decide +kernel) rfl (Nat.le_of_ble_eq_true rfl) rfl ?_
  refine SW.iconst (q := 1) (v := 4) dX8_groundAt_0 (by decide) rfl ?_
  refine SW.aload_n (q := 2) (i := 0) dX8_groundAt_1 rfl rfl rfl ?_
  refine SW.iconst (q := 3) (v := 0) dX8_groundAt_2 (by decide) rfl ?_
  refine SW.iload_n (q := 4) (i := 1) dX8_groundAt_3 rfl rfl rfl ?_
  refine SW.iload_n (q := 5) (i := 2) dX8_groundAt_4 rfl rfl rfl ?_
  refine SW.cF (q := 8) (C_X8_layer0 (P := 8) (by decide) (by decide) ha hb) vX8_89 (by decide) rfl rfl rfl rfl (Nat.le_of_ble_eq_true rfl) dX8_groundAt_5 rfl ?_
  refine SW.imul (q := 9) dX8_groundAt_8 rfl ?_
  refine SW.iconst (q := 10) (v := 2) dX8_groundAt_9 (by decide) rfl ?_
  refine SW.aload_n (q := 11) (i := 0) dX8_groundAt_10 rfl rfl rfl ?_
  refine SW.iconst (q := 12) (v := 1) dX8_groundAt_11 (by decide) rfl ?_
  refine SW.iload_n (q := 13) (i := 1) dX8_groundAt_12 rfl rfl rfl ?_
  refine SW.iload_n (q := 14) (i := 2) dX8_groundAt_13 rfl rfl rfl ?_
  refine SW.cF (q := 17) (C_X8_layer0 (P := 4) (by decide) (by decide) ha hb) vX8_89 (by decide) rfl rfl rfl rfl (Nat.le_of_ble_eq_true rfl) dX8_groundAt_14 rfl ?_
  refine SW.imul (q := 18) dX8_groundAt_17 rfl ?_
  refine SW.iadd (q := 19) dX8_groundAt_18 rfl ?_
  refine SW.aload_n (q := 20) (i := 0) dX8_groundAt_19 rfl rfl rfl ?_
  refine SW.iconst (q := 21) (v := 2) dX8_groundAt_20 (by decide) rfl ?_
  refine SW.iload_n (q := 22) (i := 1) dX8_groundAt_21 rfl rfl rfl ?_
  refine SW.iload_n (q := 23) (i := 2) dX8_groundAt_22 rfl rfl rfl ?_
  refine SW.cF (q := 26) (C_X8_layer0 (P := 2) (by decide) (by decide) ha hb) vX8_89 (by decide) rfl rfl rfl rfl (Nat.le_of_ble_eq_true rfl) dX8_groundAt_23 rfl ?_
  refine SW.iadd (q := 27) dX8_groundAt_26 rfl ?_
  refine SW.bipush (q := 29) (v := 7) dX8_groundAt_27 (by decide) rfl ?_
  refine SW.idiv (q := 30) dX8_groundAt_29 (by decide) rfl ?_
  refine SW.iretR rfl rfl dX8_groundAt_30 ?_
  exact ⟨gr_sum, rfl⟩
end GROUND
end
section
/-! places and their neighbours, alike in the class and in the reference -/
theorem SW.tableK {X : sw_X} {d : Nat} {me : sw_Me} {E : State → Prop} {R : Option Value → sw_Sg → Prop} {pc q : Nat} {L rest : List Value} {σ : sw_Sg} {x k : Int32} {dflt lo hi : Int} {offs : Array Int} {len : Nat} {off : Int} (hd : decode me.2.1 pc = .ok (.tableswitch dflt lo hi offs, len)) (hx : x = k) (h1 : ¬ k.toInt < lo) (h2 : ¬ hi < k.toInt) (ho : offs[(k.toInt - lo).toNat]? = some off) (hq : (pc : Int) + off = (q : Int)) (kk : SW X d me E R q L rest σ) : SW X d me E R pc L (.int x :: rest) σ := by
  subst hx
  exact SW.tableIn hd h1 h2 ho hq kk
def gr_nb (n p : Nat) : Nat → Option Nat
  | 0 => if 0 < p / n then some (p - n) else none
  | 1 => if 0 < p % n then some (p - 1) else none
  | 2 => if p % n < n - 1 then some (p + 1) else none
  | 3 => if p / n < n - 1 then some (p + n) else none
  | _ => none
def gr_v : Option Nat → Int32
  | none => -6
  | some q => nI q
def gr_rim (n p : Nat) : Bool := decide (p % n = 0 ∨ p / n = 0 ∨ p % n = n - 1 ∨ p / n = n - 1)
def sw_b (b : Bool) : Int32 := if b = true then 1 else 0
theorem sw_b_0 {b : Bool} : sw_b b = 0 ↔ b = false := by cases b <;> decide
theorem sw_b_1 {b : Bool} : sw_b b = 1 ↔ b = true := by cases b <;> decide
def sw_wi (v lo hi : Int32) : Int32 := if lo ≤ v ∧ v ≤ hi then 1 else 0
theorem sw_wi_1 {v lo hi : Int32} (h1 : lo ≤ v) (h2 : v ≤ hi) : ¬ sw_wi v lo hi = 0 := by
  rw [sw_wi, if_pos ⟨h1, h2⟩]; decide
theorem sw_wi_0 {v lo hi : Int32} (h : ¬ (lo ≤ v ∧ v ≤ hi)) : sw_wi v lo hi = 0 := by
  rw [sw_wi, if_neg h]
theorem sw_wi_e {v lo hi : Int32} : sw_wi v lo hi = 0 ↔ ¬ (lo ≤ v ∧ v ≤ hi) := by
  unfold sw_wi
  by_cases h : lo ≤ v ∧ v ≤ hi
  · rw [if_pos h]; exact ⟨fun q => absurd q (by decide), fun k => absurd h k⟩
  · rw [if_neg h]; exact ⟨fun _ => h, fun _ => rfl⟩
theorem gr_lt {n p : Nat} (hp : p < n * n) : p / n < n ∧ p % n < n ∧ 0 < n := by
  have hn : 0 < n := by
    rcases Nat.eq_zero_or_pos n with rfl | h
    · omega
    · exact h
  exact ⟨Nat.div_lt_of_lt_mul hp, Nat.mod_lt _ hn, hn⟩
theorem gr_xy {n x y : Nat} (hx : x < n) : (n * y + x) % n = x ∧ (n * y + x) / n = y := by
  have hn : 0 < n := by omega
  constructor
  · rw [Nat.mul_add_mod]; exact Nat.mod_eq_of_lt hx
  · rw [Nat.mul_add_div hn, Nat.div_eq_of_lt hx]; rfl
theorem gr_in {n x y : Nat} (hx : x < n) (hy : y < n) : n * y + x < n * n := by
  have : n * y + n ≤ n * n := by
    have := Nat.mul_le_mul_left n (show y + 1 ≤ n by omega)
    rwa [Nat.mul_add, Nat.mul_one] at this
  omega
theorem gr_pp {n p : Nat} : n * (p / n) + p % n = p := Nat.div_add_mod p n
theorem gr_pn {n p : Nat} (h : 0 < p / n) : n ≤ p := by
  have h1 : n * 1 ≤ n * (p / n) := Nat.mul_le_mul_left n h
  have h2 := gr_pp (n := n) (p := p)
  omega
/-- the size in use: n, its square, the places' columns and lines -/
def gr_T (σ : sw_Sg) (n : Nat) : Prop := 4 ≤ n ∧ n ≤ 24 ∧ σ 1 1 = nI n ∧ σ 1 2 = nI (n * n) ∧ ∀ p, p < n * n → σ 37 p = nI (p % n) ∧ σ 38 p = nI (p / n)
theorem gr_576 {n : Nat} (h : n ≤ 24) : n * n ≤ 576 := Nat.mul_le_mul h h
theorem gr_T.fr {l : List Nat} {σ u : sw_Sg} {n : Nat} (h : gr_T σ n) (hf : fr_ l σ u) (h1 : 1 ∉ l) (h2 : 37 ∉ l) (h3 : 38 ∉ l) : gr_T u n := by
  obtain ⟨a, b, c, d, e⟩ := h
  refine ⟨a, b, ?_, ?_, fun p hp => ?_⟩
  · rw [hf 1 h1]; exact c
  · rw [hf 1 h1]; exact d
  · rw [hf 37 h2, hf 38 h3]; exact e p hp
section TERR
variable {X : sw_X} {σ : sw_Sg} {x y v : Int32} {n p q e : Nat}
theorem C_X7_within : sw_F X 0 mX7_within [.int v, .int x, .int y] σ (sw_wi v x y) σ := by
  refine sw_ME.ofF (by decide +kernel) rfl (Nat.le_of_ble_eq_true rfl) rfl ?_
  refine SW.iload_n (q := 1) (i := 0) dX7_within_0 rfl rfl rfl ?_
  refine SW.iload_n (q := 2) (i := 1) dX7_within_1 rfl rfl rfl ?_
  refine SW.icmp_lt (q := 5) (tgt := 14) dX7_within_2 (by decide) rfl (fun c2 => ?_) (fun c2 => ?_)
  · refine SW.iconst (q := 15) (v := 0) dX7_within_14 (by decide) rfl ?_
    refine SW.iretR rfl rfl dX7_within_15 ?_
    refine ⟨?_, rfl⟩
    first
    | (rw [sw_wi, if_pos ⟨Int32.not_lt.mp c2, Int32.not_lt.mp c7⟩]; done)
    | (rw [sw_wi, if_neg (fun h => absurd c7 (Int32.not_lt.mpr h.2))]; done)
    | rw [sw_wi, if_neg (fun h => absurd c2 (Int32.not_lt.mpr h.1))]
  · refine SW.iload_n (q := 6) (i := 0) dX7_within_5 rfl rfl rfl ?_
    refine SW.iload_n (q := 7) (i := 2) dX7_within_6 rfl rfl rfl ?_
    refine SW.icmp_gt (q := 10) (tgt := 14) dX7_within_7 (by decide) rfl (fun c7 => ?_) (fun c7 => ?_)
    · refine SW.iconst (q := 15) (v := 0) dX7_within_14 (by decide) rfl ?_
      refine SW.iretR rfl rfl dX7_within_15 ?_
      refine ⟨?_, rfl⟩
      first
      | (rw [sw_wi, if_pos ⟨Int32.not_lt.mp c2, Int32.not_lt.mp c7⟩]; done)
      | (rw [sw_wi, if_neg (fun h => absurd c7 (Int32.not_lt.mpr h.2))]; done)
      | rw [sw_wi, if_neg (fun h => absurd c2 (Int32.not_lt.mpr h.1))]
    · refine SW.iconst (q := 11) (v := 1) dX7_within_10 (by decide) rfl ?_
      refine SW.goto (q := 15) dX7_within_11 (by decide) ?_
      refine SW.iretR rfl rfl dX7_within_15 ?_
      refine ⟨?_, rfl⟩
      first
      | (rw [sw_wi, if_pos ⟨Int32.not_lt.mp c2, Int32.not_lt.mp c7⟩]; done)
      | (rw [sw_wi, if_neg (fun h => absurd c7 (Int32.not_lt.mpr h.2))]; done)
      | rw [sw_wi, if_neg (fun h => absurd c2 (Int32.not_lt.mpr h.1))]
theorem C_X8_in : sw_F X 0 mX8_in [.int v, .int x, .int y] σ (sw_wi v x y) σ := by
  refine sw_ME.ofF (by decide +kernel) rfl (Nat.le_of_ble_eq_true rfl) rfl ?_
  refine SW.iload_n (q := 1) (i := 0) dX8_in_0 rfl rfl rfl ?_
  refine SW.iload_n (q := 2) (i := 1) dX8_in_1 rfl rfl rfl ?_
  refine SW.icmp_lt (q := 5) (tgt := 14) dX8_in_2 (by decide) rfl (fun c2 => ?_) (fun c2 => ?_)
  · refine SW.iconst (q := 15) (v := 0) dX8_in_14 (by decide) rfl ?_
    refine SW.iretR rfl rfl dX8_in_15 ?_
    refine ⟨?_, rfl⟩
    first
    | (rw [sw_wi, if_pos ⟨Int32.not_lt.mp c2, Int32.not_lt.mp c7⟩]; done)
    | (rw [sw_wi, if_neg (fun h => absurd c7 (Int32.not_lt.mpr h.2))]; done)
    | rw [sw_wi, if_neg (fun h => absurd c2 (Int32.not_lt.mpr h.1))]
  · refine SW.iload_n (q := 6) (i := 0) dX8_in_5 rfl rfl rfl ?_
    refine SW.iload_n (q := 7) (i := 2) dX8_in_6 rfl rfl rfl ?_
    refine SW.icmp_gt (q := 10) (tgt := 14) dX8_in_7 (by decide) rfl (fun c7 => ?_) (fun c7 => ?_)
    · refine SW.iconst (q := 15) (v := 0) dX8_in_14 (by decide) rfl ?_
      refine SW.iretR rfl rfl dX8_in_15 ?_
      refine ⟨?_, rfl⟩
      first
      | (rw [sw_wi, if_pos ⟨Int32.not_lt.mp c2, Int32.not_lt.mp c7⟩]; done)
      | (rw [sw_wi, if_neg (fun h => absurd c7 (Int32.not_lt.mpr h.2))]; done)
      | rw [sw_wi, if_neg (fun h => absurd c2 (Int32.not_lt.mpr h.1))]
    · refine SW.iconst (q := 11) (v := 1) dX8_in_10 (by decide) rfl ?_
      refine SW.goto (q := 15) dX8_in_11 (by decide) ?_
      refine SW.iretR rfl rfl dX8_in_15 ?_
      refine ⟨?_, rfl⟩
      first
      | (rw [sw_wi, if_pos ⟨Int32.not_lt.mp c2, Int32.not_lt.mp c7⟩]; done)
      | (rw [sw_wi, if_neg (fun h => absurd c7 (Int32.not_lt.mpr h.2))]; done)
      | rw [sw_wi, if_neg (fun h => absurd c2 (Int32.not_lt.mpr h.1))]
/-- the class's hasPlace: 0 to places - 1 -/
theorem C_X5_hasPlace : sw_F X 0 mX5_hasPlace [.ref (sw_ad X 1), .int x] σ (sw_b (decide (0 ≤ x ∧ x < σ 1 2))) σ := by
  refine sw_ME.ofF (by decide +kernel) rfl (Nat.le_of_ble_eq_true rfl) rfl ?_
  refine SW.iload_n (q := 1) (i := 1) dX5_hasPlace_0 rfl rfl rfl ?_
  refine SW.if_lt (q := 4) (tgt := 16) dX5_hasPlace_1 (by decide) rfl (fun c1 => ?_) (fun c1 => ?_)
  · refine SW.iconst (q := 17) (v := 0) dX5_hasPlace_16 (by decide) rfl ?_
    refine SW.iretR rfl rfl dX5_hasPlace_17 ?_
    refine ⟨?_, rfl⟩
    first
    | (rw [decide_eq_true (p := 0 ≤ x ∧ x < σ 1 2) ⟨Int32.not_lt.mp c1, Int32.not_le.mp c9⟩]; rfl)
    | (rw [decide_eq_false (p := 0 ≤ x ∧ x < σ 1 2) (fun h => absurd c9 (Int32.not_le.mpr h.2))]; rfl)
    | (rw [decide_eq_false (p := 0 ≤ x ∧ x < σ 1 2) (fun h => absurd c1 (Int32.not_lt.mpr h.1))]; rfl)
  · refine SW.iload_n (q := 5) (i := 1) dX5_hasPlace_4 rfl rfl rfl ?_
    refine SW.aload_n (q := 6) (i := 0) dX5_hasPlace_5 rfl rfl rfl ?_
    refine SW.getI (q := 9) (i := 1) fX5_18 rfl rfl dX5_hasPlace_6 rfl ?_
    refine SW.icmp_ge (q := 12) (tgt := 16) dX5_hasPlace_9 (by decide) rfl (fun c9 => ?_) (fun c9 => ?_)
    · refine SW.iconst (q := 17) (v := 0) dX5_hasPlace_16 (by decide) rfl ?_
      refine SW.iretR rfl rfl dX5_hasPlace_17 ?_
      refine ⟨?_, rfl⟩
      first
      | (rw [decide_eq_true (p := 0 ≤ x ∧ x < σ 1 2) ⟨Int32.not_lt.mp c1, Int32.not_le.mp c9⟩]; rfl)
      | (rw [decide_eq_false (p := 0 ≤ x ∧ x < σ 1 2) (fun h => absurd c9 (Int32.not_le.mpr h.2))]; rfl)
      | (rw [decide_eq_false (p := 0 ≤ x ∧ x < σ 1 2) (fun h => absurd c1 (Int32.not_lt.mpr h.1))]; rfl)
    · refine SW.iconst (q := 13) (v := 1) dX5_hasPlace_12 (by decide) rfl ?_
      refine SW.goto (q := 17) dX5_hasPlace_13 (by decide) ?_
      refine SW.iretR rfl rfl dX5_hasPlace_17 ?_
      refine ⟨?_, rfl⟩
      first
      | (rw [decide_eq_true (p := 0 ≤ x ∧ x < σ 1 2) ⟨Int32.not_lt.mp c1, Int32.not_le.mp c9⟩]; rfl)
      | (rw [decide_eq_false (p := 0 ≤ x ∧ x < σ 1 2) (fun h => absurd c9 (Int32.not_le.mpr h.2))]; rfl)
      | (rw [decide_eq_false (p := 0 ≤ x ∧ x < σ 1 2) (fun h => absurd c1 (Int32.not_lt.mpr h.1))]; rfl)
theorem C_X5_beside (hT : gr_T σ n) (hx : x = nI p) (hy : y = nI e) (hp : p < n * n) (he : e < 4) : sw_F X 1 mX5_beside [.ref (sw_ad X 1), .int x, .int y] σ (gr_v (gr_nb n p e)) σ := by
  subst hx; subst hy
  obtain ⟨n4, n24, hside, hpl, hcl⟩ := hT
  have h576 := gr_576 n24
  obtain ⟨l1, l2, l3⟩ := gr_lt hp
  have ec := (hcl p hp).1
  have el := (hcl p hp).2
  have en1 : nI n - 1 = nI (n - 1) := by
    have := nI_pred (n - 1)
    rwa [show n - 1 + 1 = n by omega] at this
  refine sw_ME.ofF (by decide +kernel) rfl (Nat.le_of_ble_eq_true rfl) rfl ?_
  rcases (show e = 0 ∨ e = 1 ∨ e = 2 ∨ e = 3 by omega) with rfl | rfl | rfl | rfl
  · by_cases h : 0 < p / n
    · have := gr_pn h
      refine SW.iload_n (q := 1) (i := 2) dX5_beside_0 rfl rfl rfl ?_
      refine SW.tableK (q := 32) (k := 0) (off := 31) dX5_beside_1 rfl (by decide) (by decide) rfl (by decide) ?_
      refine SW.aload_n (q := 33) (i := 0) dX5_beside_32 rfl rfl rfl ?_
      refine SW.getR (q := 36) (i := 1) (j := 12) fX5_48 rfl rfl dX5_beside_33 rfl ?_
      refine SW.iload_n (q := 37) (i := 1) dX5_beside_36 rfl rfl rfl ?_
      refine SW.cF (q := 40) (C_X3_atn (i := 12) (j := 38) (n := 576) rfl rfl (k := p) rfl (by omega)) vX5_77 (by decide) rfl rfl rfl rfl (Nat.le_of_ble_eq_true rfl) dX5_beside_37 rfl ?_
      refine SW.if_le (q := 43) (tgt := 52) dX5_beside_40 (by decide) rfl (fun c40 => absurd c40 ((by rw [el]; exact nI_nle h (by omega)))) (fun _ => ?_)
      refine SW.iload_n (q := 44) (i := 1) dX5_beside_43 rfl rfl rfl ?_
      refine SW.aload_n (q := 45) (i := 0) dX5_beside_44 rfl rfl rfl ?_
      refine SW.getI (q := 48) (i := 1) fX5_15 rfl rfl dX5_beside_45 rfl ?_
      refine SW.isub (q := 49) dX5_beside_48 rfl ?_
      refine SW.goto (q := 54) dX5_beside_49 (by decide) ?_
      refine SW.iretR rfl rfl dX5_beside_54 ?_
      exact ⟨by rw [hside, pk_sub this, gr_nb, if_pos h]; rfl, rfl⟩
    · refine SW.iload_n (q := 1) (i := 2) dX5_beside_0 rfl rfl rfl ?_
      refine SW.tableK (q := 32) (k := 0) (off := 31) dX5_beside_1 rfl (by decide) (by decide) rfl (by decide) ?_
      refine SW.aload_n (q := 33) (i := 0) dX5_beside_32 rfl rfl rfl ?_
      refine SW.getR (q := 36) (i := 1) (j := 12) fX5_48 rfl rfl dX5_beside_33 rfl ?_
      refine SW.iload_n (q := 37) (i := 1) dX5_beside_36 rfl rfl rfl ?_
      refine SW.cF (q := 40) (C_X3_atn (i := 12) (j := 38) (n := 576) rfl rfl (k := p) rfl (by omega)) vX5_77 (by decide) rfl rfl rfl rfl (Nat.le_of_ble_eq_true rfl) dX5_beside_37 rfl ?_
      refine SW.if_le (q := 43) (tgt := 52) dX5_beside_40 (by decide) rfl (fun _ => ?_) (fun c40 => absurd ((by rw [el, show p / n = 0 from Nat.eq_zero_of_not_pos h]; decide)) c40)
      refine SW.bipush (q := 54) (v := (-6)) dX5_beside_52 (by decide) rfl ?_
      refine SW.iretR rfl rfl dX5_beside_54 ?_
      exact ⟨by rw [gr_nb, if_neg h]; rfl, rfl⟩
  · by_cases h : 0 < p % n
    · have h1 : p % n ≤ p := Nat.mod_le _ _
      have e1 : nI p - 1 = nI (p - 1) := by
        have := nI_pred (p - 1)
        rwa [show p - 1 + 1 = p by omega] at this
      refine SW.iload_n (q := 1) (i := 2) dX5_beside_0 rfl rfl rfl ?_
      refine SW.tableK (q := 55) (k := 1) (off := 54) dX5_beside_1 rfl (by decide) (by decide) rfl (by decide) ?_
      refine SW.aload_n (q := 56) (i := 0) dX5_beside_55 rfl rfl rfl ?_
      refine SW.getR (q := 59) (i := 1) (j := 11) fX5_45 rfl rfl dX5_beside_56 rfl ?_
      refine SW.iload_n (q := 60) (i := 1) dX5_beside_59 rfl rfl rfl ?_
      refine SW.cF (q := 63) (C_X3_atn (i := 11) (j := 37) (n := 576) rfl rfl (k := p) rfl (by omega)) vX5_77 (by decide) rfl rfl rfl rfl (Nat.le_of_ble_eq_true rfl) dX5_beside_60 rfl ?_
      refine SW.if_le (q := 66) (tgt := 72) dX5_beside_63 (by decide) rfl (fun c63 => absurd c63 ((by rw [ec]; exact nI_nle h (by omega)))) (fun _ => ?_)
      refine SW.iload_n (q := 67) (i := 1) dX5_beside_66 rfl rfl rfl ?_
      refine SW.iconst (q := 68) (v := 1) dX5_beside_67 (by decide) rfl ?_
      refine SW.isub (q := 69) dX5_beside_68 rfl ?_
      refine SW.goto (q := 74) dX5_beside_69 (by decide) ?_
      refine SW.iretR rfl rfl dX5_beside_74 ?_
      exact ⟨by rw [e1, gr_nb, if_pos h]; rfl, rfl⟩
    · refine SW.iload_n (q := 1) (i := 2) dX5_beside_0 rfl rfl rfl ?_
      refine SW.tableK (q := 55) (k := 1) (off := 54) dX5_beside_1 rfl (by decide) (by decide) rfl (by decide) ?_
      refine SW.aload_n (q := 56) (i := 0) dX5_beside_55 rfl rfl rfl ?_
      refine SW.getR (q := 59) (i := 1) (j := 11) fX5_45 rfl rfl dX5_beside_56 rfl ?_
      refine SW.iload_n (q := 60) (i := 1) dX5_beside_59 rfl rfl rfl ?_
      refine SW.cF (q := 63) (C_X3_atn (i := 11) (j := 37) (n := 576) rfl rfl (k := p) rfl (by omega)) vX5_77 (by decide) rfl rfl rfl rfl (Nat.le_of_ble_eq_true rfl) dX5_beside_60 rfl ?_
      refine SW.if_le (q := 66) (tgt := 72) dX5_beside_63 (by decide) rfl (fun _ => ?_) (fun c63 => absurd ((by rw [ec, show p % n = 0 from Nat.eq_zero_of_not_pos h]; decide)) c63)
      refine SW.bipush (q := 74) (v := (-6)) dX5_beside_72 (by decide) rfl ?_
      refine SW.iretR rfl rfl dX5_beside_74 ?_
      exact ⟨by rw [gr_nb, if_neg h]; rfl, rfl⟩
  · by_cases h : p % n < n - 1
    · refine SW.iload_n (q := 1) (i := 2) dX5_beside_0 rfl rfl rfl ?_
      refine SW.tableK (q := 75) (k := 2) (off := 74) dX5_beside_1 rfl (by decide) (by decide) rfl (by decide) ?_
      refine SW.aload_n (q := 76) (i := 0) dX5_beside_75 rfl rfl rfl ?_
      refine SW.getR (q := 79) (i := 1) (j := 11) fX5_45 rfl rfl dX5_beside_76 rfl ?_
      refine SW.iload_n (q := 80) (i := 1) dX5_beside_79 rfl rfl rfl ?_
      refine SW.cF (q := 83) (C_X3_atn (i := 11) (j := 37) (n := 576) rfl rfl (k := p) rfl (by omega)) vX5_77 (by decide) rfl rfl rfl rfl (Nat.le_of_ble_eq_true rfl) dX5_beside_80 rfl ?_
      refine SW.aload_n (q := 84) (i := 0) dX5_beside_83 rfl rfl rfl ?_
      refine SW.getI (q := 87) (i := 1) fX5_15 rfl rfl dX5_beside_84 rfl ?_
      refine SW.iconst (q := 88) (v := 1) dX5_beside_87 (by decide) rfl ?_
      refine SW.isub (q := 89) dX5_beside_88 rfl ?_
      refine SW.icmp_ge (q := 92) (tgt := 98) dX5_beside_89 (by decide) rfl (fun c89 => absurd c89 ((by rw [ec, hside, en1]; exact nI_ge h (by omega)))) (fun _ => ?_)
      refine SW.iload_n (q := 93) (i := 1) dX5_beside_92 rfl rfl rfl ?_
      refine SW.iconst (q := 94) (v := 1) dX5_beside_93 (by decide) rfl ?_
      refine SW.iadd (q := 95) dX5_beside_94 rfl ?_
      refine SW.goto (q := 100) dX5_beside_95 (by decide) ?_
      refine SW.iretR rfl rfl dX5_beside_100 ?_
      exact ⟨by rw [nI_1, gr_nb, if_pos h]; rfl, rfl⟩
    · refine SW.iload_n (q := 1) (i := 2) dX5_beside_0 rfl rfl rfl ?_
      refine SW.tableK (q := 75) (k := 2) (off := 74) dX5_beside_1 rfl (by decide) (by decide) rfl (by decide) ?_
      refine SW.aload_n (q := 76) (i := 0) dX5_beside_75 rfl rfl rfl ?_
      refine SW.getR (q := 79) (i := 1) (j := 11) fX5_45 rfl rfl dX5_beside_76 rfl ?_
      refine SW.iload_n (q := 80) (i := 1) dX5_beside_79 rfl rfl rfl ?_
      refine SW.cF (q := 83) (C_X3_atn (i := 11) (j := 37) (n := 576) rfl rfl (k := p) rfl (by omega)) vX5_77 (by decide) rfl rfl rfl rfl (Nat.le_of_ble_eq_true rfl) dX5_beside_80 rfl ?_
      refine SW.aload_n (q := 84) (i := 0) dX5_beside_83 rfl rfl rfl ?_
      refine SW.getI (q := 87) (i := 1) fX5_15 rfl rfl dX5_beside_84 rfl ?_
      refine SW.iconst (q := 88) (v := 1) dX5_beside_87 (by decide) rfl ?_
      refine SW.isub (q := 89) dX5_beside_88 rfl ?_
      refine SW.icmp_ge (q := 92) (tgt := 98) dX5_beside_89 (by decide) rfl (fun _ => ?_) (fun c89 => absurd ((by rw [ec, hside, en1]; exact nI_le (by omega) (by omega))) c89)
      refine SW.bipush (q := 100) (v := (-6)) dX5_beside_98 (by decide) rfl ?_
      refine SW.iretR rfl rfl dX5_beside_100 ?_
      exact ⟨by rw [gr_nb, if_neg h]; rfl, rfl⟩
  · by_cases h : p / n < n - 1
    · refine SW.iload_n (q := 1) (i := 2) dX5_beside_0 rfl rfl rfl ?_
      refine SW.tableK (q := 101) (k := 3) (off := 100) dX5_beside_1 rfl (by decide) (by decide) rfl (by decide) ?_
      refine SW.aload_n (q := 102) (i := 0) dX5_beside_101 rfl rfl rfl ?_
      refine SW.getR (q := 105) (i := 1) (j := 12) fX5_48 rfl rfl dX5_beside_102 rfl ?_
      refine SW.iload_n (q := 106) (i := 1) dX5_beside_105 rfl rfl rfl ?_
      refine SW.cF (q := 109) (C_X3_atn (i := 12) (j := 38) (n := 576) rfl rfl (k := p) rfl (by omega)) vX5_77 (by decide) rfl rfl rfl rfl (Nat.le_of_ble_eq_true rfl) dX5_beside_106 rfl ?_
      refine SW.aload_n (q := 110) (i := 0) dX5_beside_109 rfl rfl rfl ?_
      refine SW.getI (q := 113) (i := 1) fX5_15 rfl rfl dX5_beside_110 rfl ?_
      refine SW.iconst (q := 114) (v := 1) dX5_beside_113 (by decide) rfl ?_
      refine SW.isub (q := 115) dX5_beside_114 rfl ?_
      refine SW.icmp_ge (q := 118) (tgt := 127) dX5_beside_115 (by decide) rfl (fun c115 => absurd c115 ((by rw [el, hside, en1]; exact nI_ge h (by omega)))) (fun _ => ?_)
      refine SW.iload_n (q := 119) (i := 1) dX5_beside_118 rfl rfl rfl ?_
      refine SW.aload_n (q := 120) (i := 0) dX5_beside_119 rfl rfl rfl ?_
      refine SW.getI (q := 123) (i := 1) fX5_15 rfl rfl dX5_beside_120 rfl ?_
      refine SW.iadd (q := 124) dX5_beside_123 rfl ?_
      refine SW.goto (q := 129) dX5_beside_124 (by decide) ?_
      refine SW.iretR rfl rfl dX5_beside_129 ?_
      exact ⟨by rw [hside, nI_add, gr_nb, if_pos h]; rfl, rfl⟩
    · refine SW.iload_n (q := 1) (i := 2) dX5_beside_0 rfl rfl rfl ?_
      refine SW.tableK (q := 101) (k := 3) (off := 100) dX5_beside_1 rfl (by decide) (by decide) rfl (by decide) ?_
      refine SW.aload_n (q := 102) (i := 0) dX5_beside_101 rfl rfl rfl ?_
      refine SW.getR (q := 105) (i := 1) (j := 12) fX5_48 rfl rfl dX5_beside_102 rfl ?_
      refine SW.iload_n (q := 106) (i := 1) dX5_beside_105 rfl rfl rfl ?_
      refine SW.cF (q := 109) (C_X3_atn (i := 12) (j := 38) (n := 576) rfl rfl (k := p) rfl (by omega)) vX5_77 (by decide) rfl rfl rfl rfl (Nat.le_of_ble_eq_true rfl) dX5_beside_106 rfl ?_
      refine SW.aload_n (q := 110) (i := 0) dX5_beside_109 rfl rfl rfl ?_
      refine SW.getI (q := 113) (i := 1) fX5_15 rfl rfl dX5_beside_110 rfl ?_
      refine SW.iconst (q := 114) (v := 1) dX5_beside_113 (by decide) rfl ?_
      refine SW.isub (q := 115) dX5_beside_114 rfl ?_
      refine SW.icmp_ge (q := 118) (tgt := 127) dX5_beside_115 (by decide) rfl (fun _ => ?_) (fun c115 => absurd ((by rw [el, hside, en1]; exact nI_le (by omega) (by omega))) c115)
      refine SW.bipush (q := 129) (v := (-6)) dX5_beside_127 (by decide) rfl ?_
      refine SW.iretR rfl rfl dX5_beside_129 ?_
      exact ⟨by rw [gr_nb, if_neg h]; rfl, rfl⟩
theorem C_X5_isRim (hT : gr_T σ n) (hx : x = nI p) (hp : p < n * n) : sw_F X 1 mX5_isRim [.ref (sw_ad X 1), .int x] σ (sw_b (gr_rim n p)) σ := by
  subst hx
  obtain ⟨n4, n24, hside, hpl, hcl⟩ := hT
  have h576 := gr_576 n24
  obtain ⟨l1, l2, l3⟩ := gr_lt hp
  have ec := (hcl p hp).1
  have el := (hcl p hp).2
  have en1 : nI n - 1 = nI (n - 1) := by
    have := nI_pred (n - 1)
    rwa [show n - 1 + 1 = n by omega] at this
  have z1 : nI (p % n) = 0 ↔ p % n = 0 := nI_eq (b := 0) (by omega) (by omega)
  have z2 : nI (p / n) = 0 ↔ p / n = 0 := nI_eq (b := 0) (by omega) (by omega)
  have z3 : nI (p % n) = nI (n - 1) ↔ p % n = n - 1 := nI_eq (by omega) (by omega)
  have z4 : nI (p / n) = nI (n - 1) ↔ p / n = n - 1 := nI_eq (by omega) (by omega)
  refine sw_ME.ofF (by decide +kernel) rfl (Nat.le_of_ble_eq_true rfl) rfl ?_
  refine SW.aload_n (q := 1) (i := 0) dX5_isRim_0 rfl rfl rfl ?_
  refine SW.getR (q := 4) (i := 1) (j := 11) fX5_45 rfl rfl dX5_isRim_1 rfl ?_
  refine SW.iload_n (q := 5) (i := 1) dX5_isRim_4 rfl rfl rfl ?_
  refine SW.cF (q := 8) (C_X3_atn (i := 11) (j := 37) (n := 576) rfl rfl (k := p) rfl (by omega)) vX5_77 (by decide) rfl rfl rfl rfl (Nat.le_of_ble_eq_true rfl) dX5_isRim_5 rfl ?_
  refine SW.istore_n (q := 9) (i := 2) dX5_isRim_8 rfl (by decide) rfl ?_
  refine SW.aload_n (q := 10) (i := 0) dX5_isRim_9 rfl rfl rfl ?_
  refine SW.getR (q := 13) (i := 1) (j := 12) fX5_48 rfl rfl dX5_isRim_10 rfl ?_
  refine SW.iload_n (q := 14) (i := 1) dX5_isRim_13 rfl rfl rfl ?_
  refine SW.cF (q := 17) (C_X3_atn (i := 12) (j := 38) (n := 576) rfl rfl (k := p) rfl (by omega)) vX5_77 (by decide) rfl rfl rfl rfl (Nat.le_of_ble_eq_true rfl) dX5_isRim_14 rfl ?_
  refine SW.istore_n (q := 18) (i := 3) dX5_isRim_17 rfl (by decide) rfl ?_
  refine SW.iload_n (q := 19) (i := 2) dX5_isRim_18 rfl rfl rfl ?_
  refine SW.if_eq (q := 22) (tgt := 46) dX5_isRim_19 (by decide) rfl (fun c19 => ?_) (fun c19 => ?_)
  · refine SW.iconst (q := 47) (v := 1) dX5_isRim_46 (by decide) rfl ?_
    refine SW.goto (q := 51) dX5_isRim_47 (by decide) ?_
    refine SW.iretR rfl rfl dX5_isRim_51 ?_
    refine ⟨?_, rfl⟩
    simp only [ec, el, hside, en1, z1, z2, z3, z4] at *
    simp [gr_rim, sw_b, *]
  · refine SW.iload_n (q := 23) (i := 3) dX5_isRim_22 rfl rfl rfl ?_
    refine SW.if_eq (q := 26) (tgt := 46) dX5_isRim_23 (by decide) rfl (fun c23 => ?_) (fun c23 => ?_)
    · refine SW.iconst (q := 47) (v := 1) dX5_isRim_46 (by decide) rfl ?_
      refine SW.goto (q := 51) dX5_isRim_47 (by decide) ?_
      refine SW.iretR rfl rfl dX5_isRim_51 ?_
      refine ⟨?_, rfl⟩
      simp only [ec, el, hside, en1, z1, z2, z3, z4] at *
      simp [gr_rim, sw_b, *]
    · refine SW.iload_n (q := 27) (i := 2) dX5_isRim_26 rfl rfl rfl ?_
      refine SW.aload_n (q := 28) (i := 0) dX5_isRim_27 rfl rfl rfl ?_
      refine SW.getI (q := 31) (i := 1) fX5_15 rfl rfl dX5_isRim_28 rfl ?_
      refine SW.iconst (q := 32) (v := 1) dX5_isRim_31 (by decide) rfl ?_
      refine SW.isub (q := 33) dX5_isRim_32 rfl ?_
      refine SW.icmp_eq (q := 36) (tgt := 46) dX5_isRim_33 (by decide) rfl (fun c33 => ?_) (fun c33 => ?_)
      · refine SW.iconst (q := 47) (v := 1) dX5_isRim_46 (by decide) rfl ?_
        refine SW.goto (q := 51) dX5_isRim_47 (by decide) ?_
        refine SW.iretR rfl rfl dX5_isRim_51 ?_
        refine ⟨?_, rfl⟩
        simp only [ec, el, hside, en1, z1, z2, z3, z4] at *
        simp [gr_rim, sw_b, *]
      · refine SW.iload_n (q := 37) (i := 3) dX5_isRim_36 rfl rfl rfl ?_
        refine SW.aload_n (q := 38) (i := 0) dX5_isRim_37 rfl rfl rfl ?_
        refine SW.getI (q := 41) (i := 1) fX5_15 rfl rfl dX5_isRim_38 rfl ?_
        refine SW.iconst (q := 42) (v := 1) dX5_isRim_41 (by decide) rfl ?_
        refine SW.isub (q := 43) dX5_isRim_42 rfl ?_
        refine SW.icmp_ne (q := 46) (tgt := 50) dX5_isRim_43 (by decide) rfl (fun c43 => ?_) (fun c43 => ?_)
        · refine SW.iconst (q := 51) (v := 0) dX5_isRim_50 (by decide) rfl ?_
          refine SW.iretR rfl rfl dX5_isRim_51 ?_
          refine ⟨?_, rfl⟩
          simp only [ec, el, hside, en1, z1, z2, z3, z4] at *
          simp [gr_rim, sw_b, *]
        · refine SW.iconst (q := 47) (v := 1) dX5_isRim_46 (by decide) rfl ?_
          refine SW.goto (q := 51) dX5_isRim_47 (by decide) ?_
          refine SW.iretR rfl rfl dX5_isRim_51 ?_
          refine ⟨?_, rfl⟩
          simp only [ec, el, hside, en1, z1, z2, z3, z4] at *
          simp [gr_rim, sw_b, *]
def gr_abs (a b : Nat) : Nat := if b ≤ a then a - b else b - a
theorem gr_abs_e {a b : Nat} (ha : a < 2 ^ 30) (hb : b < 2 ^ 30) : sw_abs (nI a - nI b) = nI (gr_abs a b) := by
  unfold gr_abs sw_abs
  by_cases h : b ≤ a
  · rw [if_pos h, pk_sub h, if_pos (nI_pos' (by omega))]
  · rw [if_neg h, if_neg (by
      have := pk_sneg (a := a) (b := b) hb (by omega)
      exact Int32.not_le.mpr this)]
    have e : nI a - nI b = - nI (b - a) := by
      have h1 := pk_sub (a := b) (b := a) (by omega)
      rw [← h1, Int32.neg_sub]
    rw [e, Int32.neg_neg]
/-- in rows and columns together -/
def gr_dist (n p q : Nat) : Nat := gr_abs (p % n) (q % n) + gr_abs (p / n) (q / n)
theorem C_X5_rowsAndColumnsBetween (hT : gr_T σ n) (hx : x = nI p) (hy : y = nI q) (hp : p < n * n) (hq : q < n * n) : sw_F X 1 mX5_rowsAndColumnsBetween [.ref (sw_ad X 1), .int x, .int y] σ (nI (gr_dist n p q)) σ := by
  subst hx; subst hy
  obtain ⟨n4, n24, hside, hpl, hcl⟩ := hT
  have h576 := gr_576 n24
  obtain ⟨l1, l2, l3⟩ := gr_lt hp
  obtain ⟨m1, m2, m3⟩ := gr_lt hq
  refine sw_ME.ofF (by decide +kernel) rfl (Nat.le_of_ble_eq_true rfl) rfl ?_
  refine SW.aload_n (q := 1) (i := 0) dX5_rowsAndColumnsBetween_0 rfl rfl rfl ?_
  refine SW.getR (q := 4) (i := 1) (j := 11) fX5_45 rfl rfl dX5_rowsAndColumnsBetween_1 rfl ?_
  refine SW.iload_n (q := 5) (i := 1) dX5_rowsAndColumnsBetween_4 rfl rfl rfl ?_
  refine SW.cF (q := 8) (C_X3_atn (i := 11) (j := 37) (n := 576) rfl rfl (k := p) rfl (by omega)) vX5_77 (by decide) rfl rfl rfl rfl (Nat.le_of_ble_eq_true rfl) dX5_rowsAndColumnsBetween_5 rfl ?_
  refine SW.aload_n (q := 9) (i := 0) dX5_rowsAndColumnsBetween_8 rfl rfl rfl ?_
  refine SW.getR (q := 12) (i := 1) (j := 11) fX5_45 rfl rfl dX5_rowsAndColumnsBetween_9 rfl ?_
  refine SW.iload_n (q := 13) (i := 2) dX5_rowsAndColumnsBetween_12 rfl rfl rfl ?_
  refine SW.cF (q := 16) (C_X3_atn (i := 11) (j := 37) (n := 576) rfl rfl (k := q) rfl (by omega)) vX5_77 (by decide) rfl rfl rfl rfl (Nat.le_of_ble_eq_true rfl) dX5_rowsAndColumnsBetween_13 rfl ?_
  refine SW.isub (q := 17) dX5_rowsAndColumnsBetween_16 rfl ?_
  refine SW.sF (q := 20) (C_abs) vX5_96 (by decide) rfl rfl (Nat.le_of_ble_eq_true rfl) dX5_rowsAndColumnsBetween_17 rfl ?_
  refine SW.aload_n (q := 21) (i := 0) dX5_rowsAndColumnsBetween_20 rfl rfl rfl ?_
  refine SW.getR (q := 24) (i := 1) (j := 12) fX5_48 rfl rfl dX5_rowsAndColumnsBetween_21 rfl ?_
  refine SW.iload_n (q := 25) (i := 1) dX5_rowsAndColumnsBetween_24 rfl rfl rfl ?_
  refine SW.cF (q := 28) (C_X3_atn (i := 12) (j := 38) (n := 576) rfl rfl (k := p) rfl (by omega)) vX5_77 (by decide) rfl rfl rfl rfl (Nat.le_of_ble_eq_true rfl) dX5_rowsAndColumnsBetween_25 rfl ?_
  refine SW.aload_n (q := 29) (i := 0) dX5_rowsAndColumnsBetween_28 rfl rfl rfl ?_
  refine SW.getR (q := 32) (i := 1) (j := 12) fX5_48 rfl rfl dX5_rowsAndColumnsBetween_29 rfl ?_
  refine SW.iload_n (q := 33) (i := 2) dX5_rowsAndColumnsBetween_32 rfl rfl rfl ?_
  refine SW.cF (q := 36) (C_X3_atn (i := 12) (j := 38) (n := 576) rfl rfl (k := q) rfl (by omega)) vX5_77 (by decide) rfl rfl rfl rfl (Nat.le_of_ble_eq_true rfl) dX5_rowsAndColumnsBetween_33 rfl ?_
  refine SW.isub (q := 37) dX5_rowsAndColumnsBetween_36 rfl ?_
  refine SW.sF (q := 40) (C_abs) vX5_96 (by decide) rfl rfl (Nat.le_of_ble_eq_true rfl) dX5_rowsAndColumnsBetween_37 rfl ?_
  refine SW.iadd (q := 41) dX5_rowsAndColumnsBetween_40 rfl ?_
  refine SW.iretR rfl rfl dX5_rowsAndColumnsBetween_41 ?_
  exact ⟨by rw [(hcl p hp).1, (hcl p hp).2, (hcl q hq).1, (hcl q hq).2, gr_abs_e (by omega) (by omega), gr_abs_e (by omega) (by omega), nI_add]; rfl, rfl⟩
end TERR
end
section
/-! the reference's places; rows of arrays at known places -/
section ROWK
variable {X : sw_X} {d : Nat} {me : sw_Me} {E : State → Prop} {R : Option Value → sw_Sg → Prop} {pc q : Nat} {L st rest : List Value} {σ : sw_Sg} {x y : Int32} {i n k : Nat}
theorem SW.ialdN (hsh : sw_sh i = .inl (false, n)) (hx : x = nI k) (hk : k < n) (hn : n < 2 ^ 31) (hd : decode me.2.1 pc = .ok (.iaload, 1)) (hq : pc + 1 = q) (kk : SW X d me E R q L (.int (σ i k) :: rest) σ) : SW X d me E R pc L (.int x :: .ref (sw_ad X i) :: rest) σ := by
  subst hx
  refine SW.iald hsh (vp_in_nI hk hn) hd hq ?_
  rw [nI_clamp (by omega)]
  exact kk
theorem SW.zaldN (hsh : sw_sh i = .inl (true, n)) (hx : x = nI k) (hk : k < n) (hn : n < 2 ^ 31) (hd : decode me.2.1 pc = .ok (.baload, 1)) (hq : pc + 1 = q) (kk : SW X d me E R q L (.int (σ i k) :: rest) σ) : SW X d me E R pc L (.int x :: .ref (sw_ad X i) :: rest) σ := by
  subst hx
  refine SW.zald hsh (vp_in_nI hk hn) hd hq ?_
  rw [nI_clamp (by omega)]
  exact kk
theorem SW.iastN (hsh : sw_sh i = .inl (false, n)) (hx : x = nI k) (hk : k < n) (hn : n < 2 ^ 31) (hd : decode me.2.1 pc = .ok (.iastore, 1)) (hq : pc + 1 = q) (kk : SW X d me E R q L rest (sw_up σ i k y)) : SW X d me E R pc L (.int y :: .int x :: .ref (sw_ad X i) :: rest) σ := by
  subst hx
  refine SW.iast hsh (vp_in_nI hk hn) hd hq ?_
  rw [nI_clamp (by omega)]
  exact kk
theorem SW.zastN (hsh : sw_sh i = .inl (true, n)) (hx : x = nI k) (hk : k < n) (hn : n < 2 ^ 31) (hy : vp_nar .boolean y = y) (hd : decode me.2.1 pc = .ok (.bastore, 1)) (hq : pc + 1 = q) (kk : SW X d me E R q L rest (sw_up σ i k y)) : SW X d me E R pc L (.int y :: .int x :: .ref (sw_ad X i) :: rest) σ := by
  subst hx
  refine SW.zast hsh (vp_in_nI hk hn) hy hd hq ?_
  rw [nI_clamp (by omega)]
  exact kk
end ROWK
/-- the reference's size -/
def gr_M (σ : sw_Sg) (n : Nat) : Prop := 4 ≤ n ∧ n ≤ 24 ∧ σ 59 1 = nI n
theorem gr_M.fr {l : List Nat} {σ u : sw_Sg} {n : Nat} (h : gr_M σ n) (hf : fr_ l σ u) (h1 : 59 ∉ l) : gr_M u n := ⟨h.1, h.2.1, by rw [hf 59 h1]; exact h.2.2⟩
theorem nI_pr {n : Nat} (h : 0 < n) : nI n - 1 = nI (n - 1) := by
  have := nI_pred (n - 1)
  rwa [show n - 1 + 1 = n by omega] at this
theorem nI_m1 {n : Nat} (h : 0 < n) : nI n + (-1) = nI (n - 1) := by
  have := pk_m1 (n - 1)
  rwa [show n - 1 + 1 = n by omega] at this
theorem gr_up {n p : Nat} (hn : 0 < n) (h : 0 < p / n) : n * (p / n - 1) + p % n = p - n := by
  have h1 := gr_pp (n := n) (p := p)
  have h2 : n * (p / n - 1) + n = n * (p / n) := by
    rw [Nat.mul_sub, Nat.mul_one]
    have : n * 1 ≤ n * (p / n) := Nat.mul_le_mul_left n h
    omega
  omega
section MTERR
variable {X : sw_X} {σ : sw_Sg} {x y v : Int32} {n p q e : Nat}
theorem C_X8_isPlace (hM : gr_M σ n) : sw_F X 1 mX8_isPlace [.ref (sw_ad X 59), .int x] σ (sw_wi x 0 (nI (n * n - 1))) σ := by
  obtain ⟨n4, n24, hn⟩ := hM
  have h16 : 4 * 4 ≤ n * n := Nat.mul_le_mul n4 n4
  refine sw_ME.ofF (by decide +kernel) rfl (Nat.le_of_ble_eq_true rfl) rfl ?_
  refine SW.iload_n (q := 1) (i := 1) dX8_isPlace_0 rfl rfl rfl ?_
  refine SW.iconst (q := 2) (v := 0) dX8_isPlace_1 (by decide) rfl ?_
  refine SW.aload_n (q := 3) (i := 0) dX8_isPlace_2 rfl rfl rfl ?_
  refine SW.getI (q := 6) (i := 59) fX8_7 rfl rfl dX8_isPlace_3 rfl ?_
  refine SW.aload_n (q := 7) (i := 0) dX8_isPlace_6 rfl rfl rfl ?_
  refine SW.getI (q := 10) (i := 59) fX8_7 rfl rfl dX8_isPlace_7 rfl ?_
  refine SW.imul (q := 11) dX8_isPlace_10 rfl ?_
  refine SW.iconst (q := 12) (v := 1) dX8_isPlace_11 (by decide) rfl ?_
  refine SW.isub (q := 13) dX8_isPlace_12 rfl ?_
  refine SW.sF (q := 16) (C_X8_in) vX8_69 (by decide) rfl rfl (Nat.le_of_ble_eq_true rfl) dX8_isPlace_13 rfl ?_
  refine SW.iretR rfl (by unfold sw_wi; split <;> rfl) dX8_isPlace_16 ?_
  exact ⟨by rw [hn, pk_mul, nI_pr (by omega)], rfl⟩
theorem C_X8_beside (hM : gr_M σ n) (hx : x = nI p) (hy : y = nI e) (hp : p < n * n) (he : e < 4) : sw_F X 1 mX8_beside [.ref (sw_ad X 59), .int x, .int y] σ (gr_v (gr_nb n p e)) σ := by
  subst hx; subst hy
  obtain ⟨n4, n24, hn⟩ := hM
  have h576 := gr_576 n24
  obtain ⟨l1, l2, l3⟩ := gr_lt hp
  have ex : nI p - nI p / nI n * nI n = nI (p % n) := pk_rem (by omega) l3 (by omega)
  have ey : nI p / nI n = nI (p / n) := pk_div (by omega) l3 (by omega)
  have en1 : nI n - 1 = nI (n - 1) := nI_pr l3
  have hne : ¬ σ 59 1 = 0 := by rw [hn]; exact nI_ne0 l3 (by omega)
  refine sw_ME.ofF (by decide +kernel) rfl (Nat.le_of_ble_eq_true rfl) rfl ?_
  rcases (show e = 0 ∨ e = 1 ∨ e = 2 ∨ e = 3 by omega) with rfl | rfl | rfl | rfl
  · by_cases h : 0 < p / n
    · refine SW.iload_n (q := 1) (i := 1) dX8_beside_0 rfl rfl rfl ?_
      refine SW.aload_n (q := 2) (i := 0) dX8_beside_1 rfl rfl rfl ?_
      refine SW.getI (q := 5) (i := 59) fX8_7 rfl rfl dX8_beside_2 rfl ?_
      refine SW.irem (q := 6) dX8_beside_5 hne rfl ?_
      refine SW.iload_n (q := 7) (i := 2) dX8_beside_6 rfl rfl rfl ?_
      refine SW.iconst (q := 8) (v := 1) dX8_beside_7 (by decide) rfl ?_
      refine SW.icmp_ne (q := 11) (tgt := 15) dX8_beside_8 (by decide) rfl (fun _ => ?_) (fun c8 => absurd c8 ((by decide)))
      refine SW.iload_n (q := 16) (i := 2) dX8_beside_15 rfl rfl rfl ?_
      refine SW.iconst (q := 17) (v := 2) dX8_beside_16 (by decide) rfl ?_
      refine SW.icmp_ne (q := 20) (tgt := 24) dX8_beside_17 (by decide) rfl (fun _ => ?_) (fun c17 => absurd c17 ((by decide)))
      refine SW.iconst (q := 25) (v := 0) dX8_beside_24 (by decide) rfl ?_
      refine SW.iadd (q := 26) dX8_beside_25 rfl ?_
      refine SW.istore_n (q := 27) (i := 3) dX8_beside_26 rfl (by decide) rfl ?_
      refine SW.iload_n (q := 28) (i := 1) dX8_beside_27 rfl rfl rfl ?_
      refine SW.aload_n (q := 29) (i := 0) dX8_beside_28 rfl rfl rfl ?_
      refine SW.getI (q := 32) (i := 59) fX8_7 rfl rfl dX8_beside_29 rfl ?_
      refine SW.idiv (q := 33) dX8_beside_32 hne rfl ?_
      refine SW.iload_n (q := 34) (i := 2) dX8_beside_33 rfl rfl rfl ?_
      refine SW.if_ne (q := 37) (tgt := 41) dX8_beside_34 (by decide) rfl (fun c34 => absurd ((by decide)) c34) (fun _ => ?_)
      refine SW.iconst (q := 38) (v := (-1)) dX8_beside_37 (by decide) rfl ?_
      refine SW.goto (q := 51) dX8_beside_38 (by decide) ?_
      refine SW.iadd (q := 52) dX8_beside_51 rfl ?_
      refine SW.istore (q := 54) (i := 4) dX8_beside_52 (by decide) rfl ?_
      refine SW.iload_n (q := 55) (i := 3) dX8_beside_54 rfl rfl rfl ?_
      refine SW.iconst (q := 56) (v := 0) dX8_beside_55 (by decide) rfl ?_
      refine SW.aload_n (q := 57) (i := 0) dX8_beside_56 rfl rfl rfl ?_
      refine SW.getI (q := 60) (i := 59) fX8_7 rfl rfl dX8_beside_57 rfl ?_
      refine SW.iconst (q := 61) (v := 1) dX8_beside_60 (by decide) rfl ?_
      refine SW.isub (q := 62) dX8_beside_61 rfl ?_
      refine SW.sF (q := 65) (C_X8_in) vX8_69 (by decide) rfl rfl (Nat.le_of_ble_eq_true rfl) dX8_beside_62 rfl ?_
      refine SW.if_eq (q := 68) (tgt := 95) dX8_beside_65 (by decide) rfl (fun c65 => absurd c65 ((by rw [hn, ex, Int32.add_zero, en1]; exact sw_wi_1 (nI_pos' (by omega)) (nI_le (by omega) (by omega))))) (fun _ => ?_)
      refine SW.iload (q := 70) (i := 4) dX8_beside_68 rfl rfl ?_
      refine SW.iconst (q := 71) (v := 0) dX8_beside_70 (by decide) rfl ?_
      refine SW.aload_n (q := 72) (i := 0) dX8_beside_71 rfl rfl rfl ?_
      refine SW.getI (q := 75) (i := 59) fX8_7 rfl rfl dX8_beside_72 rfl ?_
      refine SW.iconst (q := 76) (v := 1) dX8_beside_75 (by decide) rfl ?_
      refine SW.isub (q := 77) dX8_beside_76 rfl ?_
      refine SW.sF (q := 80) (C_X8_in) vX8_69 (by decide) rfl rfl (Nat.le_of_ble_eq_true rfl) dX8_beside_77 rfl ?_
      refine SW.if_eq (q := 83) (tgt := 95) dX8_beside_80 (by decide) rfl (fun c80 => absurd c80 ((by rw [hn, ey, nI_m1 h, en1]; exact sw_wi_1 (nI_pos' (by omega)) (nI_le (by omega) (by omega))))) (fun _ => ?_)
      refine SW.aload_n (q := 84) (i := 0) dX8_beside_83 rfl rfl rfl ?_
      refine SW.getI (q := 87) (i := 59) fX8_7 rfl rfl dX8_beside_84 rfl ?_
      refine SW.iload (q := 89) (i := 4) dX8_beside_87 rfl rfl ?_
      refine SW.imul (q := 90) dX8_beside_89 rfl ?_
      refine SW.iload_n (q := 91) (i := 3) dX8_beside_90 rfl rfl rfl ?_
      refine SW.iadd (q := 92) dX8_beside_91 rfl ?_
      refine SW.goto (q := 97) dX8_beside_92 (by decide) ?_
      refine SW.iretR rfl rfl dX8_beside_97 ?_
      exact ⟨by rw [hn, ex, ey, Int32.add_zero, nI_m1 h, pk_mul, nI_add, gr_up l3 h, gr_nb, if_pos h]; rfl, rfl⟩
    · refine SW.iload_n (q := 1) (i := 1) dX8_beside_0 rfl rfl rfl ?_
      refine SW.aload_n (q := 2) (i := 0) dX8_beside_1 rfl rfl rfl ?_
      refine SW.getI (q := 5) (i := 59) fX8_7 rfl rfl dX8_beside_2 rfl ?_
      refine SW.irem (q := 6) dX8_beside_5 hne rfl ?_
      refine SW.iload_n (q := 7) (i := 2) dX8_beside_6 rfl rfl rfl ?_
      refine SW.iconst (q := 8) (v := 1) dX8_beside_7 (by decide) rfl ?_
      refine SW.icmp_ne (q := 11) (tgt := 15) dX8_beside_8 (by decide) rfl (fun _ => ?_) (fun c8 => absurd c8 ((by decide)))
      refine SW.iload_n (q := 16) (i := 2) dX8_beside_15 rfl rfl rfl ?_
      refine SW.iconst (q := 17) (v := 2) dX8_beside_16 (by decide) rfl ?_
      refine SW.icmp_ne (q := 20) (tgt := 24) dX8_beside_17 (by decide) rfl (fun _ => ?_) (fun c17 => absurd c17 ((by decide)))
      refine SW.iconst (q := 25) (v := 0) dX8_beside_24 (by decide) rfl ?_
      refine SW.iadd (q := 26) dX8_beside_25 rfl ?_
      refine SW.istore_n (q := 27) (i := 3) dX8_beside_26 rfl (by decide) rfl ?_
      refine SW.iload_n (q := 28) (i := 1) dX8_beside_27 rfl rfl rfl ?_
      refine SW.aload_n (q := 29) (i := 0) dX8_beside_28 rfl rfl rfl ?_
      refine SW.getI (q := 32) (i := 59) fX8_7 rfl rfl dX8_beside_29 rfl ?_
      refine SW.idiv (q := 33) dX8_beside_32 hne rfl ?_
      refine SW.iload_n (q := 34) (i := 2) dX8_beside_33 rfl rfl rfl ?_
      refine SW.if_ne (q := 37) (tgt := 41) dX8_beside_34 (by decide) rfl (fun c34 => absurd ((by decide)) c34) (fun _ => ?_)
      refine SW.iconst (q := 38) (v := (-1)) dX8_beside_37 (by decide) rfl ?_
      refine SW.goto (q := 51) dX8_beside_38 (by decide) ?_
      refine SW.iadd (q := 52) dX8_beside_51 rfl ?_
      refine SW.istore (q := 54) (i := 4) dX8_beside_52 (by decide) rfl ?_
      refine SW.iload_n (q := 55) (i := 3) dX8_beside_54 rfl rfl rfl ?_
      refine SW.iconst (q := 56) (v := 0) dX8_beside_55 (by decide) rfl ?_
      refine SW.aload_n (q := 57) (i := 0) dX8_beside_56 rfl rfl rfl ?_
      refine SW.getI (q := 60) (i := 59) fX8_7 rfl rfl dX8_beside_57 rfl ?_
      refine SW.iconst (q := 61) (v := 1) dX8_beside_60 (by decide) rfl ?_
      refine SW.isub (q := 62) dX8_beside_61 rfl ?_
      refine SW.sF (q := 65) (C_X8_in) vX8_69 (by decide) rfl rfl (Nat.le_of_ble_eq_true rfl) dX8_beside_62 rfl ?_
      refine SW.if_eq (q := 68) (tgt := 95) dX8_beside_65 (by decide) rfl (fun c65 => absurd c65 ((by rw [hn, ex, Int32.add_zero, en1]; exact sw_wi_1 (nI_pos' (by omega)) (nI_le (by omega) (by omega))))) (fun _ => ?_)
      refine SW.iload (q := 70) (i := 4) dX8_beside_68 rfl rfl ?_
      refine SW.iconst (q := 71) (v := 0) dX8_beside_70 (by decide) rfl ?_
      refine SW.aload_n (q := 72) (i := 0) dX8_beside_71 rfl rfl rfl ?_
      refine SW.getI (q := 75) (i := 59) fX8_7 rfl rfl dX8_beside_72 rfl ?_
      refine SW.iconst (q := 76) (v := 1) dX8_beside_75 (by decide) rfl ?_
      refine SW.isub (q := 77) dX8_beside_76 rfl ?_
      refine SW.sF (q := 80) (C_X8_in) vX8_69 (by decide) rfl rfl (Nat.le_of_ble_eq_true rfl) dX8_beside_77 rfl ?_
      refine SW.if_eq (q := 83) (tgt := 95) dX8_beside_80 (by decide) rfl (fun _ => ?_) (fun c80 => absurd ((by rw [hn, ey, Nat.eq_zero_of_not_pos h, en1]; exact sw_wi_0 (fun h => absurd h.1 (by decide)))) c80)
      refine SW.bipush (q := 97) (v := (-6)) dX8_beside_95 (by decide) rfl ?_
      refine SW.iretR rfl rfl dX8_beside_97 ?_
      exact ⟨by rw [gr_nb, if_neg h]; rfl, rfl⟩
  · by_cases h : 0 < p % n
    · have h1 : p % n ≤ p := Nat.mod_le _ _
      refine SW.iload_n (q := 1) (i := 1) dX8_beside_0 rfl rfl rfl ?_
      refine SW.aload_n (q := 2) (i := 0) dX8_beside_1 rfl rfl rfl ?_
      refine SW.getI (q := 5) (i := 59) fX8_7 rfl rfl dX8_beside_2 rfl ?_
      refine SW.irem (q := 6) dX8_beside_5 hne rfl ?_
      refine SW.iload_n (q := 7) (i := 2) dX8_beside_6 rfl rfl rfl ?_
      refine SW.iconst (q := 8) (v := 1) dX8_beside_7 (by decide) rfl ?_
      refine SW.icmp_ne (q := 11) (tgt := 15) dX8_beside_8 (by decide) rfl (fun c8 => absurd ((by decide)) c8) (fun _ => ?_)
      refine SW.iconst (q := 12) (v := (-1)) dX8_beside_11 (by decide) rfl ?_
      refine SW.goto (q := 25) dX8_beside_12 (by decide) ?_
      refine SW.iadd (q := 26) dX8_beside_25 rfl ?_
      refine SW.istore_n (q := 27) (i := 3) dX8_beside_26 rfl (by decide) rfl ?_
      refine SW.iload_n (q := 28) (i := 1) dX8_beside_27 rfl rfl rfl ?_
      refine SW.aload_n (q := 29) (i := 0) dX8_beside_28 rfl rfl rfl ?_
      refine SW.getI (q := 32) (i := 59) fX8_7 rfl rfl dX8_beside_29 rfl ?_
      refine SW.idiv (q := 33) dX8_beside_32 hne rfl ?_
      refine SW.iload_n (q := 34) (i := 2) dX8_beside_33 rfl rfl rfl ?_
      refine SW.if_ne (q := 37) (tgt := 41) dX8_beside_34 (by decide) rfl (fun _ => ?_) (fun c34 => absurd c34 ((by decide)))
      refine SW.iload_n (q := 42) (i := 2) dX8_beside_41 rfl rfl rfl ?_
      refine SW.iconst (q := 43) (v := 3) dX8_beside_42 (by decide) rfl ?_
      refine SW.icmp_ne (q := 46) (tgt := 50) dX8_beside_43 (by decide) rfl (fun _ => ?_) (fun c43 => absurd c43 ((by decide)))
      refine SW.iconst (q := 51) (v := 0) dX8_beside_50 (by decide) rfl ?_
      refine SW.iadd (q := 52) dX8_beside_51 rfl ?_
      refine SW.istore (q := 54) (i := 4) dX8_beside_52 (by decide) rfl ?_
      refine SW.iload_n (q := 55) (i := 3) dX8_beside_54 rfl rfl rfl ?_
      refine SW.iconst (q := 56) (v := 0) dX8_beside_55 (by decide) rfl ?_
      refine SW.aload_n (q := 57) (i := 0) dX8_beside_56 rfl rfl rfl ?_
      refine SW.getI (q := 60) (i := 59) fX8_7 rfl rfl dX8_beside_57 rfl ?_
      refine SW.iconst (q := 61) (v := 1) dX8_beside_60 (by decide) rfl ?_
      refine SW.isub (q := 62) dX8_beside_61 rfl ?_
      refine SW.sF (q := 65) (C_X8_in) vX8_69 (by decide) rfl rfl (Nat.le_of_ble_eq_true rfl) dX8_beside_62 rfl ?_
      refine SW.if_eq (q := 68) (tgt := 95) dX8_beside_65 (by decide) rfl (fun c65 => absurd c65 ((by rw [hn, ex, nI_m1 h, en1]; exact sw_wi_1 (nI_pos' (by omega)) (nI_le (by omega) (by omega))))) (fun _ => ?_)
      refine SW.iload (q := 70) (i := 4) dX8_beside_68 rfl rfl ?_
      refine SW.iconst (q := 71) (v := 0) dX8_beside_70 (by decide) rfl ?_
      refine SW.aload_n (q := 72) (i := 0) dX8_beside_71 rfl rfl rfl ?_
      refine SW.getI (q := 75) (i := 59) fX8_7 rfl rfl dX8_beside_72 rfl ?_
      refine SW.iconst (q := 76) (v := 1) dX8_beside_75 (by decide) rfl ?_
      refine SW.isub (q := 77) dX8_beside_76 rfl ?_
      refine SW.sF (q := 80) (C_X8_in) vX8_69 (by decide) rfl rfl (Nat.le_of_ble_eq_true rfl) dX8_beside_77 rfl ?_
      refine SW.if_eq (q := 83) (tgt := 95) dX8_beside_80 (by decide) rfl (fun c80 => absurd c80 ((by rw [hn, ey, Int32.add_zero, en1]; exact sw_wi_1 (nI_pos' (by omega)) (nI_le (by omega) (by omega))))) (fun _ => ?_)
      refine SW.aload_n (q := 84) (i := 0) dX8_beside_83 rfl rfl rfl ?_
      refine SW.getI (q := 87) (i := 59) fX8_7 rfl rfl dX8_beside_84 rfl ?_
      refine SW.iload (q := 89) (i := 4) dX8_beside_87 rfl rfl ?_
      refine SW.imul (q := 90) dX8_beside_89 rfl ?_
      refine SW.iload_n (q := 91) (i := 3) dX8_beside_90 rfl rfl rfl ?_
      refine SW.iadd (q := 92) dX8_beside_91 rfl ?_
      refine SW.goto (q := 97) dX8_beside_92 (by decide) ?_
      refine SW.iretR rfl rfl dX8_beside_97 ?_
      exact ⟨by rw [hn, ex, ey, Int32.add_zero, nI_m1 h, pk_mul, nI_add, show n * (p / n) + (p % n - 1) = p - 1 by have := gr_pp (n := n) (p := p); omega, gr_nb, if_pos h]; rfl, rfl⟩
    · refine SW.iload_n (q := 1) (i := 1) dX8_beside_0 rfl rfl rfl ?_
      refine SW.aload_n (q := 2) (i := 0) dX8_beside_1 rfl rfl rfl ?_
      refine SW.getI (q := 5) (i := 59) fX8_7 rfl rfl dX8_beside_2 rfl ?_
      refine SW.irem (q := 6) dX8_beside_5 hne rfl ?_
      refine SW.iload_n (q := 7) (i := 2) dX8_beside_6 rfl rfl rfl ?_
      refine SW.iconst (q := 8) (v := 1) dX8_beside_7 (by decide) rfl ?_
      refine SW.icmp_ne (q := 11) (tgt := 15) dX8_beside_8 (by decide) rfl (fun c8 => absurd ((by decide)) c8) (fun _ => ?_)
      refine SW.iconst (q := 12) (v := (-1)) dX8_beside_11 (by decide) rfl ?_
      refine SW.goto (q := 25) dX8_beside_12 (by decide) ?_
      refine SW.iadd (q := 26) dX8_beside_25 rfl ?_
      refine SW.istore_n (q := 27) (i := 3) dX8_beside_26 rfl (by decide) rfl ?_
      refine SW.iload_n (q := 28) (i := 1) dX8_beside_27 rfl rfl rfl ?_
      refine SW.aload_n (q := 29) (i := 0) dX8_beside_28 rfl rfl rfl ?_
      refine SW.getI (q := 32) (i := 59) fX8_7 rfl rfl dX8_beside_29 rfl ?_
      refine SW.idiv (q := 33) dX8_beside_32 hne rfl ?_
      refine SW.iload_n (q := 34) (i := 2) dX8_beside_33 rfl rfl rfl ?_
      refine SW.if_ne (q := 37) (tgt := 41) dX8_beside_34 (by decide) rfl (fun _ => ?_) (fun c34 => absurd c34 ((by decide)))
      refine SW.iload_n (q := 42) (i := 2) dX8_beside_41 rfl rfl rfl ?_
      refine SW.iconst (q := 43) (v := 3) dX8_beside_42 (by decide) rfl ?_
      refine SW.icmp_ne (q := 46) (tgt := 50) dX8_beside_43 (by decide) rfl (fun c43 => ?_) (fun c43 => ?_)
      · refine SW.iconst (q := 51) (v := 0) dX8_beside_50 (by decide) rfl ?_
        refine SW.iadd (q := 52) dX8_beside_51 rfl ?_
        refine SW.istore (q := 54) (i := 4) dX8_beside_52 (by decide) rfl ?_
        refine SW.iload_n (q := 55) (i := 3) dX8_beside_54 rfl rfl rfl ?_
        refine SW.iconst (q := 56) (v := 0) dX8_beside_55 (by decide) rfl ?_
        refine SW.aload_n (q := 57) (i := 0) dX8_beside_56 rfl rfl rfl ?_
        refine SW.getI (q := 60) (i := 59) fX8_7 rfl rfl dX8_beside_57 rfl ?_
        refine SW.iconst (q := 61) (v := 1) dX8_beside_60 (by decide) rfl ?_
        refine SW.isub (q := 62) dX8_beside_61 rfl ?_
        refine SW.sF (q := 65) (C_X8_in) vX8_69 (by decide) rfl rfl (Nat.le_of_ble_eq_true rfl) dX8_beside_62 rfl ?_
        refine SW.if_eq (q := 68) (tgt := 95) dX8_beside_65 (by decide) rfl (fun _ => ?_) (fun c65 => absurd ((by rw [hn, ex, Nat.eq_zero_of_not_pos h, en1]; exact sw_wi_0 (fun h => absurd h.1 (by decide)))) c65)
        refine SW.bipush (q := 97) (v := (-6)) dX8_beside_95 (by decide) rfl ?_
        refine SW.iretR rfl rfl dX8_beside_97 ?_
        exact ⟨by rw [gr_nb, if_neg h]; rfl, rfl⟩
      · refine SW.iconst (q := 47) (v := 1) dX8_beside_46 (by decide) rfl ?_
        refine SW.goto (q := 51) dX8_beside_47 (by decide) ?_
        refine SW.iadd (q := 52) dX8_beside_51 rfl ?_
        refine SW.istore (q := 54) (i := 4) dX8_beside_52 (by decide) rfl ?_
        refine SW.iload_n (q := 55) (i := 3) dX8_beside_54 rfl rfl rfl ?_
        refine SW.iconst (q := 56) (v := 0) dX8_beside_55 (by decide) rfl ?_
        refine SW.aload_n (q := 57) (i := 0) dX8_beside_56 rfl rfl rfl ?_
        refine SW.getI (q := 60) (i := 59) fX8_7 rfl rfl dX8_beside_57 rfl ?_
        refine SW.iconst (q := 61) (v := 1) dX8_beside_60 (by decide) rfl ?_
        refine SW.isub (q := 62) dX8_beside_61 rfl ?_
        refine SW.sF (q := 65) (C_X8_in) vX8_69 (by decide) rfl rfl (Nat.le_of_ble_eq_true rfl) dX8_beside_62 rfl ?_
        refine SW.if_eq (q := 68) (tgt := 95) dX8_beside_65 (by decide) rfl (fun _ => ?_) (fun c65 => absurd ((by rw [hn, ex, Nat.eq_zero_of_not_pos h, en1]; exact sw_wi_0 (fun h => absurd h.1 (by decide)))) c65)
        refine SW.bipush (q := 97) (v := (-6)) dX8_beside_95 (by decide) rfl ?_
        refine SW.iretR rfl rfl dX8_beside_97 ?_
        exact ⟨by rw [gr_nb, if_neg h]; rfl, rfl⟩
  · by_cases h : p % n < n - 1
    · refine SW.iload_n (q := 1) (i := 1) dX8_beside_0 rfl rfl rfl ?_
      refine SW.aload_n (q := 2) (i := 0) dX8_beside_1 rfl rfl rfl ?_
      refine SW.getI (q := 5) (i := 59) fX8_7 rfl rfl dX8_beside_2 rfl ?_
      refine SW.irem (q := 6) dX8_beside_5 hne rfl ?_
      refine SW.iload_n (q := 7) (i := 2) dX8_beside_6 rfl rfl rfl ?_
      refine SW.iconst (q := 8) (v := 1) dX8_beside_7 (by decide) rfl ?_
      refine SW.icmp_ne (q := 11) (tgt := 15) dX8_beside_8 (by decide) rfl (fun _ => ?_) (fun c8 => absurd c8 ((by decide)))
      refine SW.iload_n (q := 16) (i := 2) dX8_beside_15 rfl rfl rfl ?_
      refine SW.iconst (q := 17) (v := 2) dX8_beside_16 (by decide) rfl ?_
      refine SW.icmp_ne (q := 20) (tgt := 24) dX8_beside_17 (by decide) rfl (fun c17 => absurd ((by decide)) c17) (fun _ => ?_)
      refine SW.iconst (q := 21) (v := 1) dX8_beside_20 (by decide) rfl ?_
      refine SW.goto (q := 25) dX8_beside_21 (by decide) ?_
      refine SW.iadd (q := 26) dX8_beside_25 rfl ?_
      refine SW.istore_n (q := 27) (i := 3) dX8_beside_26 rfl (by decide) rfl ?_
      refine SW.iload_n (q := 28) (i := 1) dX8_beside_27 rfl rfl rfl ?_
      refine SW.aload_n (q := 29) (i := 0) dX8_beside_28 rfl rfl rfl ?_
      refine SW.getI (q := 32) (i := 59) fX8_7 rfl rfl dX8_beside_29 rfl ?_
      refine SW.idiv (q := 33) dX8_beside_32 hne rfl ?_
      refine SW.iload_n (q := 34) (i := 2) dX8_beside_33 rfl rfl rfl ?_
      refine SW.if_ne (q := 37) (tgt := 41) dX8_beside_34 (by decide) rfl (fun _ => ?_) (fun c34 => absurd c34 ((by decide)))
      refine SW.iload_n (q := 42) (i := 2) dX8_beside_41 rfl rfl rfl ?_
      refine SW.iconst (q := 43) (v := 3) dX8_beside_42 (by decide) rfl ?_
      refine SW.icmp_ne (q := 46) (tgt := 50) dX8_beside_43 (by decide) rfl (fun _ => ?_) (fun c43 => absurd c43 ((by decide)))
      refine SW.iconst (q := 51) (v := 0) dX8_beside_50 (by decide) rfl ?_
      refine SW.iadd (q := 52) dX8_beside_51 rfl ?_
      refine SW.istore (q := 54) (i := 4) dX8_beside_52 (by decide) rfl ?_
      refine SW.iload_n (q := 55) (i := 3) dX8_beside_54 rfl rfl rfl ?_
      refine SW.iconst (q := 56) (v := 0) dX8_beside_55 (by decide) rfl ?_
      refine SW.aload_n (q := 57) (i := 0) dX8_beside_56 rfl rfl rfl ?_
      refine SW.getI (q := 60) (i := 59) fX8_7 rfl rfl dX8_beside_57 rfl ?_
      refine SW.iconst (q := 61) (v := 1) dX8_beside_60 (by decide) rfl ?_
      refine SW.isub (q := 62) dX8_beside_61 rfl ?_
      refine SW.sF (q := 65) (C_X8_in) vX8_69 (by decide) rfl rfl (Nat.le_of_ble_eq_true rfl) dX8_beside_62 rfl ?_
      refine SW.if_eq (q := 68) (tgt := 95) dX8_beside_65 (by decide) rfl (fun c65 => absurd c65 ((by rw [hn, ex, nI_1, en1]; exact sw_wi_1 (nI_pos' (by omega)) (nI_le (by omega) (by omega))))) (fun _ => ?_)
      refine SW.iload (q := 70) (i := 4) dX8_beside_68 rfl rfl ?_
      refine SW.iconst (q := 71) (v := 0) dX8_beside_70 (by decide) rfl ?_
      refine SW.aload_n (q := 72) (i := 0) dX8_beside_71 rfl rfl rfl ?_
      refine SW.getI (q := 75) (i := 59) fX8_7 rfl rfl dX8_beside_72 rfl ?_
      refine SW.iconst (q := 76) (v := 1) dX8_beside_75 (by decide) rfl ?_
      refine SW.isub (q := 77) dX8_beside_76 rfl ?_
      refine SW.sF (q := 80) (C_X8_in) vX8_69 (by decide) rfl rfl (Nat.le_of_ble_eq_true rfl) dX8_beside_77 rfl ?_
      refine SW.if_eq (q := 83) (tgt := 95) dX8_beside_80 (by decide) rfl (fun c80 => absurd c80 ((by rw [hn, ey, Int32.add_zero, en1]; exact sw_wi_1 (nI_pos' (by omega)) (nI_le (by omega) (by omega))))) (fun _ => ?_)
      refine SW.aload_n (q := 84) (i := 0) dX8_beside_83 rfl rfl rfl ?_
      refine SW.getI (q := 87) (i := 59) fX8_7 rfl rfl dX8_beside_84 rfl ?_
      refine SW.iload (q := 89) (i := 4) dX8_beside_87 rfl rfl ?_
      refine SW.imul (q := 90) dX8_beside_89 rfl ?_
      refine SW.iload_n (q := 91) (i := 3) dX8_beside_90 rfl rfl rfl ?_
      refine SW.iadd (q := 92) dX8_beside_91 rfl ?_
      refine SW.goto (q := 97) dX8_beside_92 (by decide) ?_
      refine SW.iretR rfl rfl dX8_beside_97 ?_
      exact ⟨by rw [hn, ex, ey, Int32.add_zero, nI_1, pk_mul, nI_add, show n * (p / n) + (p % n + 1) = p + 1 by have := gr_pp (n := n) (p := p); omega, gr_nb, if_pos h]; rfl, rfl⟩
    · refine SW.iload_n (q := 1) (i := 1) dX8_beside_0 rfl rfl rfl ?_
      refine SW.aload_n (q := 2) (i := 0) dX8_beside_1 rfl rfl rfl ?_
      refine SW.getI (q := 5) (i := 59) fX8_7 rfl rfl dX8_beside_2 rfl ?_
      refine SW.irem (q := 6) dX8_beside_5 hne rfl ?_
      refine SW.iload_n (q := 7) (i := 2) dX8_beside_6 rfl rfl rfl ?_
      refine SW.iconst (q := 8) (v := 1) dX8_beside_7 (by decide) rfl ?_
      refine SW.icmp_ne (q := 11) (tgt := 15) dX8_beside_8 (by decide) rfl (fun _ => ?_) (fun c8 => absurd c8 ((by decide)))
      refine SW.iload_n (q := 16) (i := 2) dX8_beside_15 rfl rfl rfl ?_
      refine SW.iconst (q := 17) (v := 2) dX8_beside_16 (by decide) rfl ?_
      refine SW.icmp_ne (q := 20) (tgt := 24) dX8_beside_17 (by decide) rfl (fun c17 => absurd ((by decide)) c17) (fun _ => ?_)
      refine SW.iconst (q := 21) (v := 1) dX8_beside_20 (by decide) rfl ?_
      refine SW.goto (q := 25) dX8_beside_21 (by decide) ?_
      refine SW.iadd (q := 26) dX8_beside_25 rfl ?_
      refine SW.istore_n (q := 27) (i := 3) dX8_beside_26 rfl (by decide) rfl ?_
      refine SW.iload_n (q := 28) (i := 1) dX8_beside_27 rfl rfl rfl ?_
      refine SW.aload_n (q := 29) (i := 0) dX8_beside_28 rfl rfl rfl ?_
      refine SW.getI (q := 32) (i := 59) fX8_7 rfl rfl dX8_beside_29 rfl ?_
      refine SW.idiv (q := 33) dX8_beside_32 hne rfl ?_
      refine SW.iload_n (q := 34) (i := 2) dX8_beside_33 rfl rfl rfl ?_
      refine SW.if_ne (q := 37) (tgt := 41) dX8_beside_34 (by decide) rfl (fun _ => ?_) (fun c34 => absurd c34 ((by decide)))
      refine SW.iload_n (q := 42) (i := 2) dX8_beside_41 rfl rfl rfl ?_
      refine SW.iconst (q := 43) (v := 3) dX8_beside_42 (by decide) rfl ?_
      refine SW.icmp_ne (q := 46) (tgt := 50) dX8_beside_43 (by decide) rfl (fun _ => ?_) (fun c43 => absurd c43 ((by decide)))
      refine SW.iconst (q := 51) (v := 0) dX8_beside_50 (by decide) rfl ?_
      refine SW.iadd (q := 52) dX8_beside_51 rfl ?_
      refine SW.istore (q := 54) (i := 4) dX8_beside_52 (by decide) rfl ?_
      refine SW.iload_n (q := 55) (i := 3) dX8_beside_54 rfl rfl rfl ?_
      refine SW.iconst (q := 56) (v := 0) dX8_beside_55 (by decide) rfl ?_
      refine SW.aload_n (q := 57) (i := 0) dX8_beside_56 rfl rfl rfl ?_
      refine SW.getI (q := 60) (i := 59) fX8_7 rfl rfl dX8_beside_57 rfl ?_
      refine SW.iconst (q := 61) (v := 1) dX8_beside_60 (by decide) rfl ?_
      refine SW.isub (q := 62) dX8_beside_61 rfl ?_
      refine SW.sF (q := 65) (C_X8_in) vX8_69 (by decide) rfl rfl (Nat.le_of_ble_eq_true rfl) dX8_beside_62 rfl ?_
      refine SW.if_eq (q := 68) (tgt := 95) dX8_beside_65 (by decide) rfl (fun _ => ?_) (fun c65 => absurd ((by rw [hn, ex, nI_1, en1]; exact sw_wi_0 (fun h => absurd h.2 (nI_ge (by omega) (by omega))))) c65)
      refine SW.bipush (q := 97) (v := (-6)) dX8_beside_95 (by decide) rfl ?_
      refine SW.iretR rfl rfl dX8_beside_97 ?_
      exact ⟨by rw [gr_nb, if_neg h]; rfl, rfl⟩
  · by_cases h : p / n < n - 1
    · refine SW.iload_n (q := 1) (i := 1) dX8_beside_0 rfl rfl rfl ?_
      refine SW.aload_n (q := 2) (i := 0) dX8_beside_1 rfl rfl rfl ?_
      refine SW.getI (q := 5) (i := 59) fX8_7 rfl rfl dX8_beside_2 rfl ?_
      refine SW.irem (q := 6) dX8_beside_5 hne rfl ?_
      refine SW.iload_n (q := 7) (i := 2) dX8_beside_6 rfl rfl rfl ?_
      refine SW.iconst (q := 8) (v := 1) dX8_beside_7 (by decide) rfl ?_
      refine SW.icmp_ne (q := 11) (tgt := 15) dX8_beside_8 (by decide) rfl (fun _ => ?_) (fun c8 => absurd c8 ((by decide)))
      refine SW.iload_n (q := 16) (i := 2) dX8_beside_15 rfl rfl rfl ?_
      refine SW.iconst (q := 17) (v := 2) dX8_beside_16 (by decide) rfl ?_
      refine SW.icmp_ne (q := 20) (tgt := 24) dX8_beside_17 (by decide) rfl (fun _ => ?_) (fun c17 => absurd c17 ((by decide)))
      refine SW.iconst (q := 25) (v := 0) dX8_beside_24 (by decide) rfl ?_
      refine SW.iadd (q := 26) dX8_beside_25 rfl ?_
      refine SW.istore_n (q := 27) (i := 3) dX8_beside_26 rfl (by decide) rfl ?_
      refine SW.iload_n (q := 28) (i := 1) dX8_beside_27 rfl rfl rfl ?_
      refine SW.aload_n (q := 29) (i := 0) dX8_beside_28 rfl rfl rfl ?_
      refine SW.getI (q := 32) (i := 59) fX8_7 rfl rfl dX8_beside_29 rfl ?_
      refine SW.idiv (q := 33) dX8_beside_32 hne rfl ?_
      refine SW.iload_n (q := 34) (i := 2) dX8_beside_33 rfl rfl rfl ?_
      refine SW.if_ne (q := 37) (tgt := 41) dX8_beside_34 (by decide) rfl (fun _ => ?_) (fun c34 => absurd c34 ((by decide)))
      refine SW.iload_n (q := 42) (i := 2) dX8_beside_41 rfl rfl rfl ?_
      refine SW.iconst (q := 43) (v := 3) dX8_beside_42 (by decide) rfl ?_
      refine SW.icmp_ne (q := 46) (tgt := 50) dX8_beside_43 (by decide) rfl (fun c43 => absurd ((by decide)) c43) (fun _ => ?_)
      refine SW.iconst (q := 47) (v := 1) dX8_beside_46 (by decide) rfl ?_
      refine SW.goto (q := 51) dX8_beside_47 (by decide) ?_
      refine SW.iadd (q := 52) dX8_beside_51 rfl ?_
      refine SW.istore (q := 54) (i := 4) dX8_beside_52 (by decide) rfl ?_
      refine SW.iload_n (q := 55) (i := 3) dX8_beside_54 rfl rfl rfl ?_
      refine SW.iconst (q := 56) (v := 0) dX8_beside_55 (by decide) rfl ?_
      refine SW.aload_n (q := 57) (i := 0) dX8_beside_56 rfl rfl rfl ?_
      refine SW.getI (q := 60) (i := 59) fX8_7 rfl rfl dX8_beside_57 rfl ?_
      refine SW.iconst (q := 61) (v := 1) dX8_beside_60 (by decide) rfl ?_
      refine SW.isub (q := 62) dX8_beside_61 rfl ?_
      refine SW.sF (q := 65) (C_X8_in) vX8_69 (by decide) rfl rfl (Nat.le_of_ble_eq_true rfl) dX8_beside_62 rfl ?_
      refine SW.if_eq (q := 68) (tgt := 95) dX8_beside_65 (by decide) rfl (fun c65 => absurd c65 ((by rw [hn, ex, Int32.add_zero, en1]; exact sw_wi_1 (nI_pos' (by omega)) (nI_le (by omega) (by omega))))) (fun _ => ?_)
      refine SW.iload (q := 70) (i := 4) dX8_beside_68 rfl rfl ?_
      refine SW.iconst (q := 71) (v := 0) dX8_beside_70 (by decide) rfl ?_
      refine SW.aload_n (q := 72) (i := 0) dX8_beside_71 rfl rfl rfl ?_
      refine SW.getI (q := 75) (i := 59) fX8_7 rfl rfl dX8_beside_72 rfl ?_
      refine SW.iconst (q := 76) (v := 1) dX8_beside_75 (by decide) rfl ?_
      refine SW.isub (q := 77) dX8_beside_76 rfl ?_
      refine SW.sF (q := 80) (C_X8_in) vX8_69 (by decide) rfl rfl (Nat.le_of_ble_eq_true rfl) dX8_beside_77 rfl ?_
      refine SW.if_eq (q := 83) (tgt := 95) dX8_beside_80 (by decide) rfl (fun c80 => absurd c80 ((by rw [hn, ey, nI_1, en1]; exact sw_wi_1 (nI_pos' (by omega)) (nI_le (by omega) (by omega))))) (fun _ => ?_)
      refine SW.aload_n (q := 84) (i := 0) dX8_beside_83 rfl rfl rfl ?_
      refine SW.getI (q := 87) (i := 59) fX8_7 rfl rfl dX8_beside_84 rfl ?_
      refine SW.iload (q := 89) (i := 4) dX8_beside_87 rfl rfl ?_
      refine SW.imul (q := 90) dX8_beside_89 rfl ?_
      refine SW.iload_n (q := 91) (i := 3) dX8_beside_90 rfl rfl rfl ?_
      refine SW.iadd (q := 92) dX8_beside_91 rfl ?_
      refine SW.goto (q := 97) dX8_beside_92 (by decide) ?_
      refine SW.iretR rfl rfl dX8_beside_97 ?_
      exact ⟨by rw [hn, ex, ey, Int32.add_zero, nI_1, pk_mul, nI_add, show n * (p / n + 1) + p % n = p + n by have := gr_pp (n := n) (p := p); rw [Nat.mul_add, Nat.mul_one]; omega, gr_nb, if_pos h]; rfl, rfl⟩
    · refine SW.iload_n (q := 1) (i := 1) dX8_beside_0 rfl rfl rfl ?_
      refine SW.aload_n (q := 2) (i := 0) dX8_beside_1 rfl rfl rfl ?_
      refine SW.getI (q := 5) (i := 59) fX8_7 rfl rfl dX8_beside_2 rfl ?_
      refine SW.irem (q := 6) dX8_beside_5 hne rfl ?_
      refine SW.iload_n (q := 7) (i := 2) dX8_beside_6 rfl rfl rfl ?_
      refine SW.iconst (q := 8) (v := 1) dX8_beside_7 (by decide) rfl ?_
      refine SW.icmp_ne (q := 11) (tgt := 15) dX8_beside_8 (by decide) rfl (fun _ => ?_) (fun c8 => absurd c8 ((by decide)))
      refine SW.iload_n (q := 16) (i := 2) dX8_beside_15 rfl rfl rfl ?_
      refine SW.iconst (q := 17) (v := 2) dX8_beside_16 (by decide) rfl ?_
      refine SW.icmp_ne (q := 20) (tgt := 24) dX8_beside_17 (by decide) rfl (fun _ => ?_) (fun c17 => absurd c17 ((by decide)))
      refine SW.iconst (q := 25) (v := 0) dX8_beside_24 (by decide) rfl ?_
      refine SW.iadd (q := 26) dX8_beside_25 rfl ?_
      refine SW.istore_n (q := 27) (i := 3) dX8_beside_26 rfl (by decide) rfl ?_
      refine SW.iload_n (q := 28) (i := 1) dX8_beside_27 rfl rfl rfl ?_
      refine SW.aload_n (q := 29) (i := 0) dX8_beside_28 rfl rfl rfl ?_
      refine SW.getI (q := 32) (i := 59) fX8_7 rfl rfl dX8_beside_29 rfl ?_
      refine SW.idiv (q := 33) dX8_beside_32 hne rfl ?_
      refine SW.iload_n (q := 34) (i := 2) dX8_beside_33 rfl rfl rfl ?_
      refine SW.if_ne (q := 37) (tgt := 41) dX8_beside_34 (by decide) rfl (fun _ => ?_) (fun c34 => absurd c34 ((by decide)))
      refine SW.iload_n (q := 42) (i := 2) dX8_beside_41 rfl rfl rfl ?_
      refine SW.iconst (q := 43) (v := 3) dX8_beside_42 (by decide) rfl ?_
      refine SW.icmp_ne (q := 46) (tgt := 50) dX8_beside_43 (by decide) rfl (fun c43 => absurd ((by decide)) c43) (fun _ => ?_)
      refine SW.iconst (q := 47) (v := 1) dX8_beside_46 (by decide) rfl ?_
      refine SW.goto (q := 51) dX8_beside_47 (by decide) ?_
      refine SW.iadd (q := 52) dX8_beside_51 rfl ?_
      refine SW.istore (q := 54) (i := 4) dX8_beside_52 (by decide) rfl ?_
      refine SW.iload_n (q := 55) (i := 3) dX8_beside_54 rfl rfl rfl ?_
      refine SW.iconst (q := 56) (v := 0) dX8_beside_55 (by decide) rfl ?_
      refine SW.aload_n (q := 57) (i := 0) dX8_beside_56 rfl rfl rfl ?_
      refine SW.getI (q := 60) (i := 59) fX8_7 rfl rfl dX8_beside_57 rfl ?_
      refine SW.iconst (q := 61) (v := 1) dX8_beside_60 (by decide) rfl ?_
      refine SW.isub (q := 62) dX8_beside_61 rfl ?_
      refine SW.sF (q := 65) (C_X8_in) vX8_69 (by decide) rfl rfl (Nat.le_of_ble_eq_true rfl) dX8_beside_62 rfl ?_
      refine SW.if_eq (q := 68) (tgt := 95) dX8_beside_65 (by decide) rfl (fun c65 => absurd c65 ((by rw [hn, ex, Int32.add_zero, en1]; exact sw_wi_1 (nI_pos' (by omega)) (nI_le (by omega) (by omega))))) (fun _ => ?_)
      refine SW.iload (q := 70) (i := 4) dX8_beside_68 rfl rfl ?_
      refine SW.iconst (q := 71) (v := 0) dX8_beside_70 (by decide) rfl ?_
      refine SW.aload_n (q := 72) (i := 0) dX8_beside_71 rfl rfl rfl ?_
      refine SW.getI (q := 75) (i := 59) fX8_7 rfl rfl dX8_beside_72 rfl ?_
      refine SW.iconst (q := 76) (v := 1) dX8_beside_75 (by decide) rfl ?_
      refine SW.isub (q := 77) dX8_beside_76 rfl ?_
      refine SW.sF (q := 80) (C_X8_in) vX8_69 (by decide) rfl rfl (Nat.le_of_ble_eq_true rfl) dX8_beside_77 rfl ?_
      refine SW.if_eq (q := 83) (tgt := 95) dX8_beside_80 (by decide) rfl (fun _ => ?_) (fun c80 => absurd ((by rw [hn, ey, nI_1, en1]; exact sw_wi_0 (fun h => absurd h.2 (nI_ge (by omega) (by omega))))) c80)
      refine SW.bipush (q := 97) (v := (-6)) dX8_beside_95 (by decide) rfl ?_
      refine SW.iretR rfl rfl dX8_beside_97 ?_
      exact ⟨by rw [gr_nb, if_neg h]; rfl, rfl⟩
theorem C_X8_isRim (hM : gr_M σ n) (hx : x = nI p) (hp : p < n * n) : sw_F X 0 mX8_isRim [.ref (sw_ad X 59), .int x] σ (sw_b (gr_rim n p)) σ := by
  subst hx
  obtain ⟨n4, n24, hn⟩ := hM
  have h576 := gr_576 n24
  obtain ⟨l1, l2, l3⟩ := gr_lt hp
  have ex : nI p - nI p / nI n * nI n = nI (p % n) := pk_rem (by omega) l3 (by omega)
  have ey : nI p / nI n = nI (p / n) := pk_div (by omega) l3 (by omega)
  have en1 : nI n - 1 = nI (n - 1) := nI_pr l3
  have hne : ¬ σ 59 1 = 0 := by rw [hn]; exact nI_ne0 l3 (by omega)
  have z1 : nI (p % n) = 0 ↔ p % n = 0 := nI_eq (b := 0) (by omega) (by omega)
  have z2 : nI (p / n) = 0 ↔ p / n = 0 := nI_eq (b := 0) (by omega) (by omega)
  have z3 : nI (p % n) = nI (n - 1) ↔ p % n = n - 1 := nI_eq (by omega) (by omega)
  have z4 : nI (p / n) = nI (n - 1) ↔ p / n = n - 1 := nI_eq (by omega) (by omega)
  refine sw_ME.ofF (by decide +kernel) rfl (Nat.le_of_ble_eq_true rfl) rfl ?_
  refine SW.iload_n (q := 1) (i := 1) dX8_isRim_0 rfl rfl rfl ?_
  refine SW.aload_n (q := 2) (i := 0) dX8_isRim_1 rfl rfl rfl ?_
  refine SW.getI (q := 5) (i := 59) fX8_7 rfl rfl dX8_isRim_2 rfl ?_
  refine SW.irem (q := 6) dX8_isRim_5 hne rfl ?_
  refine SW.istore_n (q := 7) (i := 2) dX8_isRim_6 rfl (by decide) rfl ?_
  refine SW.iload_n (q := 8) (i := 1) dX8_isRim_7 rfl rfl rfl ?_
  refine SW.aload_n (q := 9) (i := 0) dX8_isRim_8 rfl rfl rfl ?_
  refine SW.getI (q := 12) (i := 59) fX8_7 rfl rfl dX8_isRim_9 rfl ?_
  refine SW.idiv (q := 13) dX8_isRim_12 hne rfl ?_
  refine SW.istore_n (q := 14) (i := 3) dX8_isRim_13 rfl (by decide) rfl ?_
  refine SW.iload_n (q := 15) (i := 2) dX8_isRim_14 rfl rfl rfl ?_
  refine SW.if_eq (q := 18) (tgt := 42) dX8_isRim_15 (by decide) rfl (fun c15 => ?_) (fun c15 => ?_)
  · refine SW.iconst (q := 43) (v := 1) dX8_isRim_42 (by decide) rfl ?_
    refine SW.goto (q := 47) dX8_isRim_43 (by decide) ?_
    refine SW.iretR rfl rfl dX8_isRim_47 ?_
    refine ⟨?_, rfl⟩
    simp only [hn] at *
    simp only [ex] at *
    simp only [ey, en1, z1, z2, z3, z4] at *
    simp [gr_rim, sw_b, *]
  · refine SW.iload_n (q := 19) (i := 3) dX8_isRim_18 rfl rfl rfl ?_
    refine SW.if_eq (q := 22) (tgt := 42) dX8_isRim_19 (by decide) rfl (fun c19 => ?_) (fun c19 => ?_)
    · refine SW.iconst (q := 43) (v := 1) dX8_isRim_42 (by decide) rfl ?_
      refine SW.goto (q := 47) dX8_isRim_43 (by decide) ?_
      refine SW.iretR rfl rfl dX8_isRim_47 ?_
      refine ⟨?_, rfl⟩
      simp only [hn] at *
      simp only [ex] at *
      simp only [ey, en1, z1, z2, z3, z4] at *
      simp [gr_rim, sw_b, *]
    · refine SW.iload_n (q := 23) (i := 2) dX8_isRim_22 rfl rfl rfl ?_
      refine SW.aload_n (q := 24) (i := 0) dX8_isRim_23 rfl rfl rfl ?_
      refine SW.getI (q := 27) (i := 59) fX8_7 rfl rfl dX8_isRim_24 rfl ?_
      refine SW.iconst (q := 28) (v := 1) dX8_isRim_27 (by decide) rfl ?_
      refine SW.isub (q := 29) dX8_isRim_28 rfl ?_
      refine SW.icmp_eq (q := 32) (tgt := 42) dX8_isRim_29 (by decide) rfl (fun c29 => ?_) (fun c29 => ?_)
      · refine SW.iconst (q := 43) (v := 1) dX8_isRim_42 (by decide) rfl ?_
        refine SW.goto (q := 47) dX8_isRim_43 (by decide) ?_
        refine SW.iretR rfl rfl dX8_isRim_47 ?_
        refine ⟨?_, rfl⟩
        simp only [hn] at *
        simp only [ex] at *
        simp only [ey, en1, z1, z2, z3, z4] at *
        simp [gr_rim, sw_b, *]
      · refine SW.iload_n (q := 33) (i := 3) dX8_isRim_32 rfl rfl rfl ?_
        refine SW.aload_n (q := 34) (i := 0) dX8_isRim_33 rfl rfl rfl ?_
        refine SW.getI (q := 37) (i := 59) fX8_7 rfl rfl dX8_isRim_34 rfl ?_
        refine SW.iconst (q := 38) (v := 1) dX8_isRim_37 (by decide) rfl ?_
        refine SW.isub (q := 39) dX8_isRim_38 rfl ?_
        refine SW.icmp_ne (q := 42) (tgt := 46) dX8_isRim_39 (by decide) rfl (fun c39 => ?_) (fun c39 => ?_)
        · refine SW.iconst (q := 47) (v := 0) dX8_isRim_46 (by decide) rfl ?_
          refine SW.iretR rfl rfl dX8_isRim_47 ?_
          refine ⟨?_, rfl⟩
          simp only [hn] at *
          simp only [ex] at *
          simp only [ey, en1, z1, z2, z3, z4] at *
          simp [gr_rim, sw_b, *]
        · refine SW.iconst (q := 43) (v := 1) dX8_isRim_42 (by decide) rfl ?_
          refine SW.goto (q := 47) dX8_isRim_43 (by decide) ?_
          refine SW.iretR rfl rfl dX8_isRim_47 ?_
          refine ⟨?_, rfl⟩
          simp only [hn] at *
          simp only [ex] at *
          simp only [ey, en1, z1, z2, z3, z4] at *
          simp [gr_rim, sw_b, *]
theorem C_X8_isSea (hx : x = nI p) (hp : p < 576) : sw_F X 0 mX8_isSea [.ref (sw_ad X 59), .int x] σ (sw_b (decide (σ 64 p < σ 60 0))) σ := by
  subst hx
  refine sw_ME.ofF (by decide +kernel) rfl (Nat.le_of_ble_eq_true rfl) rfl ?_
  refine SW.aload_n (q := 1) (i := 0) dX8_isSea_0 rfl rfl rfl ?_
  refine SW.getR (q := 4) (i := 59) (j := 64) fX8_26 rfl rfl dX8_isSea_1 rfl ?_
  refine SW.iload_n (q := 5) (i := 1) dX8_isSea_4 rfl rfl rfl ?_
  refine SW.ialdN (q := 6) (k := p) rfl (rfl) (by omega) (by decide) dX8_isSea_5 rfl ?_
  refine SW.aload_n (q := 7) (i := 0) dX8_isSea_6 rfl rfl rfl ?_
  refine SW.getR (q := 10) (i := 59) (j := 60) fX8_13 rfl rfl dX8_isSea_7 rfl ?_
  refine SW.iconst (q := 11) (v := 0) dX8_isSea_10 (by decide) rfl ?_
  refine SW.ialdN (q := 12) (k := 0) rfl (rfl) (by decide) (by decide) dX8_isSea_11 rfl ?_
  refine SW.icmp_ge (q := 15) (tgt := 19) dX8_isSea_12 (by decide) rfl (fun c12 => ?_) (fun c12 => ?_)
  · refine SW.iconst (q := 20) (v := 0) dX8_isSea_19 (by decide) rfl ?_
    refine SW.iretR rfl rfl dX8_isSea_20 ?_
    refine ⟨?_, rfl⟩
    first
    | (rw [decide_eq_true (p := σ 64 p < σ 60 0) (Int32.not_le.mp c12)]; rfl)
    | (rw [decide_eq_false (p := σ 64 p < σ 60 0) (Int32.not_lt.mpr c12)]; rfl)
  · refine SW.iconst (q := 16) (v := 1) dX8_isSea_15 (by decide) rfl ?_
    refine SW.goto (q := 20) dX8_isSea_16 (by decide) ?_
    refine SW.iretR rfl rfl dX8_isSea_20 ?_
    refine ⟨?_, rfl⟩
    first
    | (rw [decide_eq_true (p := σ 64 p < σ 60 0) (Int32.not_le.mp c12)]; rfl)
    | (rw [decide_eq_false (p := σ 64 p < σ 60 0) (Int32.not_lt.mpr c12)]; rfl)
theorem C_X8_water (hx : x = nI p) (hp : p < 576) (hy : y = nI q) (hq : q < 576) : sw_F X 0 mX8_water [.ref (sw_ad X 59), .int x, .int y] σ (if σ 65 q ≤ σ 64 p then σ 64 p else σ 65 q) σ := by
  subst hx; subst hy
  refine sw_ME.ofF (by decide +kernel) rfl (Nat.le_of_ble_eq_true rfl) rfl ?_
  refine SW.aload_n (q := 1) (i := 0) dX8_water_0 rfl rfl rfl ?_
  refine SW.getR (q := 4) (i := 59) (j := 65) fX8_29 rfl rfl dX8_water_1 rfl ?_
  refine SW.iload_n (q := 5) (i := 2) dX8_water_4 rfl rfl rfl ?_
  refine SW.ialdN (q := 6) (k := q) rfl (rfl) (by omega) (by decide) dX8_water_5 rfl ?_
  refine SW.aload_n (q := 7) (i := 0) dX8_water_6 rfl rfl rfl ?_
  refine SW.getR (q := 10) (i := 59) (j := 64) fX8_26 rfl rfl dX8_water_7 rfl ?_
  refine SW.iload_n (q := 11) (i := 1) dX8_water_10 rfl rfl rfl ?_
  refine SW.ialdN (q := 12) (k := p) rfl (rfl) (by omega) (by decide) dX8_water_11 rfl ?_
  refine SW.icmp_le (q := 15) (tgt := 24) dX8_water_12 (by decide) rfl (fun c12 => ?_) (fun c12 => ?_)
  · refine SW.aload_n (q := 25) (i := 0) dX8_water_24 rfl rfl rfl ?_
    refine SW.getR (q := 28) (i := 59) (j := 64) fX8_26 rfl rfl dX8_water_25 rfl ?_
    refine SW.iload_n (q := 29) (i := 1) dX8_water_28 rfl rfl rfl ?_
    refine SW.ialdN (q := 30) (k := p) rfl (rfl) (by omega) (by decide) dX8_water_29 rfl ?_
    refine SW.iretR rfl rfl dX8_water_30 ?_
    refine ⟨?_, rfl⟩
    first
    | (rw [if_pos c12]; done)
    | (rw [if_neg c12]; done)
  · refine SW.aload_n (q := 16) (i := 0) dX8_water_15 rfl rfl rfl ?_
    refine SW.getR (q := 19) (i := 59) (j := 65) fX8_29 rfl rfl dX8_water_16 rfl ?_
    refine SW.iload_n (q := 20) (i := 2) dX8_water_19 rfl rfl rfl ?_
    refine SW.ialdN (q := 21) (k := q) rfl (rfl) (by omega) (by decide) dX8_water_20 rfl ?_
    refine SW.goto (q := 30) dX8_water_21 (by decide) ?_
    refine SW.iretR rfl rfl dX8_water_30 ?_
    refine ⟨?_, rfl⟩
    first
    | (rw [if_pos c12]; done)
    | (rw [if_neg c12]; done)
theorem C_X8_take {k : Nat} (hx : x = nI p) (hp : p < 576) (hk : σ 59 18 = nI k) (hk5 : k < 576) : sw_G X 0 mX8_take [.ref (sw_ad X 59), .int x, .int y, .int v] σ (sw_up (sw_up (sw_up (sw_up (sw_up σ 65 p y) 66 p v) 67 p (nI k)) 68 k (nI p)) 59 18 (nI (k + 1))) := by
  subst hx
  refine sw_ME.ofF (by decide +kernel) rfl (Nat.le_of_ble_eq_true rfl) rfl ?_
  refine SW.aload_n (q := 1) (i := 0) dX8_take_0 rfl rfl rfl ?_
  refine SW.getR (q := 4) (i := 59) (j := 65) fX8_29 rfl rfl dX8_take_1 rfl ?_
  refine SW.iload_n (q := 5) (i := 1) dX8_take_4 rfl rfl rfl ?_
  refine SW.iload_n (q := 6) (i := 2) dX8_take_5 rfl rfl rfl ?_
  refine SW.iastN (q := 7) (k := p) rfl (rfl) (by omega) (by decide) dX8_take_6 rfl ?_
  refine SW.aload_n (q := 8) (i := 0) dX8_take_7 rfl rfl rfl ?_
  refine SW.getR (q := 11) (i := 59) (j := 66) fX8_32 rfl rfl dX8_take_8 rfl ?_
  refine SW.iload_n (q := 12) (i := 1) dX8_take_11 rfl rfl rfl ?_
  refine SW.iload_n (q := 13) (i := 3) dX8_take_12 rfl rfl rfl ?_
  refine SW.iastN (q := 14) (k := p) rfl (rfl) (by omega) (by decide) dX8_take_13 rfl ?_
  refine SW.aload_n (q := 15) (i := 0) dX8_take_14 rfl rfl rfl ?_
  refine SW.getR (q := 18) (i := 59) (j := 67) fX8_35 rfl rfl dX8_take_15 rfl ?_
  refine SW.iload_n (q := 19) (i := 1) dX8_take_18 rfl rfl rfl ?_
  refine SW.aload_n (q := 20) (i := 0) dX8_take_19 rfl rfl rfl ?_
  refine SW.getI (q := 23) (i := 59) fX8_111 rfl rfl dX8_take_20 rfl ?_
  refine SW.iastN (q := 24) (k := p) rfl (rfl) (by omega) (by decide) dX8_take_23 rfl ?_
  refine SW.aload_n (q := 25) (i := 0) dX8_take_24 rfl rfl rfl ?_
  refine SW.getR (q := 28) (i := 59) (j := 68) fX8_38 rfl rfl dX8_take_25 rfl ?_
  refine SW.aload_n (q := 29) (i := 0) dX8_take_28 rfl rfl rfl ?_
  refine SW.getI (q := 32) (i := 59) fX8_111 rfl rfl dX8_take_29 rfl ?_
  refine SW.iload_n (q := 33) (i := 1) dX8_take_32 rfl rfl rfl ?_
  refine SW.iastN (q := 34) (k := k) rfl (hk) (by omega) (by decide) dX8_take_33 rfl ?_
  refine SW.aload_n (q := 35) (i := 0) dX8_take_34 rfl rfl rfl ?_
  refine SW.dup (q := 36) dX8_take_35 rfl rfl ?_
  refine SW.getI (q := 39) (i := 59) fX8_111 rfl rfl dX8_take_36 rfl ?_
  refine SW.iconst (q := 40) (v := 1) dX8_take_39 (by decide) rfl ?_
  refine SW.iadd (q := 41) dX8_take_40 rfl ?_
  refine SW.putI (q := 44) (i := 59) pX8_111 rfl rfl dX8_take_41 rfl ?_
  refine SW.vretR rfl dX8_take_44 ?_
  show _ = _
  rw [← nI_1, ← hk]
  rfl
end MTERR
end
section
/-! WATER, as mathematics: in which order places are taken, at which level, running where; there is one such order -/
def wt_out (n : Nat) (h : Nat → Nat) (sea q : Nat) : Bool := decide (h q < sea) || gr_rim n q
def wt_tk (T : Nat → Nat) (k q : Nat) : Prop := ∃ i, i < k ∧ T i = q
def wt_mx (a b : Nat) : Nat := if a < b then b else a
def wt_low (n : Nat) (T lv od : Nat → Nat) (k p r : Nat) : Prop :=
  (∃ e, e < 4 ∧ gr_nb n p e = some r) ∧ wt_tk T k r ∧ ∀ e r', e < 4 → gr_nb n p e = some r' → wt_tk T k r' → lv r < lv r' ∨ lv r = lv r' ∧ od r ≤ od r'
def wt_step (n : Nat) (h : Nat → Nat) (sea : Nat) (T lv od : Nat → Nat) (D : Nat → Option Nat) (j : Nat) : Prop :=
  (wt_out n h sea (T j) = true ∧ (∀ q, q < n * n → wt_out n h sea q = true → q < T j → wt_tk T j q) ∧ lv (T j) = (if h (T j) < sea then sea else h (T j)) ∧ D (T j) = none) ∨
  ((∀ q, q < n * n → wt_out n h sea q = true → wt_tk T j q) ∧ ∃ r, wt_low n T lv od j (T j) r ∧ lv (T j) = wt_mx (lv r) (h (T j)) ∧ D (T j) = some r ∧
    ∀ p' r', p' < n * n → ¬ wt_tk T j p' → wt_low n T lv od j p' r' → wt_mx (lv r) (h (T j)) < wt_mx (lv r') (h p') ∨ wt_mx (lv r) (h (T j)) = wt_mx (lv r') (h p') ∧ T j ≤ p')
def wt_ok (n : Nat) (h : Nat → Nat) (sea K : Nat) (T lv od : Nat → Nat) (D : Nat → Option Nat) : Prop :=
  (∀ j, j < K → T j < n * n ∧ od (T j) = j) ∧ ∀ j, j < K → wt_step n h sea T lv od D j
theorem wt_tk_mono {T : Nat → Nat} {k k' q : Nat} (h : wt_tk T k q) (hk : k ≤ k') : wt_tk T k' q := by
  obtain ⟨i, h1, h2⟩ := h
  exact ⟨i, by omega, h2⟩
theorem wt_inj {T od : Nat → Nat} {N K : Nat} (h : ∀ j, j < K → T j < N ∧ od (T j) = j) {i j : Nat} (hi : i < K) (hj : j < K) (e : T i = T j) : i = j := by
  rw [← (h i hi).2, ← (h j hj).2, e]
theorem wt_new {T od : Nat → Nat} {N K : Nat} (h : ∀ j, j < K → T j < N ∧ od (T j) = j) {j : Nat} (hj : j < K) : ¬ wt_tk T j (T j) := by
  rintro ⟨i, h1, h2⟩
  have := wt_inj h (by omega) hj h2
  omega
theorem wt_low_congr {n : Nat} {T lv od T' lv' od' : Nat → Nat} {k p r : Nat} (hT : ∀ i, i < k → T i = T' i) (hl : ∀ i, i < k → lv (T i) = lv' (T i)) (ho : ∀ i, i < k → od (T i) = od' (T i)) (h : wt_low n T lv od k p r) : wt_low n T' lv' od' k p r := by
  obtain ⟨h1, ⟨i, i1, i2⟩, h3⟩ := h
  refine ⟨h1, ⟨i, i1, by rw [← hT i i1]; exact i2⟩, fun e r' he hr ht => ?_⟩
  obtain ⟨i', j1, j2⟩ := ht
  rw [← hT i' j1] at j2
  have := h3 e r' he hr ⟨i', j1, j2⟩
  rw [← i2, ← j2] at this
  rw [← i2, ← j2, ← hl i i1, ← hl i' j1, ← ho i i1, ← ho i' j1]
  exact this
theorem wt_low_one {n : Nat} {T lv od : Nat → Nat} {K k p r r' : Nat} {N : Nat} (hI : ∀ j, j < K → T j < N ∧ od (T j) = j) (hk : k ≤ K) (h : wt_low n T lv od k p r) (h' : wt_low n T lv od k p r') : r = r' := by
  obtain ⟨⟨e, e1, e2⟩, t1, m1⟩ := h
  obtain ⟨⟨e', e1', e2'⟩, t1', m1'⟩ := h'
  have a := m1 e' r' e1' e2' t1'
  have b := m1' e r e1 e2 t1
  obtain ⟨i, i1, i2⟩ := t1
  obtain ⟨i', i1', i2'⟩ := t1'
  have c : od r = od r' := by omega
  rw [← i2, ← i2', (hI i (by omega)).2, (hI i' (by omega)).2] at c
  rw [← i2, ← i2', c]
theorem wt_one {n : Nat} {h : Nat → Nat} {sea K : Nat} {T lv od T' lv' od' : Nat → Nat} {D D' : Nat → Option Nat} (a : wt_ok n h sea K T lv od D) (b : wt_ok n h sea K T' lv' od' D') :
    ∀ j, j < K → T j = T' j ∧ lv (T j) = lv' (T j) ∧ D (T j) = D' (T j) := by
  intro j
  induction j using Nat.strongRecOn with
  | ind j ih =>
    intro hj
    obtain ⟨a1, a2⟩ := a
    obtain ⟨b1, b2⟩ := b
    have eT : ∀ i, i < j → T i = T' i := fun i hi => (ih i hi (by omega)).1
    have el : ∀ i, i < j → lv (T i) = lv' (T i) := fun i hi => (ih i hi (by omega)).2.1
    have eo : ∀ i, i < j → od (T i) = od' (T i) := fun i hi => by
      rw [(a1 i (by omega)).2, eT i hi, (b1 i (by omega)).2]
    have tk : ∀ q, wt_tk T j q ↔ wt_tk T' j q := fun q => ⟨fun ⟨i, i1, i2⟩ => ⟨i, i1, by rw [← eT i i1]; exact i2⟩, fun ⟨i, i1, i2⟩ => ⟨i, i1, by rw [eT i i1]; exact i2⟩⟩
    have nA := wt_new a1 hj
    have nB := wt_new b1 hj
    have pA := (a1 j hj).1
    have pB := (b1 j hj).1
    rcases a2 j hj with ⟨s1, s2, s3, s4⟩ | ⟨s1, r, s2, s3, s4, s5⟩
    · rcases b2 j hj with ⟨u1, u2, u3, u4⟩ | ⟨u1, r', u2, u3, u4, u5⟩
      · have e : T j = T' j := by
          rcases Nat.lt_trichotomy (T j) (T' j) with q | q | q
          · exact absurd ((tk _).mpr (u2 _ pA s1 q)) nA
          · exact q
          · exact absurd ((tk _).mp (s2 _ pB u1 q)) nB
        exact ⟨e, by rw [s3, e, u3], by rw [s4, e, u4]⟩
      · exact absurd ((tk _).mpr (u1 _ pA s1)) nA
    · rcases b2 j hj with ⟨u1, u2, u3, u4⟩ | ⟨u1, r', u2, u3, u4, u5⟩
      · exact absurd ((tk _).mp (s1 _ pB u1)) nB
      · have q1 := s5 (T' j) r' pB (fun q => nB ((tk _).mp q)) (wt_low_congr (fun i hi => (eT i hi).symm) (fun i hi => by rw [← eT i hi, el i hi]) (fun i hi => by rw [← eT i hi, eo i hi]) u2)
        have q2 := u5 (T j) r pA (fun q => nA ((tk _).mpr q)) (wt_low_congr eT el eo s2)
        have lr : lv r = lv' r := by
          obtain ⟨-, ⟨i, i1, i2⟩, -⟩ := s2
          rw [← i2]; exact el i i1
        have lr' : lv r' = lv' r' := by
          obtain ⟨-, ⟨i, i1, i2⟩, -⟩ := u2
          rw [← i2, ← eT i i1]; exact el i i1
        rw [lr'] at q1
        rw [← lr] at q2
        have e : T j = T' j := by omega
        have e2 : r = r' := by
          rw [← e] at u2
          exact wt_low_one b1 (Nat.le_of_lt hj) (wt_low_congr eT el eo s2) u2
        subst e2
        exact ⟨e, by rw [s3, e, u3, lr], by rw [s4, e, u4]⟩
/-- one more place is taken -/
theorem wt_snoc {n : Nat} {h : Nat → Nat} {sea K p l : Nat} {T lv od : Nat → Nat} {D : Nat → Option Nat} {r : Option Nat} (a : wt_ok n h sea K T lv od D) (hp : p < n * n) (hn : ¬ wt_tk T K p)
    (hs : (wt_out n h sea p = true ∧ (∀ q, q < n * n → wt_out n h sea q = true → q < p → wt_tk T K q) ∧ l = (if h p < sea then sea else h p) ∧ r = none) ∨
      ((∀ q, q < n * n → wt_out n h sea q = true → wt_tk T K q) ∧ ∃ r0, wt_low n T lv od K p r0 ∧ l = wt_mx (lv r0) (h p) ∧ r = some r0 ∧
        ∀ p' r', p' < n * n → ¬ wt_tk T K p' → wt_low n T lv od K p' r' → wt_mx (lv r0) (h p) < wt_mx (lv r') (h p') ∨ wt_mx (lv r0) (h p) = wt_mx (lv r') (h p') ∧ p ≤ p')) :
    wt_ok n h sea (K + 1) (va_up T K p) (va_up lv p l) (va_up od p K) (va_up D p r) := by
  obtain ⟨a1, a2⟩ := a
  have up_i : ∀ {α : Type} (f : Nat → α) (k : Nat) (v : α), va_up f k v k = v := fun f k v => by simp [va_up]
  have up_o : ∀ {α : Type} (f : Nat → α) (k j : Nat) (v : α), j ≠ k → va_up f k v j = f j := fun f k j v h => by simp [va_up, h]
  have eT : ∀ i, i < K → va_up T K p i = T i := fun i hi => up_o _ _ _ _ (by omega)
  have nT : ∀ i, i < K → T i ≠ p := fun i hi e => hn ⟨i, hi, e⟩
  have tk : ∀ j, j ≤ K → ∀ q, wt_tk (va_up T K p) j q ↔ wt_tk T j q := fun j hj q => ⟨fun ⟨i, i1, i2⟩ => ⟨i, i1, by rw [← eT i (by omega)]; exact i2⟩, fun ⟨i, i1, i2⟩ => ⟨i, i1, by rw [eT i (by omega)]; exact i2⟩⟩
  have lo : ∀ j, j ≤ K → ∀ p' r', wt_low n (va_up T K p) (va_up lv p l) (va_up od p K) j p' r' ↔ wt_low n T lv od j p' r' := by
    intro j hj p' r'
    constructor
    · exact wt_low_congr (fun i hi => eT i (by omega)) (fun i hi => by rw [eT i (by omega), up_o _ _ _ _ (nT i (by omega))]) (fun i hi => by rw [eT i (by omega), up_o _ _ _ _ (nT i (by omega))])
    · exact wt_low_congr (fun i hi => (eT i (by omega)).symm) (fun i hi => by rw [up_o _ _ _ _ (nT i (by omega))]) (fun i hi => by rw [up_o _ _ _ _ (nT i (by omega))])
  have lvr : ∀ j, j ≤ K → ∀ p' r', wt_low n T lv od j p' r' → va_up lv p l r' = lv r' := by
    rintro j hj p' r' ⟨-, ⟨i, i1, i2⟩, -⟩
    rw [← i2]
    exact up_o _ _ _ _ (nT i (by omega))
  refine ⟨fun j hj => ?_, fun j hj => ?_⟩
  · by_cases e : j = K
    · subst e; rw [up_i, up_i]; exact ⟨hp, rfl⟩
    · rw [eT j (by omega), up_o _ _ _ _ (nT j (by omega))]; exact a1 j (by omega)
  · unfold wt_step
    by_cases e : j = K
    · subst e
      rw [up_i, up_i, up_i]
      rcases hs with ⟨s1, s2, s3, s4⟩ | ⟨s1, r0, s2, s3, s4, s5⟩
      · exact Or.inl ⟨s1, fun q q1 q2 q3 => (tk j (Nat.le_refl _) q).mpr (s2 q q1 q2 q3), s3, s4⟩
      · refine Or.inr ⟨fun q q1 q2 => (tk j (Nat.le_refl _) q).mpr (s1 q q1 q2), r0, (lo j (Nat.le_refl _) _ _).mpr s2, ?_, s4, fun p' r' p1 p2 p3 => ?_⟩
        · rw [lvr j (Nat.le_refl _) _ _ s2]; exact s3
        · have p3' := (lo j (Nat.le_refl _) _ _).mp p3
          rw [lvr j (Nat.le_refl _) _ _ s2, lvr j (Nat.le_refl _) _ _ p3']
          exact s5 p' r' p1 (fun q => p2 ((tk j (Nat.le_refl _) _).mpr q)) p3'
    · have hj' : j < K := by omega
      rw [eT j hj', up_o lv _ _ _ (nT j hj'), up_o D _ _ _ (nT j hj')]
      rcases a2 j hj' with ⟨s1, s2, s3, s4⟩ | ⟨s1, r0, s2, s3, s4, s5⟩
      · exact Or.inl ⟨s1, fun q q1 q2 q3 => (tk j (by omega) q).mpr (s2 q q1 q2 q3), s3, s4⟩
      · refine Or.inr ⟨fun q q1 q2 => (tk j (by omega) q).mpr (s1 q q1 q2), r0, (lo j (by omega) _ _).mpr s2, ?_, s4, fun p' r' p1 p2 p3 => ?_⟩
        · rw [lvr j (by omega) _ _ s2]; exact s3
        · have p3' := (lo j (by omega) _ _).mp p3
          rw [lvr j (by omega) _ _ s2, lvr j (by omega) _ _ p3']
          exact s5 p' r' p1 (fun q => p2 ((tk j (by omega) _).mpr q)) p3'
/-- as many places as there are, none twice: all of them -/
theorem wt_pig : ∀ (N : Nat) (f : Nat → Nat), (∀ i, i < N → f i < N) → (∀ i j, i < N → j < N → f i = f j → i = j) → ∀ p, p < N → ∃ i, i < N ∧ f i = p := by
  intro N
  induction N with
  | zero => intro f _ _ p hp; omega
  | succ N ih =>
    intro f h1 h2 p hp
    have hg : ∀ p, p < N → ∃ i, i < N ∧ (if f i = N then f N else f i) = p := by
      apply ih (fun i => if f i = N then f N else f i)
      · intro i hi
        show (if f i = N then f N else f i) < N
        split
        · rename_i e
          have := h1 N (by omega)
          have : f N ≠ N := fun q => by
            have := h2 i N (by omega) (by omega) (by rw [e, q])
            omega
          omega
        · have := h1 i (by omega)
          omega
      · intro i j hi hj e
        have e : (if f i = N then f N else f i) = (if f j = N then f N else f j) := e
        by_cases a : f i = N
        · by_cases b : f j = N
          · exact h2 i j (by omega) (by omega) (by rw [a, b])
          · rw [if_pos a, if_neg b] at e
            have := h2 N j (by omega) (by omega) e
            omega
        · by_cases b : f j = N
          · rw [if_neg a, if_pos b] at e
            have := h2 i N (by omega) (by omega) e
            omega
          · rw [if_neg a, if_neg b] at e
            exact h2 i j (by omega) (by omega) e
    by_cases e : p = N
    · subst e
      by_cases q : f p = p
      · exact ⟨p, by omega, q⟩
      · have hq := h1 p (by omega)
        obtain ⟨i, i1, i2⟩ := hg (f p) (by omega)
        by_cases z : f i = p
        · exact ⟨i, by omega, z⟩
        · rw [if_neg z] at i2
          have := h2 i p (by omega) (by omega) i2
          omega
    · obtain ⟨i, i1, i2⟩ := hg p (by omega)
      by_cases z : f i = N
      · rw [if_pos z] at i2
        exact ⟨N, by omega, i2⟩
      · rw [if_neg z] at i2
        exact ⟨i, by omega, i2⟩
theorem wt_all {n : Nat} {h : Nat → Nat} {sea : Nat} {T lv od : Nat → Nat} {D : Nat → Option Nat} (a : wt_ok n h sea (n * n) T lv od D) : ∀ p, p < n * n → ∃ i, i < n * n ∧ T i = p :=
  wt_pig _ T (fun i hi => (a.1 i hi).1) (fun _ _ hi hj e => wt_inj a.1 hi hj e)
theorem gr_nb1 {n p : Nat} (hn : 0 < n) (h : 0 < p % n) : gr_nb n p 1 = some (p - 1) ∧ (p - 1) % n = p % n - 1 := by
  refine ⟨by rw [gr_nb, if_pos h], ?_⟩
  have h1 := gr_pp (n := n) (p := p)
  have h2 := Nat.mod_lt p hn
  have h3 : p - 1 = n * (p / n) + (p % n - 1) := by omega
  rw [h3]
  exact (gr_xy (by omega)).1
/-- while places are left, one of them lies beside a taken one -/
theorem wt_front {n : Nat} {tk : Nat → Prop} (hn : 0 < n) (hr : ∀ q, q < n * n → gr_rim n q = true → tk q) : ∀ p, p < n * n → ¬ tk p → ∃ p' e r, p' < n * n ∧ ¬ tk p' ∧ e < 4 ∧ gr_nb n p' e = some r ∧ tk r := by
  have key : ∀ m p, p % n = m → p < n * n → ¬ tk p → ∃ p' e r, p' < n * n ∧ ¬ tk p' ∧ e < 4 ∧ gr_nb n p' e = some r ∧ tk r := by
    intro m
    induction m with
    | zero =>
      intro p h1 h2 h3
      exact absurd (hr p h2 (by simp [gr_rim, h1])) h3
    | succ m ih =>
      intro p h1 h2 h3
      by_cases h4 : tk (p - 1)
      · exact ⟨p, 1, p - 1, h2, h3, by decide, (gr_nb1 hn (by omega)).1, h4⟩
      · exact ih (p - 1) (by rw [(gr_nb1 hn (by omega)).2, h1]; rfl) (by omega) h4
  exact fun p => key (p % n) p rfl
end
section
/-! heights: the ground and the changes of a place, from 0 to 400 -/
def gr_hs (cx cy cb : Nat → Int32) (g x y : Int32) : Nat → Int32
  | 0 => g
  | k + 1 => if cx k = x ∧ cy k = y then gr_hs cx cy cb g x y k + cb k else gr_hs cx cy cb g x y k
def gr_cl (h : Int32) : Int32 := sw_max 0 (sw_min h 400)
theorem gr_cl_N (h : Int32) : ∃ k : Nat, k ≤ 400 ∧ gr_cl h = nI k := by
  unfold gr_cl sw_max sw_min
  by_cases h1 : (400 : Int32) < h
  · rw [if_pos h1]; exact ⟨400, by omega, by decide⟩
  · rw [if_neg h1]
    by_cases h2 : (0 : Int32) < h
    · rw [if_pos h2]
      exact nI_of2 (M := 400) (n := 400) (by decide) (fun h3 => absurd h2 (Int32.lt_asymm h3)) (Int32.not_lt.mp h1)
    · rw [if_neg h2]; exact ⟨0, by omega, by decide⟩
theorem gr_cl_e (h : Int32) : (if h < 0 then (0 : Int32) else if 400 < h then 400 else h) = gr_cl h := by
  unfold gr_cl sw_max sw_min
  by_cases h1 : (400 : Int32) < h
  · have h0 : ¬ h < 0 := fun h2 => absurd (Int32.lt_trans h1 h2) (by decide)
    rw [if_neg h0, if_pos h1]; decide
  · rw [if_neg h1]
    by_cases h2 : h < 0
    · rw [if_pos h2, if_neg (Int32.lt_asymm h2)]
    · rw [if_neg h2]
      by_cases h3 : (0 : Int32) < h
      · rw [if_pos h3]
      · rw [if_neg h3]; exact Int32.le_antisymm (Int32.not_lt.mp h3) (Int32.not_lt.mp h2)
/-- the height of a place, of the class's or the reference's numbers -/
def gr_ht (s : Int32) (cx cy cb : Nat → Int32) (c a b n p : Nat) : Int32 := gr_cl (gr_hs cx cy cb (nI (gr_g s (a + p % n) (b + p / n))) (nI (a + p % n)) (nI (b + p / n)) c)
theorem gr_hs_congr {cx cy cb cx' cy' cb' : Nat → Int32} {g x y : Int32} : ∀ c, (∀ k, k < c → cx k = cx' k ∧ cy k = cy' k ∧ cb k = cb' k) → gr_hs cx cy cb g x y c = gr_hs cx' cy' cb' g x y c := by
  intro c
  induction c with
  | zero => intro _; rfl
  | succ c ih =>
    intro h
    obtain ⟨h1, h2, h3⟩ := h c (by omega)
    simp only [gr_hs, ih (fun k hk => h k (by omega)), h1, h2, h3]
theorem gr_wi {cx a n : Nat} (h1 : cx < 2 ^ 30) (h2 : a < 2 ^ 30) (hn : 0 < n) (hn2 : n < 2 ^ 30) : sw_wi (nI cx - nI a) 0 (nI n - 1) = 0 ↔ ¬ (a ≤ cx ∧ cx - a < n) := by
  rw [sw_wi_e, nI_pr hn]
  refine not_congr ?_
  by_cases h : a ≤ cx
  · rw [pk_sub h]
    have e1 : (0 : Int32) ≤ nI (cx - a) := nI_pos' (by omega)
    rw [nI_leI (by omega) (by omega)]
    exact ⟨fun q => ⟨h, by omega⟩, fun q => ⟨e1, by omega⟩⟩
  · have e1 := pk_sneg (a := cx) (b := a) h2 (by omega)
    exact ⟨fun q => absurd q.1 (Int32.not_le.mpr e1), fun q => absurd q.1 h⟩
theorem sw_i1 {σ : sw_Sg} {i k : Nat} {v : Int32} : sw_up σ i k v i k = v := by rw [sw_up_i, upd_i]
theorem sw_o1 {σ : sw_Sg} {i k j : Nat} {v : Int32} (h : j ≠ k) : sw_up σ i k v i j = σ i j := by rw [sw_up_i, upd_o h]
section GROW
variable {X : sw_X} {σ : sw_Sg} {x y v : Int32} {n p q a b c : Nat}
theorem C_X5_growGround (n4 : 4 ≤ n) (n24 : n ≤ 24) (hside : σ 1 1 = nI n) (hl : σ 1 3 = nI a) (ht : σ 1 4 = nI b) (ha : a ≤ 100000) (hb : b ≤ 100000) :
    sw_Mv X 3 mX5_growGround [.ref (sw_ad X 1)] σ (fun u => fr_ [37, 38, 39] σ u ∧ ∀ p, p < n * n → u 37 p = nI (p % n) ∧ u 38 p = nI (p / n) ∧ u 39 p = nI (gr_g (σ 1 0) (a + p % n) (b + p / n))) := by
  have h576 := gr_576 n24
  refine sw_ME.ofF (by decide +kernel) rfl (Nat.le_of_ble_eq_true rfl) rfl ?_
  have inner : ∀ (R : Option Value → sw_Sg → Prop) (y : Nat), y < n → ∀ (m x : Nat), x + m = n → ∀ (B : Value) (τ : sw_Sg), fr_ [37, 38, 39] σ τ → (∀ p, p < n * y + x → τ 37 p = nI (p % n) ∧ τ 38 p = nI (p / n) ∧ τ 39 p = nI (gr_g (σ 1 0) (a + p % n) (b + p / n))) →
      (∀ (A B : Value) (τ : sw_Sg), fr_ [37, 38, 39] σ τ → (∀ p, p < n * y + n → τ 37 p = nI (p % n) ∧ τ 38 p = nI (p / n) ∧ τ 39 p = nI (gr_g (σ 1 0) (a + p % n) (b + p / n))) → SW X 3 mX5_growGround sw_E0 R 2 [.ref (sw_ad X 1), .int (nI (y + 1)), A, B] [] τ) →
      SW X 3 mX5_growGround sw_E0 R 12 [.ref (sw_ad X 1), .int (nI y), .int (nI x), B] [] τ := by
    intro R y hy m
    induction m with
    | zero =>
      intro x hx B τ hf hI kk
      obtain rfl : x = n := by omega
      refine SW.iload_n (q := 13) (i := 2) dX5_growGround_12 rfl rfl rfl ?_
      refine SW.aload_n (q := 14) (i := 0) dX5_growGround_13 rfl rfl rfl ?_
      refine SW.getI (q := 17) (i := 1) fX5_15 rfl rfl dX5_growGround_14 rfl ?_
      refine SW.icmp_ge (q := 20) (tgt := 77) dX5_growGround_17 (by decide) rfl (fun _ => ?_) (fun c17 => absurd ((by rw [hf 1 (by decide), hside]; exact Int32.le_refl _)) c17)
      refine SW.iinc (q := 80) (v := _ + 1) dX5_growGround_77 rfl rfl (by decide) rfl ?_
      refine SW.goto (q := 2) dX5_growGround_80 (by decide) ?_
      exact SW.eq (by rw [nI_1]; rfl) rfl rfl (kk _ _ τ hf hI)
    | succ m ih =>
      intro x hx B τ hf hI kk
      have t1 : τ 1 1 = nI n := by rw [hf 1 (by decide)]; exact hside
      have ep : τ 1 1 * nI y + nI x = nI (n * y + x) := by rw [t1, pk_mul, nI_add]
      have hin := gr_in (n := n) (x := x) (y := y) (by omega) hy
      obtain ⟨g1, g2⟩ := gr_xy (n := n) (x := x) (y := y) (by omega)
      refine SW.iload_n (q := 13) (i := 2) dX5_growGround_12 rfl rfl rfl ?_
      refine SW.aload_n (q := 14) (i := 0) dX5_growGround_13 rfl rfl rfl ?_
      refine SW.getI (q := 17) (i := 1) fX5_15 rfl rfl dX5_growGround_14 rfl ?_
      refine SW.icmp_ge (q := 20) (tgt := 77) dX5_growGround_17 (by decide) rfl (fun c17 => absurd c17 ((by rw [t1]; exact nI_ge (by omega) (by omega)))) (fun _ => ?_)
      refine SW.aload_n (q := 21) (i := 0) dX5_growGround_20 rfl rfl rfl ?_
      refine SW.getI (q := 24) (i := 1) fX5_15 rfl rfl dX5_growGround_21 rfl ?_
      refine SW.iload_n (q := 25) (i := 1) dX5_growGround_24 rfl rfl rfl ?_
      refine SW.imul (q := 26) dX5_growGround_25 rfl ?_
      refine SW.iload_n (q := 27) (i := 2) dX5_growGround_26 rfl rfl rfl ?_
      refine SW.iadd (q := 28) dX5_growGround_27 rfl ?_
      refine SW.istore_n (q := 29) (i := 3) dX5_growGround_28 rfl (by decide) rfl ?_
      refine SW.aload_n (q := 30) (i := 0) dX5_growGround_29 rfl rfl rfl ?_
      refine SW.getR (q := 33) (i := 1) (j := 11) fX5_45 rfl rfl dX5_growGround_30 rfl ?_
      refine SW.iload_n (q := 34) (i := 3) dX5_growGround_33 rfl rfl rfl ?_
      refine SW.iload_n (q := 35) (i := 2) dX5_growGround_34 rfl rfl rfl ?_
      refine SW.cG (q := 38) (C_X3_putn (i := 11) (j := 37) (n := 576) rfl rfl (k := n * y + x) ep (by omega)) vX5_57 (by decide) rfl rfl rfl rfl (Nat.le_of_ble_eq_true rfl) dX5_growGround_35 rfl ?_
      refine SW.aload_n (q := 39) (i := 0) dX5_growGround_38 rfl rfl rfl ?_
      refine SW.getR (q := 42) (i := 1) (j := 12) fX5_48 rfl rfl dX5_growGround_39 rfl ?_
      refine SW.iload_n (q := 43) (i := 3) dX5_growGround_42 rfl rfl rfl ?_
      refine SW.iload_n (q := 44) (i := 1) dX5_growGround_43 rfl rfl rfl ?_
      refine SW.cG (q := 47) (C_X3_putn (i := 12) (j := 38) (n := 576) rfl rfl (k := n * y + x) ep (by omega)) vX5_57 (by decide) rfl rfl rfl rfl (Nat.le_of_ble_eq_true rfl) dX5_growGround_44 rfl ?_
      refine SW.aload_n (q := 48) (i := 0) dX5_growGround_47 rfl rfl rfl ?_
      refine SW.getR (q := 51) (i := 1) (j := 13) fX5_51 rfl rfl dX5_growGround_48 rfl ?_
      refine SW.iload_n (q := 52) (i := 3) dX5_growGround_51 rfl rfl rfl ?_
      refine SW.aload_n (q := 53) (i := 0) dX5_growGround_52 rfl rfl rfl ?_
      refine SW.aload_n (q := 54) (i := 0) dX5_growGround_53 rfl rfl rfl ?_
      refine SW.getI (q := 57) (i := 1) fX5_21 rfl rfl dX5_growGround_54 rfl ?_
      refine SW.iload_n (q := 58) (i := 2) dX5_growGround_57 rfl rfl rfl ?_
      refine SW.iadd (q := 59) dX5_growGround_58 rfl ?_
      refine SW.aload_n (q := 60) (i := 0) dX5_growGround_59 rfl rfl rfl ?_
      refine SW.getI (q := 63) (i := 1) fX5_24 rfl rfl dX5_growGround_60 rfl ?_
      refine SW.iload_n (q := 64) (i := 1) dX5_growGround_63 rfl rfl rfl ?_
      refine SW.iadd (q := 65) dX5_growGround_64 rfl ?_
      refine SW.cF (q := 68) (C_X5_groundOf (a := a + x) (b := b + y) (by rw [sw_un (by decide), sw_un (by decide), hf 1 (by decide), hl, nI_add]) (by rw [sw_un (by decide), sw_un (by decide), hf 1 (by decide), ht, nI_add]) (by omega) (by omega)) vX5_61 (by decide) rfl rfl rfl rfl (Nat.le_of_ble_eq_true rfl) dX5_growGround_65 rfl ?_
      refine SW.cG (q := 71) (C_X3_putn (i := 13) (j := 39) (n := 576) rfl rfl (k := n * y + x) ep (by omega)) vX5_57 (by decide) rfl rfl rfl rfl (Nat.le_of_ble_eq_true rfl) dX5_growGround_68 rfl ?_
      refine SW.iinc (q := 74) (v := _ + 1) dX5_growGround_71 rfl rfl (by decide) rfl ?_
      refine SW.goto (q := 12) dX5_growGround_74 (by decide) ?_
      refine SW.eq (by rw [nI_1]; rfl) rfl rfl (ih (x + 1) (by omega) _ _ (fr_up (fr_up (fr_up hf (by decide)) (by decide)) (by decide)) (fun p hp => ?_) kk)
      by_cases e : p = n * y + x
      · subst e
        rw [sw_un (by decide), sw_un (by decide), sw_i1, sw_un (by decide), sw_i1, sw_i1, g1, g2, sw_un (by decide), sw_un (by decide), hf 1 (by decide)]
        exact ⟨rfl, rfl, rfl⟩
      · have := hI p (by omega)
        rw [sw_un (by decide), sw_un (by decide), sw_o1 e, sw_un (by decide), sw_o1 e, sw_un (by decide), sw_o1 e, sw_un (by decide), sw_un (by decide)]
        exact this
  have outer : ∀ (m y : Nat), y + m = n → ∀ (A B : Value) (τ : sw_Sg), fr_ [37, 38, 39] σ τ → (∀ p, p < n * y → τ 37 p = nI (p % n) ∧ τ 38 p = nI (p / n) ∧ τ 39 p = nI (gr_g (σ 1 0) (a + p % n) (b + p / n))) →
      SW X 3 mX5_growGround sw_E0 (sw_Rv (fun u => fr_ [37, 38, 39] σ u ∧ ∀ p, p < n * n → u 37 p = nI (p % n) ∧ u 38 p = nI (p / n) ∧ u 39 p = nI (gr_g (σ 1 0) (a + p % n) (b + p / n)))) 2 [.ref (sw_ad X 1), .int (nI y), A, B] [] τ := by
    intro m
    induction m with
    | zero =>
      intro y hy A B τ hf hI
      obtain rfl : y = n := by omega
      refine SW.iload_n (q := 3) (i := 1) dX5_growGround_2 rfl rfl rfl ?_
      refine SW.aload_n (q := 4) (i := 0) dX5_growGround_3 rfl rfl rfl ?_
      refine SW.getI (q := 7) (i := 1) fX5_15 rfl rfl dX5_growGround_4 rfl ?_
      refine SW.icmp_ge (q := 10) (tgt := 83) dX5_growGround_7 (by decide) rfl (fun _ => ?_) (fun c7 => absurd ((by rw [hf 1 (by decide), hside]; exact Int32.le_refl _)) c7)
      refine SW.vretR rfl dX5_growGround_83 ?_
      exact ⟨hf, hI⟩
    | succ m ih =>
      intro y hy A B τ hf hI
      refine SW.iload_n (q := 3) (i := 1) dX5_growGround_2 rfl rfl rfl ?_
      refine SW.aload_n (q := 4) (i := 0) dX5_growGround_3 rfl rfl rfl ?_
      refine SW.getI (q := 7) (i := 1) fX5_15 rfl rfl dX5_growGround_4 rfl ?_
      refine SW.icmp_ge (q := 10) (tgt := 83) dX5_growGround_7 (by decide) rfl (fun c7 => absurd c7 ((by rw [hf 1 (by decide), hside]; exact nI_ge (by omega) (by omega)))) (fun _ => ?_)
      refine SW.iconst (q := 11) (v := 0) dX5_growGround_10 (by decide) rfl ?_
      refine SW.istore_n (q := 12) (i := 2) dX5_growGround_11 rfl (by decide) rfl ?_
      exact inner _ y (by omega) n 0 (by omega) B τ hf hI (fun A B τ hf hI => ih (y + 1) (by omega) A B τ hf (fun p hp => hI p (by rw [Nat.mul_add, Nat.mul_one] at hp; exact hp)))
  refine SW.iconst (q := 1) (v := 0) dX5_growGround_0 (by decide) rfl ?_
  refine SW.istore_n (q := 2) (i := 1) dX5_growGround_1 rfl (by decide) rfl ?_
  exact outer n 0 (by omega) _ _ σ fr_rf (fun p hp => by omega)
theorem C_X5_addChange (hT : gr_T σ n) (hx : x = nI p) (hp : p < n * n) (hc : σ 1 5 = nI c) (hc30 : c < 30) :
    sw_G X 1 mX5_addChange [.ref (sw_ad X 1), .int x, .int y] σ (sw_up (sw_up (sw_up (sw_up σ 34 c (σ 1 3 + nI (p % n))) 35 c (σ 1 4 + nI (p / n))) 36 c y) 1 5 (nI (c + 1))) := by
  subst hx
  obtain ⟨n4, n24, hside, hpl, hcl⟩ := hT
  have h576 := gr_576 n24
  refine sw_ME.ofF (by decide +kernel) rfl (Nat.le_of_ble_eq_true rfl) rfl ?_
  refine SW.aload_n (q := 1) (i := 0) dX5_addChange_0 rfl rfl rfl ?_
  refine SW.getR (q := 4) (i := 1) (j := 8) fX5_35 rfl rfl dX5_addChange_1 rfl ?_
  refine SW.aload_n (q := 5) (i := 0) dX5_addChange_4 rfl rfl rfl ?_
  refine SW.getI (q := 8) (i := 1) fX5_27 rfl rfl dX5_addChange_5 rfl ?_
  refine SW.aload_n (q := 9) (i := 0) dX5_addChange_8 rfl rfl rfl ?_
  refine SW.getI (q := 12) (i := 1) fX5_21 rfl rfl dX5_addChange_9 rfl ?_
  refine SW.aload_n (q := 13) (i := 0) dX5_addChange_12 rfl rfl rfl ?_
  refine SW.getR (q := 16) (i := 1) (j := 11) fX5_45 rfl rfl dX5_addChange_13 rfl ?_
  refine SW.iload_n (q := 17) (i := 1) dX5_addChange_16 rfl rfl rfl ?_
  refine SW.cF (q := 20) (C_X3_atn (i := 11) (j := 37) (n := 576) rfl rfl (k := p) rfl (by omega)) vX5_77 (by decide) rfl rfl rfl rfl (Nat.le_of_ble_eq_true rfl) dX5_addChange_17 rfl ?_
  rw [(hcl p hp).1]
  refine SW.iadd (q := 21) dX5_addChange_20 rfl ?_
  refine SW.cG (q := 24) (C_X3_putn (i := 8) (j := 34) (n := 30) rfl rfl (k := c) hc (by omega)) vX5_57 (by decide) rfl rfl rfl rfl (Nat.le_of_ble_eq_true rfl) dX5_addChange_21 rfl ?_
  refine SW.aload_n (q := 25) (i := 0) dX5_addChange_24 rfl rfl rfl ?_
  refine SW.getR (q := 28) (i := 1) (j := 9) fX5_39 rfl rfl dX5_addChange_25 rfl ?_
  refine SW.aload_n (q := 29) (i := 0) dX5_addChange_28 rfl rfl rfl ?_
  refine SW.getI (q := 32) (i := 1) fX5_27 rfl rfl dX5_addChange_29 rfl ?_
  refine SW.aload_n (q := 33) (i := 0) dX5_addChange_32 rfl rfl rfl ?_
  refine SW.getI (q := 36) (i := 1) fX5_24 rfl rfl dX5_addChange_33 rfl ?_
  refine SW.aload_n (q := 37) (i := 0) dX5_addChange_36 rfl rfl rfl ?_
  refine SW.getR (q := 40) (i := 1) (j := 12) fX5_48 rfl rfl dX5_addChange_37 rfl ?_
  refine SW.iload_n (q := 41) (i := 1) dX5_addChange_40 rfl rfl rfl ?_
  refine SW.cF (q := 44) (C_X3_atn (i := 12) (j := 38) (n := 576) rfl rfl (k := p) rfl (by omega)) vX5_77 (by decide) rfl rfl rfl rfl (Nat.le_of_ble_eq_true rfl) dX5_addChange_41 rfl ?_
  rw [sw_un (show 38 ≠ 34 by decide), (hcl p hp).2]
  refine SW.iadd (q := 45) dX5_addChange_44 rfl ?_
  refine SW.cG (q := 48) (C_X3_putn (i := 9) (j := 35) (n := 30) rfl rfl (k := c) hc (by omega)) vX5_57 (by decide) rfl rfl rfl rfl (Nat.le_of_ble_eq_true rfl) dX5_addChange_45 rfl ?_
  refine SW.aload_n (q := 49) (i := 0) dX5_addChange_48 rfl rfl rfl ?_
  refine SW.getR (q := 52) (i := 1) (j := 10) fX5_42 rfl rfl dX5_addChange_49 rfl ?_
  refine SW.aload_n (q := 53) (i := 0) dX5_addChange_52 rfl rfl rfl ?_
  refine SW.getI (q := 56) (i := 1) fX5_27 rfl rfl dX5_addChange_53 rfl ?_
  refine SW.iload_n (q := 57) (i := 2) dX5_addChange_56 rfl rfl rfl ?_
  refine SW.cG (q := 60) (C_X3_putn (i := 10) (j := 36) (n := 30) rfl rfl (k := c) hc (by omega)) vX5_57 (by decide) rfl rfl rfl rfl (Nat.le_of_ble_eq_true rfl) dX5_addChange_57 rfl ?_
  refine SW.aload_n (q := 61) (i := 0) dX5_addChange_60 rfl rfl rfl ?_
  refine SW.dup (q := 62) dX5_addChange_61 rfl rfl ?_
  refine SW.getI (q := 65) (i := 1) fX5_27 rfl rfl dX5_addChange_62 rfl ?_
  refine SW.iconst (q := 66) (v := 1) dX5_addChange_65 (by decide) rfl ?_
  refine SW.iadd (q := 67) dX5_addChange_66 rfl ?_
  refine SW.putI (q := 70) (i := 1) pX5_27 rfl rfl dX5_addChange_67 rfl ?_
  refine SW.vretR rfl dX5_addChange_70 ?_
  show _ = _
  rw [← nI_1, ← hc]
  rfl
end GROW
end
section
/-! heights of the class, and the reference's first loop of water -/
section RAISE
variable {X : sw_X} {σ : sw_Sg} {x y v : Int32} {n p q a b c : Nat}
/-- what the changes' rows hold: points not too far off -/
def gr_chs (σ : sw_Sg) (i j c : Nat) : Prop := c ≤ 30 ∧ ∀ k, k < c → ∃ cx cy : Nat, cx < 2 ^ 30 ∧ cy < 2 ^ 30 ∧ σ i k = nI cx ∧ σ j k = nI cy
theorem C_X5_raiseHeights (hT : gr_T σ n) (hl : σ 1 3 = nI a) (ht : σ 1 4 = nI b) (ha : a ≤ 100000) (hb : b ≤ 100000) (hc : σ 1 5 = nI c) (hch : gr_chs σ 34 35 c) :
    sw_Mv X 2 mX5_raiseHeights [.ref (sw_ad X 1)] σ (fun u => fr_ [40] σ u ∧ ∀ p, p < n * n → u 40 p = gr_cl (gr_hs (σ 34) (σ 35) (σ 36) (σ 39 p) (nI (a + p % n)) (nI (b + p / n)) c)) := by
  have hT0 := hT
  obtain ⟨n4, n24, hside, hpl, hcl⟩ := hT
  have h576 := gr_576 n24
  obtain ⟨c30, hcc⟩ := hch
  refine sw_ME.ofF (by decide +kernel) rfl (Nat.le_of_ble_eq_true rfl) rfl ?_
  have L3 : ∀ (m k : Nat), k + m = n * n → ∀ (A B : Value) (τ : sw_Sg), fr_ [40] σ τ → (∀ p, p < k → τ 40 p = gr_cl (gr_hs (σ 34) (σ 35) (σ 36) (σ 39 p) (nI (a + p % n)) (nI (b + p / n)) c)) → (∀ p, k ≤ p → p < n * n → τ 40 p = gr_hs (σ 34) (σ 35) (σ 36) (σ 39 p) (nI (a + p % n)) (nI (b + p / n)) c) →
      SW X 2 mX5_raiseHeights sw_E0 (sw_Rv (fun u => fr_ [40] σ u ∧ ∀ p, p < n * n → u 40 p = gr_cl (gr_hs (σ 34) (σ 35) (σ 36) (σ 39 p) (nI (a + p % n)) (nI (b + p / n)) c))) 129 [.ref (sw_ad X 1), .int (nI k), A, B] [] τ := by
    intro m
    induction m with
    | zero =>
      intro k hk A B τ hf h1 h2
      obtain rfl : k = n * n := by omega
      refine SW.iload_n (q := 130) (i := 1) dX5_raiseHeights_129 rfl rfl rfl ?_
      refine SW.aload_n (q := 131) (i := 0) dX5_raiseHeights_130 rfl rfl rfl ?_
      refine SW.getI (q := 134) (i := 1) fX5_18 rfl rfl dX5_raiseHeights_131 rfl ?_
      refine SW.icmp_ge (q := 137) (tgt := 169) dX5_raiseHeights_134 (by decide) rfl (fun _ => ?_) (fun c134 => absurd ((by rw [hf 1 (by decide), hpl]; exact Int32.le_refl _)) c134)
      refine SW.vretR rfl dX5_raiseHeights_169 ?_
      exact ⟨hf, h1⟩
    | succ m ih =>
      intro k hk A B τ hf h1 h2
      refine SW.iload_n (q := 130) (i := 1) dX5_raiseHeights_129 rfl rfl rfl ?_
      refine SW.aload_n (q := 131) (i := 0) dX5_raiseHeights_130 rfl rfl rfl ?_
      refine SW.getI (q := 134) (i := 1) fX5_18 rfl rfl dX5_raiseHeights_131 rfl ?_
      refine SW.icmp_ge (q := 137) (tgt := 169) dX5_raiseHeights_134 (by decide) rfl (fun c134 => absurd c134 ((by rw [hf 1 (by decide), hpl]; exact nI_ge (by omega) (by omega)))) (fun _ => ?_)
      refine SW.aload_n (q := 138) (i := 0) dX5_raiseHeights_137 rfl rfl rfl ?_
      refine SW.getR (q := 141) (i := 1) (j := 14) fX5_54 rfl rfl dX5_raiseHeights_138 rfl ?_
      refine SW.iload_n (q := 142) (i := 1) dX5_raiseHeights_141 rfl rfl rfl ?_
      refine SW.iconst (q := 143) (v := 0) dX5_raiseHeights_142 (by decide) rfl ?_
      refine SW.aload_n (q := 144) (i := 0) dX5_raiseHeights_143 rfl rfl rfl ?_
      refine SW.getR (q := 147) (i := 1) (j := 14) fX5_54 rfl rfl dX5_raiseHeights_144 rfl ?_
      refine SW.iload_n (q := 148) (i := 1) dX5_raiseHeights_147 rfl rfl rfl ?_
      refine SW.cF (q := 151) (C_X3_atn (i := 14) (j := 40) (n := 576) rfl rfl (k := k) rfl (by omega)) vX5_77 (by decide) rfl rfl rfl rfl (Nat.le_of_ble_eq_true rfl) dX5_raiseHeights_148 rfl ?_
      refine SW.sipush (q := 154) (v := 400) dX5_raiseHeights_151 (by decide) rfl ?_
      refine SW.sF (q := 157) (C_min) vX5_88 (by decide) rfl rfl (Nat.le_of_ble_eq_true rfl) dX5_raiseHeights_154 rfl ?_
      refine SW.sF (q := 160) (C_max) vX5_93 (by decide) rfl rfl (Nat.le_of_ble_eq_true rfl) dX5_raiseHeights_157 rfl ?_
      refine SW.cG (q := 163) (C_X3_putn (i := 14) (j := 40) (n := 576) rfl rfl (k := k) rfl (by omega)) vX5_57 (by decide) rfl rfl rfl rfl (Nat.le_of_ble_eq_true rfl) dX5_raiseHeights_160 rfl ?_
      refine SW.iinc (q := 166) (v := _ + 1) dX5_raiseHeights_163 rfl rfl (by decide) rfl ?_
      refine SW.goto (q := 129) dX5_raiseHeights_166 (by decide) ?_
      refine SW.eq (by rw [nI_1]; rfl) rfl rfl (ih (k + 1) (by omega) A B _ (fr_up hf (by decide)) (fun p hp => ?_) (fun p hp hp2 => ?_))
      · by_cases e : p = k
        · subst e; rw [sw_i1, h2 p (Nat.le_refl _) (by omega)]; rfl
        · rw [sw_o1 e]; exact h1 p (by omega)
      · rw [sw_o1 (by omega)]; exact h2 p (by omega) hp2
  have L2 : ∀ (m k : Nat), k + m = c → ∀ (A B : Value) (τ : sw_Sg), fr_ [40] σ τ → (∀ p, p < n * n → τ 40 p = gr_hs (σ 34) (σ 35) (σ 36) (σ 39 p) (nI (a + p % n)) (nI (b + p / n)) k) →
      SW X 2 mX5_raiseHeights sw_E0 (sw_Rv (fun u => fr_ [40] σ u ∧ ∀ p, p < n * n → u 40 p = gr_cl (gr_hs (σ 34) (σ 35) (σ 36) (σ 39 p) (nI (a + p % n)) (nI (b + p / n)) c))) 34 [.ref (sw_ad X 1), .int (nI k), A, B] [] τ := by
    intro m
    induction m with
    | zero =>
      intro k hk A B τ hf h1
      obtain rfl : k = c := by omega
      refine SW.iload_n (q := 35) (i := 1) dX5_raiseHeights_34 rfl rfl rfl ?_
      refine SW.aload_n (q := 36) (i := 0) dX5_raiseHeights_35 rfl rfl rfl ?_
      refine SW.getI (q := 39) (i := 1) fX5_27 rfl rfl dX5_raiseHeights_36 rfl ?_
      refine SW.icmp_ge (q := 42) (tgt := 127) dX5_raiseHeights_39 (by decide) rfl (fun _ => ?_) (fun c39 => absurd ((by rw [hf 1 (by decide), hc]; exact Int32.le_refl _)) c39)
      refine SW.iconst (q := 128) (v := 0) dX5_raiseHeights_127 (by decide) rfl ?_
      refine SW.istore_n (q := 129) (i := 1) dX5_raiseHeights_128 rfl (by decide) rfl ?_
      exact L3 (n * n) 0 (by omega) A B τ hf (fun p hp => by omega) (fun p _ hp => h1 p hp)
    | succ m ih =>
      intro k hk A B τ hf h1
      obtain ⟨cx, cy, b1, b2, e1, e2⟩ := hcc k (by omega)
      have t1 : τ 1 1 = nI n := by rw [hf 1 (by decide)]; exact hside
      have t3 : τ 1 3 = nI a := by rw [hf 1 (by decide)]; exact hl
      have t4 : τ 1 4 = nI b := by rw [hf 1 (by decide)]; exact ht
      have x1 : τ 34 k = nI cx := by rw [hf 34 (by decide)]; exact e1
      have y1 : τ 35 k = nI cy := by rw [hf 35 (by decide)]; exact e2
      have miss : ¬ ((a ≤ cx ∧ cx - a < n) ∧ (b ≤ cy ∧ cy - b < n)) → ∀ p, p < n * n → τ 40 p = gr_hs (σ 34) (σ 35) (σ 36) (σ 39 p) (nI (a + p % n)) (nI (b + p / n)) (k + 1) := by
        intro hm p hp
        obtain ⟨l1, l2, l3⟩ := gr_lt hp
        rw [gr_hs, if_neg, h1 p hp]
        rintro ⟨z1, z2⟩
        rw [e1, nI_eq (by omega) (by omega)] at z1
        rw [e2, nI_eq (by omega) (by omega)] at z2
        generalize p / n = u1 at z2 l1
        generalize p % n = u2 at z1 l2
        exact hm ⟨⟨by omega, by omega⟩, ⟨by omega, by omega⟩⟩
      by_cases hx : a ≤ cx ∧ cx - a < n
      · by_cases hy : b ≤ cy ∧ cy - b < n
        · have hin := gr_in hx.2 hy.2
          obtain ⟨g1, g2⟩ := gr_xy (n := n) (x := cx - a) (y := cy - b) hx.2
          refine SW.iload_n (q := 35) (i := 1) dX5_raiseHeights_34 rfl rfl rfl ?_
          refine SW.aload_n (q := 36) (i := 0) dX5_raiseHeights_35 rfl rfl rfl ?_
          refine SW.getI (q := 39) (i := 1) fX5_27 rfl rfl dX5_raiseHeights_36 rfl ?_
          refine SW.icmp_ge (q := 42) (tgt := 127) dX5_raiseHeights_39 (by decide) rfl (fun c39 => absurd c39 ((by rw [hf 1 (by decide), hc]; exact nI_ge (by omega) (by omega)))) (fun _ => ?_)
          refine SW.aload_n (q := 43) (i := 0) dX5_raiseHeights_42 rfl rfl rfl ?_
          refine SW.getR (q := 46) (i := 1) (j := 8) fX5_35 rfl rfl dX5_raiseHeights_43 rfl ?_
          refine SW.iload_n (q := 47) (i := 1) dX5_raiseHeights_46 rfl rfl rfl ?_
          refine SW.cF (q := 50) (C_X3_atn (i := 8) (j := 34) (n := 30) rfl rfl (k := k) rfl (by omega)) vX5_77 (by decide) rfl rfl rfl rfl (Nat.le_of_ble_eq_true rfl) dX5_raiseHeights_47 rfl ?_
          refine SW.aload_n (q := 51) (i := 0) dX5_raiseHeights_50 rfl rfl rfl ?_
          refine SW.getI (q := 54) (i := 1) fX5_21 rfl rfl dX5_raiseHeights_51 rfl ?_
          refine SW.isub (q := 55) dX5_raiseHeights_54 rfl ?_
          refine SW.istore_n (q := 56) (i := 2) dX5_raiseHeights_55 rfl (by decide) rfl ?_
          refine SW.aload_n (q := 57) (i := 0) dX5_raiseHeights_56 rfl rfl rfl ?_
          refine SW.getR (q := 60) (i := 1) (j := 9) fX5_39 rfl rfl dX5_raiseHeights_57 rfl ?_
          refine SW.iload_n (q := 61) (i := 1) dX5_raiseHeights_60 rfl rfl rfl ?_
          refine SW.cF (q := 64) (C_X3_atn (i := 9) (j := 35) (n := 30) rfl rfl (k := k) rfl (by omega)) vX5_77 (by decide) rfl rfl rfl rfl (Nat.le_of_ble_eq_true rfl) dX5_raiseHeights_61 rfl ?_
          refine SW.aload_n (q := 65) (i := 0) dX5_raiseHeights_64 rfl rfl rfl ?_
          refine SW.getI (q := 68) (i := 1) fX5_24 rfl rfl dX5_raiseHeights_65 rfl ?_
          refine SW.isub (q := 69) dX5_raiseHeights_68 rfl ?_
          refine SW.istore_n (q := 70) (i := 3) dX5_raiseHeights_69 rfl (by decide) rfl ?_
          refine SW.iload_n (q := 71) (i := 2) dX5_raiseHeights_70 rfl rfl rfl ?_
          refine SW.iconst (q := 72) (v := 0) dX5_raiseHeights_71 (by decide) rfl ?_
          refine SW.aload_n (q := 73) (i := 0) dX5_raiseHeights_72 rfl rfl rfl ?_
          refine SW.getI (q := 76) (i := 1) fX5_15 rfl rfl dX5_raiseHeights_73 rfl ?_
          refine SW.iconst (q := 77) (v := 1) dX5_raiseHeights_76 (by decide) rfl ?_
          refine SW.isub (q := 78) dX5_raiseHeights_77 rfl ?_
          refine SW.snF (q := 81) (C_X7_within) vX5_81 (by decide) rfl rfl (Nat.le_of_ble_eq_true rfl) dX5_raiseHeights_78 rfl ?_
          refine SW.if_eq (q := 84) (tgt := 121) dX5_raiseHeights_81 (by decide) rfl (fun c81 => absurd c81 ((by rw [x1, t3, t1]; exact fun z => (gr_wi b1 (by omega) (by omega) (by omega)).mp z hx))) (fun _ => ?_)
          refine SW.iload_n (q := 85) (i := 3) dX5_raiseHeights_84 rfl rfl rfl ?_
          refine SW.iconst (q := 86) (v := 0) dX5_raiseHeights_85 (by decide) rfl ?_
          refine SW.aload_n (q := 87) (i := 0) dX5_raiseHeights_86 rfl rfl rfl ?_
          refine SW.getI (q := 90) (i := 1) fX5_15 rfl rfl dX5_raiseHeights_87 rfl ?_
          refine SW.iconst (q := 91) (v := 1) dX5_raiseHeights_90 (by decide) rfl ?_
          refine SW.isub (q := 92) dX5_raiseHeights_91 rfl ?_
          refine SW.snF (q := 95) (C_X7_within) vX5_81 (by decide) rfl rfl (Nat.le_of_ble_eq_true rfl) dX5_raiseHeights_92 rfl ?_
          refine SW.if_eq (q := 98) (tgt := 121) dX5_raiseHeights_95 (by decide) rfl (fun c95 => absurd c95 ((by rw [y1, t4, t1]; exact fun z => (gr_wi b2 (by omega) (by omega) (by omega)).mp z hy))) (fun _ => ?_)
          refine SW.aload_n (q := 99) (i := 0) dX5_raiseHeights_98 rfl rfl rfl ?_
          refine SW.getR (q := 102) (i := 1) (j := 14) fX5_54 rfl rfl dX5_raiseHeights_99 rfl ?_
          refine SW.aload_n (q := 103) (i := 0) dX5_raiseHeights_102 rfl rfl rfl ?_
          refine SW.getI (q := 106) (i := 1) fX5_15 rfl rfl dX5_raiseHeights_103 rfl ?_
          refine SW.iload_n (q := 107) (i := 3) dX5_raiseHeights_106 rfl rfl rfl ?_
          refine SW.imul (q := 108) dX5_raiseHeights_107 rfl ?_
          refine SW.iload_n (q := 109) (i := 2) dX5_raiseHeights_108 rfl rfl rfl ?_
          refine SW.iadd (q := 110) dX5_raiseHeights_109 rfl ?_
          refine SW.aload_n (q := 111) (i := 0) dX5_raiseHeights_110 rfl rfl rfl ?_
          refine SW.getR (q := 114) (i := 1) (j := 10) fX5_42 rfl rfl dX5_raiseHeights_111 rfl ?_
          refine SW.iload_n (q := 115) (i := 1) dX5_raiseHeights_114 rfl rfl rfl ?_
          refine SW.cF (q := 118) (C_X3_atn (i := 10) (j := 36) (n := 30) rfl rfl (k := k) rfl (by omega)) vX5_77 (by decide) rfl rfl rfl rfl (Nat.le_of_ble_eq_true rfl) dX5_raiseHeights_115 rfl ?_
          refine SW.cG (q := 121) (C_X3_addn (i := 14) (j := 40) (n := 576) rfl rfl (k := n * (cy - b) + (cx - a)) (by rw [t1, y1, x1, t3, t4, pk_sub hx.1, pk_sub hy.1, pk_mul, nI_add]) (by omega)) vX5_85 (by decide) rfl rfl rfl rfl (Nat.le_of_ble_eq_true rfl) dX5_raiseHeights_118 rfl ?_
          refine SW.iinc (q := 124) (v := _ + 1) dX5_raiseHeights_121 rfl rfl (by decide) rfl ?_
          refine SW.goto (q := 34) dX5_raiseHeights_124 (by decide) ?_
          refine SW.eq (by rw [nI_1]; rfl) rfl rfl (ih (k + 1) (by omega) _ _ _ (fr_up hf (by decide)) (fun p hp => ?_))
          rw [gr_hs]
          by_cases e : p = n * (cy - b) + (cx - a)
          · rw [if_pos]
            · subst e; rw [sw_i1, h1 _ hp, hf 36 (by decide)]
            · rw [e, g1, g2, e1, e2, show a + (cx - a) = cx by omega, show b + (cy - b) = cy by omega]; exact ⟨rfl, rfl⟩
          · rw [sw_o1 e, if_neg, h1 p hp]
            rintro ⟨z1, z2⟩
            obtain ⟨l1, l2, l3⟩ := gr_lt hp
            rw [e1, nI_eq (by omega) (by omega)] at z1
            rw [e2, nI_eq (by omega) (by omega)] at z2
            apply e
            rw [show cy - b = p / n by omega, show cx - a = p % n by omega]
            exact gr_pp.symm
        · refine SW.iload_n (q := 35) (i := 1) dX5_raiseHeights_34 rfl rfl rfl ?_
          refine SW.aload_n (q := 36) (i := 0) dX5_raiseHeights_35 rfl rfl rfl ?_
          refine SW.getI (q := 39) (i := 1) fX5_27 rfl rfl dX5_raiseHeights_36 rfl ?_
          refine SW.icmp_ge (q := 42) (tgt := 127) dX5_raiseHeights_39 (by decide) rfl (fun c39 => absurd c39 ((by rw [hf 1 (by decide), hc]; exact nI_ge (by omega) (by omega)))) (fun _ => ?_)
          refine SW.aload_n (q := 43) (i := 0) dX5_raiseHeights_42 rfl rfl rfl ?_
          refine SW.getR (q := 46) (i := 1) (j := 8) fX5_35 rfl rfl dX5_raiseHeights_43 rfl ?_
          refine SW.iload_n (q := 47) (i := 1) dX5_raiseHeights_46 rfl rfl rfl ?_
          refine SW.cF (q := 50) (C_X3_atn (i := 8) (j := 34) (n := 30) rfl rfl (k := k) rfl (by omega)) vX5_77 (by decide) rfl rfl rfl rfl (Nat.le_of_ble_eq_true rfl) dX5_raiseHeights_47 rfl ?_
          refine SW.aload_n (q := 51) (i := 0) dX5_raiseHeights_50 rfl rfl rfl ?_
          refine SW.getI (q := 54) (i := 1) fX5_21 rfl rfl dX5_raiseHeights_51 rfl ?_
          refine SW.isub (q := 55) dX5_raiseHeights_54 rfl ?_
          refine SW.istore_n (q := 56) (i := 2) dX5_raiseHeights_55 rfl (by decide) rfl ?_
          refine SW.aload_n (q := 57) (i := 0) dX5_raiseHeights_56 rfl rfl rfl ?_
          refine SW.getR (q := 60) (i := 1) (j := 9) fX5_39 rfl rfl dX5_raiseHeights_57 rfl ?_
          refine SW.iload_n (q := 61) (i := 1) dX5_raiseHeights_60 rfl rfl rfl ?_
          refine SW.cF (q := 64) (C_X3_atn (i := 9) (j := 35) (n := 30) rfl rfl (k := k) rfl (by omega)) vX5_77 (by decide) rfl rfl rfl rfl (Nat.le_of_ble_eq_true rfl) dX5_raiseHeights_61 rfl ?_
          refine SW.aload_n (q := 65) (i := 0) dX5_raiseHeights_64 rfl rfl rfl ?_
          refine SW.getI (q := 68) (i := 1) fX5_24 rfl rfl dX5_raiseHeights_65 rfl ?_
          refine SW.isub (q := 69) dX5_raiseHeights_68 rfl ?_
          refine SW.istore_n (q := 70) (i := 3) dX5_raiseHeights_69 rfl (by decide) rfl ?_
          refine SW.iload_n (q := 71) (i := 2) dX5_raiseHeights_70 rfl rfl rfl ?_
          refine SW.iconst (q := 72) (v := 0) dX5_raiseHeights_71 (by decide) rfl ?_
          refine SW.aload_n (q := 73) (i := 0) dX5_raiseHeights_72 rfl rfl rfl ?_
          refine SW.getI (q := 76) (i := 1) fX5_15 rfl rfl dX5_raiseHeights_73 rfl ?_
          refine SW.iconst (q := 77) (v := 1) dX5_raiseHeights_76 (by decide) rfl ?_
          refine SW.isub (q := 78) dX5_raiseHeights_77 rfl ?_
          refine SW.snF (q := 81) (C_X7_within) vX5_81 (by decide) rfl rfl (Nat.le_of_ble_eq_true rfl) dX5_raiseHeights_78 rfl ?_
          refine SW.if_eq (q := 84) (tgt := 121) dX5_raiseHeights_81 (by decide) rfl (fun c81 => absurd c81 ((by rw [x1, t3, t1]; exact fun z => (gr_wi b1 (by omega) (by omega) (by omega)).mp z hx))) (fun _ => ?_)
          refine SW.iload_n (q := 85) (i := 3) dX5_raiseHeights_84 rfl rfl rfl ?_
          refine SW.iconst (q := 86) (v := 0) dX5_raiseHeights_85 (by decide) rfl ?_
          refine SW.aload_n (q := 87) (i := 0) dX5_raiseHeights_86 rfl rfl rfl ?_
          refine SW.getI (q := 90) (i := 1) fX5_15 rfl rfl dX5_raiseHeights_87 rfl ?_
          refine SW.iconst (q := 91) (v := 1) dX5_raiseHeights_90 (by decide) rfl ?_
          refine SW.isub (q := 92) dX5_raiseHeights_91 rfl ?_
          refine SW.snF (q := 95) (C_X7_within) vX5_81 (by decide) rfl rfl (Nat.le_of_ble_eq_true rfl) dX5_raiseHeights_92 rfl ?_
          refine SW.if_eq (q := 98) (tgt := 121) dX5_raiseHeights_95 (by decide) rfl (fun _ => ?_) (fun c95 => absurd ((by rw [y1, t4, t1]; exact (gr_wi b2 (by omega) (by omega) (by omega)).mpr hy)) c95)
          refine SW.iinc (q := 124) (v := _ + 1) dX5_raiseHeights_121 rfl rfl (by decide) rfl ?_
          refine SW.goto (q := 34) dX5_raiseHeights_124 (by decide) ?_
          exact SW.eq (by rw [nI_1]; rfl) rfl rfl (ih (k + 1) (by omega) _ _ _ hf (miss (fun z => hy z.2)))
      · refine SW.iload_n (q := 35) (i := 1) dX5_raiseHeights_34 rfl rfl rfl ?_
        refine SW.aload_n (q := 36) (i := 0) dX5_raiseHeights_35 rfl rfl rfl ?_
        refine SW.getI (q := 39) (i := 1) fX5_27 rfl rfl dX5_raiseHeights_36 rfl ?_
        refine SW.icmp_ge (q := 42) (tgt := 127) dX5_raiseHeights_39 (by decide) rfl (fun c39 => absurd c39 ((by rw [hf 1 (by decide), hc]; exact nI_ge (by omega) (by omega)))) (fun _ => ?_)
        refine SW.aload_n (q := 43) (i := 0) dX5_raiseHeights_42 rfl rfl rfl ?_
        refine SW.getR (q := 46) (i := 1) (j := 8) fX5_35 rfl rfl dX5_raiseHeights_43 rfl ?_
        refine SW.iload_n (q := 47) (i := 1) dX5_raiseHeights_46 rfl rfl rfl ?_
        refine SW.cF (q := 50) (C_X3_atn (i := 8) (j := 34) (n := 30) rfl rfl (k := k) rfl (by omega)) vX5_77 (by decide) rfl rfl rfl rfl (Nat.le_of_ble_eq_true rfl) dX5_raiseHeights_47 rfl ?_
        refine SW.aload_n (q := 51) (i := 0) dX5_raiseHeights_50 rfl rfl rfl ?_
        refine SW.getI (q := 54) (i := 1) fX5_21 rfl rfl dX5_raiseHeights_51 rfl ?_
        refine SW.isub (q := 55) dX5_raiseHeights_54 rfl ?_
        refine SW.istore_n (q := 56) (i := 2) dX5_raiseHeights_55 rfl (by decide) rfl ?_
        refine SW.aload_n (q := 57) (i := 0) dX5_raiseHeights_56 rfl rfl rfl ?_
        refine SW.getR (q := 60) (i := 1) (j := 9) fX5_39 rfl rfl dX5_raiseHeights_57 rfl ?_
        refine SW.iload_n (q := 61) (i := 1) dX5_raiseHeights_60 rfl rfl rfl ?_
        refine SW.cF (q := 64) (C_X3_atn (i := 9) (j := 35) (n := 30) rfl rfl (k := k) rfl (by omega)) vX5_77 (by decide) rfl rfl rfl rfl (Nat.le_of_ble_eq_true rfl) dX5_raiseHeights_61 rfl ?_
        refine SW.aload_n (q := 65) (i := 0) dX5_raiseHeights_64 rfl rfl rfl ?_
        refine SW.getI (q := 68) (i := 1) fX5_24 rfl rfl dX5_raiseHeights_65 rfl ?_
        refine SW.isub (q := 69) dX5_raiseHeights_68 rfl ?_
        refine SW.istore_n (q := 70) (i := 3) dX5_raiseHeights_69 rfl (by decide) rfl ?_
        refine SW.iload_n (q := 71) (i := 2) dX5_raiseHeights_70 rfl rfl rfl ?_
        refine SW.iconst (q := 72) (v := 0) dX5_raiseHeights_71 (by decide) rfl ?_
        refine SW.aload_n (q := 73) (i := 0) dX5_raiseHeights_72 rfl rfl rfl ?_
        refine SW.getI (q := 76) (i := 1) fX5_15 rfl rfl dX5_raiseHeights_73 rfl ?_
        refine SW.iconst (q := 77) (v := 1) dX5_raiseHeights_76 (by decide) rfl ?_
        refine SW.isub (q := 78) dX5_raiseHeights_77 rfl ?_
        refine SW.snF (q := 81) (C_X7_within) vX5_81 (by decide) rfl rfl (Nat.le_of_ble_eq_true rfl) dX5_raiseHeights_78 rfl ?_
        refine SW.if_eq (q := 84) (tgt := 121) dX5_raiseHeights_81 (by decide) rfl (fun _ => ?_) (fun c81 => absurd ((by rw [x1, t3, t1]; exact (gr_wi b1 (by omega) (by omega) (by omega)).mpr hx)) c81)
        refine SW.iinc (q := 124) (v := _ + 1) dX5_raiseHeights_121 rfl rfl (by decide) rfl ?_
        refine SW.goto (q := 34) dX5_raiseHeights_124 (by decide) ?_
        exact SW.eq (by rw [nI_1]; rfl) rfl rfl (ih (k + 1) (by omega) _ _ _ hf (miss (fun z => hx z.1)))
  have L1 : ∀ (m k : Nat), k + m = n * n → ∀ (A B : Value) (τ : sw_Sg), fr_ [40] σ τ → (∀ p, p < k → τ 40 p = σ 39 p) →
      SW X 2 mX5_raiseHeights sw_E0 (sw_Rv (fun u => fr_ [40] σ u ∧ ∀ p, p < n * n → u 40 p = gr_cl (gr_hs (σ 34) (σ 35) (σ 36) (σ 39 p) (nI (a + p % n)) (nI (b + p / n)) c))) 2 [.ref (sw_ad X 1), .int (nI k), A, B] [] τ := by
    intro m
    induction m with
    | zero =>
      intro k hk A B τ hf h1
      obtain rfl : k = n * n := by omega
      refine SW.iload_n (q := 3) (i := 1) dX5_raiseHeights_2 rfl rfl rfl ?_
      refine SW.aload_n (q := 4) (i := 0) dX5_raiseHeights_3 rfl rfl rfl ?_
      refine SW.getI (q := 7) (i := 1) fX5_18 rfl rfl dX5_raiseHeights_4 rfl ?_
      refine SW.icmp_ge (q := 10) (tgt := 32) dX5_raiseHeights_7 (by decide) rfl (fun _ => ?_) (fun c7 => absurd ((by rw [hf 1 (by decide), hpl]; exact Int32.le_refl _)) c7)
      refine SW.iconst (q := 33) (v := 0) dX5_raiseHeights_32 (by decide) rfl ?_
      refine SW.istore_n (q := 34) (i := 1) dX5_raiseHeights_33 rfl (by decide) rfl ?_
      exact L2 c 0 (by omega) A B τ hf (fun p hp => h1 p hp)
    | succ m ih =>
      intro k hk A B τ hf h1
      refine SW.iload_n (q := 3) (i := 1) dX5_raiseHeights_2 rfl rfl rfl ?_
      refine SW.aload_n (q := 4) (i := 0) dX5_raiseHeights_3 rfl rfl rfl ?_
      refine SW.getI (q := 7) (i := 1) fX5_18 rfl rfl dX5_raiseHeights_4 rfl ?_
      refine SW.icmp_ge (q := 10) (tgt := 32) dX5_raiseHeights_7 (by decide) rfl (fun c7 => absurd c7 ((by rw [hf 1 (by decide), hpl]; exact nI_ge (by omega) (by omega)))) (fun _ => ?_)
      refine SW.aload_n (q := 11) (i := 0) dX5_raiseHeights_10 rfl rfl rfl ?_
      refine SW.getR (q := 14) (i := 1) (j := 14) fX5_54 rfl rfl dX5_raiseHeights_11 rfl ?_
      refine SW.iload_n (q := 15) (i := 1) dX5_raiseHeights_14 rfl rfl rfl ?_
      refine SW.aload_n (q := 16) (i := 0) dX5_raiseHeights_15 rfl rfl rfl ?_
      refine SW.getR (q := 19) (i := 1) (j := 13) fX5_51 rfl rfl dX5_raiseHeights_16 rfl ?_
      refine SW.iload_n (q := 20) (i := 1) dX5_raiseHeights_19 rfl rfl rfl ?_
      refine SW.cF (q := 23) (C_X3_atn (i := 13) (j := 39) (n := 576) rfl rfl (k := k) rfl (by omega)) vX5_77 (by decide) rfl rfl rfl rfl (Nat.le_of_ble_eq_true rfl) dX5_raiseHeights_20 rfl ?_
      refine SW.cG (q := 26) (C_X3_putn (i := 14) (j := 40) (n := 576) rfl rfl (k := k) rfl (by omega)) vX5_57 (by decide) rfl rfl rfl rfl (Nat.le_of_ble_eq_true rfl) dX5_raiseHeights_23 rfl ?_
      refine SW.iinc (q := 29) (v := _ + 1) dX5_raiseHeights_26 rfl rfl (by decide) rfl ?_
      refine SW.goto (q := 2) dX5_raiseHeights_29 (by decide) ?_
      refine SW.eq (by rw [nI_1]; rfl) rfl rfl (ih (k + 1) (by omega) A B _ (fr_up hf (by decide)) (fun p hp => ?_))
      by_cases e : p = k
      · subst e; rw [sw_i1, hf 39 (by decide)]
      · rw [sw_o1 e]; exact h1 p (by omega)
  refine SW.iconst (q := 1) (v := 0) dX5_raiseHeights_0 (by decide) rfl ?_
  refine SW.istore_n (q := 2) (i := 1) dX5_raiseHeights_1 rfl (by decide) rfl ?_
  exact L1 (n * n) 0 (by omega) _ _ σ fr_rf (fun p hp => by omega)
end RAISE
end
section
/-! WATER in the class: keys in the heap, and the least level beside a place -/
def wl_adj (n q r : Nat) : Prop := ∃ e, e < 4 ∧ gr_nb n q e = some r
def wl_least (n : Nat) (S : Nat → Prop) (lv : Nat → Nat) (q m : Nat) : Prop := (∃ r, wl_adj n q r ∧ S r ∧ lv r = m) ∧ ∀ r, wl_adj n q r → S r → m ≤ lv r
def wl_key (r q : Nat) : Int32 := nI (r * 1024 + q)
theorem gr_nb_lt {n p e q : Nat} (hp : p < n * n) (h : gr_nb n p e = some q) : q < n * n ∧ q ≠ p ∧ e < 4 := by
  obtain ⟨l1, l2, l3⟩ := gr_lt hp
  have hpp := gr_pp (n := n) (p := p)
  match e, h with
  | 0, h =>
    simp only [gr_nb] at h
    split at h
    · rename_i a; have := gr_pn a; cases h; omega
    · cases h
  | 1, h =>
    simp only [gr_nb] at h
    split at h
    · rename_i a
      cases h
      have : p % n ≤ p := Nat.mod_le _ _
      omega
    · cases h
  | 2, h =>
    simp only [gr_nb] at h
    split at h
    · rename_i a
      cases h
      have := gr_in (n := n) (x := p % n + 1) (y := p / n) (by omega) l1
      omega
    · cases h
  | 3, h =>
    simp only [gr_nb] at h
    split at h
    · rename_i a
      cases h
      have := gr_in (n := n) (x := p % n) (y := p / n + 1) l2 (by omega)
      rw [Nat.mul_add, Nat.mul_one] at this
      omega
    · cases h
  | k + 4, h => simp [gr_nb] at h
theorem gr_nb_sym {n p e q : Nat} (hp : p < n * n) (h : gr_nb n p e = some q) : gr_nb n q (3 - e) = some p := by
  obtain ⟨l1, l2, l3⟩ := gr_lt hp
  have hpp := gr_pp (n := n) (p := p)
  match e, h with
  | 0, h =>
    simp only [gr_nb] at h
    split at h
    · rename_i a
      have b := gr_pn a
      have c := gr_up l3 a
      cases h
      have e1 : (p - n) / n = p / n - 1 := by rw [← c]; exact (gr_xy l2).2
      show (if (p - n) / n < n - 1 then some (p - n + n) else none) = some p
      rw [e1, if_pos (by generalize p / n = u at *; omega), Nat.sub_add_cancel b]
    · cases h
  | 1, h =>
    simp only [gr_nb] at h
    split at h
    · rename_i a
      cases h
      have e1 := (gr_nb1 l3 a).2
      have : p % n ≤ p := Nat.mod_le _ _
      show (if (p - 1) % n < n - 1 then some (p - 1 + 1) else none) = some p
      rw [e1, if_pos (by omega), Nat.sub_add_cancel (by omega)]
    · cases h
  | 2, h =>
    simp only [gr_nb] at h
    split at h
    · rename_i a
      cases h
      have e1 : (p + 1) % n = p % n + 1 := by
        have := (gr_xy (n := n) (x := p % n + 1) (y := p / n) (by omega)).1
        rwa [← Nat.add_assoc, hpp] at this
      show (if 0 < (p + 1) % n then some (p + 1 - 1) else none) = some p
      rw [e1, if_pos (by omega), Nat.add_sub_cancel]
    · cases h
  | 3, h =>
    simp only [gr_nb] at h
    split at h
    · rename_i a
      cases h
      have e1 : (p + n) / n = p / n + 1 := Nat.add_div_right p l3
      show (if 0 < (p + n) / n then some (p + n - n) else none) = some p
      rw [e1, if_pos (Nat.succ_pos _), Nat.add_sub_cancel]
    · cases h
  | k + 4, h => simp [gr_nb] at h
theorem wl_adj_sym {n p q : Nat} (hp : p < n * n) (h : wl_adj n p q) : wl_adj n q p := by
  obtain ⟨e, e4, h⟩ := h
  exact ⟨3 - e, by omega, gr_nb_sym hp h⟩
theorem i_or (a b : Nat) : nI a ||| nI b = nI (a ||| b) := by
  apply Int32.toBitVec_inj.mp
  rw [Int32.toBitVec_or]
  show BitVec.ofNat 32 a ||| BitVec.ofNat 32 b = BitVec.ofNat 32 (a ||| b)
  rw [BitVec.ofNat_or]
theorem hp_key_e {r q : Nat} (hr : r < 2 ^ 20) (hq : q < 1024) : hp_key (nI r) (nI q) = wl_key r q := by
  unfold hp_key wl_key
  rw [pk_shlN _ 10 (by decide) (by omega), pk_andN (by omega) 10 (by decide), Nat.mod_eq_of_lt (by omega), i_or]
  have := Nat.shiftLeft_add_eq_or_of_lt (i := 10) (b := q) (by omega) r
  rw [Nat.shiftLeft_eq] at this
  rw [← this]
theorem wl_key_q {r q : Nat} (hr : r < 2 ^ 20) (hq : q < 1024) : wl_key r q &&& 1023 = nI q := by
  unfold wl_key
  rw [pk_andN (by omega) 10 (by decide), show (r * 1024 + q) % 2 ^ 10 = q by omega]
theorem wl_key_r {r q : Nat} (hr : r < 2 ^ 20) (hq : q < 1024) : wl_key r q >>> ((10 : Int32) &&& 31) = nI r := by
  unfold wl_key
  rw [pk_shrN (by omega) _ 10 (by decide), show (r * 1024 + q) / 2 ^ 10 = r by omega]
theorem wl_key_le {r q r' q' : Nat} (hr : r < 2 ^ 20) (hq : q < 1024) (hr' : r' < 2 ^ 20) (hq' : q' < 1024) (h : (wl_key r q).toInt ≤ (wl_key r' q').toInt) : r < r' ∨ r = r' ∧ q ≤ q' := by
  unfold wl_key at h
  rw [nI_toInt (by omega), nI_toInt (by omega)] at h
  omega
theorem wl_key_inj {r q r' q' : Nat} (hr : r < 2 ^ 20) (hq : q < 1024) (hr' : r' < 2 ^ 20) (hq' : q' < 1024) (h : wl_key r q = wl_key r' q') : r = r' ∧ q = q' := by
  unfold wl_key at h
  rw [nI_eq (by omega) (by omega)] at h
  omega
theorem wl_least_one {n : Nat} {S : Nat → Prop} {lv : Nat → Nat} {q m m' : Nat} (h : wl_least n S lv q m) (h' : wl_least n S lv q m') : m = m' := by
  obtain ⟨⟨r, r1, r2, r3⟩, h2⟩ := h
  obtain ⟨⟨r', r1', r2', r3'⟩, h2'⟩ := h'
  have a := h2 r' r1' r2'
  have b := h2' r r1 r2
  omega
theorem wl_least_ex {n : Nat} {S : Nat → Prop} {lv : Nat → Nat} {q r : Nat} (h1 : wl_adj n q r) (h2 : S r) : ∃ m, wl_least n S lv q m := by
  obtain ⟨m, ⟨r', a, b, c⟩, hm⟩ := pk_least (fun m => ∃ r, wl_adj n q r ∧ S r ∧ lv r = m) ⟨lv r, r, h1, h2, rfl⟩
  refine ⟨m, ⟨r', a, b, c⟩, fun r2 ha hs => ?_⟩
  rcases Nat.lt_or_ge (lv r2) m with q1 | q1
  · exact absurd ⟨r2, ha, hs, rfl⟩ (hm (lv r2) q1)
  · exact q1
/-- what the heap and the row of least levels hold: U q: q is not taken; S q r: r counts as taken beside q -/
def ww_H (n : Nat) (h : Nat → Nat) (S : Nat → Nat → Prop) (U : Nat → Prop) (lv : Nat → Nat) (c : Nat) (τ : sw_Sg) : Prop :=
  τ 6 1 = nI c ∧ hp_ok (τ 58) c ∧
  (∀ q, q < n * n → U q → (∀ m, wl_least n (S q) lv q m → τ 47 q = nI m ∧ hp_in (τ 58) c (wl_key (wt_mx m (h q)) q)) ∧ ((∀ r, wl_adj n q r → ¬ S q r) → τ 47 q = 2147483647)) ∧
  (∀ z, hp_in (τ 58) c z → ∃ r q, r ≤ 400 ∧ q < n * n ∧ z = wl_key r q ∧ (U q → ∃ m, wl_least n (S q) lv q m ∧ wt_mx m (h q) ≤ r))
theorem wl_least_congr {n : Nat} {S S' : Nat → Prop} {lv lv' : Nat → Nat} {q m : Nat} (hS : ∀ r, wl_adj n q r → (S r ↔ S' r)) (hl : ∀ r, wl_adj n q r → S r → lv r = lv' r) : wl_least n S lv q m → wl_least n S' lv' q m := by
  rintro ⟨⟨r, r1, r2, r3⟩, h2⟩
  refine ⟨⟨r, r1, (hS r r1).mp r2, by rw [← hl r r1 r2]; exact r3⟩, fun r' a b => ?_⟩
  have b' := (hS r' a).mpr b
  rw [← hl r' a b']
  exact h2 r' a b'
theorem ww_H.congr {n : Nat} {h : Nat → Nat} {S S' : Nat → Nat → Prop} {U : Nat → Prop} {lv lv' : Nat → Nat} {c : Nat} {τ : sw_Sg} (a : ww_H n h S U lv c τ) (hS : ∀ q, q < n * n → U q → ∀ r, wl_adj n q r → (S q r ↔ S' q r)) (hl : ∀ q r, q < n * n → U q → wl_adj n q r → S q r → lv r = lv' r) : ww_H n h S' U lv' c τ := by
  obtain ⟨a1, a2, a3, a4⟩ := a
  refine ⟨a1, a2, fun q hq hu => ⟨fun m hm => (a3 q hq hu).1 m (wl_least_congr (fun r hr => (hS q hq hu r hr).symm) (fun r hr hs => (hl q r hq hu hr ((hS q hq hu r hr).mpr hs)).symm) hm), fun hn => (a3 q hq hu).2 (fun r hr hs => hn r hr ((hS q hq hu r hr).mp hs))⟩, fun z hz => ?_⟩
  obtain ⟨r, q, h1, h2, h3, h4⟩ := a4 z hz
  refine ⟨r, q, h1, h2, h3, fun hu => ?_⟩
  obtain ⟨m, m1, m2⟩ := h4 hu
  exact ⟨m, wl_least_congr (hS q h2 hu) (fun r hr hs => hl q r h2 hu hr hs) m1, m2⟩
theorem ww_H.fr {n : Nat} {h : Nat → Nat} {S : Nat → Nat → Prop} {U : Nat → Prop} {lv : Nat → Nat} {c : Nat} {τ u : sw_Sg} (a : ww_H n h S U lv c τ) (h6 : u 6 1 = τ 6 1) (h58 : u 58 = τ 58) (h47 : u 47 = τ 47) : ww_H n h S U lv c u := by
  unfold ww_H
  rw [h6, h58, h47]
  exact a
/-- p counts beside q0 from now on, and that changes nothing -/
theorem ww_H.no {n : Nat} {h : Nat → Nat} {S : Nat → Nat → Prop} {U : Nat → Prop} {lv : Nat → Nat} {c p q0 : Nat} {τ : sw_Sg} (a : ww_H n h S U lv c τ) (hq0 : q0 < n * n) (hu0 : U q0) (hl : ∀ r, wl_adj n q0 r → S q0 r → lv r ≤ 400) (hp : lv p ≤ 400) (hle : ¬ nI (lv p) < τ 47 q0) : ww_H n h (fun q r => S q r ∨ (q = q0 ∧ r = p)) U lv c τ := by
  obtain ⟨a1, a2, a3, a4⟩ := a
  have hne : ∃ m0, wl_least n (S q0) lv q0 m0 ∧ m0 ≤ lv p := by
    by_cases hex : ∃ r, wl_adj n q0 r ∧ S q0 r
    · obtain ⟨r, r1, r2⟩ := hex
      obtain ⟨m0, hm0⟩ := wl_least_ex (S := S q0) (lv := lv) r1 r2
      refine ⟨m0, hm0, ?_⟩
      have e := ((a3 q0 hq0 hu0).1 m0 hm0).1
      obtain ⟨⟨r', s1, s2, s3⟩, -⟩ := hm0
      have h400 := hl r' s1 s2
      rw [e, nI_ltI (by omega) (by omega)] at hle
      omega
    · have e := (a3 q0 hq0 hu0).2 (fun r hr hs => hex ⟨r, hr, hs⟩)
      rw [e] at hle
      exact absurd (show nI (lv p) < nI 2147483647 from nI_lt (by omega) (by omega)) hle
  obtain ⟨m0, hm0, hmp⟩ := hne
  have key : ∀ q, q < n * n → U q → ∀ m, wl_least n (fun r => S q r ∨ (q = q0 ∧ r = p)) lv q m ↔ wl_least n (S q) lv q m := by
    intro q hq hu m
    by_cases e : q = q0
    · subst e
      have big : wl_least n (fun r => S q r ∨ (q = q ∧ r = p)) lv q m0 := by
        obtain ⟨⟨r, r1, r2, r3⟩, r4⟩ := hm0
        refine ⟨⟨r, r1, Or.inl r2, r3⟩, fun r' s1 s2 => ?_⟩
        rcases s2 with s2 | ⟨-, rfl⟩
        · exact r4 r' s1 s2
        · exact hmp
      exact ⟨fun hm => by rw [wl_least_one hm big]; exact hm0, fun hm => by rw [wl_least_one hm hm0]; exact big⟩
    · have hS : ∀ r, wl_adj n q r → ((S q r ∨ (q = q0 ∧ r = p)) ↔ S q r) := fun r _ => ⟨fun z => z.elim id (fun z => absurd z.1 e), Or.inl⟩
      exact ⟨wl_least_congr hS (fun _ _ _ => rfl), wl_least_congr (fun r hr => (hS r hr).symm) (fun _ _ _ => rfl)⟩
  refine ⟨a1, a2, fun q hq hu => ⟨fun m hm => (a3 q hq hu).1 m ((key q hq hu m).mp hm), fun hn => (a3 q hq hu).2 (fun r hr hs => hn r hr (Or.inl hs))⟩, fun z hz => ?_⟩
  obtain ⟨r, q, h1, h2, h3, h4⟩ := a4 z hz
  refine ⟨r, q, h1, h2, h3, fun hu => ?_⟩
  obtain ⟨m, m1, m2⟩ := h4 hu
  exact ⟨m, (key q h2 hu m).mpr m1, m2⟩
/-- p counts beside q0 from now on: it is the lowest there, and a key comes in -/
theorem ww_H.yes {n : Nat} {h : Nat → Nat} {S : Nat → Nat → Prop} {U : Nat → Prop} {lv : Nat → Nat} {c p q0 : Nat} {τ u : sw_Sg} (a : ww_H n h S U lv c τ) (n24 : n ≤ 24) (hq0 : q0 < n * n) (hu0 : U q0) (hadj : wl_adj n q0 p) (hl : ∀ r, wl_adj n q0 r → S q0 r → lv r ≤ 400) (hp : lv p ≤ 400) (hh : ∀ q, q < n * n → h q ≤ 400) (hlt : nI (lv p) < τ 47 q0)
    (u6 : u 6 1 = nI (c + 1)) (uok : hp_ok (u 58) (c + 1)) (uin : ∀ z, hp_in (u 58) (c + 1) z ↔ hp_in (τ 58) c z ∨ z = wl_key (wt_mx (lv p) (h q0)) q0) (u47 : u 47 = upd (τ 47) q0 (nI (lv p))) : ww_H n h (fun q r => S q r ∨ (q = q0 ∧ r = p)) U lv (c + 1) u := by
  obtain ⟨a1, a2, a3, a4⟩ := a
  have big : wl_least n (fun r => S q0 r ∨ (q0 = q0 ∧ r = p)) lv q0 (lv p) := by
    refine ⟨⟨p, hadj, Or.inr ⟨rfl, rfl⟩, rfl⟩, fun r s1 s2 => ?_⟩
    rcases s2 with s2 | ⟨-, rfl⟩
    · obtain ⟨m0, hm0⟩ := wl_least_ex (S := S q0) (lv := lv) s1 s2
      have e := ((a3 q0 hq0 hu0).1 m0 hm0).1
      have := hm0.2 r s1 s2
      obtain ⟨r', t1, t2, t3⟩ := hm0.1
      have := hl r' t1 t2
      rw [e, nI_ltI (by omega) (by omega)] at hlt
      omega
    · exact Nat.le_refl _
  have oth : ∀ q, q ≠ q0 → ∀ m, wl_least n (fun r => S q r ∨ (q = q0 ∧ r = p)) lv q m ↔ wl_least n (S q) lv q m := by
    intro q e m
    have hS : ∀ r, wl_adj n q r → ((S q r ∨ (q = q0 ∧ r = p)) ↔ S q r) := fun r _ => ⟨fun z => z.elim id (fun z => absurd z.1 e), Or.inl⟩
    exact ⟨wl_least_congr hS (fun _ _ _ => rfl), wl_least_congr (fun r hr => (hS r hr).symm) (fun _ _ _ => rfl)⟩
  refine ⟨u6, uok, fun q hq hu => ?_, fun z hz => ?_⟩
  · by_cases e : q = q0
    · subst e
      refine ⟨fun m hm => ?_, fun hn => absurd (Or.inr ⟨rfl, rfl⟩) (hn p hadj)⟩
      rw [wl_least_one hm big, u47, upd_i]
      exact ⟨rfl, (uin _).mpr (Or.inr rfl)⟩
    · refine ⟨fun m hm => ?_, fun hn => ?_⟩
      · have := (a3 q hq hu).1 m ((oth q e m).mp hm)
        rw [u47, upd_o e]
        exact ⟨this.1, (uin _).mpr (Or.inl this.2)⟩
      · rw [u47, upd_o e]
        exact (a3 q hq hu).2 (fun r hr hs => hn r hr (Or.inl hs))
  · have hmx : wt_mx (lv p) (h q0) ≤ 400 := by
      have := hh q0 hq0
      unfold wt_mx
      split <;> omega
    rcases (uin z).mp hz with hz | rfl
    · obtain ⟨r, q, h1, h2, h3, h4⟩ := a4 z hz
      refine ⟨r, q, h1, h2, h3, fun hu => ?_⟩
      obtain ⟨m, m1, m2⟩ := h4 hu
      by_cases e : q = q0
      · subst e
        refine ⟨lv p, big, Nat.le_trans ?_ m2⟩
        have e1 := ((a3 q hq0 hu).1 m m1).1
        obtain ⟨⟨r', t1, t2, t3⟩, -⟩ := m1
        have := hl r' t1 t2
        rw [e1, nI_ltI (by omega) (by omega)] at hlt
        unfold wt_mx
        split <;> split <;> omega
      · exact ⟨m, (oth q e m).mpr m1, m2⟩
    · exact ⟨_, q0, hmx, hq0, rfl, fun _ => ⟨lv p, big, Nat.le_refl _⟩⟩
end
section
/-! WATER in the class: a place is taken -/
def ww_G (n : Nat) (h : Nat → Nat) (τ : sw_Sg) : Prop := gr_T τ n ∧ ∀ p, p < n * n → τ 40 p = nI (h p) ∧ h p ≤ 400
def ww_R (n K : Nat) (T lv od : Nat → Nat) (D : Nat → Option Nat) (O : Nat → Nat) (τ : sw_Sg) : Prop :=
  τ 2 8 = nI K ∧ (∀ j, j < K → τ 46 j = nI (T j)) ∧ (∀ q, q < n * n → wt_tk T K q → τ 45 q = nI (od q) ∧ od q < 576 ∧ τ 41 q = nI (lv q) ∧ lv q ≤ 400 ∧ τ 42 q = gr_v (D q) ∧ τ 44 q = nI (O q)) ∧ (∀ q, q < n * n → ¬ wt_tk T K q → τ 45 q = -6)
theorem ww_G.fr {l : List Nat} {σ u : sw_Sg} {n : Nat} {h : Nat → Nat} (a : ww_G n h σ) (hf : fr_ l σ u) (h1 : 1 ∉ l) (h2 : 37 ∉ l) (h3 : 38 ∉ l) (h4 : 40 ∉ l) : ww_G n h u :=
  ⟨a.1.fr hf h1 h2 h3, fun p hp => by rw [hf 40 h4]; exact a.2 p hp⟩
theorem wt_tk_snoc {T : Nat → Nat} {K p q : Nat} : wt_tk (va_up T K p) (K + 1) q ↔ wt_tk T K q ∨ q = p := by
  constructor
  · rintro ⟨i, i1, i2⟩
    by_cases e : i = K
    · subst e; right; rw [← i2]; simp [va_up]
    · left; exact ⟨i, by omega, by rw [← i2]; simp [va_up, e]⟩
  · rintro (⟨i, i1, i2⟩ | rfl)
    · exact ⟨i, by omega, by rw [← i2]; simp [va_up, show i ≠ K by omega]⟩
    · exact ⟨K, by omega, by simp [va_up]⟩
theorem up_i {α : Type} {f : Nat → α} {k : Nat} {v : α} : va_up f k v k = v := by simp [va_up]
theorem up_o {α : Type} {f : Nat → α} {k j : Nat} {v : α} (h : j ≠ k) : va_up f k v j = f j := by simp [va_up, h]
theorem ww_H.sub {n : Nat} {h : Nat → Nat} {S : Nat → Nat → Prop} {U U' : Nat → Prop} {lv : Nat → Nat} {c : Nat} {τ : sw_Sg} (a : ww_H n h S U lv c τ) (hU : ∀ q, U' q → U q) : ww_H n h S U' lv c τ := by
  obtain ⟨a1, a2, a3, a4⟩ := a
  refine ⟨a1, a2, fun q hq hu => a3 q hq (hU q hu), fun z hz => ?_⟩
  obtain ⟨r, q, h1, h2, h3, h4⟩ := a4 z hz
  exact ⟨r, q, h1, h2, h3, fun hu => h4 (hU q hu)⟩
theorem sw_max_N {a b : Nat} (ha : a < 2 ^ 31) (hb : b < 2 ^ 31) : sw_max (nI a) (nI b) = nI (wt_mx a b) := by
  unfold sw_max wt_mx
  by_cases h : a < b
  · rw [if_pos h, if_pos (nI_lt h hb)]
  · rw [if_neg h, if_neg (nI_nlt (by omega) ha)]
theorem nI_n6 {k : Nat} (h : k < 2 ^ 31) : ¬ nI k = -6 := fun e => absurd (nI_pos' h) (by rw [e]; decide)
section WTAKE
variable {X : sw_X} {σ : sw_Sg} {x y v : Int32} {n p q K c l o : Nat} {h T lv od O : Nat → Nat} {D : Nat → Option Nat} {r : Option Nat}
theorem C_X6_take (hG : ww_G n h σ) (hR : ww_R n K T lv od D O σ) (hx : x = nI p) (hp : p < n * n) (hn : ¬ wt_tk T K p) (hK : K < 576) (e1 : σ 41 p = nI l) (l4 : l ≤ 400) (e2 : σ 42 p = gr_v r) (e3 : σ 44 p = nI o)
    (hH : ww_H n h (fun _ r => wt_tk T K r) (fun q => ¬ wt_tk T K q) lv c σ) (hc : c + 4 ≤ 2308) :
    sw_Mv X 2 mX6_take [.ref (sw_ad X 2), .ref (sw_ad X 1), .ref (sw_ad X 6), .int x] σ (fun u => fr_ [2, 6, 45, 46, 47, 58] σ u ∧ ww_R n (K + 1) (va_up T K p) (va_up lv p l) (va_up od p K) (va_up D p r) (va_up O p o) u ∧
      ∃ c', c' ≤ c + 4 ∧ ww_H n h (fun _ r => wt_tk (va_up T K p) (K + 1) r) (fun q => ¬ wt_tk (va_up T K p) (K + 1) q) (va_up lv p l) c' u) := by
  subst hx
  have n24 : n ≤ 24 := hG.1.2.1
  have h576 := gr_576 n24
  obtain ⟨r1, r2, r3, r4⟩ := hR
  refine sw_ME.ofF (by decide +kernel) rfl (Nat.le_of_ble_eq_true rfl) rfl ?_
  have lv4 : ∀ q r, q < n * n → wl_adj n q r → (wt_tk T K r ∨ r = p) → va_up lv p l r ≤ 400 := by
    rintro q r hq ⟨e, e4, ea⟩ hr
    have hrl := (gr_nb_lt hq ea).1
    by_cases z : r = p
    · subst z; rw [up_i]; exact l4
    · rw [up_o z]
      exact (r3 r hrl (hr.resolve_right z)).2.2.2.1
  have loop : ∀ (m e : Nat), e + m = 4 → ∀ (B : Value) (ce : Nat) (σ1 τ : sw_Sg), fr_ [2, 45, 46] σ σ1 → ww_R n (K + 1) (va_up T K p) (va_up lv p l) (va_up od p K) (va_up D p r) (va_up O p o) σ1 → fr_ [6, 47, 58] σ1 τ → ce ≤ c + e →
      ww_H n h (fun q r => wt_tk T K r ∨ (r = p ∧ ∃ e', e' < e ∧ gr_nb n p e' = some q)) (fun q => ¬ wt_tk (va_up T K p) (K + 1) q) (va_up lv p l) ce τ →
      SW X 2 mX6_take sw_E0 (sw_Rv (fun u => fr_ [2, 6, 45, 46, 47, 58] σ u ∧ ww_R n (K + 1) (va_up T K p) (va_up lv p l) (va_up od p K) (va_up D p r) (va_up O p o) u ∧
      ∃ c', c' ≤ c + 4 ∧ ww_H n h (fun _ r => wt_tk (va_up T K p) (K + 1) r) (fun q => ¬ wt_tk (va_up T K p) (K + 1) q) (va_up lv p l) c' u)) 37 [.ref (sw_ad X 2), .ref (sw_ad X 1), .ref (sw_ad X 6), .int (nI p), .int (nI e), B] [] τ := by
    intro m
    induction m with
    | zero =>
      intro e he B ce σ1 τ f1 hR1 f2 hce hH1
      obtain rfl : e = 4 := by omega
      refine SW.iload (q := 39) (i := 4) dX6_take_37 rfl rfl ?_
      refine SW.iconst (q := 40) (v := 4) dX6_take_39 (by decide) rfl ?_
      refine SW.icmp_ge (q := 43) (tgt := 142) dX6_take_40 (by decide) rfl (fun _ => ?_) (fun c40 => absurd ((by decide)) c40)
      refine SW.vretR rfl dX6_take_142 ?_
      refine ⟨fr_tr (fr_sub f1 (by decide)) f2 (by decide), ?_, ce, hce, hH1.congr (fun q hq hu r ha => ?_) (fun _ _ _ _ _ _ => rfl)⟩
      · obtain ⟨q1, q2, q3, q4⟩ := hR1
        refine ⟨by rw [f2 2 (by decide)]; exact q1, fun j hj => by rw [f2 46 (by decide)]; exact q2 j hj, fun q hq ht => ?_, fun q hq ht => by rw [f2 45 (by decide)]; exact q4 q hq ht⟩
        rw [f2 45 (by decide), f2 41 (by decide), f2 42 (by decide), f2 44 (by decide)]
        exact q3 q hq ht
      · rw [wt_tk_snoc]
        constructor
        · rintro (a | ⟨a, -⟩)
          · exact Or.inl a
          · exact Or.inr a
        · rintro (a | rfl)
          · exact Or.inl a
          · obtain ⟨e', e1, e2⟩ := wl_adj_sym hq ha
            exact Or.inr ⟨rfl, e', e1, e2⟩
    | succ m ih =>
      intro e he B ce σ1 τ f1 hR1 f2 hce hH1
      have f3 : fr_ [2, 6, 45, 46, 47, 58] σ τ := fr_tr (fr_sub f1 (by decide)) f2 (by decide)
      have hG3 := hG.fr f3 (by decide) (by decide) (by decide) (by decide)
      have same : (∀ q0, gr_nb n p e = some q0 → wt_tk (va_up T K p) (K + 1) q0) → ww_H n h (fun q r => wt_tk T K r ∨ (r = p ∧ ∃ e', e' < e + 1 ∧ gr_nb n p e' = some q)) (fun q => ¬ wt_tk (va_up T K p) (K + 1) q) (va_up lv p l) ce τ := by
        intro hq0
        refine hH1.congr (fun q hq hu r ha => ?_) (fun _ _ _ _ _ _ => rfl)
        constructor
        · rintro (a | ⟨a, e', b1, b2⟩)
          · exact Or.inl a
          · exact Or.inr ⟨a, e', by omega, b2⟩
        · rintro (a | ⟨a, e', b1, b2⟩)
          · exact Or.inl a
          · by_cases z : e' = e
            · subst z; exact absurd (hq0 q b2) hu
            · exact Or.inr ⟨a, e', by omega, b2⟩
      cases hq : gr_nb n p e with
      | none =>
        refine SW.iload (q := 39) (i := 4) dX6_take_37 rfl rfl ?_
        refine SW.iconst (q := 40) (v := 4) dX6_take_39 (by decide) rfl ?_
        refine SW.icmp_ge (q := 43) (tgt := 142) dX6_take_40 (by decide) rfl (fun c40 => absurd c40 ((nI_ge (a := e) (b := 4) (by omega) (by omega)))) (fun _ => ?_)
        refine SW.aload_n (q := 44) (i := 1) dX6_take_43 rfl rfl rfl ?_
        refine SW.iload_n (q := 45) (i := 3) dX6_take_44 rfl rfl rfl ?_
        refine SW.iload (q := 47) (i := 4) dX6_take_45 rfl rfl ?_
        refine SW.cF (q := 50) (C_X5_beside hG3.1 rfl rfl hp (by omega)) vX6_110 (by decide) rfl rfl rfl rfl (Nat.le_of_ble_eq_true rfl) dX6_take_47 rfl ?_
        rw [hq]
        refine SW.istore (q := 52) (i := 5) dX6_take_50 (by decide) rfl ?_
        refine SW.iload (q := 54) (i := 5) dX6_take_52 rfl rfl ?_
        refine SW.bipush (q := 56) (v := (-6)) dX6_take_54 (by decide) rfl ?_
        refine SW.icmp_eq (q := 59) (tgt := 136) dX6_take_56 (by decide) rfl (fun _ => ?_) (fun c56 => absurd (rfl) c56)
        refine SW.iinc (q := 139) (v := _ + 1) dX6_take_136 rfl rfl (by decide) rfl ?_
        refine SW.goto (q := 37) dX6_take_139 (by decide) ?_
        exact SW.eq (by rw [nI_1]; rfl) rfl rfl (ih (e + 1) (by omega) _ ce σ1 τ f1 hR1 f2 (by omega) (same (fun q0 z => by rw [hq] at z; cases z)))
      | some q0 =>
        obtain ⟨q0l, q0n, -⟩ := gr_nb_lt hp hq
        have q0i : gr_v (some q0) = nI q0 := rfl
        by_cases ht : wt_tk (va_up T K p) (K + 1) q0
        · have t45 := hR1.2.2.1 q0 q0l ht
          refine SW.iload (q := 39) (i := 4) dX6_take_37 rfl rfl ?_
          refine SW.iconst (q := 40) (v := 4) dX6_take_39 (by decide) rfl ?_
          refine SW.icmp_ge (q := 43) (tgt := 142) dX6_take_40 (by decide) rfl (fun c40 => absurd c40 ((nI_ge (a := e) (b := 4) (by omega) (by omega)))) (fun _ => ?_)
          refine SW.aload_n (q := 44) (i := 1) dX6_take_43 rfl rfl rfl ?_
          refine SW.iload_n (q := 45) (i := 3) dX6_take_44 rfl rfl rfl ?_
          refine SW.iload (q := 47) (i := 4) dX6_take_45 rfl rfl ?_
          refine SW.cF (q := 50) (C_X5_beside hG3.1 rfl rfl hp (by omega)) vX6_110 (by decide) rfl rfl rfl rfl (Nat.le_of_ble_eq_true rfl) dX6_take_47 rfl ?_
          rw [hq, q0i]
          refine SW.istore (q := 52) (i := 5) dX6_take_50 (by decide) rfl ?_
          refine SW.iload (q := 54) (i := 5) dX6_take_52 rfl rfl ?_
          refine SW.bipush (q := 56) (v := (-6)) dX6_take_54 (by decide) rfl ?_
          refine SW.icmp_eq (q := 59) (tgt := 136) dX6_take_56 (by decide) rfl (fun c56 => absurd c56 ((nI_n6 (by omega)))) (fun _ => ?_)
          refine SW.aload_n (q := 60) (i := 0) dX6_take_59 rfl rfl rfl ?_
          refine SW.getR (q := 63) (i := 2) (j := 19) fX6_29 rfl rfl dX6_take_60 rfl ?_
          refine SW.iload (q := 65) (i := 5) dX6_take_63 rfl rfl ?_
          refine SW.cF (q := 68) (C_X3_atn (i := 19) (j := 45) (n := 576) rfl rfl (k := q0) rfl (by omega)) vX6_76 (by decide) rfl rfl rfl rfl (Nat.le_of_ble_eq_true rfl) dX6_take_65 rfl ?_
          refine SW.bipush (q := 70) (v := (-6)) dX6_take_68 (by decide) rfl ?_
          refine SW.icmp_ne (q := 73) (tgt := 136) dX6_take_70 (by decide) rfl (fun _ => ?_) (fun c70 => absurd c70 ((by rw [f2 45 (by decide), t45.1]; exact nI_n6 (by omega))))
          refine SW.iinc (q := 139) (v := _ + 1) dX6_take_136 rfl rfl (by decide) rfl ?_
          refine SW.goto (q := 37) dX6_take_139 (by decide) ?_
          exact SW.eq (by rw [nI_1]; rfl) rfl rfl (ih (e + 1) (by omega) _ ce σ1 τ f1 hR1 f2 (by omega) (same (fun q1 z => by rw [hq] at z; cases z; exact ht)))
        · have t45 := hR1.2.2.2 q0 q0l ht
          have sadj : wl_adj n q0 p := ⟨3 - e, by omega, gr_nb_sym hp hq⟩
          have t41 : τ 41 p = nI (va_up lv p l p) := by rw [up_i, f3 41 (by decide)]; exact e1
          have hlS : ∀ r, wl_adj n q0 r → (wt_tk T K r ∨ (r = p ∧ ∃ e', e' < e ∧ gr_nb n p e' = some q0)) → va_up lv p l r ≤ 400 := fun r ha hs => lv4 q0 r q0l ha (hs.elim Or.inl (fun z => Or.inr z.1))
          have hS : ∀ q, q < n * n → ¬ wt_tk (va_up T K p) (K + 1) q → ∀ r, wl_adj n q r → (((wt_tk T K r ∨ (r = p ∧ ∃ e', e' < e ∧ gr_nb n p e' = some q)) ∨ (q = q0 ∧ r = p)) ↔ (wt_tk T K r ∨ (r = p ∧ ∃ e', e' < e + 1 ∧ gr_nb n p e' = some q))) := by
            intro q hq1 hu r ha
            constructor
            · rintro ((a | ⟨a, e', b1, b2⟩) | ⟨rfl, rfl⟩)
              · exact Or.inl a
              · exact Or.inr ⟨a, e', by omega, b2⟩
              · exact Or.inr ⟨rfl, e, by omega, hq⟩
            · rintro (a | ⟨a, e', b1, b2⟩)
              · exact Or.inl (Or.inl a)
              · by_cases z : e' = e
                · subst z; rw [hq] at b2; cases b2; exact Or.inr ⟨rfl, a⟩
                · exact Or.inl (Or.inr ⟨a, e', by omega, b2⟩)
          refine SW.iload (q := 39) (i := 4) dX6_take_37 rfl rfl ?_
          refine SW.iconst (q := 40) (v := 4) dX6_take_39 (by decide) rfl ?_
          refine SW.icmp_ge (q := 43) (tgt := 142) dX6_take_40 (by decide) rfl (fun c40 => absurd c40 ((nI_ge (a := e) (b := 4) (by omega) (by omega)))) (fun _ => ?_)
          refine SW.aload_n (q := 44) (i := 1) dX6_take_43 rfl rfl rfl ?_
          refine SW.iload_n (q := 45) (i := 3) dX6_take_44 rfl rfl rfl ?_
          refine SW.iload (q := 47) (i := 4) dX6_take_45 rfl rfl ?_
          refine SW.cF (q := 50) (C_X5_beside hG3.1 rfl rfl hp (by omega)) vX6_110 (by decide) rfl rfl rfl rfl (Nat.le_of_ble_eq_true rfl) dX6_take_47 rfl ?_
          rw [hq, q0i]
          refine SW.istore (q := 52) (i := 5) dX6_take_50 (by decide) rfl ?_
          refine SW.iload (q := 54) (i := 5) dX6_take_52 rfl rfl ?_
          refine SW.bipush (q := 56) (v := (-6)) dX6_take_54 (by decide) rfl ?_
          refine SW.icmp_eq (q := 59) (tgt := 136) dX6_take_56 (by decide) rfl (fun c56 => absurd c56 ((nI_n6 (by omega)))) (fun _ => ?_)
          refine SW.aload_n (q := 60) (i := 0) dX6_take_59 rfl rfl rfl ?_
          refine SW.getR (q := 63) (i := 2) (j := 19) fX6_29 rfl rfl dX6_take_60 rfl ?_
          refine SW.iload (q := 65) (i := 5) dX6_take_63 rfl rfl ?_
          refine SW.cF (q := 68) (C_X3_atn (i := 19) (j := 45) (n := 576) rfl rfl (k := q0) rfl (by omega)) vX6_76 (by decide) rfl rfl rfl rfl (Nat.le_of_ble_eq_true rfl) dX6_take_65 rfl ?_
          refine SW.bipush (q := 70) (v := (-6)) dX6_take_68 (by decide) rfl ?_
          refine SW.icmp_ne (q := 73) (tgt := 136) dX6_take_70 (by decide) rfl (fun c70 => absurd ((by rw [f2 45 (by decide)]; exact t45)) c70) (fun _ => ?_)
          refine SW.aload_n (q := 74) (i := 0) dX6_take_73 rfl rfl rfl ?_
          refine SW.getR (q := 77) (i := 2) (j := 15) fX6_14 rfl rfl dX6_take_74 rfl ?_
          refine SW.iload_n (q := 78) (i := 3) dX6_take_77 rfl rfl rfl ?_
          refine SW.cF (q := 81) (C_X3_atn (i := 15) (j := 41) (n := 576) rfl rfl (k := p) rfl (by omega)) vX6_76 (by decide) rfl rfl rfl rfl (Nat.le_of_ble_eq_true rfl) dX6_take_78 rfl ?_
          refine SW.aload_n (q := 82) (i := 0) dX6_take_81 rfl rfl rfl ?_
          refine SW.getR (q := 85) (i := 2) (j := 21) fX6_35 rfl rfl dX6_take_82 rfl ?_
          refine SW.iload (q := 87) (i := 5) dX6_take_85 rfl rfl ?_
          refine SW.cF (q := 90) (C_X3_atn (i := 21) (j := 47) (n := 576) rfl rfl (k := q0) rfl (by omega)) vX6_76 (by decide) rfl rfl rfl rfl (Nat.le_of_ble_eq_true rfl) dX6_take_87 rfl ?_
          refine SW.icmp_ge (q := 93) (tgt := 136) dX6_take_90 (by decide) rfl (fun c90 => ?_) (fun c90 => ?_)
          · refine SW.iinc (q := 139) (v := _ + 1) dX6_take_136 rfl rfl (by decide) rfl ?_
            refine SW.goto (q := 37) dX6_take_139 (by decide) ?_
            first
            | exact SW.eq (by rw [nI_1]; rfl) rfl rfl (ih (e + 1) (by omega) _ ce σ1 τ f1 hR1 f2 (by omega) ((hH1.no q0l ht hlS (by rw [up_i]; exact l4) (by rw [← t41]; exact Int32.not_lt.mpr c90)).congr hS (fun _ _ _ _ _ _ => rfl)))
            | exact SW.eq (by rw [nI_1]; rfl) rfl rfl (ih (e + 1) (by omega) _ (ce + 1) σ1 u133 f1 hR1 (fr_tr (fr_up f2 (by decide)) s1 (by decide)) (by omega) ((hH1.yes n24 q0l ht sadj hlS (by rw [up_i]; exact l4) (fun q hq => (hG3.2 q hq).2) (by rw [← t41]; exact Int32.not_le.mp c90) s2 s3 s4 (by rw [s1 47 (by decide), sw_up_i, t41])).congr hS (fun _ _ _ _ _ _ => rfl)))
          · refine SW.aload_n (q := 94) (i := 0) dX6_take_93 rfl rfl rfl ?_
            refine SW.getR (q := 97) (i := 2) (j := 21) fX6_35 rfl rfl dX6_take_94 rfl ?_
            refine SW.iload (q := 99) (i := 5) dX6_take_97 rfl rfl ?_
            refine SW.aload_n (q := 100) (i := 0) dX6_take_99 rfl rfl rfl ?_
            refine SW.getR (q := 103) (i := 2) (j := 15) fX6_14 rfl rfl dX6_take_100 rfl ?_
            refine SW.iload_n (q := 104) (i := 3) dX6_take_103 rfl rfl rfl ?_
            refine SW.cF (q := 107) (C_X3_atn (i := 15) (j := 41) (n := 576) rfl rfl (k := p) rfl (by omega)) vX6_76 (by decide) rfl rfl rfl rfl (Nat.le_of_ble_eq_true rfl) dX6_take_104 rfl ?_
            refine SW.cG (q := 110) (C_X3_putn (i := 21) (j := 47) (n := 576) rfl rfl (k := q0) rfl (by omega)) vX6_84 (by decide) rfl rfl rfl rfl (Nat.le_of_ble_eq_true rfl) dX6_take_107 rfl ?_
            have t41b : sw_up τ 47 q0 (τ 41 p) 41 p = nI (va_up lv p l p) := by rw [sw_un (by decide)]; exact t41
            have t40b : sw_up τ 47 q0 (τ 41 p) 40 q0 = nI (h q0) := by rw [sw_un (by decide)]; exact (hG3.2 q0 q0l).1
            have hh0 := (hG3.2 q0 q0l).2
            refine SW.aload_n (q := 111) (i := 2) dX6_take_110 rfl rfl rfl ?_
            refine SW.aload_n (q := 112) (i := 0) dX6_take_111 rfl rfl rfl ?_
            refine SW.getR (q := 115) (i := 2) (j := 15) fX6_14 rfl rfl dX6_take_112 rfl ?_
            refine SW.iload_n (q := 116) (i := 3) dX6_take_115 rfl rfl rfl ?_
            refine SW.cF (q := 119) (C_X3_atn (i := 15) (j := 41) (n := 576) rfl rfl (k := p) rfl (by omega)) vX6_76 (by decide) rfl rfl rfl rfl (Nat.le_of_ble_eq_true rfl) dX6_take_116 rfl ?_
            refine SW.aload_n (q := 120) (i := 1) dX6_take_119 rfl rfl rfl ?_
            refine SW.getR (q := 123) (i := 1) (j := 14) fX6_73 rfl rfl dX6_take_120 rfl ?_
            refine SW.iload (q := 125) (i := 5) dX6_take_123 rfl rfl ?_
            refine SW.cF (q := 128) (C_X3_atn (i := 14) (j := 40) (n := 576) rfl rfl (k := q0) rfl (by omega)) vX6_76 (by decide) rfl rfl rfl rfl (Nat.le_of_ble_eq_true rfl) dX6_take_125 rfl ?_
            refine SW.sF (q := 131) (C_max) vX6_114 (by decide) rfl rfl (Nat.le_of_ble_eq_true rfl) dX6_take_128 rfl ?_
            refine SW.iload (q := 133) (i := 5) dX6_take_131 rfl rfl ?_
            refine SW.cV (q := 136) (C_X0_insert (c := ce) (by rw [sw_un (by decide)]; exact hH1.1) (by omega) (by rw [sw_un (by decide)]; exact hH1.2.1)) vX6_119 (by decide) rfl rfl rfl rfl (Nat.le_of_ble_eq_true rfl) dX6_take_133 rfl (fun u133 r133 => ?_)
            obtain ⟨s1, s2, s3, s4⟩ := r133
            have hmx : wt_mx (va_up lv p l p) (h q0) ≤ 400 := by
              rw [up_i]; unfold wt_mx; split <;> omega
            rw [t41b, t40b, sw_max_N (by rw [up_i]; omega) (by omega), hp_key_e (by omega) (by omega), sw_un (by decide)] at s4
            refine SW.iinc (q := 139) (v := _ + 1) dX6_take_136 rfl rfl (by decide) rfl ?_
            refine SW.goto (q := 37) dX6_take_139 (by decide) ?_
            first
            | exact SW.eq (by rw [nI_1]; rfl) rfl rfl (ih (e + 1) (by omega) _ ce σ1 τ f1 hR1 f2 (by omega) ((hH1.no q0l ht hlS (by rw [up_i]; exact l4) (by rw [← t41]; exact Int32.not_lt.mpr c90)).congr hS (fun _ _ _ _ _ _ => rfl)))
            | exact SW.eq (by rw [nI_1]; rfl) rfl rfl (ih (e + 1) (by omega) _ (ce + 1) σ1 u133 f1 hR1 (fr_tr (fr_up f2 (by decide)) s1 (by decide)) (by omega) ((hH1.yes n24 q0l ht sadj hlS (by rw [up_i]; exact l4) (fun q hq => (hG3.2 q hq).2) (by rw [← t41]; exact Int32.not_le.mp c90) s2 s3 s4 (by rw [s1 47 (by decide), sw_up_i, t41])).congr hS (fun _ _ _ _ _ _ => rfl)))
  refine SW.aload_n (q := 1) (i := 0) dX6_take_0 rfl rfl rfl ?_
  refine SW.getR (q := 4) (i := 2) (j := 19) fX6_29 rfl rfl dX6_take_1 rfl ?_
  refine SW.iload_n (q := 5) (i := 3) dX6_take_4 rfl rfl rfl ?_
  refine SW.aload_n (q := 6) (i := 0) dX6_take_5 rfl rfl rfl ?_
  refine SW.getI (q := 9) (i := 2) fX6_41 rfl rfl dX6_take_6 rfl ?_
  refine SW.cG (q := 12) (C_X3_putn (i := 19) (j := 45) (n := 576) rfl rfl (k := p) rfl (by omega)) vX6_84 (by decide) rfl rfl rfl rfl (Nat.le_of_ble_eq_true rfl) dX6_take_9 rfl ?_
  refine SW.aload_n (q := 13) (i := 0) dX6_take_12 rfl rfl rfl ?_
  refine SW.getR (q := 16) (i := 2) (j := 20) fX6_32 rfl rfl dX6_take_13 rfl ?_
  refine SW.aload_n (q := 17) (i := 0) dX6_take_16 rfl rfl rfl ?_
  refine SW.getI (q := 20) (i := 2) fX6_41 rfl rfl dX6_take_17 rfl ?_
  refine SW.iload_n (q := 21) (i := 3) dX6_take_20 rfl rfl rfl ?_
  refine SW.cG (q := 24) (C_X3_putn (i := 20) (j := 46) (n := 576) rfl rfl (k := K) (by rw [sw_un (by decide)]; exact r1) (by omega)) vX6_84 (by decide) rfl rfl rfl rfl (Nat.le_of_ble_eq_true rfl) dX6_take_21 rfl ?_
  refine SW.aload_n (q := 25) (i := 0) dX6_take_24 rfl rfl rfl ?_
  refine SW.dup (q := 26) dX6_take_25 rfl rfl ?_
  refine SW.getI (q := 29) (i := 2) fX6_41 rfl rfl dX6_take_26 rfl ?_
  refine SW.iconst (q := 30) (v := 1) dX6_take_29 (by decide) rfl ?_
  refine SW.iadd (q := 31) dX6_take_30 rfl ?_
  refine SW.putI (q := 34) (i := 2) pX6_41 rfl rfl dX6_take_31 rfl ?_
  refine SW.iconst (q := 35) (v := 0) dX6_take_34 (by decide) rfl ?_
  refine SW.istore (q := 37) (i := 4) dX6_take_35 (by decide) rfl ?_
  refine loop 4 0 rfl _ c _ _ (fr_up (fr_up (fr_up fr_rf (by decide)) (by decide)) (by decide)) ⟨?_, fun j hj => ?_, fun q hq ht => ?_, fun q hq ht => ?_⟩ fr_rf (by omega) ?_
  · rw [sw_i1, sw_un (by decide), sw_un (by decide), r1, nI_1]
  · rw [sw_un (by decide)]
    by_cases z : j = K
    · subst z; rw [sw_i1, up_i]
    · rw [sw_o1 z, sw_un (by decide), up_o z]; exact r2 j (by omega)
  · rw [sw_un (show 45 ≠ 2 by decide), sw_un (show 41 ≠ 2 by decide), sw_un (show 42 ≠ 2 by decide), sw_un (show 44 ≠ 2 by decide), sw_un (show 45 ≠ 46 by decide), sw_un (show 41 ≠ 46 by decide), sw_un (show 42 ≠ 46 by decide), sw_un (show 44 ≠ 46 by decide), sw_un (show 41 ≠ 45 by decide), sw_un (show 42 ≠ 45 by decide), sw_un (show 44 ≠ 45 by decide)]
    by_cases z : q = p
    · subst z; rw [sw_i1, up_i, up_i, up_i, up_i]; exact ⟨r1, hK, e1, l4, e2, e3⟩
    · rw [sw_o1 z, up_o z, up_o z, up_o z, up_o z]
      exact r3 q hq ((wt_tk_snoc.mp ht).resolve_right z)
  · have ht2 := fun z => ht (wt_tk_snoc.mpr z)
    rw [sw_un (by decide), sw_un (by decide), sw_o1 (fun z => ht2 (Or.inr z))]
    exact r4 q hq (fun z => ht2 (Or.inl z))
  · refine ww_H.fr (τ := σ) ?_ (by rw [sw_un (by decide), sw_un (by decide), sw_un (by decide)]) (by rw [sw_un (by decide), sw_un (by decide), sw_un (by decide)]) (by rw [sw_un (by decide), sw_un (by decide), sw_un (by decide)])
    refine (hH.sub (fun q hu z => hu (wt_tk_snoc.mpr (Or.inl z)))).congr (fun q hq hu r ha => ?_) (fun q r hq hu ha hs => ?_)
    · exact ⟨Or.inl, fun z => z.elim id (fun z => absurd z.2.choose_spec.1 (Nat.not_lt_zero _))⟩
    · rw [up_o (show r ≠ p from fun z => hn (by rw [← z]; exact hs))]
end WTAKE
end
section
/-! WATER in the class: outlets, then the others -/
theorem inj_le {M N : Nat} {f : Nat → Nat} (h1 : ∀ i, i < N → f i < M) (h2 : ∀ i j, i < N → j < N → f i = f j → i = j) : N ≤ M := by
  rcases Nat.lt_or_ge M N with q | q
  · obtain ⟨i, i1, i2⟩ := wt_pig N f (fun i hi => Nat.lt_trans (h1 i hi) q) h2 M q
    have := h1 i i1
    omega
  · exact q
theorem wt_K {n : Nat} {h : Nat → Nat} {sea K p : Nat} {T lv od : Nat → Nat} {D : Nat → Option Nat} (a : wt_ok n h sea K T lv od D) (hp : p < n * n) (hn : ¬ wt_tk T K p) : K < n * n := by
  have h1 : K ≤ n * n := inj_le (fun i hi => (a.1 i hi).1) (fun _ _ hi hj e => wt_inj a.1 hi hj e)
  rcases Nat.lt_or_ge K (n * n) with q | q
  · exact q
  · obtain rfl : K = n * n := by omega
    exact absurd (wt_all a p hp) hn
theorem wt_full {n : Nat} {h : Nat → Nat} {sea K : Nat} {T lv od : Nat → Nat} {D : Nat → Option Nat} (a : wt_ok n h sea K T lv od D) (hall : ∀ p, p < n * n → wt_tk T K p) : K = n * n := by
  have h1 : K ≤ n * n := inj_le (fun i hi => (a.1 i hi).1) (fun _ _ hi hj e => wt_inj a.1 hi hj e)
  have h2 : n * n ≤ K := by
    refine inj_le (f := od) (fun p hp => ?_) (fun p q hp hq e => ?_)
    · obtain ⟨i, i1, i2⟩ := hall p hp
      rw [← i2, (a.1 i i1).2]; exact i1
    · obtain ⟨i, i1, i2⟩ := hall p hp
      obtain ⟨j, j1, j2⟩ := hall q hq
      rw [← i2, ← j2, (a.1 i i1).2, (a.1 j j1).2] at e
      rw [← i2, ← j2, e]
  omega
/-- where the water comes to -/
def wo_ok (n K : Nat) (T : Nat → Nat) (D : Nat → Option Nat) (O : Nat → Nat) : Prop := ∀ q, q < n * n → wt_tk T K q → O q < n * n ∧ (D q = none → O q = q) ∧ ∀ r, D q = some r → O q = O r
def ww_I (n : Nat) (h : Nat → Nat) (sea K c : Nat) (T lv od : Nat → Nat) (D : Nat → Option Nat) (O : Nat → Nat) (τ : sw_Sg) : Prop :=
  ww_G n h τ ∧ wt_ok n h sea K T lv od D ∧ ww_R n K T lv od D O τ ∧ ww_H n h (fun _ r => wt_tk T K r) (fun q => ¬ wt_tk T K q) lv c τ ∧ wo_ok n K T D O
theorem wo_snoc {n K p o : Nat} {T : Nat → Nat} {D : Nat → Option Nat} {O : Nat → Nat} {r : Option Nat} (a : wo_ok n K T D O) (hp : p < n * n) (hn : ¬ wt_tk T K p) (ho : o < n * n) (hd : ∀ q r, q < n * n → wt_tk T K q → D q = some r → wt_tk T K r) (hr : (r = none ∧ o = p) ∨ ∃ r0, r = some r0 ∧ wt_tk T K r0 ∧ o = O r0) : wo_ok n (K + 1) (va_up T K p) (va_up D p r) (va_up O p o) := by
  intro q hq ht
  by_cases z : q = p
  · subst z
    rw [up_i, up_i]
    refine ⟨ho, fun e => ?_, fun r1 e => ?_⟩
    · rcases hr with ⟨-, h⟩ | ⟨r0, h, -⟩
      · exact h
      · rw [h] at e; cases e
    · rcases hr with ⟨h, -⟩ | ⟨r0, h, h2, h3⟩
      · rw [h] at e; cases e
      · rw [h] at e; cases e
        rw [up_o (fun z => hn (by rw [← z]; exact h2))]
        exact h3
  · have ht2 := (wt_tk_snoc.mp ht).resolve_right z
    rw [up_o z, up_o z]
    obtain ⟨a1, a2, a3⟩ := a q hq ht2
    refine ⟨a1, a2, fun r1 e => ?_⟩
    rw [up_o (fun z => hn (by rw [← z]; exact hd q r1 hq ht2 e))]
    exact a3 r1 e
theorem wt_D {n : Nat} {h : Nat → Nat} {sea K q r : Nat} {T lv od : Nat → Nat} {D : Nat → Option Nat} (a : wt_ok n h sea K T lv od D) (ht : wt_tk T K q) (hd : D q = some r) : wt_tk T K r ∧ r < n * n ∧ od r < od q ∧ q < n * n ∧ wl_adj n q r := by
  obtain ⟨i, i1, i2⟩ := ht
  have hi := a.1 i i1
  rcases a.2 i i1 with ⟨s1, s2, s3, s4⟩ | ⟨s1, r0, s2, s3, s4, s5⟩
  · rw [i2, hd] at s4; cases s4
  · rw [i2, hd] at s4; cases s4
    obtain ⟨⟨e, e4, ea⟩, ⟨j, j1, j2⟩, -⟩ := s2
    have hj := a.1 j (by omega)
    rw [i2] at hi
    refine ⟨⟨j, by omega, j2⟩, by rw [← j2]; exact hj.1, ?_, hi.1, ⟨e, e4, by rw [← i2]; exact ea⟩⟩
    rw [hi.2, ← j2, hj.2]; exact j1
section WRUN
variable {X : sw_X} {σ : sw_Sg} {x y v : Int32} {n p q K c l o m sea : Nat} {h T lv od O : Nat → Nat} {D : Nat → Option Nat} {r : Option Nat}
theorem C_X6_firstTakenBeside (hG : ww_G n h σ) (hR : ww_R n K T lv od D O σ) (hx : x = nI p) (hp : p < n * n) (hm : σ 47 p = nI m) (hml : wl_least n (wt_tk T K) lv p m) :
    sw_Mi X 2 mX6_firstTakenBeside [.ref (sw_ad X 2), .ref (sw_ad X 1), .int x] σ (fun v u => ∃ r0, v = nI r0 ∧ r0 < n * n ∧ wt_low n T lv od K p r0 ∧ lv r0 = m ∧ u = σ) := by
  subst hx
  have n24 : n ≤ 24 := hG.1.2.1
  have h576 := gr_576 n24
  obtain ⟨r1, r2, r3, r4⟩ := hR
  have hm400 : m ≤ 400 := by
    obtain ⟨⟨r, ⟨e, e4, ea⟩, hr2, hr3⟩, -⟩ := hml
    rw [← hr3]; exact (r3 r (gr_nb_lt hp ea).1 hr2).2.2.2.1
  refine sw_ME.ofF (by decide +kernel) rfl (Nat.le_of_ble_eq_true rfl) rfl ?_
  have loop : ∀ (k e : Nat), e + k = 4 → ∀ (B : Value) (fo : Option Nat), (fo = none → ∀ e' q, e' < e → gr_nb n p e' = some q → wt_tk T K q → lv q ≠ m) → (∀ f, fo = some f → f < n * n ∧ wl_adj n p f ∧ wt_tk T K f ∧ lv f = m ∧ ∀ e' q, e' < e → gr_nb n p e' = some q → wt_tk T K q → lv q = m → od f ≤ od q) →
      SW X 2 mX6_firstTakenBeside sw_E0 (sw_Ri (fun v u => ∃ r0, v = nI r0 ∧ r0 < n * n ∧ wt_low n T lv od K p r0 ∧ lv r0 = m ∧ u = σ)) 6 [.ref (sw_ad X 2), .ref (sw_ad X 1), .int (nI p), .int (gr_v fo), .int (nI e), B] [] σ := by
    intro k
    induction k with
    | zero =>
      intro e he B fo h0 h1
      obtain rfl : e = 4 := by omega
      refine SW.iload (q := 8) (i := 4) dX6_firstTakenBeside_6 rfl rfl ?_
      refine SW.iconst (q := 9) (v := 4) dX6_firstTakenBeside_8 (by decide) rfl ?_
      refine SW.icmp_ge (q := 12) (tgt := 97) dX6_firstTakenBeside_9 (by decide) rfl (fun _ => ?_) (fun c9 => absurd ((by decide)) c9)
      refine SW.iload_n (q := 98) (i := 3) dX6_firstTakenBeside_97 rfl rfl rfl ?_
      refine SW.iretR rfl rfl dX6_firstTakenBeside_98 ?_
      cases fo with
      | none =>
        obtain ⟨⟨r, ⟨e, e4, ea⟩, hr2, hr3⟩, -⟩ := hml
        exact absurd hr3 (h0 rfl e r e4 ea hr2)
      | some f =>
        obtain ⟨f1, f2, f3, f4, f5⟩ := h1 f rfl
        refine ⟨f, rfl, f1, ⟨f2, f3, fun e r' e4 ea ht => ?_⟩, f4, rfl⟩
        have := hml.2 r' ⟨e, e4, ea⟩ ht
        by_cases z : lv r' = m
        · exact Or.inr ⟨by omega, f5 e r' e4 ea ht z⟩
        · exact Or.inl (by omega)
    | succ k ih =>
      intro e he B fo h0 h1
      have keep : (∀ q, gr_nb n p e = some q → wt_tk T K q → lv q ≠ m ∨ ∃ f, fo = some f ∧ od f ≤ od q) → ∀ B', SW X 2 mX6_firstTakenBeside sw_E0 (sw_Ri (fun v u => ∃ r0, v = nI r0 ∧ r0 < n * n ∧ wt_low n T lv od K p r0 ∧ lv r0 = m ∧ u = σ)) 6 [.ref (sw_ad X 2), .ref (sw_ad X 1), .int (nI p), .int (gr_v fo), .int (nI (e + 1)), B'] [] σ := by
        intro hk B'
        refine ih (e + 1) (by omega) B' fo (fun hn e' q he' hq ht => ?_) (fun f hf => ?_)
        · by_cases z : e' = e
          · subst z
            rcases hk q hq ht with a | ⟨f, a, -⟩
            · exact a
            · rw [hn] at a; cases a
          · exact h0 hn e' q (by omega) hq ht
        · obtain ⟨f1, f2, f3, f4, f5⟩ := h1 f hf
          refine ⟨f1, f2, f3, f4, fun e' q he' hq ht hl => ?_⟩
          by_cases z : e' = e
          · subst z
            rcases hk q hq ht with a | ⟨f', a, b⟩
            · exact absurd hl a
            · rw [hf] at a; cases a; exact b
          · exact f5 e' q (by omega) hq ht hl
      cases hq : gr_nb n p e with
      | none =>
        refine SW.iload (q := 8) (i := 4) dX6_firstTakenBeside_6 rfl rfl ?_
        refine SW.iconst (q := 9) (v := 4) dX6_firstTakenBeside_8 (by decide) rfl ?_
        refine SW.icmp_ge (q := 12) (tgt := 97) dX6_firstTakenBeside_9 (by decide) rfl (fun c9 => absurd c9 ((nI_ge (a := e) (b := 4) (by omega) (by omega)))) (fun _ => ?_)
        refine SW.aload_n (q := 13) (i := 1) dX6_firstTakenBeside_12 rfl rfl rfl ?_
        refine SW.iload_n (q := 14) (i := 2) dX6_firstTakenBeside_13 rfl rfl rfl ?_
        refine SW.iload (q := 16) (i := 4) dX6_firstTakenBeside_14 rfl rfl ?_
        refine SW.cF (q := 19) (C_X5_beside hG.1 rfl rfl hp (by omega)) vX6_110 (by decide) rfl rfl rfl rfl (Nat.le_of_ble_eq_true rfl) dX6_firstTakenBeside_16 rfl ?_
        rw [hq]
        refine SW.istore (q := 21) (i := 5) dX6_firstTakenBeside_19 (by decide) rfl ?_
        refine SW.iload (q := 23) (i := 5) dX6_firstTakenBeside_21 rfl rfl ?_
        refine SW.bipush (q := 25) (v := (-6)) dX6_firstTakenBeside_23 (by decide) rfl ?_
        refine SW.icmp_eq (q := 28) (tgt := 91) dX6_firstTakenBeside_25 (by decide) rfl (fun _ => ?_) (fun c25 => absurd (rfl) c25)
        refine SW.iinc (q := 94) (v := _ + 1) dX6_firstTakenBeside_91 rfl rfl (by decide) rfl ?_
        refine SW.goto (q := 6) dX6_firstTakenBeside_94 (by decide) ?_
        exact SW.eq (by rw [nI_1]; rfl) rfl rfl (keep (fun q z => by rw [hq] at z; cases z) _)
      | some q0 =>
        obtain ⟨q0l, q0n, -⟩ := gr_nb_lt hp hq
        have q0i : gr_v (some q0) = nI q0 := rfl
        by_cases ht : wt_tk T K q0
        · obtain ⟨t1, t2, t3, t4, -⟩ := r3 q0 q0l ht
          by_cases hl : lv q0 = m
          · cases fo with
            | none =>
              refine SW.iload (q := 8) (i := 4) dX6_firstTakenBeside_6 rfl rfl ?_
              refine SW.iconst (q := 9) (v := 4) dX6_firstTakenBeside_8 (by decide) rfl ?_
              refine SW.icmp_ge (q := 12) (tgt := 97) dX6_firstTakenBeside_9 (by decide) rfl (fun c9 => absurd c9 ((nI_ge (a := e) (b := 4) (by omega) (by omega)))) (fun _ => ?_)
              refine SW.aload_n (q := 13) (i := 1) dX6_firstTakenBeside_12 rfl rfl rfl ?_
              refine SW.iload_n (q := 14) (i := 2) dX6_firstTakenBeside_13 rfl rfl rfl ?_
              refine SW.iload (q := 16) (i := 4) dX6_firstTakenBeside_14 rfl rfl ?_
              refine SW.cF (q := 19) (C_X5_beside hG.1 rfl rfl hp (by omega)) vX6_110 (by decide) rfl rfl rfl rfl (Nat.le_of_ble_eq_true rfl) dX6_firstTakenBeside_16 rfl ?_
              rw [hq, q0i]
              refine SW.istore (q := 21) (i := 5) dX6_firstTakenBeside_19 (by decide) rfl ?_
              refine SW.iload (q := 23) (i := 5) dX6_firstTakenBeside_21 rfl rfl ?_
              refine SW.bipush (q := 25) (v := (-6)) dX6_firstTakenBeside_23 (by decide) rfl ?_
              refine SW.icmp_eq (q := 28) (tgt := 91) dX6_firstTakenBeside_25 (by decide) rfl (fun c25 => absurd c25 ((nI_n6 (by omega)))) (fun _ => ?_)
              refine SW.aload_n (q := 29) (i := 0) dX6_firstTakenBeside_28 rfl rfl rfl ?_
              refine SW.getR (q := 32) (i := 2) (j := 19) fX6_29 rfl rfl dX6_firstTakenBeside_29 rfl ?_
              refine SW.iload (q := 34) (i := 5) dX6_firstTakenBeside_32 rfl rfl ?_
              refine SW.cF (q := 37) (C_X3_atn (i := 19) (j := 45) (n := 576) rfl rfl (k := q0) rfl (by omega)) vX6_76 (by decide) rfl rfl rfl rfl (Nat.le_of_ble_eq_true rfl) dX6_firstTakenBeside_34 rfl ?_
              refine SW.bipush (q := 39) (v := (-6)) dX6_firstTakenBeside_37 (by decide) rfl ?_
              refine SW.icmp_eq (q := 42) (tgt := 91) dX6_firstTakenBeside_39 (by decide) rfl (fun c39 => absurd c39 ((by rw [t1]; exact nI_n6 (by omega)))) (fun _ => ?_)
              refine SW.aload_n (q := 43) (i := 0) dX6_firstTakenBeside_42 rfl rfl rfl ?_
              refine SW.getR (q := 46) (i := 2) (j := 15) fX6_14 rfl rfl dX6_firstTakenBeside_43 rfl ?_
              refine SW.iload (q := 48) (i := 5) dX6_firstTakenBeside_46 rfl rfl ?_
              refine SW.cF (q := 51) (C_X3_atn (i := 15) (j := 41) (n := 576) rfl rfl (k := q0) rfl (by omega)) vX6_76 (by decide) rfl rfl rfl rfl (Nat.le_of_ble_eq_true rfl) dX6_firstTakenBeside_48 rfl ?_
              refine SW.aload_n (q := 52) (i := 0) dX6_firstTakenBeside_51 rfl rfl rfl ?_
              refine SW.getR (q := 55) (i := 2) (j := 21) fX6_35 rfl rfl dX6_firstTakenBeside_52 rfl ?_
              refine SW.iload_n (q := 56) (i := 2) dX6_firstTakenBeside_55 rfl rfl rfl ?_
              refine SW.cF (q := 59) (C_X3_atn (i := 21) (j := 47) (n := 576) rfl rfl (k := p) rfl (by omega)) vX6_76 (by decide) rfl rfl rfl rfl (Nat.le_of_ble_eq_true rfl) dX6_firstTakenBeside_56 rfl ?_
              refine SW.icmp_ne (q := 62) (tgt := 91) dX6_firstTakenBeside_59 (by decide) rfl (fun c59 => absurd ((by rw [t3, hm, hl])) c59) (fun _ => ?_)
              refine SW.iload_n (q := 63) (i := 3) dX6_firstTakenBeside_62 rfl rfl rfl ?_
              refine SW.bipush (q := 65) (v := (-6)) dX6_firstTakenBeside_63 (by decide) rfl ?_
              refine SW.icmp_eq (q := 68) (tgt := 88) dX6_firstTakenBeside_65 (by decide) rfl (fun _ => ?_) (fun c65 => absurd (rfl) c65)
              refine SW.iload (q := 90) (i := 5) dX6_firstTakenBeside_88 rfl rfl ?_
              refine SW.istore_n (q := 91) (i := 3) dX6_firstTakenBeside_90 rfl (by decide) rfl ?_
              refine SW.iinc (q := 94) (v := _ + 1) dX6_firstTakenBeside_91 rfl rfl (by decide) rfl ?_
              refine SW.goto (q := 6) dX6_firstTakenBeside_94 (by decide) ?_
              refine SW.eq (by rw [nI_1]; rfl) rfl rfl (ih (e + 1) (by omega) _ (some q0) (fun z => by cases z) (fun f hf => ?_))
              cases hf
              refine ⟨q0l, ⟨e, by omega, hq⟩, ht, hl, fun e' q he' hq' ht' hl' => ?_⟩
              by_cases z : e' = e
              · subst z; rw [hq] at hq'; cases hq'; exact Nat.le_refl _
              · exact absurd hl' (h0 rfl e' q (by omega) hq' ht')
            | some f =>
              obtain ⟨f1, f2, f3, f4, f5⟩ := h1 f rfl
              have fi : gr_v (some f) = nI f := rfl
              obtain ⟨tf1, tf2, -⟩ := r3 f f1 f3
              by_cases hlt : od q0 < od f
              · refine SW.iload (q := 8) (i := 4) dX6_firstTakenBeside_6 rfl rfl ?_
                refine SW.iconst (q := 9) (v := 4) dX6_firstTakenBeside_8 (by decide) rfl ?_
                refine SW.icmp_ge (q := 12) (tgt := 97) dX6_firstTakenBeside_9 (by decide) rfl (fun c9 => absurd c9 ((nI_ge (a := e) (b := 4) (by omega) (by omega)))) (fun _ => ?_)
                refine SW.aload_n (q := 13) (i := 1) dX6_firstTakenBeside_12 rfl rfl rfl ?_
                refine SW.iload_n (q := 14) (i := 2) dX6_firstTakenBeside_13 rfl rfl rfl ?_
                refine SW.iload (q := 16) (i := 4) dX6_firstTakenBeside_14 rfl rfl ?_
                refine SW.cF (q := 19) (C_X5_beside hG.1 rfl rfl hp (by omega)) vX6_110 (by decide) rfl rfl rfl rfl (Nat.le_of_ble_eq_true rfl) dX6_firstTakenBeside_16 rfl ?_
                rw [hq, q0i]
                refine SW.istore (q := 21) (i := 5) dX6_firstTakenBeside_19 (by decide) rfl ?_
                refine SW.iload (q := 23) (i := 5) dX6_firstTakenBeside_21 rfl rfl ?_
                refine SW.bipush (q := 25) (v := (-6)) dX6_firstTakenBeside_23 (by decide) rfl ?_
                refine SW.icmp_eq (q := 28) (tgt := 91) dX6_firstTakenBeside_25 (by decide) rfl (fun c25 => absurd c25 ((nI_n6 (by omega)))) (fun _ => ?_)
                refine SW.aload_n (q := 29) (i := 0) dX6_firstTakenBeside_28 rfl rfl rfl ?_
                refine SW.getR (q := 32) (i := 2) (j := 19) fX6_29 rfl rfl dX6_firstTakenBeside_29 rfl ?_
                refine SW.iload (q := 34) (i := 5) dX6_firstTakenBeside_32 rfl rfl ?_
                refine SW.cF (q := 37) (C_X3_atn (i := 19) (j := 45) (n := 576) rfl rfl (k := q0) rfl (by omega)) vX6_76 (by decide) rfl rfl rfl rfl (Nat.le_of_ble_eq_true rfl) dX6_firstTakenBeside_34 rfl ?_
                refine SW.bipush (q := 39) (v := (-6)) dX6_firstTakenBeside_37 (by decide) rfl ?_
                refine SW.icmp_eq (q := 42) (tgt := 91) dX6_firstTakenBeside_39 (by decide) rfl (fun c39 => absurd c39 ((by rw [t1]; exact nI_n6 (by omega)))) (fun _ => ?_)
                refine SW.aload_n (q := 43) (i := 0) dX6_firstTakenBeside_42 rfl rfl rfl ?_
                refine SW.getR (q := 46) (i := 2) (j := 15) fX6_14 rfl rfl dX6_firstTakenBeside_43 rfl ?_
                refine SW.iload (q := 48) (i := 5) dX6_firstTakenBeside_46 rfl rfl ?_
                refine SW.cF (q := 51) (C_X3_atn (i := 15) (j := 41) (n := 576) rfl rfl (k := q0) rfl (by omega)) vX6_76 (by decide) rfl rfl rfl rfl (Nat.le_of_ble_eq_true rfl) dX6_firstTakenBeside_48 rfl ?_
                refine SW.aload_n (q := 52) (i := 0) dX6_firstTakenBeside_51 rfl rfl rfl ?_
                refine SW.getR (q := 55) (i := 2) (j := 21) fX6_35 rfl rfl dX6_firstTakenBeside_52 rfl ?_
                refine SW.iload_n (q := 56) (i := 2) dX6_firstTakenBeside_55 rfl rfl rfl ?_
                refine SW.cF (q := 59) (C_X3_atn (i := 21) (j := 47) (n := 576) rfl rfl (k := p) rfl (by omega)) vX6_76 (by decide) rfl rfl rfl rfl (Nat.le_of_ble_eq_true rfl) dX6_firstTakenBeside_56 rfl ?_
                refine SW.icmp_ne (q := 62) (tgt := 91) dX6_firstTakenBeside_59 (by decide) rfl (fun c59 => absurd ((by rw [t3, hm, hl])) c59) (fun _ => ?_)
                refine SW.iload_n (q := 63) (i := 3) dX6_firstTakenBeside_62 rfl rfl rfl ?_
                refine SW.bipush (q := 65) (v := (-6)) dX6_firstTakenBeside_63 (by decide) rfl ?_
                refine SW.icmp_eq (q := 68) (tgt := 88) dX6_firstTakenBeside_65 (by decide) rfl (fun c65 => absurd c65 ((nI_n6 (by omega)))) (fun _ => ?_)
                refine SW.aload_n (q := 69) (i := 0) dX6_firstTakenBeside_68 rfl rfl rfl ?_
                refine SW.getR (q := 72) (i := 2) (j := 19) fX6_29 rfl rfl dX6_firstTakenBeside_69 rfl ?_
                refine SW.iload (q := 74) (i := 5) dX6_firstTakenBeside_72 rfl rfl ?_
                refine SW.cF (q := 77) (C_X3_atn (i := 19) (j := 45) (n := 576) rfl rfl (k := q0) rfl (by omega)) vX6_76 (by decide) rfl rfl rfl rfl (Nat.le_of_ble_eq_true rfl) dX6_firstTakenBeside_74 rfl ?_
                refine SW.aload_n (q := 78) (i := 0) dX6_firstTakenBeside_77 rfl rfl rfl ?_
                refine SW.getR (q := 81) (i := 2) (j := 19) fX6_29 rfl rfl dX6_firstTakenBeside_78 rfl ?_
                refine SW.iload_n (q := 82) (i := 3) dX6_firstTakenBeside_81 rfl rfl rfl ?_
                refine SW.cF (q := 85) (C_X3_atn (i := 19) (j := 45) (n := 576) rfl rfl (k := f) rfl (by omega)) vX6_76 (by decide) rfl rfl rfl rfl (Nat.le_of_ble_eq_true rfl) dX6_firstTakenBeside_82 rfl ?_
                refine SW.icmp_ge (q := 88) (tgt := 91) dX6_firstTakenBeside_85 (by decide) rfl (fun c85 => absurd c85 ((by rw [t1, tf1]; exact nI_ge hlt (by omega)))) (fun _ => ?_)
                refine SW.iload (q := 90) (i := 5) dX6_firstTakenBeside_88 rfl rfl ?_
                refine SW.istore_n (q := 91) (i := 3) dX6_firstTakenBeside_90 rfl (by decide) rfl ?_
                refine SW.iinc (q := 94) (v := _ + 1) dX6_firstTakenBeside_91 rfl rfl (by decide) rfl ?_
                refine SW.goto (q := 6) dX6_firstTakenBeside_94 (by decide) ?_
                refine SW.eq (by rw [nI_1]; rfl) rfl rfl (ih (e + 1) (by omega) _ (some q0) (fun z => by cases z) (fun f' hf => ?_))
                cases hf
                refine ⟨q0l, ⟨e, by omega, hq⟩, ht, hl, fun e' q he' hq' ht' hl' => ?_⟩
                by_cases z : e' = e
                · subst z; rw [hq] at hq'; cases hq'; exact Nat.le_refl _
                · exact Nat.le_trans (Nat.le_of_lt hlt) (f5 e' q (by omega) hq' ht' hl')
              · refine SW.iload (q := 8) (i := 4) dX6_firstTakenBeside_6 rfl rfl ?_
                refine SW.iconst (q := 9) (v := 4) dX6_firstTakenBeside_8 (by decide) rfl ?_
                refine SW.icmp_ge (q := 12) (tgt := 97) dX6_firstTakenBeside_9 (by decide) rfl (fun c9 => absurd c9 ((nI_ge (a := e) (b := 4) (by omega) (by omega)))) (fun _ => ?_)
                refine SW.aload_n (q := 13) (i := 1) dX6_firstTakenBeside_12 rfl rfl rfl ?_
                refine SW.iload_n (q := 14) (i := 2) dX6_firstTakenBeside_13 rfl rfl rfl ?_
                refine SW.iload (q := 16) (i := 4) dX6_firstTakenBeside_14 rfl rfl ?_
                refine SW.cF (q := 19) (C_X5_beside hG.1 rfl rfl hp (by omega)) vX6_110 (by decide) rfl rfl rfl rfl (Nat.le_of_ble_eq_true rfl) dX6_firstTakenBeside_16 rfl ?_
                rw [hq, q0i]
                refine SW.istore (q := 21) (i := 5) dX6_firstTakenBeside_19 (by decide) rfl ?_
                refine SW.iload (q := 23) (i := 5) dX6_firstTakenBeside_21 rfl rfl ?_
                refine SW.bipush (q := 25) (v := (-6)) dX6_firstTakenBeside_23 (by decide) rfl ?_
                refine SW.icmp_eq (q := 28) (tgt := 91) dX6_firstTakenBeside_25 (by decide) rfl (fun c25 => absurd c25 ((nI_n6 (by omega)))) (fun _ => ?_)
                refine SW.aload_n (q := 29) (i := 0) dX6_firstTakenBeside_28 rfl rfl rfl ?_
                refine SW.getR (q := 32) (i := 2) (j := 19) fX6_29 rfl rfl dX6_firstTakenBeside_29 rfl ?_
                refine SW.iload (q := 34) (i := 5) dX6_firstTakenBeside_32 rfl rfl ?_
                refine SW.cF (q := 37) (C_X3_atn (i := 19) (j := 45) (n := 576) rfl rfl (k := q0) rfl (by omega)) vX6_76 (by decide) rfl rfl rfl rfl (Nat.le_of_ble_eq_true rfl) dX6_firstTakenBeside_34 rfl ?_
                refine SW.bipush (q := 39) (v := (-6)) dX6_firstTakenBeside_37 (by decide) rfl ?_
                refine SW.icmp_eq (q := 42) (tgt := 91) dX6_firstTakenBeside_39 (by decide) rfl (fun c39 => absurd c39 ((by rw [t1]; exact nI_n6 (by omega)))) (fun _ => ?_)
                refine SW.aload_n (q := 43) (i := 0) dX6_firstTakenBeside_42 rfl rfl rfl ?_
                refine SW.getR (q := 46) (i := 2) (j := 15) fX6_14 rfl rfl dX6_firstTakenBeside_43 rfl ?_
                refine SW.iload (q := 48) (i := 5) dX6_firstTakenBeside_46 rfl rfl ?_
                refine SW.cF (q := 51) (C_X3_atn (i := 15) (j := 41) (n := 576) rfl rfl (k := q0) rfl (by omega)) vX6_76 (by decide) rfl rfl rfl rfl (Nat.le_of_ble_eq_true rfl) dX6_firstTakenBeside_48 rfl ?_
                refine SW.aload_n (q := 52) (i := 0) dX6_firstTakenBeside_51 rfl rfl rfl ?_
                refine SW.getR (q := 55) (i := 2) (j := 21) fX6_35 rfl rfl dX6_firstTakenBeside_52 rfl ?_
                refine SW.iload_n (q := 56) (i := 2) dX6_firstTakenBeside_55 rfl rfl rfl ?_
                refine SW.cF (q := 59) (C_X3_atn (i := 21) (j := 47) (n := 576) rfl rfl (k := p) rfl (by omega)) vX6_76 (by decide) rfl rfl rfl rfl (Nat.le_of_ble_eq_true rfl) dX6_firstTakenBeside_56 rfl ?_
                refine SW.icmp_ne (q := 62) (tgt := 91) dX6_firstTakenBeside_59 (by decide) rfl (fun c59 => absurd ((by rw [t3, hm, hl])) c59) (fun _ => ?_)
                refine SW.iload_n (q := 63) (i := 3) dX6_firstTakenBeside_62 rfl rfl rfl ?_
                refine SW.bipush (q := 65) (v := (-6)) dX6_firstTakenBeside_63 (by decide) rfl ?_
                refine SW.icmp_eq (q := 68) (tgt := 88) dX6_firstTakenBeside_65 (by decide) rfl (fun c65 => absurd c65 ((nI_n6 (by omega)))) (fun _ => ?_)
                refine SW.aload_n (q := 69) (i := 0) dX6_firstTakenBeside_68 rfl rfl rfl ?_
                refine SW.getR (q := 72) (i := 2) (j := 19) fX6_29 rfl rfl dX6_firstTakenBeside_69 rfl ?_
                refine SW.iload (q := 74) (i := 5) dX6_firstTakenBeside_72 rfl rfl ?_
                refine SW.cF (q := 77) (C_X3_atn (i := 19) (j := 45) (n := 576) rfl rfl (k := q0) rfl (by omega)) vX6_76 (by decide) rfl rfl rfl rfl (Nat.le_of_ble_eq_true rfl) dX6_firstTakenBeside_74 rfl ?_
                refine SW.aload_n (q := 78) (i := 0) dX6_firstTakenBeside_77 rfl rfl rfl ?_
                refine SW.getR (q := 81) (i := 2) (j := 19) fX6_29 rfl rfl dX6_firstTakenBeside_78 rfl ?_
                refine SW.iload_n (q := 82) (i := 3) dX6_firstTakenBeside_81 rfl rfl rfl ?_
                refine SW.cF (q := 85) (C_X3_atn (i := 19) (j := 45) (n := 576) rfl rfl (k := f) rfl (by omega)) vX6_76 (by decide) rfl rfl rfl rfl (Nat.le_of_ble_eq_true rfl) dX6_firstTakenBeside_82 rfl ?_
                refine SW.icmp_ge (q := 88) (tgt := 91) dX6_firstTakenBeside_85 (by decide) rfl (fun _ => ?_) (fun c85 => absurd ((by rw [t1, tf1]; exact nI_le (by omega) (by omega))) c85)
                refine SW.iinc (q := 94) (v := _ + 1) dX6_firstTakenBeside_91 rfl rfl (by decide) rfl ?_
                refine SW.goto (q := 6) dX6_firstTakenBeside_94 (by decide) ?_
                exact SW.eq (by rw [nI_1]; rfl) rfl rfl (keep (fun q z _ => by rw [hq] at z; cases z; exact Or.inr ⟨f, rfl, by omega⟩) _)
          · refine SW.iload (q := 8) (i := 4) dX6_firstTakenBeside_6 rfl rfl ?_
            refine SW.iconst (q := 9) (v := 4) dX6_firstTakenBeside_8 (by decide) rfl ?_
            refine SW.icmp_ge (q := 12) (tgt := 97) dX6_firstTakenBeside_9 (by decide) rfl (fun c9 => absurd c9 ((nI_ge (a := e) (b := 4) (by omega) (by omega)))) (fun _ => ?_)
            refine SW.aload_n (q := 13) (i := 1) dX6_firstTakenBeside_12 rfl rfl rfl ?_
            refine SW.iload_n (q := 14) (i := 2) dX6_firstTakenBeside_13 rfl rfl rfl ?_
            refine SW.iload (q := 16) (i := 4) dX6_firstTakenBeside_14 rfl rfl ?_
            refine SW.cF (q := 19) (C_X5_beside hG.1 rfl rfl hp (by omega)) vX6_110 (by decide) rfl rfl rfl rfl (Nat.le_of_ble_eq_true rfl) dX6_firstTakenBeside_16 rfl ?_
            rw [hq, q0i]
            refine SW.istore (q := 21) (i := 5) dX6_firstTakenBeside_19 (by decide) rfl ?_
            refine SW.iload (q := 23) (i := 5) dX6_firstTakenBeside_21 rfl rfl ?_
            refine SW.bipush (q := 25) (v := (-6)) dX6_firstTakenBeside_23 (by decide) rfl ?_
            refine SW.icmp_eq (q := 28) (tgt := 91) dX6_firstTakenBeside_25 (by decide) rfl (fun c25 => absurd c25 ((nI_n6 (by omega)))) (fun _ => ?_)
            refine SW.aload_n (q := 29) (i := 0) dX6_firstTakenBeside_28 rfl rfl rfl ?_
            refine SW.getR (q := 32) (i := 2) (j := 19) fX6_29 rfl rfl dX6_firstTakenBeside_29 rfl ?_
            refine SW.iload (q := 34) (i := 5) dX6_firstTakenBeside_32 rfl rfl ?_
            refine SW.cF (q := 37) (C_X3_atn (i := 19) (j := 45) (n := 576) rfl rfl (k := q0) rfl (by omega)) vX6_76 (by decide) rfl rfl rfl rfl (Nat.le_of_ble_eq_true rfl) dX6_firstTakenBeside_34 rfl ?_
            refine SW.bipush (q := 39) (v := (-6)) dX6_firstTakenBeside_37 (by decide) rfl ?_
            refine SW.icmp_eq (q := 42) (tgt := 91) dX6_firstTakenBeside_39 (by decide) rfl (fun c39 => absurd c39 ((by rw [t1]; exact nI_n6 (by omega)))) (fun _ => ?_)
            refine SW.aload_n (q := 43) (i := 0) dX6_firstTakenBeside_42 rfl rfl rfl ?_
            refine SW.getR (q := 46) (i := 2) (j := 15) fX6_14 rfl rfl dX6_firstTakenBeside_43 rfl ?_
            refine SW.iload (q := 48) (i := 5) dX6_firstTakenBeside_46 rfl rfl ?_
            refine SW.cF (q := 51) (C_X3_atn (i := 15) (j := 41) (n := 576) rfl rfl (k := q0) rfl (by omega)) vX6_76 (by decide) rfl rfl rfl rfl (Nat.le_of_ble_eq_true rfl) dX6_firstTakenBeside_48 rfl ?_
            refine SW.aload_n (q := 52) (i := 0) dX6_firstTakenBeside_51 rfl rfl rfl ?_
            refine SW.getR (q := 55) (i := 2) (j := 21) fX6_35 rfl rfl dX6_firstTakenBeside_52 rfl ?_
            refine SW.iload_n (q := 56) (i := 2) dX6_firstTakenBeside_55 rfl rfl rfl ?_
            refine SW.cF (q := 59) (C_X3_atn (i := 21) (j := 47) (n := 576) rfl rfl (k := p) rfl (by omega)) vX6_76 (by decide) rfl rfl rfl rfl (Nat.le_of_ble_eq_true rfl) dX6_firstTakenBeside_56 rfl ?_
            refine SW.icmp_ne (q := 62) (tgt := 91) dX6_firstTakenBeside_59 (by decide) rfl (fun _ => ?_) (fun c59 => absurd c59 ((by rw [t3, hm, nI_eq (by omega) (by omega)]; exact hl)))
            refine SW.iinc (q := 94) (v := _ + 1) dX6_firstTakenBeside_91 rfl rfl (by decide) rfl ?_
            refine SW.goto (q := 6) dX6_firstTakenBeside_94 (by decide) ?_
            exact SW.eq (by rw [nI_1]; rfl) rfl rfl (keep (fun q z _ => by rw [hq] at z; cases z; exact Or.inl hl) _)
        · have t45 := r4 q0 q0l ht
          refine SW.iload (q := 8) (i := 4) dX6_firstTakenBeside_6 rfl rfl ?_
          refine SW.iconst (q := 9) (v := 4) dX6_firstTakenBeside_8 (by decide) rfl ?_
          refine SW.icmp_ge (q := 12) (tgt := 97) dX6_firstTakenBeside_9 (by decide) rfl (fun c9 => absurd c9 ((nI_ge (a := e) (b := 4) (by omega) (by omega)))) (fun _ => ?_)
          refine SW.aload_n (q := 13) (i := 1) dX6_firstTakenBeside_12 rfl rfl rfl ?_
          refine SW.iload_n (q := 14) (i := 2) dX6_firstTakenBeside_13 rfl rfl rfl ?_
          refine SW.iload (q := 16) (i := 4) dX6_firstTakenBeside_14 rfl rfl ?_
          refine SW.cF (q := 19) (C_X5_beside hG.1 rfl rfl hp (by omega)) vX6_110 (by decide) rfl rfl rfl rfl (Nat.le_of_ble_eq_true rfl) dX6_firstTakenBeside_16 rfl ?_
          rw [hq, q0i]
          refine SW.istore (q := 21) (i := 5) dX6_firstTakenBeside_19 (by decide) rfl ?_
          refine SW.iload (q := 23) (i := 5) dX6_firstTakenBeside_21 rfl rfl ?_
          refine SW.bipush (q := 25) (v := (-6)) dX6_firstTakenBeside_23 (by decide) rfl ?_
          refine SW.icmp_eq (q := 28) (tgt := 91) dX6_firstTakenBeside_25 (by decide) rfl (fun c25 => absurd c25 ((nI_n6 (by omega)))) (fun _ => ?_)
          refine SW.aload_n (q := 29) (i := 0) dX6_firstTakenBeside_28 rfl rfl rfl ?_
          refine SW.getR (q := 32) (i := 2) (j := 19) fX6_29 rfl rfl dX6_firstTakenBeside_29 rfl ?_
          refine SW.iload (q := 34) (i := 5) dX6_firstTakenBeside_32 rfl rfl ?_
          refine SW.cF (q := 37) (C_X3_atn (i := 19) (j := 45) (n := 576) rfl rfl (k := q0) rfl (by omega)) vX6_76 (by decide) rfl rfl rfl rfl (Nat.le_of_ble_eq_true rfl) dX6_firstTakenBeside_34 rfl ?_
          refine SW.bipush (q := 39) (v := (-6)) dX6_firstTakenBeside_37 (by decide) rfl ?_
          refine SW.icmp_eq (q := 42) (tgt := 91) dX6_firstTakenBeside_39 (by decide) rfl (fun _ => ?_) (fun c39 => absurd (t45) c39)
          refine SW.iinc (q := 94) (v := _ + 1) dX6_firstTakenBeside_91 rfl rfl (by decide) rfl ?_
          refine SW.goto (q := 6) dX6_firstTakenBeside_94 (by decide) ?_
          exact SW.eq (by rw [nI_1]; rfl) rfl rfl (keep (fun q z ht' => by rw [hq] at z; cases z; exact absurd ht' ht) _)
  refine SW.bipush (q := 2) (v := (-6)) dX6_firstTakenBeside_0 (by decide) rfl ?_
  refine SW.istore_n (q := 3) (i := 3) dX6_firstTakenBeside_2 rfl (by decide) rfl ?_
  refine SW.iconst (q := 4) (v := 0) dX6_firstTakenBeside_3 (by decide) rfl ?_
  refine SW.istore (q := 6) (i := 4) dX6_firstTakenBeside_4 (by decide) rfl ?_
  exact loop 4 0 rfl _ none (fun _ e' q he' => absurd he' (Nat.not_lt_zero _)) (fun f hf => by cases hf)
/-- the row of what is not yet taken may be written -/
theorem ww_R.put {i : Nat} {w : Int32} (a : ww_R n K T lv od D O σ) (hn : ¬ wt_tk T K p) (hi : i = 41 ∨ i = 42 ∨ i = 44) : ww_R n K T lv od D O (sw_up σ i p w) := by
  obtain ⟨r1, r2, r3, r4⟩ := a
  have o : ∀ j q, wt_tk T K q → sw_up σ i p w j q = σ j q := by
    intro j q ht
    by_cases z : j = i
    · subst z; exact sw_o1 (fun e => hn (by rw [← e]; exact ht))
    · rw [sw_un z]
  have o2 : ∀ j, j = 2 ∨ j = 45 ∨ j = 46 → sw_up σ i p w j = σ j := fun j hj => sw_un (by omega)
  refine ⟨by rw [o2 2 (by omega)]; exact r1, fun j hj => by rw [o2 46 (by omega)]; exact r2 j hj, fun q hq ht => ?_, fun q hq ht => by rw [o2 45 (by omega)]; exact r4 q hq ht⟩
  rw [o 45 q ht, o 41 q ht, o 42 q ht, o 44 q ht]
  exact r3 q hq ht
theorem ww_H.un {i k : Nat} {w : Int32} {S : Nat → Nat → Prop} {U : Nat → Prop} (a : ww_H n h S U lv c σ) (h6 : 6 ≠ i) (h58 : 58 ≠ i) (h47 : 47 ≠ i) : ww_H n h S U lv c (sw_up σ i k w) := a.fr (by rw [sw_un h6]) (by rw [sw_un h58]) (by rw [sw_un h47])
theorem C_X6_takeOutlets (hG : ww_G n h σ) (hx : x = nI sea) (hs : sea ≤ 255) (h28 : σ 2 8 = 0) (h45 : ∀ q, q < n * n → σ 45 q = -6) (h47 : ∀ q, q < n * n → σ 47 q = 2147483647) (h61 : σ 6 1 = 0) :
    sw_Mv X 3 mX6_takeOutlets [.ref (sw_ad X 2), .ref (sw_ad X 1), .ref (sw_ad X 6), .int x] σ (fun u => fr_ [2, 6, 41, 42, 44, 45, 46, 47, 58] σ u ∧ ∃ K c T lv od D O, ww_I n h sea K c T lv od D O u ∧ c ≤ 4 * K ∧ ∀ q, q < n * n → wt_out n h sea q = true → wt_tk T K q) := by
  subst hx
  have n24 : n ≤ 24 := hG.1.2.1
  have h576 := gr_576 n24
  refine sw_ME.ofF (by decide +kernel) rfl (Nat.le_of_ble_eq_true rfl) rfl ?_
  have loop : ∀ (k p : Nat), p + k = n * n → ∀ (B : Value) (τ : sw_Sg) (K c : Nat) (T lv od : Nat → Nat) (D : Nat → Option Nat) (O : Nat → Nat), fr_ [2, 6, 41, 42, 44, 45, 46, 47, 58] σ τ → ww_I n h sea K c T lv od D O τ → c ≤ 4 * K → (∀ q, q < n * n → (wt_tk T K q ↔ (wt_out n h sea q = true ∧ q < p))) →
      SW X 3 mX6_takeOutlets sw_E0 (sw_Rv (fun u => fr_ [2, 6, 41, 42, 44, 45, 46, 47, 58] σ u ∧ ∃ K c T lv od D O, ww_I n h sea K c T lv od D O u ∧ c ≤ 4 * K ∧ ∀ q, q < n * n → wt_out n h sea q = true → wt_tk T K q)) 3 [.ref (sw_ad X 2), .ref (sw_ad X 1), .ref (sw_ad X 6), .int (nI sea), .int (nI p), B] [] τ := by
    intro k
    induction k with
    | zero =>
      intro p hpk B τ K c T lv od D O hf hI hc ht
      obtain rfl : p = n * n := by omega
      refine SW.iload (q := 5) (i := 4) dX6_takeOutlets_3 rfl rfl ?_
      refine SW.aload_n (q := 6) (i := 1) dX6_takeOutlets_5 rfl rfl rfl ?_
      refine SW.getI (q := 9) (i := 1) fX6_68 rfl rfl dX6_takeOutlets_6 rfl ?_
      refine SW.icmp_ge (q := 12) (tgt := 95) dX6_takeOutlets_9 (by decide) rfl (fun _ => ?_) (fun c9 => absurd ((by rw [hI.1.1.2.2.2.1]; exact Int32.le_refl _)) c9)
      refine SW.vretR rfl dX6_takeOutlets_95 ?_
      exact ⟨hf, K, c, T, lv, od, D, O, hI, hc, fun q hq ho => (ht q hq).mpr ⟨ho, hq⟩⟩
    | succ k ih =>
      intro p hpk B τ K c T lv od D O hf hI hc ht
      have hp : p < n * n := by omega
      obtain ⟨hG1, hok, hR1, hH1, hO1⟩ := hI
      have hpl : τ 1 2 = nI (n * n) := hG1.1.2.2.2.1
      obtain ⟨eh, h400⟩ := hG1.2 p hp
      have hnt : ¬ wt_tk T K p := fun z => absurd ((ht p hp).mp z).2 (Nat.lt_irrefl _)
      have hKP := wt_K hok hp hnt
      have step : wt_out n h sea p = true → ∀ (B : Value) (l : Nat), l = (if h p < sea then sea else h p) → ∀ (τ2 u : sw_Sg), τ2 = sw_up (sw_up (sw_up τ 41 p (nI l)) 42 p (-6)) 44 p (nI p) → (fr_ [2, 6, 45, 46, 47, 58] τ2 u ∧ ww_R n (K + 1) (va_up T K p) (va_up lv p l) (va_up od p K) (va_up D p none) (va_up O p p) u ∧
          ∃ c', c' ≤ c + 4 ∧ ww_H n h (fun _ r => wt_tk (va_up T K p) (K + 1) r) (fun q => ¬ wt_tk (va_up T K p) (K + 1) q) (va_up lv p l) c' u) →
          SW X 3 mX6_takeOutlets sw_E0 (sw_Rv (fun u => fr_ [2, 6, 41, 42, 44, 45, 46, 47, 58] σ u ∧ ∃ K c T lv od D O, ww_I n h sea K c T lv od D O u ∧ c ≤ 4 * K ∧ ∀ q, q < n * n → wt_out n h sea q = true → wt_tk T K q)) 3 [.ref (sw_ad X 2), .ref (sw_ad X 1), .ref (sw_ad X 6), .int (nI sea), .int (nI (p + 1)), B] [] u := by
        rintro ho B l hl τ2 u rfl ⟨s1, s2, c', s3, s4⟩
        have f2 : fr_ [2, 6, 41, 42, 44, 45, 46, 47, 58] σ u := fr_tr (fr_up (fr_up (fr_up hf (by decide)) (by decide)) (by decide)) s1 (by decide)
        refine ih (p + 1) (by omega) B u (K + 1) c' _ _ _ _ _ f2 ⟨hG.fr f2 (by decide) (by decide) (by decide) (by decide), wt_snoc hok hp hnt (Or.inl ⟨ho, fun q q1 q2 q3 => (ht q q1).mpr ⟨q2, q3⟩, hl, rfl⟩), s2, s4, wo_snoc hO1 hp hnt hp (fun q r _ a b => (wt_D hok a b).1) (Or.inl ⟨rfl, rfl⟩)⟩ (by omega) (fun q hq => ?_)
        rw [wt_tk_snoc, ht q hq]
        constructor
        · rintro (a | rfl)
          · exact ⟨a.1, by omega⟩
          · exact ⟨ho, by omega⟩
        · rintro ⟨a, b⟩
          by_cases z : q = p
          · exact Or.inr z
          · exact Or.inl ⟨a, by omega⟩
      have take : ∀ l, l ≤ 400 → ∀ τ2, τ2 = sw_up (sw_up (sw_up τ 41 p (nI l)) 42 p (-6)) 44 p (nI p) → sw_Mv X 2 mX6_take [.ref (sw_ad X 2), .ref (sw_ad X 1), .ref (sw_ad X 6), .int (nI p)] τ2 (fun u => fr_ [2, 6, 45, 46, 47, 58] τ2 u ∧ ww_R n (K + 1) (va_up T K p) (va_up lv p l) (va_up od p K) (va_up D p none) (va_up O p p) u ∧
          ∃ c', c' ≤ c + 4 ∧ ww_H n h (fun _ r => wt_tk (va_up T K p) (K + 1) r) (fun q => ¬ wt_tk (va_up T K p) (K + 1) q) (va_up lv p l) c' u) := by
        rintro l hl τ2 rfl
        refine C_X6_take (h := h) (r := none) (o := p) (c := c) ?_ (((hR1.put hnt (by omega)).put hnt (by omega)).put hnt (by omega)) rfl hp hnt (by omega) ?_ hl ?_ ?_ (((hH1.un (by decide) (by decide) (by decide)).un (by decide) (by decide) (by decide)).un (by decide) (by decide) (by decide)) (by omega)
        · exact hG1.fr (l := [41, 42, 44]) (fr_up (fr_up (fr_up fr_rf (by decide)) (by decide)) (by decide)) (by decide) (by decide) (by decide) (by decide)
        · rw [sw_un (by decide), sw_un (by decide), sw_i1]
        · rw [sw_un (by decide), sw_i1]; rfl
        · rw [sw_i1]
      have hout : wt_out n h sea p = (decide (h p < sea) || gr_rim n p) := rfl
      have skip : wt_out n h sea p = false → ∀ B, SW X 3 mX6_takeOutlets sw_E0 (sw_Rv (fun u => fr_ [2, 6, 41, 42, 44, 45, 46, 47, 58] σ u ∧ ∃ K c T lv od D O, ww_I n h sea K c T lv od D O u ∧ c ≤ 4 * K ∧ ∀ q, q < n * n → wt_out n h sea q = true → wt_tk T K q)) 3 [.ref (sw_ad X 2), .ref (sw_ad X 1), .ref (sw_ad X 6), .int (nI sea), .int (nI (p + 1)), B] [] τ := by
        intro ho B
        refine ih (p + 1) (by omega) B τ K c T lv od D O hf ⟨hG1, hok, hR1, hH1, hO1⟩ hc (fun q hq => ?_)
        rw [ht q hq]
        constructor
        · rintro ⟨a, b⟩; exact ⟨a, by omega⟩
        · rintro ⟨a, b⟩
          refine ⟨a, ?_⟩
          by_cases z : q = p
          · subst z; rw [ho] at a; cases a
          · omega
      by_cases hlt : h p < sea
      · refine SW.iload (q := 5) (i := 4) dX6_takeOutlets_3 rfl rfl ?_
        refine SW.aload_n (q := 6) (i := 1) dX6_takeOutlets_5 rfl rfl rfl ?_
        refine SW.getI (q := 9) (i := 1) fX6_68 rfl rfl dX6_takeOutlets_6 rfl ?_
        refine SW.icmp_ge (q := 12) (tgt := 95) dX6_takeOutlets_9 (by decide) rfl (fun c9 => absurd c9 ((by rw [hpl]; exact nI_ge (by omega) (by omega)))) (fun _ => ?_)
        refine SW.aload_n (q := 13) (i := 1) dX6_takeOutlets_12 rfl rfl rfl ?_
        refine SW.getR (q := 16) (i := 1) (j := 14) fX6_73 rfl rfl dX6_takeOutlets_13 rfl ?_
        refine SW.iload (q := 18) (i := 4) dX6_takeOutlets_16 rfl rfl ?_
        refine SW.cF (q := 21) (C_X3_atn (i := 14) (j := 40) (n := 576) rfl rfl (k := p) rfl (by omega)) vX6_76 (by decide) rfl rfl rfl rfl (Nat.le_of_ble_eq_true rfl) dX6_takeOutlets_18 rfl ?_
        rw [eh]
        refine SW.istore (q := 23) (i := 5) dX6_takeOutlets_21 (by decide) rfl ?_
        refine SW.iload (q := 25) (i := 5) dX6_takeOutlets_23 rfl rfl ?_
        refine SW.iload_n (q := 26) (i := 3) dX6_takeOutlets_25 rfl rfl rfl ?_
        refine SW.icmp_lt (q := 29) (tgt := 38) dX6_takeOutlets_26 (by decide) rfl (fun _ => ?_) (fun c26 => absurd ((nI_lt hlt (by omega))) c26)
        refine SW.aload_n (q := 39) (i := 0) dX6_takeOutlets_38 rfl rfl rfl ?_
        refine SW.getR (q := 42) (i := 2) (j := 15) fX6_14 rfl rfl dX6_takeOutlets_39 rfl ?_
        refine SW.iload (q := 44) (i := 4) dX6_takeOutlets_42 rfl rfl ?_
        refine SW.iload (q := 46) (i := 5) dX6_takeOutlets_44 rfl rfl ?_
        refine SW.iload_n (q := 47) (i := 3) dX6_takeOutlets_46 rfl rfl rfl ?_
        refine SW.icmp_ge (q := 50) (tgt := 54) dX6_takeOutlets_47 (by decide) rfl (fun c47 => absurd c47 ((nI_ge hlt (by omega)))) (fun _ => ?_)
        refine SW.iload_n (q := 51) (i := 3) dX6_takeOutlets_50 rfl rfl rfl ?_
        refine SW.goto (q := 56) dX6_takeOutlets_51 (by decide) ?_
        refine SW.cG (q := 59) (C_X3_putn (i := 15) (j := 41) (n := 576) rfl rfl (k := p) rfl (by omega)) vX6_84 (by decide) rfl rfl rfl rfl (Nat.le_of_ble_eq_true rfl) dX6_takeOutlets_56 rfl ?_
        refine SW.aload_n (q := 60) (i := 0) dX6_takeOutlets_59 rfl rfl rfl ?_
        refine SW.getR (q := 63) (i := 2) (j := 16) fX6_20 rfl rfl dX6_takeOutlets_60 rfl ?_
        refine SW.iload (q := 65) (i := 4) dX6_takeOutlets_63 rfl rfl ?_
        refine SW.bipush (q := 67) (v := (-6)) dX6_takeOutlets_65 (by decide) rfl ?_
        refine SW.cG (q := 70) (C_X3_putn (i := 16) (j := 42) (n := 576) rfl rfl (k := p) rfl (by omega)) vX6_84 (by decide) rfl rfl rfl rfl (Nat.le_of_ble_eq_true rfl) dX6_takeOutlets_67 rfl ?_
        refine SW.aload_n (q := 71) (i := 0) dX6_takeOutlets_70 rfl rfl rfl ?_
        refine SW.getR (q := 74) (i := 2) (j := 18) fX6_26 rfl rfl dX6_takeOutlets_71 rfl ?_
        refine SW.iload (q := 76) (i := 4) dX6_takeOutlets_74 rfl rfl ?_
        refine SW.iload (q := 78) (i := 4) dX6_takeOutlets_76 rfl rfl ?_
        refine SW.cG (q := 81) (C_X3_putn (i := 18) (j := 44) (n := 576) rfl rfl (k := p) rfl (by omega)) vX6_84 (by decide) rfl rfl rfl rfl (Nat.le_of_ble_eq_true rfl) dX6_takeOutlets_78 rfl ?_
        refine SW.aload_n (q := 82) (i := 0) dX6_takeOutlets_81 rfl rfl rfl ?_
        refine SW.aload_n (q := 83) (i := 1) dX6_takeOutlets_82 rfl rfl rfl ?_
        refine SW.aload_n (q := 84) (i := 2) dX6_takeOutlets_83 rfl rfl rfl ?_
        refine SW.iload (q := 86) (i := 4) dX6_takeOutlets_84 rfl rfl ?_
        refine SW.cV (q := 89) (take sea (by omega) _ rfl) vX6_92 (by decide) rfl rfl rfl rfl (Nat.le_of_ble_eq_true rfl) dX6_takeOutlets_86 rfl (fun u86 r86 => ?_)
        refine SW.iinc (q := 92) (v := _ + 1) dX6_takeOutlets_89 rfl rfl (by decide) rfl ?_
        refine SW.goto (q := 3) dX6_takeOutlets_92 (by decide) ?_
        exact SW.eq (by rw [nI_1]; rfl) rfl rfl (step (by rw [hout]; simp [hlt]) _ sea (by rw [if_pos hlt]) _ _ rfl r86)
      · cases hrim : gr_rim n p with
        | true =>
          refine SW.iload (q := 5) (i := 4) dX6_takeOutlets_3 rfl rfl ?_
          refine SW.aload_n (q := 6) (i := 1) dX6_takeOutlets_5 rfl rfl rfl ?_
          refine SW.getI (q := 9) (i := 1) fX6_68 rfl rfl dX6_takeOutlets_6 rfl ?_
          refine SW.icmp_ge (q := 12) (tgt := 95) dX6_takeOutlets_9 (by decide) rfl (fun c9 => absurd c9 ((by rw [hpl]; exact nI_ge (by omega) (by omega)))) (fun _ => ?_)
          refine SW.aload_n (q := 13) (i := 1) dX6_takeOutlets_12 rfl rfl rfl ?_
          refine SW.getR (q := 16) (i := 1) (j := 14) fX6_73 rfl rfl dX6_takeOutlets_13 rfl ?_
          refine SW.iload (q := 18) (i := 4) dX6_takeOutlets_16 rfl rfl ?_
          refine SW.cF (q := 21) (C_X3_atn (i := 14) (j := 40) (n := 576) rfl rfl (k := p) rfl (by omega)) vX6_76 (by decide) rfl rfl rfl rfl (Nat.le_of_ble_eq_true rfl) dX6_takeOutlets_18 rfl ?_
          rw [eh]
          refine SW.istore (q := 23) (i := 5) dX6_takeOutlets_21 (by decide) rfl ?_
          refine SW.iload (q := 25) (i := 5) dX6_takeOutlets_23 rfl rfl ?_
          refine SW.iload_n (q := 26) (i := 3) dX6_takeOutlets_25 rfl rfl rfl ?_
          refine SW.icmp_lt (q := 29) (tgt := 38) dX6_takeOutlets_26 (by decide) rfl (fun c26 => absurd c26 ((nI_nlt (by omega) (by omega)))) (fun _ => ?_)
          refine SW.aload_n (q := 30) (i := 1) dX6_takeOutlets_29 rfl rfl rfl ?_
          refine SW.iload (q := 32) (i := 4) dX6_takeOutlets_30 rfl rfl ?_
          refine SW.cF (q := 35) (C_X5_isRim hG1.1 rfl hp) vX6_88 (by decide) rfl rfl rfl rfl (Nat.le_of_ble_eq_true rfl) dX6_takeOutlets_32 rfl ?_
          rw [hrim]
          refine SW.if_eq (q := 38) (tgt := 89) dX6_takeOutlets_35 (by decide) rfl (fun c35 => absurd c35 ((by decide))) (fun _ => ?_)
          refine SW.aload_n (q := 39) (i := 0) dX6_takeOutlets_38 rfl rfl rfl ?_
          refine SW.getR (q := 42) (i := 2) (j := 15) fX6_14 rfl rfl dX6_takeOutlets_39 rfl ?_
          refine SW.iload (q := 44) (i := 4) dX6_takeOutlets_42 rfl rfl ?_
          refine SW.iload (q := 46) (i := 5) dX6_takeOutlets_44 rfl rfl ?_
          refine SW.iload_n (q := 47) (i := 3) dX6_takeOutlets_46 rfl rfl rfl ?_
          refine SW.icmp_ge (q := 50) (tgt := 54) dX6_takeOutlets_47 (by decide) rfl (fun _ => ?_) (fun c47 => absurd ((nI_le (by omega) (by omega))) c47)
          refine SW.iload (q := 56) (i := 5) dX6_takeOutlets_54 rfl rfl ?_
          refine SW.cG (q := 59) (C_X3_putn (i := 15) (j := 41) (n := 576) rfl rfl (k := p) rfl (by omega)) vX6_84 (by decide) rfl rfl rfl rfl (Nat.le_of_ble_eq_true rfl) dX6_takeOutlets_56 rfl ?_
          refine SW.aload_n (q := 60) (i := 0) dX6_takeOutlets_59 rfl rfl rfl ?_
          refine SW.getR (q := 63) (i := 2) (j := 16) fX6_20 rfl rfl dX6_takeOutlets_60 rfl ?_
          refine SW.iload (q := 65) (i := 4) dX6_takeOutlets_63 rfl rfl ?_
          refine SW.bipush (q := 67) (v := (-6)) dX6_takeOutlets_65 (by decide) rfl ?_
          refine SW.cG (q := 70) (C_X3_putn (i := 16) (j := 42) (n := 576) rfl rfl (k := p) rfl (by omega)) vX6_84 (by decide) rfl rfl rfl rfl (Nat.le_of_ble_eq_true rfl) dX6_takeOutlets_67 rfl ?_
          refine SW.aload_n (q := 71) (i := 0) dX6_takeOutlets_70 rfl rfl rfl ?_
          refine SW.getR (q := 74) (i := 2) (j := 18) fX6_26 rfl rfl dX6_takeOutlets_71 rfl ?_
          refine SW.iload (q := 76) (i := 4) dX6_takeOutlets_74 rfl rfl ?_
          refine SW.iload (q := 78) (i := 4) dX6_takeOutlets_76 rfl rfl ?_
          refine SW.cG (q := 81) (C_X3_putn (i := 18) (j := 44) (n := 576) rfl rfl (k := p) rfl (by omega)) vX6_84 (by decide) rfl rfl rfl rfl (Nat.le_of_ble_eq_true rfl) dX6_takeOutlets_78 rfl ?_
          refine SW.aload_n (q := 82) (i := 0) dX6_takeOutlets_81 rfl rfl rfl ?_
          refine SW.aload_n (q := 83) (i := 1) dX6_takeOutlets_82 rfl rfl rfl ?_
          refine SW.aload_n (q := 84) (i := 2) dX6_takeOutlets_83 rfl rfl rfl ?_
          refine SW.iload (q := 86) (i := 4) dX6_takeOutlets_84 rfl rfl ?_
          refine SW.cV (q := 89) (take (h p) (by omega) _ rfl) vX6_92 (by decide) rfl rfl rfl rfl (Nat.le_of_ble_eq_true rfl) dX6_takeOutlets_86 rfl (fun u86 r86 => ?_)
          refine SW.iinc (q := 92) (v := _ + 1) dX6_takeOutlets_89 rfl rfl (by decide) rfl ?_
          refine SW.goto (q := 3) dX6_takeOutlets_92 (by decide) ?_
          exact SW.eq (by rw [nI_1]; rfl) rfl rfl (step (by rw [hout, hrim]; simp) _ (h p) (by rw [if_neg hlt]) _ _ rfl r86)
        | false =>
          refine SW.iload (q := 5) (i := 4) dX6_takeOutlets_3 rfl rfl ?_
          refine SW.aload_n (q := 6) (i := 1) dX6_takeOutlets_5 rfl rfl rfl ?_
          refine SW.getI (q := 9) (i := 1) fX6_68 rfl rfl dX6_takeOutlets_6 rfl ?_
          refine SW.icmp_ge (q := 12) (tgt := 95) dX6_takeOutlets_9 (by decide) rfl (fun c9 => absurd c9 ((by rw [hpl]; exact nI_ge (by omega) (by omega)))) (fun _ => ?_)
          refine SW.aload_n (q := 13) (i := 1) dX6_takeOutlets_12 rfl rfl rfl ?_
          refine SW.getR (q := 16) (i := 1) (j := 14) fX6_73 rfl rfl dX6_takeOutlets_13 rfl ?_
          refine SW.iload (q := 18) (i := 4) dX6_takeOutlets_16 rfl rfl ?_
          refine SW.cF (q := 21) (C_X3_atn (i := 14) (j := 40) (n := 576) rfl rfl (k := p) rfl (by omega)) vX6_76 (by decide) rfl rfl rfl rfl (Nat.le_of_ble_eq_true rfl) dX6_takeOutlets_18 rfl ?_
          rw [eh]
          refine SW.istore (q := 23) (i := 5) dX6_takeOutlets_21 (by decide) rfl ?_
          refine SW.iload (q := 25) (i := 5) dX6_takeOutlets_23 rfl rfl ?_
          refine SW.iload_n (q := 26) (i := 3) dX6_takeOutlets_25 rfl rfl rfl ?_
          refine SW.icmp_lt (q := 29) (tgt := 38) dX6_takeOutlets_26 (by decide) rfl (fun c26 => absurd c26 ((nI_nlt (by omega) (by omega)))) (fun _ => ?_)
          refine SW.aload_n (q := 30) (i := 1) dX6_takeOutlets_29 rfl rfl rfl ?_
          refine SW.iload (q := 32) (i := 4) dX6_takeOutlets_30 rfl rfl ?_
          refine SW.cF (q := 35) (C_X5_isRim hG1.1 rfl hp) vX6_88 (by decide) rfl rfl rfl rfl (Nat.le_of_ble_eq_true rfl) dX6_takeOutlets_32 rfl ?_
          rw [hrim]
          refine SW.if_eq (q := 38) (tgt := 89) dX6_takeOutlets_35 (by decide) rfl (fun _ => ?_) (fun c35 => absurd ((by decide)) c35)
          refine SW.iinc (q := 92) (v := _ + 1) dX6_takeOutlets_89 rfl rfl (by decide) rfl ?_
          refine SW.goto (q := 3) dX6_takeOutlets_92 (by decide) ?_
          exact SW.eq (by rw [nI_1]; rfl) rfl rfl (skip (by rw [hout, hrim]; simp [hlt]) _)
  refine SW.iconst (q := 1) (v := 0) dX6_takeOutlets_0 (by decide) rfl ?_
  refine SW.istore (q := 3) (i := 4) dX6_takeOutlets_1 (by decide) rfl ?_
  refine loop (n * n) 0 (by omega) _ σ 0 0 (fun _ => 0) (fun _ => 0) (fun _ => 0) (fun _ => none) (fun _ => 0) fr_rf ⟨hG, ⟨fun j hj => absurd hj (Nat.not_lt_zero _), fun j hj => absurd hj (Nat.not_lt_zero _)⟩, ⟨h28, fun j hj => absurd hj (Nat.not_lt_zero _), fun q hq ⟨i, i1, _⟩ => absurd i1 (Nat.not_lt_zero _), fun q hq _ => h45 q hq⟩, ⟨h61, fun i _ hi => absurd hi (Nat.not_lt_zero _), fun q hq _ => ⟨fun m ⟨⟨r, _, ⟨i, i1, _⟩, _⟩, _⟩ => absurd i1 (Nat.not_lt_zero _), fun _ => h47 q hq⟩, fun z ⟨i, i1, _⟩ => absurd i1 (Nat.not_lt_zero _)⟩, fun q hq ⟨i, i1, _⟩ => absurd i1 (Nat.not_lt_zero _)⟩ (Nat.le_refl _) (fun q hq => ⟨fun ⟨i, i1, _⟩ => absurd i1 (Nat.not_lt_zero _), fun z => absurd z.2 (Nat.not_lt_zero _)⟩)
end WRUN
end
