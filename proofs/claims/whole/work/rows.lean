section
-- ===== PART A: goes FIRST, ahead of the names: the tables' words, and 'selects' of the private methods out of them =====
/-- a private method of a class that the tables say can be made, by its rows of tables_1 -/
def lw_okq (q : MethodName × Nat) : Prop := (q.1.cls ≠ "java/lang/invoke/MethodHandle" ∧ q.1.cls ≠ "java/lang/invoke/VarHandle") ∧ Cond.instantiable q.1.cls q.2 ∈ tables_1 ∧ Cond.privateMethod q.1 ∈ tables_1 ∧ Cond.instanceMethod q.1 ∈ tables_1
theorem lw_p0 : lw_okq (⟨"BottleShip", "goesThroughNeck", "()Z"⟩, 14) := ⟨⟨by decide +kernel, by decide +kernel⟩, List.mem_of_getElem? (i := 18) (by decide +kernel), List.mem_of_getElem? (i := 198) (by decide +kernel), List.mem_of_getElem? (i := 199) (by decide +kernel)⟩
theorem lw_p1 : lw_okq (⟨"BottleShip", "breadth", "()I"⟩, 14) := ⟨⟨by decide +kernel, by decide +kernel⟩, List.mem_of_getElem? (i := 18) (by decide +kernel), List.mem_of_getElem? (i := 202) (by decide +kernel), List.mem_of_getElem? (i := 203) (by decide +kernel)⟩
theorem lw_p2 : lw_okq (⟨"BottleShip", "topWith", "([I)I"⟩, 14) := ⟨⟨by decide +kernel, by decide +kernel⟩, List.mem_of_getElem? (i := 18) (by decide +kernel), List.mem_of_getElem? (i := 214) (by decide +kernel), List.mem_of_getElem? (i := 215) (by decide +kernel)⟩
theorem lw_p3 : lw_okq (⟨"BottleShip", "fitsWith", "([I)Z"⟩, 14) := ⟨⟨by decide +kernel, by decide +kernel⟩, List.mem_of_getElem? (i := 18) (by decide +kernel), List.mem_of_getElem? (i := 222) (by decide +kernel), List.mem_of_getElem? (i := 223) (by decide +kernel)⟩
theorem lw_p4 : lw_okq (⟨"BottleShip", "endWith", "([I)I"⟩, 14) := ⟨⟨by decide +kernel, by decide +kernel⟩, List.mem_of_getElem? (i := 18) (by decide +kernel), List.mem_of_getElem? (i := 226) (by decide +kernel), List.mem_of_getElem? (i := 227) (by decide +kernel)⟩
theorem lw_p5 : lw_okq (⟨"BottleShip", "explore", "()V"⟩, 14) := ⟨⟨by decide +kernel, by decide +kernel⟩, List.mem_of_getElem? (i := 18) (by decide +kernel), List.mem_of_getElem? (i := 242) (by decide +kernel), List.mem_of_getElem? (i := 243) (by decide +kernel)⟩
theorem lw_p6 : lw_okq (⟨"BottleShip", "firstFreeThreadOf", "(I)I"⟩, 14) := ⟨⟨by decide +kernel, by decide +kernel⟩, List.mem_of_getElem? (i := 18) (by decide +kernel), List.mem_of_getElem? (i := 246) (by decide +kernel), List.mem_of_getElem? (i := 247) (by decide +kernel)⟩
theorem lw_p7 : lw_okq (⟨"BottleShip", "isHeld", "(I)Z"⟩, 14) := ⟨⟨by decide +kernel, by decide +kernel⟩, List.mem_of_getElem? (i := 18) (by decide +kernel), List.mem_of_getElem? (i := 250) (by decide +kernel), List.mem_of_getElem? (i := 251) (by decide +kernel)⟩
theorem lw_p8 : lw_okq (⟨"BottleShip", "threadsFrom", "(II)I"⟩, 14) := ⟨⟨by decide +kernel, by decide +kernel⟩, List.mem_of_getElem? (i := 18) (by decide +kernel), List.mem_of_getElem? (i := 254) (by decide +kernel), List.mem_of_getElem? (i := 255) (by decide +kernel)⟩
theorem lw_p9 : lw_okq (⟨"BottleShip", "isCrossedByStronger", "(LBottleShip$Cord;)Z"⟩, 14) := ⟨⟨by decide +kernel, by decide +kernel⟩, List.mem_of_getElem? (i := 18) (by decide +kernel), List.mem_of_getElem? (i := 258) (by decide +kernel), List.mem_of_getElem? (i := 259) (by decide +kernel)⟩
theorem lw_p10 : lw_okq (⟨"BottleShip", "loweredBy", "(I)I"⟩, 14) := ⟨⟨by decide +kernel, by decide +kernel⟩, List.mem_of_getElem? (i := 18) (by decide +kernel), List.mem_of_getElem? (i := 270) (by decide +kernel), List.mem_of_getElem? (i := 271) (by decide +kernel)⟩
theorem lw_p11 : lw_okq (⟨"BottleShip", "exploreFrom", "(I)V"⟩, 14) := ⟨⟨by decide +kernel, by decide +kernel⟩, List.mem_of_getElem? (i := 18) (by decide +kernel), List.mem_of_getElem? (i := 284) (by decide +kernel), List.mem_of_getElem? (i := 285) (by decide +kernel)⟩
theorem lw_p12 : lw_okq (⟨"BottleShip", "hoursUntilFlat", "(I)I"⟩, 14) := ⟨⟨by decide +kernel, by decide +kernel⟩, List.mem_of_getElem? (i := 18) (by decide +kernel), List.mem_of_getElem? (i := 307) (by decide +kernel), List.mem_of_getElem? (i := 308) (by decide +kernel)⟩
theorem lw_p13 : lw_okq (⟨"BottleShip", "fallInAnHour", "(I)I"⟩, 14) := ⟨⟨by decide +kernel, by decide +kernel⟩, List.mem_of_getElem? (i := 18) (by decide +kernel), List.mem_of_getElem? (i := 311) (by decide +kernel), List.mem_of_getElem? (i := 312) (by decide +kernel)⟩
theorem lw_p14 : lw_okq (⟨"BottleShip", "looseThreadsFrom", "(I)I"⟩, 14) := ⟨⟨by decide +kernel, by decide +kernel⟩, List.mem_of_getElem? (i := 18) (by decide +kernel), List.mem_of_getElem? (i := 315) (by decide +kernel), List.mem_of_getElem? (i := 316) (by decide +kernel)⟩
theorem lw_p15 : lw_okq (⟨"BottleShip", "mastsLeaning", "(I)I"⟩, 14) := ⟨⟨by decide +kernel, by decide +kernel⟩, List.mem_of_getElem? (i := 18) (by decide +kernel), List.mem_of_getElem? (i := 333) (by decide +kernel), List.mem_of_getElem? (i := 334) (by decide +kernel)⟩
def lw_privs_1 : List (MethodName × Nat) := [(⟨"BottleShip", "goesThroughNeck", "()Z"⟩, 14), (⟨"BottleShip", "breadth", "()I"⟩, 14), (⟨"BottleShip", "topWith", "([I)I"⟩, 14), (⟨"BottleShip", "fitsWith", "([I)Z"⟩, 14), (⟨"BottleShip", "endWith", "([I)I"⟩, 14), (⟨"BottleShip", "explore", "()V"⟩, 14), (⟨"BottleShip", "firstFreeThreadOf", "(I)I"⟩, 14), (⟨"BottleShip", "isHeld", "(I)Z"⟩, 14), (⟨"BottleShip", "threadsFrom", "(II)I"⟩, 14), (⟨"BottleShip", "isCrossedByStronger", "(LBottleShip$Cord;)Z"⟩, 14), (⟨"BottleShip", "loweredBy", "(I)I"⟩, 14), (⟨"BottleShip", "exploreFrom", "(I)V"⟩, 14), (⟨"BottleShip", "hoursUntilFlat", "(I)I"⟩, 14), (⟨"BottleShip", "fallInAnHour", "(I)I"⟩, 14), (⟨"BottleShip", "looseThreadsFrom", "(I)I"⟩, 14), (⟨"BottleShip", "mastsLeaning", "(I)I"⟩, 14)]
theorem lw_r1 : ∀ q ∈ lw_privs_1, lw_okq q := List.forall_mem_cons.mpr ⟨lw_p0, List.forall_mem_cons.mpr ⟨lw_p1, List.forall_mem_cons.mpr ⟨lw_p2, List.forall_mem_cons.mpr ⟨lw_p3, List.forall_mem_cons.mpr ⟨lw_p4, List.forall_mem_cons.mpr ⟨lw_p5, List.forall_mem_cons.mpr ⟨lw_p6, List.forall_mem_cons.mpr ⟨lw_p7, List.forall_mem_cons.mpr ⟨lw_p8, List.forall_mem_cons.mpr ⟨lw_p9, List.forall_mem_cons.mpr ⟨lw_p10, List.forall_mem_cons.mpr ⟨lw_p11, List.forall_mem_cons.mpr ⟨lw_p12, List.forall_mem_cons.mpr ⟨lw_p13, List.forall_mem_cons.mpr ⟨lw_p14, List.forall_mem_cons.mpr ⟨lw_p15, fun _ h => absurd h List.not_mem_nil⟩⟩⟩⟩⟩⟩⟩⟩⟩⟩⟩⟩⟩⟩⟩⟩
theorem lw_p16 : lw_okq (⟨"BottleShip", "threadsThatAre", "(I)I"⟩, 14) := ⟨⟨by decide +kernel, by decide +kernel⟩, List.mem_of_getElem? (i := 18) (by decide +kernel), List.mem_of_getElem? (i := 337) (by decide +kernel), List.mem_of_getElem? (i := 338) (by decide +kernel)⟩
theorem lw_p17 : lw_okq (⟨"java/lang/Throwable", "fillInStackTrace", "(I)Ljava/lang/Throwable;"⟩, 6) := ⟨⟨by decide +kernel, by decide +kernel⟩, List.mem_of_getElem? (i := 379) (by decide +kernel), List.mem_of_getElem? (i := 377) (by decide +kernel), List.mem_of_getElem? (i := 378) (by decide +kernel)⟩
theorem lw_p18 : lw_okq (⟨"BottleShip", "isMast", "(I)Z"⟩, 14) := ⟨⟨by decide +kernel, by decide +kernel⟩, List.mem_of_getElem? (i := 18) (by decide +kernel), List.mem_of_getElem? (i := 428) (by decide +kernel), List.mem_of_getElem? (i := 429) (by decide +kernel)⟩
theorem lw_p19 : lw_okq (⟨"BottleShip", "isThread", "(I)Z"⟩, 14) := ⟨⟨by decide +kernel, by decide +kernel⟩, List.mem_of_getElem? (i := 18) (by decide +kernel), List.mem_of_getElem? (i := 442) (by decide +kernel), List.mem_of_getElem? (i := 443) (by decide +kernel)⟩
theorem lw_p20 : lw_okq (⟨"BottleShip", "crossingsOf", "(LBottleShip$Cord;)I"⟩, 14) := ⟨⟨by decide +kernel, by decide +kernel⟩, List.mem_of_getElem? (i := 18) (by decide +kernel), List.mem_of_getElem? (i := 447) (by decide +kernel), List.mem_of_getElem? (i := 448) (by decide +kernel)⟩
theorem lw_p21 : lw_okq (⟨"BottleShip", "hasMastAt", "(I)Z"⟩, 14) := ⟨⟨by decide +kernel, by decide +kernel⟩, List.mem_of_getElem? (i := 18) (by decide +kernel), List.mem_of_getElem? (i := 513) (by decide +kernel), List.mem_of_getElem? (i := 514) (by decide +kernel)⟩
theorem lw_p22 : lw_okq (⟨"BottleShip", "hindranceOf", "(LBottleShip$Cord;)I"⟩, 14) := ⟨⟨by decide +kernel, by decide +kernel⟩, List.mem_of_getElem? (i := 18) (by decide +kernel), List.mem_of_getElem? (i := 549) (by decide +kernel), List.mem_of_getElem? (i := 550) (by decide +kernel)⟩
theorem lw_p23 : lw_okq (⟨"BottleShipModel", "no", "(I)I"⟩, 25) := ⟨⟨by decide +kernel, by decide +kernel⟩, List.mem_of_getElem? (i := 607) (by decide +kernel), List.mem_of_getElem? (i := 700) (by decide +kernel), List.mem_of_getElem? (i := 701) (by decide +kernel)⟩
theorem lw_p24 : lw_okq (⟨"BottleShipModel", "isMast", "(I)Z"⟩, 25) := ⟨⟨by decide +kernel, by decide +kernel⟩, List.mem_of_getElem? (i := 607) (by decide +kernel), List.mem_of_getElem? (i := 719) (by decide +kernel), List.mem_of_getElem? (i := 720) (by decide +kernel)⟩
theorem lw_p25 : lw_okq (⟨"BottleShipModel", "goesThrough", "()Z"⟩, 25) := ⟨⟨by decide +kernel, by decide +kernel⟩, List.mem_of_getElem? (i := 607) (by decide +kernel), List.mem_of_getElem? (i := 731) (by decide +kernel), List.mem_of_getElem? (i := 732) (by decide +kernel)⟩
theorem lw_p26 : lw_okq (⟨"BottleShipModel", "breadth", "(I)I"⟩, 25) := ⟨⟨by decide +kernel, by decide +kernel⟩, List.mem_of_getElem? (i := 607) (by decide +kernel), List.mem_of_getElem? (i := 735) (by decide +kernel), List.mem_of_getElem? (i := 736) (by decide +kernel)⟩
theorem lw_p27 : lw_okq (⟨"BottleShipModel", "top", "(I)I"⟩, 25) := ⟨⟨by decide +kernel, by decide +kernel⟩, List.mem_of_getElem? (i := 607) (by decide +kernel), List.mem_of_getElem? (i := 743) (by decide +kernel), List.mem_of_getElem? (i := 744) (by decide +kernel)⟩
theorem lw_p28 : lw_okq (⟨"BottleShipModel", "stands", "(II)I"⟩, 25) := ⟨⟨by decide +kernel, by decide +kernel⟩, List.mem_of_getElem? (i := 607) (by decide +kernel), List.mem_of_getElem? (i := 747) (by decide +kernel), List.mem_of_getElem? (i := 748) (by decide +kernel)⟩
theorem lw_p29 : lw_okq (⟨"BottleShipModel", "fits", "(I)Z"⟩, 25) := ⟨⟨by decide +kernel, by decide +kernel⟩, List.mem_of_getElem? (i := 607) (by decide +kernel), List.mem_of_getElem? (i := 751) (by decide +kernel), List.mem_of_getElem? (i := 752) (by decide +kernel)⟩
theorem lw_p30 : lw_okq (⟨"BottleShipModel", "end", "(I)I"⟩, 25) := ⟨⟨by decide +kernel, by decide +kernel⟩, List.mem_of_getElem? (i := 607) (by decide +kernel), List.mem_of_getElem? (i := 755) (by decide +kernel), List.mem_of_getElem? (i := 756) (by decide +kernel)⟩
theorem lw_p31 : lw_okq (⟨"BottleShipModel", "reach", "(II)I"⟩, 25) := ⟨⟨by decide +kernel, by decide +kernel⟩, List.mem_of_getElem? (i := 607) (by decide +kernel), List.mem_of_getElem? (i := 759) (by decide +kernel), List.mem_of_getElem? (i := 760) (by decide +kernel)⟩
def lw_privs_2 : List (MethodName × Nat) := [(⟨"BottleShip", "threadsThatAre", "(I)I"⟩, 14), (⟨"java/lang/Throwable", "fillInStackTrace", "(I)Ljava/lang/Throwable;"⟩, 6), (⟨"BottleShip", "isMast", "(I)Z"⟩, 14), (⟨"BottleShip", "isThread", "(I)Z"⟩, 14), (⟨"BottleShip", "crossingsOf", "(LBottleShip$Cord;)I"⟩, 14), (⟨"BottleShip", "hasMastAt", "(I)Z"⟩, 14), (⟨"BottleShip", "hindranceOf", "(LBottleShip$Cord;)I"⟩, 14), (⟨"BottleShipModel", "no", "(I)I"⟩, 25), (⟨"BottleShipModel", "isMast", "(I)Z"⟩, 25), (⟨"BottleShipModel", "goesThrough", "()Z"⟩, 25), (⟨"BottleShipModel", "breadth", "(I)I"⟩, 25), (⟨"BottleShipModel", "top", "(I)I"⟩, 25), (⟨"BottleShipModel", "stands", "(II)I"⟩, 25), (⟨"BottleShipModel", "fits", "(I)Z"⟩, 25), (⟨"BottleShipModel", "end", "(I)I"⟩, 25), (⟨"BottleShipModel", "reach", "(II)I"⟩, 25)]
theorem lw_r2 : ∀ q ∈ lw_privs_2, lw_okq q := List.forall_mem_cons.mpr ⟨lw_p16, List.forall_mem_cons.mpr ⟨lw_p17, List.forall_mem_cons.mpr ⟨lw_p18, List.forall_mem_cons.mpr ⟨lw_p19, List.forall_mem_cons.mpr ⟨lw_p20, List.forall_mem_cons.mpr ⟨lw_p21, List.forall_mem_cons.mpr ⟨lw_p22, List.forall_mem_cons.mpr ⟨lw_p23, List.forall_mem_cons.mpr ⟨lw_p24, List.forall_mem_cons.mpr ⟨lw_p25, List.forall_mem_cons.mpr ⟨lw_p26, List.forall_mem_cons.mpr ⟨lw_p27, List.forall_mem_cons.mpr ⟨lw_p28, List.forall_mem_cons.mpr ⟨lw_p29, List.forall_mem_cons.mpr ⟨lw_p30, List.forall_mem_cons.mpr ⟨lw_p31, fun _ h => absurd h List.not_mem_nil⟩⟩⟩⟩⟩⟩⟩⟩⟩⟩⟩⟩⟩⟩⟩⟩
theorem lw_p32 : lw_okq (⟨"BottleShipModel", "isThread", "(I)Z"⟩, 25) := ⟨⟨by decide +kernel, by decide +kernel⟩, List.mem_of_getElem? (i := 607) (by decide +kernel), List.mem_of_getElem? (i := 771) (by decide +kernel), List.mem_of_getElem? (i := 772) (by decide +kernel)⟩
theorem lw_p33 : lw_okq (⟨"BottleShipModel", "behind", "(II)I"⟩, 25) := ⟨⟨by decide +kernel, by decide +kernel⟩, List.mem_of_getElem? (i := 607) (by decide +kernel), List.mem_of_getElem? (i := 775) (by decide +kernel), List.mem_of_getElem? (i := 776) (by decide +kernel)⟩
theorem lw_p34 : lw_okq (⟨"BottleShipModel", "isHeld", "(I)Z"⟩, 25) := ⟨⟨by decide +kernel, by decide +kernel⟩, List.mem_of_getElem? (i := 607) (by decide +kernel), List.mem_of_getElem? (i := 779) (by decide +kernel), List.mem_of_getElem? (i := 780) (by decide +kernel)⟩
theorem lw_p35 : lw_okq (⟨"BottleShipModel", "crosses", "(II)Z"⟩, 25) := ⟨⟨by decide +kernel, by decide +kernel⟩, List.mem_of_getElem? (i := 607) (by decide +kernel), List.mem_of_getElem? (i := 783) (by decide +kernel), List.mem_of_getElem? (i := 784) (by decide +kernel)⟩
theorem lw_p36 : lw_okq (⟨"BottleShipModel", "placeOf", "(I)I"⟩, 25) := ⟨⟨by decide +kernel, by decide +kernel⟩, List.mem_of_getElem? (i := 607) (by decide +kernel), List.mem_of_getElem? (i := 787) (by decide +kernel), List.mem_of_getElem? (i := 788) (by decide +kernel)⟩
theorem lw_p37 : lw_okq (⟨"BottleShipModel", "leads", "(II)Z"⟩, 25) := ⟨⟨by decide +kernel, by decide +kernel⟩, List.mem_of_getElem? (i := 607) (by decide +kernel), List.mem_of_getElem? (i := 792) (by decide +kernel), List.mem_of_getElem? (i := 793) (by decide +kernel)⟩
theorem lw_p38 : lw_okq (⟨"BottleShipModel", "mastTold", "(II)I"⟩, 25) := ⟨⟨by decide +kernel, by decide +kernel⟩, List.mem_of_getElem? (i := 607) (by decide +kernel), List.mem_of_getElem? (i := 808) (by decide +kernel), List.mem_of_getElem? (i := 809) (by decide +kernel)⟩
theorem lw_p39 : lw_okq (⟨"BottleShipModel", "loose", "(I)I"⟩, 25) := ⟨⟨by decide +kernel, by decide +kernel⟩, List.mem_of_getElem? (i := 607) (by decide +kernel), List.mem_of_getElem? (i := 812) (by decide +kernel), List.mem_of_getElem? (i := 813) (by decide +kernel)⟩
theorem lw_p40 : lw_okq (⟨"BottleShipModel", "threadTold", "(II)I"⟩, 25) := ⟨⟨by decide +kernel, by decide +kernel⟩, List.mem_of_getElem? (i := 607) (by decide +kernel), List.mem_of_getElem? (i := 820) (by decide +kernel), List.mem_of_getElem? (i := 821) (by decide +kernel)⟩
theorem lw_p41 : lw_okq (⟨"BottleShipModel", "shipTold", "(I)I"⟩, 25) := ⟨⟨by decide +kernel, by decide +kernel⟩, List.mem_of_getElem? (i := 607) (by decide +kernel), List.mem_of_getElem? (i := 828) (by decide +kernel), List.mem_of_getElem? (i := 829) (by decide +kernel)⟩
theorem lw_p42 : lw_okq (⟨"BottleShipModel", "counted", "(I)I"⟩, 25) := ⟨⟨by decide +kernel, by decide +kernel⟩, List.mem_of_getElem? (i := 607) (by decide +kernel), List.mem_of_getElem? (i := 836) (by decide +kernel), List.mem_of_getElem? (i := 837) (by decide +kernel)⟩
theorem lw_p43 : lw_okq (⟨"BottleShipModel", "flat", "(I)I"⟩, 25) := ⟨⟨by decide +kernel, by decide +kernel⟩, List.mem_of_getElem? (i := 607) (by decide +kernel), List.mem_of_getElem? (i := 844) (by decide +kernel), List.mem_of_getElem? (i := 845) (by decide +kernel)⟩
theorem lw_p44 : lw_okq (⟨"BottleShipModel", "later", "(I)I"⟩, 25) := ⟨⟨by decide +kernel, by decide +kernel⟩, List.mem_of_getElem? (i := 607) (by decide +kernel), List.mem_of_getElem? (i := 848) (by decide +kernel), List.mem_of_getElem? (i := 849) (by decide +kernel)⟩
theorem lw_p45 : lw_okq (⟨"BottleShipModel", "search", "(I)I"⟩, 25) := ⟨⟨by decide +kernel, by decide +kernel⟩, List.mem_of_getElem? (i := 607) (by decide +kernel), List.mem_of_getElem? (i := 856) (by decide +kernel), List.mem_of_getElem? (i := 857) (by decide +kernel)⟩
def lw_privs_3 : List (MethodName × Nat) := [(⟨"BottleShipModel", "isThread", "(I)Z"⟩, 25), (⟨"BottleShipModel", "behind", "(II)I"⟩, 25), (⟨"BottleShipModel", "isHeld", "(I)Z"⟩, 25), (⟨"BottleShipModel", "crosses", "(II)Z"⟩, 25), (⟨"BottleShipModel", "placeOf", "(I)I"⟩, 25), (⟨"BottleShipModel", "leads", "(II)Z"⟩, 25), (⟨"BottleShipModel", "mastTold", "(II)I"⟩, 25), (⟨"BottleShipModel", "loose", "(I)I"⟩, 25), (⟨"BottleShipModel", "threadTold", "(II)I"⟩, 25), (⟨"BottleShipModel", "shipTold", "(I)I"⟩, 25), (⟨"BottleShipModel", "counted", "(I)I"⟩, 25), (⟨"BottleShipModel", "flat", "(I)I"⟩, 25), (⟨"BottleShipModel", "later", "(I)I"⟩, 25), (⟨"BottleShipModel", "search", "(I)I"⟩, 25)]
theorem lw_r3 : ∀ q ∈ lw_privs_3, lw_okq q := List.forall_mem_cons.mpr ⟨lw_p32, List.forall_mem_cons.mpr ⟨lw_p33, List.forall_mem_cons.mpr ⟨lw_p34, List.forall_mem_cons.mpr ⟨lw_p35, List.forall_mem_cons.mpr ⟨lw_p36, List.forall_mem_cons.mpr ⟨lw_p37, List.forall_mem_cons.mpr ⟨lw_p38, List.forall_mem_cons.mpr ⟨lw_p39, List.forall_mem_cons.mpr ⟨lw_p40, List.forall_mem_cons.mpr ⟨lw_p41, List.forall_mem_cons.mpr ⟨lw_p42, List.forall_mem_cons.mpr ⟨lw_p43, List.forall_mem_cons.mpr ⟨lw_p44, List.forall_mem_cons.mpr ⟨lw_p45, fun _ h => absurd h List.not_mem_nil⟩⟩⟩⟩⟩⟩⟩⟩⟩⟩⟩⟩⟩⟩
def lw_privs : List (MethodName × Nat) := lw_privs_1 ++ (lw_privs_2 ++ (lw_privs_3))
def lw_tbl : List Cond := k2_sels lw_privs ++ tables_1
theorem lw_privs_ok : ∀ q ∈ lw_privs, lw_okq q := by
  show ∀ q ∈ lw_privs_1 ++ (lw_privs_2 ++ (lw_privs_3)), lw_okq q
  exact List.forall_mem_append.mpr ⟨lw_r1, List.forall_mem_append.mpr ⟨lw_r2, lw_r3⟩⟩
/-- the streams that the claim lets the run draw from -/
abbrev lw_cs : List Choice := [Jvm.Choice.named "NaN.bits"]
theorem lw_bits : nanBits ∈ lw_cs := by first | decide | exact List.mem_cons_self | simp [lw_cs, nanBits]
-- ===== end of PART A; then your names; then what follows =====
end
section
/-! ===== BEGIN words of one list among another's, by their places ===== -/
theorem goodIn_r {big : List Cond} (ws : List Cond) (ps : List Nat) (hp : ws = ps.filterMap (fun i => big[i]?)) (h : ws.all goodWord = true) : GoodIn big ws := by
  intro w hw
  have h1 := List.all_eq_true.mp h w hw
  rw [hp] at hw
  obtain ⟨i, -, hi⟩ := List.mem_filterMap.mp hw
  have hm : w ∈ big := by first | exact List.mem_of_getElem? hi | exact List.getElem?_mem hi
  exact ⟨hm, good_of_word h1⟩
theorem goodIn_app {big a b : List Cond} (ha : GoodIn big a) (hb : GoodIn big b) : GoodIn big (a ++ b) := fun w h => (List.mem_append.mp h).elim (ha w) (hb w)
theorem goodIn_ca {big a b : List Cond} {c : Cond} (ha : GoodIn big (c :: a)) (hb : GoodIn big b) : GoodIn big (c :: (a ++ b)) := fun w h => (List.mem_cons.mp h).elim (fun e => ha w (List.mem_cons.mpr (Or.inl e))) (fun h => (List.mem_append.mp h).elim (fun h => ha w (List.mem_cons.mpr (Or.inr h))) (hb w))
theorem goodIn_sub {big ws : List Cond} (hm : ∀ w ∈ ws, w ∈ big) (h : ws.all goodWord = true) : GoodIn big ws := fun w hw => ⟨hm w hw, good_of_word (List.all_eq_true.mp h w hw)⟩
/-! ===== END ===== -/

/-! ===== BEGIN exceptions that leave a method, and their catching by the caller (launches without stack traces) ===== -/
section VXA
/-! The laws vx_back, vx_callV, vx_callS, vx_callSW, vx_throw0, vx_throwS follow proofs of the library, with one case more: JvmDerived/Free/Laws.lean (Back.of_free), Shelf42/LK1.lean (callV, callS), Shelf/KitTraced.lean (throwNew0V, throwNewS). -/
/-- where a method has thrown q: the class by its name, the cell, what was written, the world -/
def vx_T (XC : String → State → State → Prop) (st : State) (q : Addr) (t : State) (mc ms : Nat) (free : Addr → Prop) : Prop :=
  ∃ (E : String) (ce : Cell) (L : List Loc), XC E st t ∧ t.heap[q]? = some ce ∧ ce.vm = .none ∧ st.vm.findClass E = some ce.cls ∧ st.WarmedH t.vm ∧ st.sameButNew ({ t with vm := st.vm } : State) L mc ms ∧ ∀ z ∈ L, free z.base
def vx_Q (Qc : Array Value → State → Outcome → State → Prop) (XC : String → State → State → Prop) (mc ms : Nat) (free : Addr → Prop) : Array Value → State → Outcome → State → Prop := fun a st o t =>
  (Qc a st o t ∧ ∃ L, FrameEnd st o t L mc ms ∧ ∀ q ∈ L, free q.base) ∨ ∃ q, o = .threw q ∧ vx_T XC st q t mc ms free
/-- a callee that returns or throws -/
def vx_Met (l : Launch) (y : MethodName) (ws : List Cond) (rm : Room) (Pc : Array Value → State → Prop) (Qc : Array Value → State → Outcome → State → Prop) (XC : String → State → State → Prop) (mc ms : Nat) (free : Addr → Prop) : Prop :=
  MetFree l y (headSpec ws rm) Pc (fun _ _ _ _ _ => True) (vx_Q Qc XC mc ms free)
def vx_Post (XC : String → State → State → Prop) (mc ms : Nat) (free : Addr → Prop) : Pt → Array Value → Addr → Pt → Prop := fun A a q B =>
  ∃ (g : JFrame) (mk : MethodId) (t : State) (L : List Loc) (E : String) (ce : Cell), B.U.heap = t.heap ∧ B.U.vm = t.vm ∧ XC E (A.U.calling g mk a) t ∧ t.heap[q]? = some ce ∧ ce.vm = .none ∧ A.U.vm.findClass E = some ce.cls ∧ B.locs = A.locs ++ L ∧ (∀ z ∈ L, free z.base) ∧ B.cells = A.cells + mc ∧ B.slots = A.slots + ms
def vx_Back (l : Launch) (R : Room) (p : Program) (e : Env) (below : List Frame) (s : State) (sargs : Array Value) (y : MethodName) (len W9 : Nat)
    (Pre : Pt → Array Value → Prop) (Post : Pt → Array Value → Option Value → Pt → Prop) (PostX : Pt → Array Value → Addr → Pt → Prop) : Prop :=
  ∀ (m : MethodId) (meth : Method) (c : Code) (A : Pt) (g : JFrame) (ig : Instr) (mk : MethodId) (a : Array Value),
    Stand p l e R s m sargs below meth c A.U A.locs A.cells A.slots → g.method = m → g.locals.size = c.maxLocals → decode c.code g.pc = .ok (ig, len) →
    2 * g.monitorRoom + (g.stack.map fun v => v.category).sum ≤ W9 → A.U.methodNamed? y = some mk → Pre A a →
    (∃ (v : Option Value) (B : Pt), Stand p l e R s m sargs below meth c B.U B.locs B.cells B.slots ∧ Post A a v B ∧
      Steps p.tables e below (doInvoke e (A.U.setTop g) [] mk a).1 (B.U.setTop { g with pc := g.pc + len, stack := v.toList ++ g.stack })) ∨
    (∃ (q : Addr) (B : Pt), Stand p l e R s m sargs below meth c B.U B.locs B.cells B.slots ∧ PostX A a q B ∧
      Steps p.tables e below (doInvoke e (A.U.setTop g) [] mk a).1 ((B.U.setTop g).pushFrame (.throwing q)))
section Payer
variable {l : Launch} {R : Room} {p : Program} {e : Env} {below : List Frame} {s : State} {sargs : Array Value} {y : MethodName} {len W9 : Nat}
theorem vx_back {ws : List Cond} {rm : Room} {Pc : Array Value → State → Prop} {Qc : Array Value → State → Outcome → State → Prop} {XC : String → State → State → Prop} {mc ms : Nat} {free : Addr → Prop} {bytes : ByteArray} {maxL : Nat} {ret : Option FieldType}
    (hM : vx_Met l y ws rm Pc Qc XC mc ms free) (hblind : FrameBlind Pc) (hrc : rm.cells = mc) (hrs : rm.slots = ms)
    (hframes : rm.frames + 1 ≤ R.frames) (hlocals : W9 + (maxL + 11) + rm.locals ≤ R.locals)
    (hws : ∀ w ∈ ws, ∀ a' U, s.WarmedH U.vm → w.before a' U = true) (hcode : Cond.code y bytes maxL ret ∈ ws) (hinit : ∀ a' U, s.WarmedH U.vm → (Cond.initialized y.cls).before a' U = true) :
    vx_Back l R p e below s sargs y len W9 (PreOf R mc ms Pc) (PostOf Qc mc ms free) (vx_Post XC mc ms free) := by
  intro m meth c A g ig mk a X hg hsize hdg hW hn hp
  have h1 : (headSpec ws rm).pre.before a A.U = true := atoms_intro fun w hw => hws w hw _ _ X.warmed
  have h2 : (Cond.code y bytes maxL ret).before a A.U = true := hws _ hcode _ _ X.warmed
  have h3 : (Cond.initialized y.cls).before a A.U = true := hinit _ _ X.warmed
  have h4 : A.cells + (headSpec ws rm).room.cells ≤ R.cells := by rw [show (headSpec ws rm).room.cells = mc from hrc]; exact hp.1
  have h5 : A.slots + (headSpec ws rm).room.slots ≤ R.slots := by rw [show (headSpec ws rm).room.slots = ms from hrs]; exact hp.2.1
  have hPc : Pc a (A.U.calling g mk a) := hblind _ _ _ _ hp.2.2
  obtain ⟨U, Ls, c0, s0⟩ := A
  dsimp only [Pt.U, Pt.locs, Pt.cells, Pt.slots] at h1 h2 h3 h4 h5 X hn hPc ⊢
  obtain ⟨methY, cY, hmY, hcY, -, hlY, -, -, -, -⟩ := Cond.code_spec hn h2
  obtain ⟨kY, hkY, -⟩ := className_of_methodNamed hn
  have hinitY : kY.init = .initialized := Cond.initialized_spec (findClass_of_methodNamed hn) hkY h3
  have h : At U g.method c below := by rw [hg]; exact X.here
  have hlocals9 : W9 + (maxL + 11) + (headSpec ws rm).room.locals ≤ R.locals := hlocals
  have happ : (headSpec ws rm).appliesLoose y e.platform (U.calling g mk a) = true :=
    Spec.appliesLoose_calling (g := g) h hdg hn hkY hinitY
      (X.room_calling (g := g) (R' := (headSpec ws rm).room) hsize hmY hcY hframes (by rw [hlY]; omega) h4 h5) h1
  obtain ⟨mid, hmid⟩ := h.above
  have hfr : (U.setTop g).frames = (.java g :: mid) ++ below := by rw [State.frames_setTop' g h.top, hmid]; rfl
  obtain ⟨o, s₂, hsteps, -, hend, hq⟩ := Steps.callFree hM p X.admits X.cas X.clock (acts := []) hfr happ hPc trivial
  have hq' : vx_Q Qc XC mc ms free a (U.calling g mk a) o s₂ := hq
  rw [State.frames_setTop' g h.top] at hend
  obtain ⟨g₀, hg0⟩ := Option.isSome_iff_exists.mp h.top
  obtain ⟨r, hr⟩ := State.topJava?_eq_some.mp hg0
  have hr' : (({ U with heap := s₂.heap, slotsUsed := s₂.slotsUsed } : State).setVm s₂.vm).frames = .java g₀ :: r := hr
  rcases hq' with ⟨hqc, L, hfe, hL⟩ | ⟨q, rfl, E, ce, L, hx, hce, hcv, hcl, hW₂, hsm, hL⟩
  · obtain ⟨⟨v, rfl⟩, hW₂, e2, q2, q3, q4, q5, q6⟩ := id hfe
    have e3 : s₂ = ({ (U.calling g mk a).setFrames s₂.frames with heap := s₂.heap, slotsUsed := s₂.slotsUsed } : State).setVm s₂.vm := by
      have : s₂ = ({ s₂ with vm := (U.calling g mk a).vm } : State).setVm s₂.vm := rfl
      rw [e2] at this
      exact this
    obtain ⟨c₂, i₂, len₂, hc₂, hd₂, hf₂⟩ := hend
    have hW' : U.WarmedH s₂.vm := hW₂
    have hcc : c₂ = c := by
      have h1 : s₂.code? g.method = U.code? g.method := by
        rw [State.code?_eq, State.code?_eq, hW'.alike.method?]
      exact Option.some.inj (hc₂.symm.trans (h1.trans h.code))
    subst hcc
    have hlen : len₂ = len := by rw [hdg] at hd₂; cases hd₂; rfl
    subst hlen
    have hs₂ : s₂ = (({ U with heap := s₂.heap, slotsUsed := s₂.slotsUsed } : State).setVm s₂.vm).setTop { g with pc := g.pc + len₂, stack := v.toList ++ g.stack } := by
      refine e3.trans ?_
      rw [hf₂, State.calling_eq h.top, State.setFrames_setFrames, State.setTop_of_frames _ hr', hr]
      rfl
    have hsame : U.sameButNew ({ U with heap := s₂.heap, slotsUsed := s₂.slotsUsed } : State) L mc ms := by
      refine ⟨?_, q2, q3, q4, q5, q6⟩
      obtain ⟨t, ht, -⟩ := State.frames_cons hr
      show ({ U with heap := s₂.heap, slotsUsed := s₂.slotsUsed } : State) = { U.setFrames U.frames with heap := s₂.heap, slotsUsed := s₂.slotsUsed }
      rw [State.setFrames_self ht]
    subst hg
    refine Or.inl ⟨v, ⟨(({ U with heap := s₂.heap, slotsUsed := s₂.slotsUsed } : State).setVm s₂.vm), Ls ++ L, c0 + mc, s0 + ms⟩,
      ⟨X.admits, X.cas, X.clock, X.frames, X.room, X.hears, X.method, X.code, (X.here.setHeapUsed s₂.heap s₂.slotsUsed).setVm hW'.alike, X.tail, State.WarmedH.trans X.warmed hW', X.limits, X.bytes, X.same.trans (hsame.setVm s.vm)⟩,
      ⟨g, mk, s₂, L, rfl, rfl, hqc, rfl, hL, rfl, rfl⟩, ?_⟩
    show Steps p.tables e below _ ((({ U with heap := s₂.heap, slotsUsed := s₂.slotsUsed } : State).setVm s₂.vm).setTop { g with pc := g.pc + len₂, stack := v.toList ++ g.stack })
    rw [← hs₂]
    exact hsteps
  · obtain ⟨e2, q2, q3, q4, q5, q6⟩ := id hsm
    have e3 : s₂ = ({ (U.calling g mk a).setFrames s₂.frames with heap := s₂.heap, slotsUsed := s₂.slotsUsed } : State).setVm s₂.vm := by
      have : s₂ = ({ s₂ with vm := (U.calling g mk a).vm } : State).setVm s₂.vm := rfl
      rw [e2] at this
      exact this
    have hf₂ : s₂.frames = .throwing q :: .java g :: U.frames.tail := hend
    have hW' : U.WarmedH s₂.vm := hW₂
    have hs₂ : s₂ = ((({ U with heap := s₂.heap, slotsUsed := s₂.slotsUsed } : State).setVm s₂.vm).setTop g).pushFrame (.throwing q) := by
      refine e3.trans ?_
      rw [hf₂, State.calling_eq h.top, State.setFrames_setFrames, State.pushFrame, State.frames_setTop _ hr', State.setTop_of_frames _ hr', State.setFrames_setFrames, hr]
      rfl
    have hsame : U.sameButNew ({ U with heap := s₂.heap, slotsUsed := s₂.slotsUsed } : State) L mc ms := by
      refine ⟨?_, q2, q3, q4, q5, q6⟩
      obtain ⟨t, ht, -⟩ := State.frames_cons hr
      show ({ U with heap := s₂.heap, slotsUsed := s₂.slotsUsed } : State) = { U.setFrames U.frames with heap := s₂.heap, slotsUsed := s₂.slotsUsed }
      rw [State.setFrames_self ht]
    subst hg
    refine Or.inr ⟨q, ⟨(({ U with heap := s₂.heap, slotsUsed := s₂.slotsUsed } : State).setVm s₂.vm), Ls ++ L, c0 + mc, s0 + ms⟩,
      ⟨X.admits, X.cas, X.clock, X.frames, X.room, X.hears, X.method, X.code, (X.here.setHeapUsed s₂.heap s₂.slotsUsed).setVm hW'.alike, X.tail, State.WarmedH.trans X.warmed hW', X.limits, X.bytes, X.same.trans (hsame.setVm s.vm)⟩,
      ⟨g, mk, s₂, L, E, ce, rfl, rfl, hx, hce, hcv, hcl, rfl, hL, rfl, rfl⟩, ?_⟩
    show Steps p.tables e below _ (((({ U with heap := s₂.heap, slotsUsed := s₂.slotsUsed } : State).setVm s₂.vm).setTop g).pushFrame (.throwing q))
    rw [← hs₂]
    exact hsteps
end Payer
section Calls
variable {p : Program} {l : Launch} {e : Env} {R : Room} {s : State} {m : MethodId} {args : Array Value} {below : List Frame} {meth : Method} {c : Code} {T : State} {locs : List Loc} {cells slots : Nat}
theorem vx_callV (X : Stand p l e R s m args below meth c T locs cells slots) (hexec : p.tables.exec = Jvm.exec) {own C : String} {index : Nat} {y : MethodName} {bytes : ByteArray} {maxL : Nat} {ret : Option FieldType}
    (hown : s.vm.findClass own = some m.cls) (hlink : (Cond.methodLink own index y).before args s = true) (hinst : (Cond.instanceMethod y).before args s = true) (hsel : (Cond.selects C y y).before args s = true)
    (hcode : (Cond.code y bytes maxL ret).before args s = true) (hy : y.cls ≠ "java/lang/invoke/MethodHandle" ∧ y.cls ≠ "java/lang/invoke/VarHandle")
    {W9 : Nat} {Pre : Pt → Array Value → Prop} {Post : Pt → Array Value → Option Value → Pt → Prop} {PostX : Pt → Array Value → Addr → Pt → Prop} (hK : vx_Back l R p e below s args y 3 W9 Pre Post PostX)
    {b : Addr} {cellB : Cell} (hcell : T.heap[b]? = some cellB) (hobj : cellB.vm.isStatics = false) (hcls : s.vm.findClass C = some cellB.cls)
    {g : JFrame} (hg : g.method = m) (hsize : g.locals.size = c.maxLocals) {argsL rest : List Value} (hlen : ∀ sig, parseMethodDescriptor y.desc = some sig → argsL.length = sig.parameters.length)
    (hstack : g.stack = argsL.reverse ++ .ref b :: rest) (hW : 2 * g.monitorRoom + (rest.map fun v => v.category).sum ≤ W9) (hdg : decode c.code g.pc = .ok (.invokevirtual index, 3))
    (hpre : ∀ vm₁, s.WarmedH vm₁ → Pre ⟨T.setVm vm₁, locs, cells, slots⟩ (Value.ref b :: argsL).toArray) :
    (∃ (v : Option Value) (vm₁ : Vm) (B : Pt), s.WarmedH vm₁ ∧ Stand p l e R s m args below meth c B.U B.locs B.cells B.slots ∧ Post ⟨T.setVm vm₁, locs, cells, slots⟩ (Value.ref b :: argsL).toArray v B ∧
      ∀ target, Steps p.tables e below (B.U.setTop { g with pc := g.pc + 3, stack := v.toList ++ rest }) target → Steps p.tables e below (T.setTop g) target) ∨
    (∃ (q : Addr) (vm₁ : Vm) (B : Pt), s.WarmedH vm₁ ∧ Stand p l e R s m args below meth c B.U B.locs B.cells B.slots ∧ PostX ⟨T.setVm vm₁, locs, cells, slots⟩ (Value.ref b :: argsL).toArray q B ∧
      Steps p.tables e below (T.setTop g) ((B.U.setTop { g with stack := rest }).pushFrame (.throwing q))) := by
  obtain ⟨mk, methM, hnamed, hmethM, hstM, habM⟩ := Cond.instanceMethod_spec hinst
  obtain ⟨methM', cM, hmethM', -, -, -, -, -, -, hsigM⟩ := Cond.code_spec hnamed hcode
  cases hmethM.symm.trans hmethM'
  obtain ⟨c2, r2, m2, q1, q2, q3, q4, kP, hkP, hkPi⟩ := Cond.selects_spec hsel
  cases hcls.symm.trans q1
  cases (State.methodFound?_of_named hnamed hy).symm.trans q2
  cases hnamed.symm.trans q3
  have hselP : selectMethod e.platform s.vm cellB.cls mk = .method mk := by rw [Launch.admits_selectMethod X.admits]; exact q4
  obtain ⟨vm₁, X₁, hstep₁⟩ := X.invokevirtual hexec hown hlink hnamed hmethM hstM hkP hkPi hy (a := b) (cell := cellB) hcell
    (fun z h => by rw [h] at hobj; cases hobj) hselP hmethM habM hkP hkPi (g := g) hg (argsL := argsL) (rest := rest) (hlen _ hsigM) hstack hdg
  rcases hK m meth c ⟨T.setVm vm₁, locs, cells, slots⟩ { g with stack := rest } (.invokevirtual index) mk (Value.ref b :: argsL).toArray X₁ hg hsize hdg hW (X₁.named hnamed) (hpre vm₁ X₁.warmed) with ⟨v, B, X', hpost, hsteps⟩ | ⟨q, B, X', hpost, hsteps⟩
  · exact Or.inl ⟨v, vm₁, B, X₁.warmed, X', hpost, fun target h => hstep₁ _ fun acts => by rw [doInvoke_state]; exact hsteps.trans h⟩
  · exact Or.inr ⟨q, vm₁, B, X₁.warmed, X', hpost, hstep₁ _ fun acts => by rw [doInvoke_state]; exact hsteps⟩
theorem vx_callS (X : Stand p l e R s m args below meth c T locs cells slots) (hexec : p.tables.exec = Jvm.exec) {own : String} {index : Nat} {y : MethodName} {bytes : ByteArray} {maxL : Nat} {ret : Option FieldType}
    (hown : s.vm.findClass own = some m.cls) (hlink : (Cond.methodLink own index y).before args s = true) (hstat : (Cond.static y).before args s = true) (hinit : (Cond.initialized y.cls).before args s = true)
    (hcode : (Cond.code y bytes maxL ret).before args s = true) (hy : y.cls ≠ "java/lang/invoke/MethodHandle" ∧ y.cls ≠ "java/lang/invoke/VarHandle")
    {W9 : Nat} {Pre : Pt → Array Value → Prop} {Post : Pt → Array Value → Option Value → Pt → Prop} {PostX : Pt → Array Value → Addr → Pt → Prop} (hK : vx_Back l R p e below s args y 3 W9 Pre Post PostX)
    {g : JFrame} (hg : g.method = m) (hsize : g.locals.size = c.maxLocals) {argsL rest : List Value} (hlen : ∀ sig, parseMethodDescriptor y.desc = some sig → argsL.length = sig.parameters.length)
    (hstack : g.stack = argsL.reverse ++ rest) (hW : 2 * g.monitorRoom + (rest.map fun v => v.category).sum ≤ W9) (hdg : decode c.code g.pc = .ok (.invokestatic index, 3))
    (hpre : ∀ vm₁, s.WarmedH vm₁ → Pre ⟨T.setVm vm₁, locs, cells, slots⟩ argsL.toArray) :
    (∃ (v : Option Value) (vm₁ : Vm) (B : Pt), s.WarmedH vm₁ ∧ Stand p l e R s m args below meth c B.U B.locs B.cells B.slots ∧ Post ⟨T.setVm vm₁, locs, cells, slots⟩ argsL.toArray v B ∧
      ∀ target, Steps p.tables e below (B.U.setTop { g with pc := g.pc + 3, stack := v.toList ++ rest }) target → Steps p.tables e below (T.setTop g) target) ∨
    (∃ (q : Addr) (vm₁ : Vm) (B : Pt), s.WarmedH vm₁ ∧ Stand p l e R s m args below meth c B.U B.locs B.cells B.slots ∧ PostX ⟨T.setVm vm₁, locs, cells, slots⟩ argsL.toArray q B ∧
      Steps p.tables e below (T.setTop g) ((B.U.setTop { g with stack := rest }).pushFrame (.throwing q))) := by
  obtain ⟨mk, hnamed⟩ := Cond.code_named hcode
  obtain ⟨methM, cM, hmethM, -, -, -, -, -, -, hsigM⟩ := Cond.code_spec hnamed hcode
  have hstatic : methM.isStatic = true := Cond.static_spec hnamed hmethM hstat
  obtain ⟨kP, hkP, -⟩ := className_of_methodNamed hnamed
  have hinitP : kP.init = .initialized := Cond.initialized_spec (findClass_of_methodNamed hnamed) hkP hinit
  obtain ⟨vm₁, X₁, hstep₁⟩ := X.invokestatic hexec hown hlink hnamed hmethM hstatic hkP hinitP hy (g := g) hg (argsL := argsL) (rest := rest) (hlen _ hsigM) hstack hdg
  rcases hK m meth c ⟨T.setVm vm₁, locs, cells, slots⟩ { g with stack := rest } (.invokestatic index) mk argsL.toArray X₁ hg hsize hdg hW (X₁.named hnamed) (hpre vm₁ X₁.warmed) with ⟨v, B, X', hpost, hsteps⟩ | ⟨q, B, X', hpost, hsteps⟩
  · exact Or.inl ⟨v, vm₁, B, X₁.warmed, X', hpost, fun target h => hstep₁ _ fun acts => by rw [doInvoke_state]; exact hsteps.trans h⟩
  · exact Or.inr ⟨q, vm₁, B, X₁.warmed, X', hpost, hstep₁ _ fun acts => by rw [doInvoke_state]; exact hsteps⟩
end Calls
theorem vx_cls {s : State} {T : State} {vm₁ : Vm} {E : String} {k : ClassId} (hW : s.WarmedH vm₁) (h : (T.setVm vm₁).vm.findClass E = some k) : s.vm.findClass E = some k := by
  have h1 : vm₁.findClass E = some k := h
  rw [hW.alike.findClass] at h1
  exact h1
/-- the method's frame g, with q thrown over it -/
def vx_W (p : Program) (l : Launch) (e : Env) (R : Room) (s : State) (m : MethodId) (args : Array Value) (below : List Frame) (meth : Method) (c : Code) (H : Heap) (locs : List Loc) (cells slots : Nat) (Q : State → Prop) (g : JFrame) (q : Addr) : Prop :=
  ∀ T : State, T.heap = H → Stand p l e R s m args below meth c T locs cells slots → ∃ t, Steps p.tables e below ((T.setTop g).pushFrame (.throwing q)) t ∧ Q t
def vx_Run (p : Program) (l : Launch) (e : Env) (R : Room) (s : State) (m : MethodId) (args : Array Value) (below : List Frame) (meth : Method) (c : Code) (H : Heap) (locs : List Loc) (cells slots mc ms : Nat) (g : JFrame) (rest : List Value) (Qa : State → Outcome → State → Prop) (XC : String → State → State → Prop) (free : Addr → Prop) : Prop :=
  ∀ T : State, T.heap = H → Stand p l e R s m args below meth c T locs cells slots →
    (∃ (v : Option Value) (st₀ t T' : State) (L : List Loc), st₀.heap = H ∧ Stand p l e R s m args below meth c T' (locs ++ L) (cells + mc) (slots + ms) ∧ (∀ q ∈ L, free q.base) ∧ T'.heap = t.heap ∧ T'.vm = t.vm ∧ Qa st₀ (.returned v) t ∧
      Goes p e below T g T' { g with pc := g.pc + 3, stack := v.toList ++ rest }) ∨
    (∃ (q : Addr) (st₀ t T' : State) (L : List Loc) (E : String) (ce : Cell), st₀.heap = H ∧ Stand p l e R s m args below meth c T' (locs ++ L) (cells + mc) (slots + ms) ∧ (∀ z ∈ L, free z.base) ∧ T'.heap = t.heap ∧ T'.vm = t.vm ∧ XC E st₀ t ∧ t.heap[q]? = some ce ∧ ce.vm = .none ∧ s.vm.findClass E = some ce.cls ∧
      Steps p.tables e below (T.setTop g) ((T'.setTop { g with stack := rest }).pushFrame (.throwing q)))
def vx_X {S : Type} (px : S → Prop) (B : String → S → State → Prop) (A : Nat → Prop) : String → State → State → Prop := fun E st t => ∃ u : S, px u ∧ B E u t ∧ va_F A st t
section Runs
variable {p : Program} {l : Launch} {e : Env} {R : Room} {s : State} {m : MethodId} {args : Array Value} {below : List Frame} {meth : Method} {c : Code} {H : Heap} {locs : List Loc} {cells slots : Nat}
variable {y : MethodName} {bytes cc : ByteArray} {maxL nL mc ms n index : Nat} {ret : Option FieldType} {ws : List Cond} {rm : Room} {Pc : Array Value → State → Prop} {Qc : Array Value → State → Outcome → State → Prop} {XC : String → State → State → Prop} {free : Addr → Prop} {Ts : List Cond} {own C : String} {b : Addr} {As rest : List Value} {g : JFrame}
theorem vx_callBack (cb : CallB R s args own index y bytes maxL ret ws rm mc ms n) (hM : vx_Met l y ws rm Pc Qc XC mc ms free) (hbl : FrameBlind Pc) : vx_Back l R p e below s args y 3 8 (PreOf R mc ms Pc) (PostOf Qc mc ms free) (vx_Post XC mc ms free) := by
  obtain ⟨hrc, hrs, hfr, hlo, hws, hcw, -, hini, -⟩ := cb
  exact vx_back (bytes := bytes) (maxL := maxL) (ret := ret) hM hbl hrc hrs hfr hlo hws hcw (fun a' U hW => word_at hW (Or.inl (by first | rfl | simp [Cond.onTables, Cond.keeps, Cond.steady])) hini)
theorem vx_runV (S : CallFix p m c cc nL s args Ts own) (hM : vx_Met l y ws rm Pc Qc XC mc ms free) (cw : CallW R s args own C index y bytes maxL ret ws rm mc ms n) (hp : PreV s H C b Pc As)
    (hg : g.method = m) (hn : As.length = n) (hsize : g.locals.size = nL) (hstack : g.stack = As.reverse ++ .ref b :: rest) (hW : 2 * g.monitorRoom + (rest.map fun v => v.category).sum ≤ 8) (hdg : decode cc g.pc = .ok (.invokevirtual index, 3)) (hf : cells + mc ≤ R.cells ∧ slots + ms ≤ R.slots) :
    vx_Run p l e R s m args below meth c H locs cells slots mc ms g rest (Qc (Value.ref b :: As).toArray) XC free := by
  have hK : vx_Back l R p e below s args y 3 8 (PreOf R mc ms Pc) (PostOf Qc mc ms free) (vx_Post XC mc ms free) := vx_callBack cw.1 hM hp.1
  obtain ⟨⟨-, -, -, -, -, -, hcode, -, hy, hlen, hl⟩, hin, hse⟩ := cw
  obtain ⟨hx, hb, hml, ho, -⟩ := S
  obtain ⟨-, ⟨cellB, hcB, hoB, hclB⟩, hPc⟩ := hp
  intro T hT X
  rcases vx_callV X hx (C := C) (bytes := bytes) (maxL := maxL) (ret := ret) ho hl hin hse hcode hy hK (by rw [hT]; exact hcB) hoB hclB hg (hsize.trans hml.symm) (argsL := As) (rest := rest) (fun sig h => hn.trans (hlen sig h)) hstack hW (by rw [hb]; exact hdg)
    (fun vm₁ hW₁ => ⟨hf.1, hf.2, hPc (T.setVm vm₁) hT hW₁⟩) with ⟨v, vm₁, ⟨U', l2, c2, s2⟩, hW₁, X', ⟨g', mk, t, L, e1, e2, hq, h1, hL, h2, h3⟩, st⟩ | ⟨q, vm₁, ⟨U', l2, c2, s2⟩, hW₁, X', ⟨g', mk, t, L, E, ce, e1, e2, hq, hce, hcv, hcl, h1, hL, h2, h3⟩, st⟩
  · dsimp only [Pt.U, Pt.locs, Pt.cells, Pt.slots] at X' e1 e2 h1 h2 h3 st
    subst h1; subst h2; subst h3
    exact Or.inl ⟨v, (T.setVm vm₁).calling g' mk (Value.ref b :: As).toArray, t, U', L, hT, X', hL, e1, e2, hq, st⟩
  · dsimp only [Pt.U, Pt.locs, Pt.cells, Pt.slots] at X' e1 e2 h1 h2 h3 st hcl
    subst h1; subst h2; subst h3
    exact Or.inr ⟨q, (T.setVm vm₁).calling g' mk (Value.ref b :: As).toArray, t, U', L, E, ce, hT, X', hL, e1, e2, hq, hce, hcv, vx_cls hW₁ hcl, st⟩
theorem vx_runS (S : CallFix p m c cc nL s args Ts own) (hM : vx_Met l y ws rm Pc Qc XC mc ms free) (cw : CallB R s args own index y bytes maxL ret ws rm mc ms n ∧ (Cond.static y).before args s = true) (hp : PreS s H Pc As)
    (hg : g.method = m) (hn : As.length = n) (hsize : g.locals.size = nL) (hstack : g.stack = As.reverse ++ rest) (hW : 2 * g.monitorRoom + (rest.map fun v => v.category).sum ≤ 8) (hdg : decode cc g.pc = .ok (.invokestatic index, 3)) (hf : cells + mc ≤ R.cells ∧ slots + ms ≤ R.slots) :
    vx_Run p l e R s m args below meth c H locs cells slots mc ms g rest (Qc As.toArray) XC free := by
  have hK : vx_Back l R p e below s args y 3 8 (PreOf R mc ms Pc) (PostOf Qc mc ms free) (vx_Post XC mc ms free) := vx_callBack cw.1 hM hp.1
  obtain ⟨⟨-, -, -, -, -, -, hcode, hini, hy, hlen, hl⟩, hstt⟩ := cw
  obtain ⟨hx, hb, hml, ho, -⟩ := S
  intro T hT X
  rcases vx_callS X hx (bytes := bytes) (maxL := maxL) (ret := ret) ho hl hstt hini hcode hy hK hg (hsize.trans hml.symm) (argsL := As) (rest := rest) (fun sig h => hn.trans (hlen sig h)) hstack hW (by rw [hb]; exact hdg)
    (fun vm₁ hW₁ => ⟨hf.1, hf.2, hp.2 (T.setVm vm₁) hT hW₁⟩) with ⟨v, vm₁, ⟨U', l2, c2, s2⟩, hW₁, X', ⟨g', mk, t, L, e1, e2, hq, h1, hL, h2, h3⟩, st⟩ | ⟨q, vm₁, ⟨U', l2, c2, s2⟩, hW₁, X', ⟨g', mk, t, L, E, ce, e1, e2, hq, hce, hcv, hcl, h1, hL, h2, h3⟩, st⟩
  · dsimp only [Pt.U, Pt.locs, Pt.cells, Pt.slots] at X' e1 e2 h1 h2 h3 st
    subst h1; subst h2; subst h3
    exact Or.inl ⟨v, (T.setVm vm₁).calling g' mk As.toArray, t, U', L, hT, X', hL, e1, e2, hq, st⟩
  · dsimp only [Pt.U, Pt.locs, Pt.cells, Pt.slots] at X' e1 e2 h1 h2 h3 st hcl
    subst h1; subst h2; subst h3
    exact Or.inr ⟨q, (T.setVm vm₁).calling g' mk As.toArray, t, U', L, E, ce, hT, X', hL, e1, e2, hq, hce, hcv, vx_cls hW₁ hcl, st⟩
end Runs
section Rows
variable {p : Program} {l : Launch} {e : Env} {R : Room} {s : State} {m : MethodId} {args : Array Value} {below : List Frame} {meth : Method} {c : Code} {H : Heap} {locs : List Loc} {cells slots : Nat} {Q : State → Prop}
variable {mc ms : Nat} {free : Addr → Prop} {A0 A1 : Nat → Prop} {H0 : Heap} {a : Array Value} {pc : Nat} {ls : Array Slot} {st0 rest : List Value}
theorem vx_keep {st₀ t T' : State} {L : List Loc} (h0 : st₀.heap = H) (e1 : T'.heap = t.heap) (hS : va_S A0 H0 H locs) (hA : ∀ q, q < H.size → A1 q → A0 q) (hf : ∀ q, free q → A0 q) (hL : ∀ q ∈ L, free q.base) (hF : va_F A1 st₀ t) :
    H.size ≤ T'.heap.size ∧ (∀ q : Nat, q < H.size → ¬ A1 q → T'.heap[q]? = H[q]?) ∧ va_S A0 H0 T'.heap (locs ++ L) := by
  obtain ⟨hz, hk⟩ := hF
  rw [h0] at hz hk
  exact ⟨by rw [e1]; exact hz, fun q h1 h2 => by rw [e1]; exact hk q h1 h2,
    ⟨Nat.le_trans hS.1 (by rw [e1]; exact hz), fun q h1 h2 => by rw [e1, hk q (Nat.lt_of_lt_of_le h1 hS.1) (fun z => h2 (hA q (Nat.lt_of_lt_of_le h1 hS.1) z))]; exact hS.2.1 q h1 h2, fun q hq => by
      rcases List.mem_append.mp hq with h | h
      · exact hS.2.2 q h
      · exact hf _ (hL q h)⟩⟩
theorem vx_calli {S SX : Type} {post : Int32 → S → Prop} {px : SX → Prop} {B : S → State → Prop} {BX : String → SX → State → Prop} {AX : Nat → Prop} (hr : vx_Run p l e R s m args below meth c H locs cells slots mc ms (F0 m pc ls st0) rest (va_Qi post B A1 a) (vx_X px BX AX) free) (hS : va_S A0 H0 H locs) (hA : ∀ q, q < H.size → A1 q → A0 q) (hf : ∀ q, free q → A0 q) (hAX : ∀ q, q < H.size → AX q → A0 q)
    (kx : ∀ (E : String) (ce : Cell) (q9 : Addr) (u : SX) (t : State) (H1 : Heap) (locs1 : List Loc), t.heap = H1 → s.vm.Alike t.vm → px u → BX E u t → H.size ≤ H1.size → (∀ q : Nat, q < H.size → ¬ AX q → H1[q]? = H[q]?) → va_S A0 H0 H1 locs1 → H1[q9]? = some ce → ce.vm = .none → s.vm.findClass E = some ce.cls → vx_W p l e R s m args below meth c H1 locs1 (cells + mc) (slots + ms) Q (F0 m pc ls rest) q9)
    (kk : ∀ (r : Int32) (u : S) (t : State) (H1 : Heap) (locs1 : List Loc), t.heap = H1 → s.vm.Alike t.vm → post r u → B u t → H.size ≤ H1.size → (∀ q : Nat, q < H.size → ¬ A1 q → H1[q]? = H[q]?) → va_S A0 H0 H1 locs1 → W p l e R s m args below meth c H1 locs1 (cells + mc) (slots + ms) Q (F0 m (pc + 3) ls (.int r :: rest))) : W p l e R s m args below meth c H locs cells slots Q (F0 m pc ls st0) := by
  intro T hT X
  rcases hr T hT X with ⟨v, st₀, t, T', L, h0, X', hL, e1, e2, ⟨⟨r, u, hv, hp, hb⟩, hF⟩, st⟩ | ⟨q, st₀, t, T', L, E, ce, h0, X', hL, e1, e2, ⟨u, hp, hb, hF⟩, hce, hcv, hcl, st⟩
  · cases hv
    obtain ⟨k1, k2, k3⟩ := vx_keep h0 e1 hS hA hf hL hF
    obtain ⟨t2, a1, b1⟩ := kk r u t T'.heap (locs ++ L) e1.symm (by rw [← e2]; exact X'.warmed.alike) hp hb k1 k2 k3 T' rfl X'
    exact ⟨t2, st t2 a1, b1⟩
  · obtain ⟨k1, k2, k3⟩ := vx_keep h0 e1 hS hAX hf hL hF
    obtain ⟨t2, a1, b1⟩ := kx E ce q u t T'.heap (locs ++ L) e1.symm (by rw [← e2]; exact X'.warmed.alike) hp hb k1 k2 k3 (by rw [e1]; exact hce) hcv hcl T' rfl X'
    exact ⟨t2, st.trans a1, b1⟩
theorem vx_calll {S SX : Type} {post : Int64 → S → Prop} {px : SX → Prop} {B : S → State → Prop} {BX : String → SX → State → Prop} {AX : Nat → Prop} (hr : vx_Run p l e R s m args below meth c H locs cells slots mc ms (F0 m pc ls st0) rest (va_Ql post B A1 a) (vx_X px BX AX) free) (hS : va_S A0 H0 H locs) (hA : ∀ q, q < H.size → A1 q → A0 q) (hf : ∀ q, free q → A0 q) (hAX : ∀ q, q < H.size → AX q → A0 q)
    (kx : ∀ (E : String) (ce : Cell) (q9 : Addr) (u : SX) (t : State) (H1 : Heap) (locs1 : List Loc), t.heap = H1 → s.vm.Alike t.vm → px u → BX E u t → H.size ≤ H1.size → (∀ q : Nat, q < H.size → ¬ AX q → H1[q]? = H[q]?) → va_S A0 H0 H1 locs1 → H1[q9]? = some ce → ce.vm = .none → s.vm.findClass E = some ce.cls → vx_W p l e R s m args below meth c H1 locs1 (cells + mc) (slots + ms) Q (F0 m pc ls rest) q9)
    (kk : ∀ (r : Int64) (u : S) (t : State) (H1 : Heap) (locs1 : List Loc), t.heap = H1 → s.vm.Alike t.vm → post r u → B u t → H.size ≤ H1.size → (∀ q : Nat, q < H.size → ¬ A1 q → H1[q]? = H[q]?) → va_S A0 H0 H1 locs1 → W p l e R s m args below meth c H1 locs1 (cells + mc) (slots + ms) Q (F0 m (pc + 3) ls (.long r :: rest))) : W p l e R s m args below meth c H locs cells slots Q (F0 m pc ls st0) := by
  intro T hT X
  rcases hr T hT X with ⟨v, st₀, t, T', L, h0, X', hL, e1, e2, ⟨⟨r, u, hv, hp, hb⟩, hF⟩, st⟩ | ⟨q, st₀, t, T', L, E, ce, h0, X', hL, e1, e2, ⟨u, hp, hb, hF⟩, hce, hcv, hcl, st⟩
  · cases hv
    obtain ⟨k1, k2, k3⟩ := vx_keep h0 e1 hS hA hf hL hF
    obtain ⟨t2, a1, b1⟩ := kk r u t T'.heap (locs ++ L) e1.symm (by rw [← e2]; exact X'.warmed.alike) hp hb k1 k2 k3 T' rfl X'
    exact ⟨t2, st t2 a1, b1⟩
  · obtain ⟨k1, k2, k3⟩ := vx_keep h0 e1 hS hAX hf hL hF
    obtain ⟨t2, a1, b1⟩ := kx E ce q u t T'.heap (locs ++ L) e1.symm (by rw [← e2]; exact X'.warmed.alike) hp hb k1 k2 k3 (by rw [e1]; exact hce) hcv hcl T' rfl X'
    exact ⟨t2, st.trans a1, b1⟩
theorem vx_callf {S SX : Type} {post : UInt32 → S → Prop} {px : SX → Prop} {B : S → State → Prop} {BX : String → SX → State → Prop} {AX : Nat → Prop} (hr : vx_Run p l e R s m args below meth c H locs cells slots mc ms (F0 m pc ls st0) rest (va_Qf post B A1 a) (vx_X px BX AX) free) (hS : va_S A0 H0 H locs) (hA : ∀ q, q < H.size → A1 q → A0 q) (hf : ∀ q, free q → A0 q) (hAX : ∀ q, q < H.size → AX q → A0 q)
    (kx : ∀ (E : String) (ce : Cell) (q9 : Addr) (u : SX) (t : State) (H1 : Heap) (locs1 : List Loc), t.heap = H1 → s.vm.Alike t.vm → px u → BX E u t → H.size ≤ H1.size → (∀ q : Nat, q < H.size → ¬ AX q → H1[q]? = H[q]?) → va_S A0 H0 H1 locs1 → H1[q9]? = some ce → ce.vm = .none → s.vm.findClass E = some ce.cls → vx_W p l e R s m args below meth c H1 locs1 (cells + mc) (slots + ms) Q (F0 m pc ls rest) q9)
    (kk : ∀ (r : UInt32) (u : S) (t : State) (H1 : Heap) (locs1 : List Loc), t.heap = H1 → s.vm.Alike t.vm → post r u → B u t → H.size ≤ H1.size → (∀ q : Nat, q < H.size → ¬ A1 q → H1[q]? = H[q]?) → va_S A0 H0 H1 locs1 → W p l e R s m args below meth c H1 locs1 (cells + mc) (slots + ms) Q (F0 m (pc + 3) ls (.float r :: rest))) : W p l e R s m args below meth c H locs cells slots Q (F0 m pc ls st0) := by
  intro T hT X
  rcases hr T hT X with ⟨v, st₀, t, T', L, h0, X', hL, e1, e2, ⟨⟨r, u, hv, hp, hb⟩, hF⟩, st⟩ | ⟨q, st₀, t, T', L, E, ce, h0, X', hL, e1, e2, ⟨u, hp, hb, hF⟩, hce, hcv, hcl, st⟩
  · cases hv
    obtain ⟨k1, k2, k3⟩ := vx_keep h0 e1 hS hA hf hL hF
    obtain ⟨t2, a1, b1⟩ := kk r u t T'.heap (locs ++ L) e1.symm (by rw [← e2]; exact X'.warmed.alike) hp hb k1 k2 k3 T' rfl X'
    exact ⟨t2, st t2 a1, b1⟩
  · obtain ⟨k1, k2, k3⟩ := vx_keep h0 e1 hS hAX hf hL hF
    obtain ⟨t2, a1, b1⟩ := kx E ce q u t T'.heap (locs ++ L) e1.symm (by rw [← e2]; exact X'.warmed.alike) hp hb k1 k2 k3 (by rw [e1]; exact hce) hcv hcl T' rfl X'
    exact ⟨t2, st.trans a1, b1⟩
theorem vx_calld {S SX : Type} {post : UInt64 → S → Prop} {px : SX → Prop} {B : S → State → Prop} {BX : String → SX → State → Prop} {AX : Nat → Prop} (hr : vx_Run p l e R s m args below meth c H locs cells slots mc ms (F0 m pc ls st0) rest (va_Qd post B A1 a) (vx_X px BX AX) free) (hS : va_S A0 H0 H locs) (hA : ∀ q, q < H.size → A1 q → A0 q) (hf : ∀ q, free q → A0 q) (hAX : ∀ q, q < H.size → AX q → A0 q)
    (kx : ∀ (E : String) (ce : Cell) (q9 : Addr) (u : SX) (t : State) (H1 : Heap) (locs1 : List Loc), t.heap = H1 → s.vm.Alike t.vm → px u → BX E u t → H.size ≤ H1.size → (∀ q : Nat, q < H.size → ¬ AX q → H1[q]? = H[q]?) → va_S A0 H0 H1 locs1 → H1[q9]? = some ce → ce.vm = .none → s.vm.findClass E = some ce.cls → vx_W p l e R s m args below meth c H1 locs1 (cells + mc) (slots + ms) Q (F0 m pc ls rest) q9)
    (kk : ∀ (r : UInt64) (u : S) (t : State) (H1 : Heap) (locs1 : List Loc), t.heap = H1 → s.vm.Alike t.vm → post r u → B u t → H.size ≤ H1.size → (∀ q : Nat, q < H.size → ¬ A1 q → H1[q]? = H[q]?) → va_S A0 H0 H1 locs1 → W p l e R s m args below meth c H1 locs1 (cells + mc) (slots + ms) Q (F0 m (pc + 3) ls (.double r :: rest))) : W p l e R s m args below meth c H locs cells slots Q (F0 m pc ls st0) := by
  intro T hT X
  rcases hr T hT X with ⟨v, st₀, t, T', L, h0, X', hL, e1, e2, ⟨⟨r, u, hv, hp, hb⟩, hF⟩, st⟩ | ⟨q, st₀, t, T', L, E, ce, h0, X', hL, e1, e2, ⟨u, hp, hb, hF⟩, hce, hcv, hcl, st⟩
  · cases hv
    obtain ⟨k1, k2, k3⟩ := vx_keep h0 e1 hS hA hf hL hF
    obtain ⟨t2, a1, b1⟩ := kk r u t T'.heap (locs ++ L) e1.symm (by rw [← e2]; exact X'.warmed.alike) hp hb k1 k2 k3 T' rfl X'
    exact ⟨t2, st t2 a1, b1⟩
  · obtain ⟨k1, k2, k3⟩ := vx_keep h0 e1 hS hAX hf hL hF
    obtain ⟨t2, a1, b1⟩ := kx E ce q u t T'.heap (locs ++ L) e1.symm (by rw [← e2]; exact X'.warmed.alike) hp hb k1 k2 k3 (by rw [e1]; exact hce) hcv hcl T' rfl X'
    exact ⟨t2, st.trans a1, b1⟩
theorem vx_callv {S SX : Type} {post : S → Prop} {px : SX → Prop} {B : S → State → Prop} {BX : String → SX → State → Prop} {AX : Nat → Prop} (hr : vx_Run p l e R s m args below meth c H locs cells slots mc ms (F0 m pc ls st0) rest (va_Qv post B A1 a) (vx_X px BX AX) free) (hS : va_S A0 H0 H locs) (hA : ∀ q, q < H.size → A1 q → A0 q) (hf : ∀ q, free q → A0 q) (hAX : ∀ q, q < H.size → AX q → A0 q)
    (kx : ∀ (E : String) (ce : Cell) (q9 : Addr) (u : SX) (t : State) (H1 : Heap) (locs1 : List Loc), t.heap = H1 → s.vm.Alike t.vm → px u → BX E u t → H.size ≤ H1.size → (∀ q : Nat, q < H.size → ¬ AX q → H1[q]? = H[q]?) → va_S A0 H0 H1 locs1 → H1[q9]? = some ce → ce.vm = .none → s.vm.findClass E = some ce.cls → vx_W p l e R s m args below meth c H1 locs1 (cells + mc) (slots + ms) Q (F0 m pc ls rest) q9)
    (kk : ∀ (u : S) (t : State) (H1 : Heap) (locs1 : List Loc), t.heap = H1 → s.vm.Alike t.vm → post u → B u t → H.size ≤ H1.size → (∀ q : Nat, q < H.size → ¬ A1 q → H1[q]? = H[q]?) → va_S A0 H0 H1 locs1 → W p l e R s m args below meth c H1 locs1 (cells + mc) (slots + ms) Q (F0 m (pc + 3) ls (rest))) : W p l e R s m args below meth c H locs cells slots Q (F0 m pc ls st0) := by
  intro T hT X
  rcases hr T hT X with ⟨v, st₀, t, T', L, h0, X', hL, e1, e2, ⟨⟨u, hv, hp, hb⟩, hF⟩, st⟩ | ⟨q, st₀, t, T', L, E, ce, h0, X', hL, e1, e2, ⟨u, hp, hb, hF⟩, hce, hcv, hcl, st⟩
  · cases hv
    obtain ⟨k1, k2, k3⟩ := vx_keep h0 e1 hS hA hf hL hF
    obtain ⟨t2, a1, b1⟩ := kk u t T'.heap (locs ++ L) e1.symm (by rw [← e2]; exact X'.warmed.alike) hp hb k1 k2 k3 T' rfl X'
    exact ⟨t2, st t2 a1, b1⟩
  · obtain ⟨k1, k2, k3⟩ := vx_keep h0 e1 hS hAX hf hL hF
    obtain ⟨t2, a1, b1⟩ := kx E ce q u t T'.heap (locs ++ L) e1.symm (by rw [← e2]; exact X'.warmed.alike) hp hb k1 k2 k3 (by rw [e1]; exact hce) hcv hcl T' rfl X'
    exact ⟨t2, st.trans a1, b1⟩
/-- caught by the row x of this method's table; the rows ahead don't take it -/
theorem vx_catch {own name : String} {E : String} {ce : Cell} {q : Addr} (hown : s.vm.findClass own = some m.cls) (pre : List ExceptionTableEntry) (x : ExceptionTableEntry) (suf : List ExceptionTableEntry) (hsplit : c.exceptionTable.toList = pre ++ x :: suf)
    (hpass : ∀ z ∈ pre, covers z pc = false ∨ (z.catchType ≠ 0 ∧ ∃ nm : String, (Cond.classLink own z.catchType nm).before args s = true ∧ va_Nc E nm s)) (hx : covers x pc = true) (h0 : x.catchType ≠ 0)
    (hlink : (Cond.classLink own x.catchType name).before args s = true) (hcast : (Cond.castable E name).before args s = true) (hcell : H[q]? = some ce) (hv : ce.vm = .none) (hcl : s.vm.findClass E = some ce.cls)
    (kk : W p l e R s m args below meth c H locs cells slots Q (F0 m x.handlerPc ls [.ref q])) : vx_W p l e R s m args below meth c H locs cells slots Q (F0 m pc ls rest) q := by
  intro T hT X
  have hpl : e.platform.magicAccessors = ({} : Platform).magicAccessors := by rw [X.admits.platform]
  obtain ⟨c3, c4, hc3, hc4, hasg⟩ := Cond.castable_spec hcast
  cases Option.some.inj (hc3.symm.trans hcl)
  obtain ⟨c5, hc5, hcl5⟩ := Cond.classLink_spec hown hlink e.platform hpl
  cases Option.some.inj (hc4.symm.trans hc5)
  obtain ⟨vm', X', st⟩ := X.thenCaughtThrough q (g := F0 m pc ls rest) rfl (Steps.refl _) (by rw [hT]; exact hcell) (by rw [hv]; rfl) (by obtain ⟨k9, h9, -⟩ := Vm.findClass_spec hcl; exact ⟨k9, h9⟩) pre x suf hsplit
    (fun z hz => by
      rcases hpass z hz with h | ⟨hz0, nm, hl1, hn1⟩
      · exact Or.inl h
      · obtain ⟨c6, hc6, hcl6⟩ := Cond.classLink_spec hown hl1 e.platform hpl
        obtain ⟨a8, b8, h1, h2, h3⟩ := hn1
        cases Option.some.inj (h1.symm.trans hcl)
        cases Option.some.inj (h2.symm.trans hc6)
        exact Or.inr ⟨hz0, _, hcl6, h3⟩) hx (Or.inr ⟨h0, c4, hcl5, hasg⟩)
  obtain ⟨t, a1, b1⟩ := kk (T.setVm vm') hT X'
  exact ⟨t, st.trans a1, b1⟩
end Rows
section Ends
variable {p : Program} {l : Launch} {e : Env} {R : Room} {s : State} {m : MethodId} {args : Array Value} {below : List Frame} {meth : Method} {c : Code} {H : Heap} {locs : List Loc} {cells slots : Nat} {Q : State → Prop}
variable {mc ms : Nat} {free : Addr → Prop} {A0 A1 : Nat → Prop} {H0 : Heap} {a : Array Value} {ls : Array Slot} {st0 rest : List Value}
variable {Qc : Array Value → State → Outcome → State → Prop} {XC : String → State → State → Prop}
/-- what a body that may throw owes at its end -/
def vx_MQ (below : List Frame) (Qc : Array Value → State → Outcome → State → Prop) (XC : String → State → State → Prop) (a : Array Value) (s : State) (mc ms : Nat) (free : Addr → Prop) : State → Prop := fun t =>
  ∃ o, t.status = .running ∧ Ended t below o ∧ vx_Q Qc XC mc ms free a s o t
theorem vx_ret {g : JFrame} {mc ms : Nat} (k : W p l e R s m args below meth c H locs cells slots (MQ below Qc args s mc ms free) g) : W p l e R s m args below meth c H locs cells slots (vx_MQ below Qc XC args s mc ms free) g := by
  intro T hT X
  obtain ⟨t, a1, o, b1, b2, b3, b4⟩ := k T hT X
  exact ⟨t, a1, o, b1, b2, Or.inl ⟨b3, b4⟩⟩
/-- not caught here: it goes on to the caller -/
theorem vx_widen {g : JFrame} {q : Addr} {k n : Nat} (h1 : cells ≤ k) (h2 : slots ≤ n) (kk : vx_W p l e R s m args below meth c H locs k n Q g q) : vx_W p l e R s m args below meth c H locs cells slots Q g q := fun T hT X => kk T hT (stand_widen X h1 h2)
theorem vx_out {pc : Nat} {E : String} {ce : Cell} {q : Addr} {mc ms : Nat} (hout : ∀ x ∈ c.exceptionTable.toList, covers x pc = false) (hlocks : meth.locks = false) (hcell : H[q]? = some ce) (hv : ce.vm = .none) (hcl : s.vm.findClass E = some ce.cls)
    (hx : ∀ t : State, t.heap = H → s.vm.Alike t.vm → XC E s t) (hf : ∀ z ∈ locs, free z.base) (hc : cells ≤ mc) (hs : slots ≤ ms) :
    vx_W p l e R s m args below meth c H locs cells slots (vx_MQ below Qc XC args s mc ms free) (F0 m pc ls rest) q := by
  intro T hT X
  obtain ⟨st1, hrun, hend, hW, hsm⟩ := X.leaveThrown q (g := F0 m pc ls rest) rfl rfl rfl hout hlocks
  have hcell9 : (T.setFrames (.throwing q :: below)).heap[q]? = some ce := by
    show T.heap[q]? = some ce
    rw [hT]; exact hcell
  exact ⟨_, st1, .threw q, hrun, hend, Or.inr ⟨q, rfl, E, ce, locs, hx _ hT hW.alike, hcell9, hv, hcl, hW, hsm.mono hc hs, hf⟩⟩
theorem vx_frame {U : State} {k n : Nat} (h : s.sameButNew ({ U with vm := s.vm } : State) locs k n) : s.heap.size ≤ U.heap.size ∧ ∀ q : Nat, q < s.heap.size → (∀ z ∈ locs, z.base ≠ q) → U.heap[q]? = s.heap[q]? := by
  obtain ⟨-, h2, -, -, -, h6⟩ := h
  refine ⟨h2, fun q hq hz => ?_⟩
  obtain ⟨c9, e1, e2, e3, e4⟩ := h6 q _ (Array.getElem?_eq_getElem hq)
  have hs : c9.slots = (s.heap[q]).slots := Array.ext_getElem? fun i => e4 i fun hm => hz _ hm rfl
  have h9 : c9 = s.heap[q] := by
    rw [hs] at e2
    exact e2
  have e5 : U.heap[q]? = some c9 := e1
  rw [e5, h9, Array.getElem?_eq_getElem hq]
/-- the words of a throw but the four that speak of the heap -/
def vx_no (w : Cond) : Bool := decide (w ≠ .isRef (.static Bundle.tN "UNASSIGNED_STACK" Bundle.steD)) && decide (w ≠ .isRef (.static Bundle.tN "SUPPRESSED_SENTINEL" Bundle.listD)) && decide (w ≠ .laysStatic Bundle.tN "UNASSIGNED_STACK" Bundle.steD) && decide (w ≠ .laysStatic Bundle.tN "SUPPRESSED_SENTINEL" Bundle.listD)
def vx_at0 (own : String) (ic : Nat) (X : String) (names : List String) : List Cond := (Bundle.ownAtoms0 own ic X names).filter vx_no
def vx_atS (own : String) (ic : Nat) (X : String) (names : List String) : List Cond := (Bundle.ownAtoms own ic X names).filter vx_no
/-- a word that the tables alone decide, or a good one -/
def vx_ot (w : Cond) : Bool := w.onTables || goodWord w
theorem vx_ot_at {args a' : Array Value} {s U : State} {w : Cond} (hW : s.WarmedH U.vm) (hvm : s.vm = U.vm) (hg : vx_ot w = true) (h : w.before args s = true) : w.before a' U = true := by
  simp only [vx_ot, Bool.or_eq_true] at hg
  rcases hg with hg | hg
  · exact va_tabs hg hvm h
  · exact word_at hW (good_of_word hg) h
/-- a list's words: the good ones out of the method's own list, the others by premises of their own -/
theorem vx_hat {args : Array Value} {s : State} {L B : List Cond} (h1 : ∀ w ∈ L.filter goodWord, w.before args s = true) (h2 : ∀ w ∈ L.filter (fun w => !goodWord w), w ∈ B) (h3 : ∀ w ∈ B, w.before args s = true) : ∀ w ∈ L, w.before args s = true := by
  intro w hw
  by_cases g : goodWord w = true
  · exact h1 w (List.mem_filter.mpr ⟨hw, g⟩)
  · refine h3 w (h2 w (List.mem_filter.mpr ⟨hw, ?_⟩))
    show (!goodWord w) = true
    cases hgw : goodWord w
    · rfl
    · exact absurd hgw g
theorem vx_c {args : Array Value} {s : State} {w : Cond} {B : List Cond} (h : w.before args s = true) (t : ∀ w ∈ B, w.before args s = true) : ∀ w' ∈ w :: B, w'.before args s = true := fun w' h' => (List.mem_cons.mp h').elim (fun e => by rw [e]; exact h) (t w')
theorem vx_n {args : Array Value} {s : State} : ∀ w ∈ ([] : List Cond), w.before args s = true := fun _ h => nomatch h
theorem vx_own {args : Array Value} {s : State} {L : List Cond} (h1 : ∀ w ∈ L.filter vx_no, w.before args s = true)
    (hU : (Cond.isRef (.static Bundle.tN "UNASSIGNED_STACK" Bundle.steD)).before args s = true) (hN : (Cond.isRef (.static Bundle.tN "SUPPRESSED_SENTINEL" Bundle.listD)).before args s = true)
    (lU : (Cond.laysStatic Bundle.tN "UNASSIGNED_STACK" Bundle.steD).before args s = true) (lN : (Cond.laysStatic Bundle.tN "SUPPRESSED_SENTINEL" Bundle.listD).before args s = true) : ∀ w ∈ L, w.before args s = true := by
  intro w hw
  by_cases e1 : w = .isRef (.static Bundle.tN "UNASSIGNED_STACK" Bundle.steD)
  · rw [e1]; exact hU
  · by_cases e2 : w = .isRef (.static Bundle.tN "SUPPRESSED_SENTINEL" Bundle.listD)
    · rw [e2]; exact hN
    · by_cases e3 : w = .laysStatic Bundle.tN "UNASSIGNED_STACK" Bundle.steD
      · rw [e3]; exact lU
      · by_cases e4 : w = .laysStatic Bundle.tN "SUPPRESSED_SENTINEL" Bundle.listD
        · rw [e4]; exact lN
        · exact h1 w (List.mem_filter.mpr ⟨hw, by unfold vx_no; rw [decide_eq_true e1, decide_eq_true e2, decide_eq_true e3, decide_eq_true e4]; rfl⟩)
/-- where a static field lies, its class's statics cell in H -/
def vx_L (C n d : String) (A : Nat → Prop) (U : State) (H : Heap) : Prop := ∃ (c : ClassId) (k : Class) (i : Nat) (f : Field) (a : Nat) (cell : Cell), U.vm.findClass C = some c ∧ U.fieldFound? C n d = some (c, k, i, f) ∧ f.isStatic = true ∧ k.statics = some a ∧ H[a]? = some cell ∧ cell.vm.isStatics = true ∧ cell.cls = c ∧ f.slot < cell.slots.size ∧ k.staticTypes[f.slot]? = some f.type ∧ ¬ A a
theorem vx_L.moved {C n d : String} {A : Nat → Prop} {u U : State} {H : Heap} (hvm : u.vm.Alike U.vm) (h : vx_L C n d A u H) : vx_L C n d A U H := by
  obtain ⟨c, k, i, f, a, cell, h1, h2, h3, h4, h5, h6, h7, h8, h9, h10⟩ := h
  obtain ⟨k', hi', he⟩ := State.fieldFound?_setVm hvm h2
  exact ⟨c, k', i, f, a, cell, by rw [hvm.findClass]; exact h1, hi', h3, by rw [he]; exact h4, h5, h6, h7, h8, by rw [he]; exact h9, h10⟩
theorem vx_L.kept {C n d : String} {A : Nat → Prop} {U : State} {H H1 : Heap} (h : vx_L C n d A U H) (hq : ∀ a : Nat, a < H.size → ¬ A a → H1[a]? = H[a]?) : vx_L C n d A U H1 := by
  obtain ⟨c, k, i, f, a, cell, h1, h2, h3, h4, h5, h6, h7, h8, h9, h10⟩ := h
  exact ⟨c, k, i, f, a, cell, h1, h2, h3, h4, by rw [hq a (Array.getElem?_eq_some_iff.mp h5).1 h10]; exact h5, h6, h7, h8, h9, h10⟩
theorem vx_L.narrow {C n d : String} {A B : Nat → Prop} {U : State} {H : Heap} (h : vx_L C n d A U H) (hAB : ∀ q, B q → A q) : vx_L C n d B U H := by
  obtain ⟨c, k, i, f, a, cell, h1, h2, h3, h4, h5, h6, h7, h8, h9, h10⟩ := h
  exact ⟨c, k, i, f, a, cell, h1, h2, h3, h4, h5, h6, h7, h8, h9, fun z => h10 (hAB _ z)⟩
theorem vx_L.word {C n d : String} {A : Nat → Prop} {s : State} {args : Array Value} (h : vx_L C n d A s s.heap) : (Cond.laysStatic C n d).before args s = true := by
  obtain ⟨c, k, i, f, a, cell, h1, h2, h3, h4, h5, h6, h7, h8, h9, -⟩ := h
  show (Cond.laysStatic C n d).holds args s none s [] = true
  exact Cond.laysStatic_of h1 h2 h3 h4 h5 h6 h7 h8 h9
/-- .. and what it holds: null or some reference -/
def vx_Zq (C n d : String) (A : Nat → Prop) (U : State) (H : Heap) : Prop := va_Zq C n d A U H ∧ vx_L C n d A U H
theorem vx_Zq.moved {C n d : String} {A : Nat → Prop} {u U : State} {H : Heap} (hvm : u.vm.Alike U.vm) (h : vx_Zq C n d A u H) : vx_Zq C n d A U H := ⟨va_Zq.moved hvm h.1, vx_L.moved hvm h.2⟩
theorem vx_Zq.kept {C n d : String} {A : Nat → Prop} {U : State} {H H1 : Heap} (h : vx_Zq C n d A U H) (hq : ∀ a : Nat, a < H.size → ¬ A a → H1[a]? = H[a]?) : vx_Zq C n d A U H1 := ⟨va_Zq.kept h.1 hq, vx_L.kept h.2 hq⟩
theorem vx_Zq.narrow {C n d : String} {A B : Nat → Prop} {U : State} {H : Heap} (h : vx_Zq C n d A U H) (hAB : ∀ q, B q → A q) : vx_Zq C n d B U H := ⟨va_Zq.narrow h.1 hAB, vx_L.narrow h.2 hAB⟩
theorem vx_Zqof {args : Array Value} {s : State} {C n d : String} {A : Nat → Prop} (hl : (Cond.laysStatic C n d).before args s = true) (hini : (Cond.initialized C).before args s = true) (h : (Cond.isRef (.static C n d)).before args s = true) (hA : ∀ a : Nat, a < s.heap.size → ¬ A a) : vx_Zq C n d A s s.heap := by
  refine ⟨va_Zqof hl hini h hA, ?_⟩
  obtain ⟨c, k, i, f, a, cell, h1, h2, h3, h4, h5, h6, h7, h8, h9⟩ := Cond.laysStatic_spec hl
  exact ⟨c, k, i, f, a, cell, h1, h2, h3, h4, h5, h6, h7, h8, h9, hA a (Array.getElem?_eq_some_iff.mp h5).1⟩
theorem vx_isRef {C n d : String} {v : Value} {A : Nat → Prop} {s : State} {args : Array Value} (h : va_Z C n d v A s s.heap) (hv : v.isRef = true) : (Cond.isRef (.static C n d)).before args s = true := by
  obtain ⟨cf, kf, fi, f, a, cell, h1, h2, h3, h4, h5, h6, h7, -⟩ := h
  have he : (Term.static C n d).eval args s none [] s = some v := by
    simp [Term.eval, State.fieldNamed?, h1, h2, h4, h5, h6, h7]
  simp only [Cond.before, Cond.holds, Cond.value, he]
  cases v <;> simp_all [Value.isRef]
theorem vx_isRefq {C n d : String} {A : Nat → Prop} {s : State} {args : Array Value} (h : va_Zq C n d A s s.heap) : (Cond.isRef (.static C n d)).before args s = true := by
  rcases h with h | ⟨t, h⟩
  · exact vx_isRef h rfl
  · exact vx_isRef h rfl
/-- the same frame, seen from here: as if the method were called anew in this heap -/
theorem vx_rebase {T : State} (X : Stand p l e R s m args below meth c T locs cells slots) {R' : Room} (hf : R'.frames ≤ R.frames) (hl : R'.locals ≤ R.locals) (hc : cells + R'.cells ≤ R.cells) (hs : slots + R'.slots ≤ R.slots) :
    Stand p l e R' ((T.setVm s.vm).setFrames (.invoking m args :: below)) m args below meth c T [] 0 0 := by
  have htop : (T.setVm s.vm).topJava?.isSome := X.here.top
  have hF : ((T.setVm s.vm).setFrames (.invoking m args :: below)).frames = .invoking m args :: below := State.frames_setFrames _ (State.cur_lt_of_top htop)
  obtain ⟨g₀, hg0⟩ := Option.isSome_iff_exists.mp htop
  obtain ⟨r, hr⟩ := State.topJava?_eq_some.mp hg0
  have hl9 : e.platform.stackLimits (T.setVm s.vm).me = e.platform.stackLimits s.me := X.limits
  have hb9 : (T.setVm s.vm).me.stackBytes = s.me.stackBytes := X.bytes
  refine ⟨X.admits, X.cas, X.clock, hF, ?_, X.hears, X.method, X.code, X.here, X.tail, X.warmed, ?_, ?_, ?_⟩
  · have h := X.room
    have hU : ((T.setVm s.vm).setFrames (.invoking m args :: below)).localsInUse = s.localsInUse := by
      rw [State.localsInUse_invoking hF (meth := meth) (c := c) X.method X.code, State.localsInUse_invoking X.frames X.method X.code]
    simp only [State.hasRoom, Bool.and_eq_true, decide_eq_true_eq] at h ⊢
    obtain ⟨⟨⟨⟨h1, h2, h3, h4, h5, h6⟩, h7⟩, h8⟩, h9⟩ := h
    rw [X.frames, List.length_cons] at h2 h3
    have q1 := X.heapSize
    have q2 := X.used
    simp only [hF, hU, List.length_cons, State.stackLimits_setFrames, State.stackBytes_setFrames, hl9, hb9]
    refine ⟨⟨⟨⟨by omega, by omega, by omega, by omega, by omega, h6⟩, ?_⟩, ?_⟩, X.book⟩
    · show T.heap.size + R'.cells ≤ e.platform.maxCells
      omega
    · show T.slotsUsed + R'.slots ≤ e.platform.maxSlots
      omega
  · rw [State.stackLimits_setFrames]; rfl
  · rw [State.stackBytes_setFrames]; rfl
  · refine ⟨?_, Nat.le_refl _, Nat.le_refl _, ?_, ?_, fun a c9 h9 => ⟨c9, h9, rfl, rfl, fun _ _ => rfl⟩⟩
    · obtain ⟨t, ht, -⟩ := State.frames_cons hr
      show T.setVm s.vm = { ((T.setVm s.vm).setFrames (.invoking m args :: below)).setFrames (T.setVm s.vm).frames with heap := T.heap, slotsUsed := T.slotsUsed }
      rw [State.setFrames_setFrames, State.setFrames_self ht]
      rfl
    · show T.slotsUsed = T.slotsUsed + ((T.heap.toList.drop T.heap.size).map (·.slots.size)).sum
      rw [List.drop_eq_nil_of_le (Nat.le_of_eq Array.length_toList)]
      rfl
    · show ((T.heap.toList.drop T.heap.size).map (·.slots.size)).sum ≤ 0
      rw [List.drop_eq_nil_of_le (Nat.le_of_eq Array.length_toList)]
      exact Nat.le_refl _
/-- 'throw new E()': new; dup; invokespecial; athrow -/
theorem vx_throw0 {cc : ByteArray} {pc : Nat} (hexec : p.tables.exec = Jvm.exec) (hb : c.code = cc) (hl : l.stackTraces = false) {own cls : String} {names : List String} {ik ic mc ms : Nat} {A : Nat → Prop}
    (hown : s.vm.findClass own = some m.cls) (hcls : Bundle.fit cls = true) (hnames : ∀ n ∈ names, Bundle.fit n = true)
    (hk : (Cond.classLink own ik cls).before args s = true) (hini : (Cond.initialized cls).before args s = true) (hat : ∀ w ∈ vx_at0 own ic cls names, w.before args s = true)
    (hgood : ∀ w ∈ Cond.classLink own ik cls :: Cond.initialized cls :: vx_at0 own ic cls names, vx_ot w = true)
    (hU : vx_Zq Bundle.tN "UNASSIGNED_STACK" Bundle.steD A s s.heap) (hN : vx_Zq Bundle.tN "SUPPRESSED_SENTINEL" Bundle.listD A s s.heap) (hS : va_S A s.heap H locs) (hsize : ls.size = c.maxLocals)
    (d0 : decode cc pc = .ok (.new ik, 3)) (d3 : decode cc (pc + 3) = .ok (.dup, 1)) (d4 : decode cc (pc + 4) = .ok (.invokespecial ic, 3)) (d7 : decode cc (pc + 7) = .ok (.athrow, 1))
    (hout : ∀ x ∈ c.exceptionTable.toList, covers x (pc + 7) = false)
    (hRframes : names.length + 3 < R.frames) (hRlocals : (rest.map fun v => v.category).sum + (13 * (names.length + 1) + 42) ≤ R.locals) (hRcells : cells + 1 ≤ R.cells) (hRslots : slots + 6 ≤ R.slots) (hlocks : meth.locks = false)
    (hx : ∀ t : State, s.vm.Alike t.vm → H.size ≤ t.heap.size → (∀ q : Nat, q < H.size → t.heap[q]? = H[q]?) → XC cls s t)
    (hf : ∀ z ∈ locs, free z.base) (hc : cells + 1 ≤ mc) (hs : slots + 6 ≤ ms) :
    W p l e R s m args below meth c H locs cells slots (vx_MQ below Qc XC args s mc ms free) (F0 m pc ls rest) := by
  intro T hT X
  have htr : e.platform.stackTraces = false := (show e.platform.stackTraces = l.stackTraces by rw [X.admits.platform]).trans hl
  have Y := vx_rebase X (R' := { frames := R.frames, locals := R.locals, cells := 1, slots := 6 }) (Nat.le_refl _) (Nat.le_refl _) hRcells hRslots
  obtain ⟨s', hA⟩ : ∃ z, z = (T.setVm s.vm).setFrames (.invoking m args :: below) := ⟨_, rfl⟩
  rw [← hA] at Y
  have hvm : s'.vm = s.vm := by rw [hA]; rfl
  have hhp : s'.heap = H := by rw [hA]; exact hT
  have hW0 : s.WarmedH s'.vm := by rw [hvm]; exact State.WarmedH.refl s
  have hat' : ∀ w ∈ vx_at0 own ic cls names, w.before args s' = true := fun w hw => vx_ot_at hW0 hvm.symm (hgood w (List.mem_cons_of_mem _ (List.mem_cons_of_mem _ hw))) (hat w hw)
  have hk' : (Cond.classLink own ik cls).before args s' = true := vx_ot_at hW0 hvm.symm (hgood _ List.mem_cons_self) hk
  have hini' : (Cond.initialized cls).before args s' = true := vx_ot_at hW0 hvm.symm (hgood _ (List.mem_cons_of_mem _ List.mem_cons_self)) hini
  have hU' : vx_Zq Bundle.tN "UNASSIGNED_STACK" Bundle.steD A s' s'.heap := by rw [hhp]; exact vx_Zq.moved hW0.alike (hU.kept hS.2.1)
  have hN' : vx_Zq Bundle.tN "SUPPRESSED_SENTINEL" Bundle.listD A s' s'.heap := by rw [hhp]; exact vx_Zq.moved hW0.alike (hN.kept hS.2.1)
  have h : ∀ w ∈ Bundle.ownAtoms0 own ic cls names, w.before args s' = true := vx_own hat' (vx_isRefq hU'.1) (vx_isRefq hN'.1) hU'.2.word hN'.2.word
  have hown' : s'.vm.findClass own = some m.cls := by rw [hvm]; exact hown
  have hins : (Cond.instantiable cls 6).before args s' = true := h _ (by simp [Bundle.ownAtoms0])
  obtain ⟨vm₁, cX, kX, hfX, hkX, -, -, X₁, st1⟩ := Y.newCold hexec (own := own) (C := cls) (index := ik) (n := 6) hown' hk' hins hini'
    (g := F0 m pc ls rest) rfl (by rw [hb]; exact d0) (Nat.le_refl _) (Nat.le_refl _)
  generalize hT1 : (T.setVm vm₁).pushCell { cls := cX, slots := kX.instanceTypes.map defaultValue, vm := .none } = T1 at X₁ st1
  have hcat : (Value.ref T.heap.size).category = 1 := rfl
  have hcellA : T1.heap[T.heap.size]? = some (freshCell cX kX) := by rw [← hT1]; exact State.heap_pushCell_size _ _
  have d3' : decode c.code (pc + 3) = .ok (.dup, 1) := by rw [hb]; exact d3
  obtain ⟨U, hsteps, hrun, hend, hW, hsame, ce, hce, hO⟩ := X₁.ctorThrow0 hexec htr (own := own) (cls := cls) (names := names) (ic := ic) hown' hcls hnames h (fun x hx => nomatch hx) hfX hkX hcellA (by rw [hhp, hT]; exact Nat.le_refl _)
    (g := { method := m, pc := pc + 4, locals := ls, stack := .ref T.heap.size :: .ref T.heap.size :: rest, locked := none }) rfl hsize rfl rfl (rest := rest) rfl
    (by rw [hb]; exact d4) (by rw [hb]; exact d7) hout hRframes (by simp only [List.map_cons, List.sum_cons, hcat]; omega) hlocks
  obtain ⟨f1, f2⟩ := vx_frame hsame
  rw [hhp] at f1 f2
  have hWs : s.WarmedH U.vm := State.WarmedH.trans hW0 hW
  have hcl : s.vm.findClass cls = some ce.cls := by
    have h9 := hO.cls
    rw [hvm] at h9
    exact h9
  have hall : s.sameButNew ({ U with vm := s.vm } : State) locs mc ms := by
    subst hA
    obtain ⟨e1, e2⟩ := hsame
    rw [State.setFrames_setFrames] at e1
    have h2 : (T.setVm s.vm).sameButNew ({ U with vm := s.vm } : State) [] (0 + 1) (0 + 6) := ⟨e1, e2⟩
    have h3 := X.same.trans h2
    rw [List.append_nil] at h3
    exact h3.mono hc hs
  refine ⟨U, ?_, .threw T.heap.size, hrun, hend, Or.inr ⟨T.heap.size, rfl, cls, ce, locs, hx U hWs.alike f1 (fun q hq => f2 q hq (fun z hz => nomatch hz)), hce, hO.vm, hcl, hWs, hall, hf⟩⟩
  refine st1 _ ?_
  show Steps p.tables e below (T1.setTop { method := m, pc := pc + 3, locals := ls, stack := .ref T.heap.size :: rest, locked := none }) _
  jvm_step X₁.here [X₁.here.top, hexec, d3', Value.category]
  exact hsteps
/-- 'throw new E("text")': new; dup; ldc; invokespecial; athrow -/
theorem vx_throwS {cc : ByteArray} {pc : Nat} (hexec : p.tables.exec = Jvm.exec) (hb : c.code = cc) (hl : l.stackTraces = false) {own cls text : String} {names : List String} {ik is ic mc ms sa : Nat} {A : Nat → Prop}
    (hown : s.vm.findClass own = some m.cls) (hcls : Bundle.fit cls = true) (hnames : ∀ n ∈ names, Bundle.fit n = true)
    (hk : (Cond.classLink own ik cls).before args s = true) (hini : (Cond.initialized cls).before args s = true) (hstr : vk_R own is text sa s) (hat : ∀ w ∈ vx_atS own ic cls names, w.before args s = true)
    (hgood : ∀ w ∈ Cond.classLink own ik cls :: Cond.initialized cls :: vx_atS own ic cls names, vx_ot w = true)
    (hU : vx_Zq Bundle.tN "UNASSIGNED_STACK" Bundle.steD A s s.heap) (hN : vx_Zq Bundle.tN "SUPPRESSED_SENTINEL" Bundle.listD A s s.heap) (hS : va_S A s.heap H locs) (hsize : ls.size = c.maxLocals)
    (d0 : decode cc pc = .ok (.new ik, 3)) (d3 : decode cc (pc + 3) = .ok (.dup, 1)) (d4 : decode cc (pc + 4) = .ok (.ldc is, 2)) (d6 : decode cc (pc + 6) = .ok (.invokespecial ic, 3)) (d9 : decode cc (pc + 9) = .ok (.athrow, 1))
    (hout : ∀ x ∈ c.exceptionTable.toList, covers x (pc + 9) = false)
    (hRframes : names.length + 3 < R.frames) (hRlocals : (rest.map fun v => v.category).sum + (13 * (names.length + 1) + 43) ≤ R.locals) (hRcells : cells + 1 ≤ R.cells) (hRslots : slots + 6 ≤ R.slots) (hlocks : meth.locks = false)
    (hx : ∀ t : State, s.vm.Alike t.vm → H.size ≤ t.heap.size → (∀ q : Nat, q < H.size → t.heap[q]? = H[q]?) → XC cls s t)
    (hf : ∀ z ∈ locs, free z.base) (hc : cells + 1 ≤ mc) (hs : slots + 6 ≤ ms) :
    W p l e R s m args below meth c H locs cells slots (vx_MQ below Qc XC args s mc ms free) (F0 m pc ls rest) := by
  intro T hT X
  have htr : e.platform.stackTraces = false := (show e.platform.stackTraces = l.stackTraces by rw [X.admits.platform]).trans hl
  have Y := vx_rebase X (R' := { frames := R.frames, locals := R.locals, cells := 1, slots := 6 }) (Nat.le_refl _) (Nat.le_refl _) hRcells hRslots
  obtain ⟨s', hA⟩ : ∃ z, z = (T.setVm s.vm).setFrames (.invoking m args :: below) := ⟨_, rfl⟩
  rw [← hA] at Y
  have hvm : s'.vm = s.vm := by rw [hA]; rfl
  have hhp : s'.heap = H := by rw [hA]; exact hT
  have hW0 : s.WarmedH s'.vm := by rw [hvm]; exact State.WarmedH.refl s
  have hat' : ∀ w ∈ vx_atS own ic cls names, w.before args s' = true := fun w hw => vx_ot_at hW0 hvm.symm (hgood w (List.mem_cons_of_mem _ (List.mem_cons_of_mem _ hw))) (hat w hw)
  have hk' : (Cond.classLink own ik cls).before args s' = true := vx_ot_at hW0 hvm.symm (hgood _ List.mem_cons_self) hk
  have hini' : (Cond.initialized cls).before args s' = true := vx_ot_at hW0 hvm.symm (hgood _ (List.mem_cons_of_mem _ List.mem_cons_self)) hini
  have hU' : vx_Zq Bundle.tN "UNASSIGNED_STACK" Bundle.steD A s' s'.heap := by rw [hhp]; exact vx_Zq.moved hW0.alike (hU.kept hS.2.1)
  have hN' : vx_Zq Bundle.tN "SUPPRESSED_SENTINEL" Bundle.listD A s' s'.heap := by rw [hhp]; exact vx_Zq.moved hW0.alike (hN.kept hS.2.1)
  have h : ∀ w ∈ Bundle.ownAtoms own ic cls names, w.before args s' = true := vx_own hat' (vx_isRefq hU'.1) (vx_isRefq hN'.1) hU'.2.word hN'.2.word
  have hown' : s'.vm.findClass own = some m.cls := by rw [hvm]; exact hown
  have hins : (Cond.instantiable cls 6).before args s' = true := h _ (by simp [Bundle.ownAtoms])
  obtain ⟨vm₁, cX, kX, hfX, hkX, -, -, X₁, st1⟩ := Y.newCold hexec (own := own) (C := cls) (index := ik) (n := 6) hown' hk' hins hini'
    (g := F0 m pc ls rest) rfl (by rw [hb]; exact d0) (Nat.le_refl _) (Nat.le_refl _)
  generalize hT1 : (T.setVm vm₁).pushCell { cls := cX, slots := kX.instanceTypes.map defaultValue, vm := .none } = T1 at X₁ st1
  have hcat : (Value.ref T.heap.size).category = 1 := rfl
  have hcellA : T1.heap[T.heap.size]? = some (freshCell cX kX) := by rw [← hT1]; exact State.heap_pushCell_size _ _
  have d3' : decode c.code (pc + 3) = .ok (.dup, 1) := by rw [hb]; exact d3
  have d4' : decode c.code (pc + 4) = .ok (.ldc is, 2) := by rw [hb]; exact d4
  have hstr' : vk_R own is text sa s' := vk_R.warm hW0 hstr
  obtain ⟨U, hsteps, hrun, hend, hW, hsame, ce, hce, hO⟩ := X₁.ctorThrowS hexec htr (own := own) (cls := cls) (names := names) (ic := ic) hown' hcls hnames h (fun x hx => nomatch hx) hfX hkX hcellA (by rw [hhp, hT]; exact Nat.le_refl _) (msg := .ref sa) rfl
    (g := { method := m, pc := pc + 6, locals := ls, stack := .ref sa :: .ref T.heap.size :: .ref T.heap.size :: rest, locked := none }) rfl hsize rfl rfl (rest := rest) rfl
    (by rw [hb]; exact d6) (by rw [hb]; exact d9) hout hRframes (by simp only [List.map_cons, List.sum_cons, hcat]; omega) hlocks
  obtain ⟨f1, f2⟩ := vx_frame hsame
  rw [hhp] at f1 f2
  have hWs : s.WarmedH U.vm := State.WarmedH.trans hW0 hW
  have hcl : s.vm.findClass cls = some ce.cls := by
    have h9 := hO.cls
    rw [hvm] at h9
    exact h9
  have hall : s.sameButNew ({ U with vm := s.vm } : State) locs mc ms := by
    subst hA
    obtain ⟨e1, e2⟩ := hsame
    rw [State.setFrames_setFrames] at e1
    have h2 : (T.setVm s.vm).sameButNew ({ U with vm := s.vm } : State) [] (0 + 1) (0 + 6) := ⟨e1, e2⟩
    have h3 := X.same.trans h2
    rw [List.append_nil] at h3
    exact h3.mono hc hs
  refine ⟨U, ?_, .threw T.heap.size, hrun, hend, Or.inr ⟨T.heap.size, rfl, cls, ce, locs, hx U hWs.alike f1 (fun q hq => f2 q hq (fun z hz => nomatch hz)), hce, hO.vm, hcl, hWs, hall, hf⟩⟩
  refine st1 _ ?_
  show Steps p.tables e below (T1.setTop { method := m, pc := pc + 3, locals := ls, stack := .ref T.heap.size :: rest, locked := none }) _
  jvm_step X₁.here [X₁.here.top, hexec, d3', Value.category]
  exact X₁.ldcString hexec (own := own) (text := text) (index := is) (a := sa) hown' hstr'.1 hstr'.2
    (g := { method := m, pc := pc + 4, locals := ls, stack := .ref T.heap.size :: .ref T.heap.size :: rest, locked := none }) rfl d4' _ hsteps
/-- 'throw new E("text")', the text by a wide index -/
theorem vx_throwSW {cc : ByteArray} {pc : Nat} (hexec : p.tables.exec = Jvm.exec) (hb : c.code = cc) (hl : l.stackTraces = false) {own cls text : String} {names : List String} {ik is ic mc ms sa : Nat} {A : Nat → Prop}
    (hown : s.vm.findClass own = some m.cls) (hcls : Bundle.fit cls = true) (hnames : ∀ n ∈ names, Bundle.fit n = true)
    (hk : (Cond.classLink own ik cls).before args s = true) (hini : (Cond.initialized cls).before args s = true) (hstr : vk_R own is text sa s) (hat : ∀ w ∈ vx_atS own ic cls names, w.before args s = true)
    (hgood : ∀ w ∈ Cond.classLink own ik cls :: Cond.initialized cls :: vx_atS own ic cls names, vx_ot w = true)
    (hU : vx_Zq Bundle.tN "UNASSIGNED_STACK" Bundle.steD A s s.heap) (hN : vx_Zq Bundle.tN "SUPPRESSED_SENTINEL" Bundle.listD A s s.heap) (hS : va_S A s.heap H locs) (hsize : ls.size = c.maxLocals)
    (d0 : decode cc pc = .ok (.new ik, 3)) (d3 : decode cc (pc + 3) = .ok (.dup, 1)) (d4 : decode cc (pc + 4) = .ok (.ldc_w is, 3)) (d7 : decode cc (pc + 7) = .ok (.invokespecial ic, 3)) (d10 : decode cc (pc + 10) = .ok (.athrow, 1))
    (hout : ∀ x ∈ c.exceptionTable.toList, covers x (pc + 10) = false)
    (hRframes : names.length + 3 < R.frames) (hRlocals : (rest.map fun v => v.category).sum + (13 * (names.length + 1) + 43) ≤ R.locals) (hRcells : cells + 1 ≤ R.cells) (hRslots : slots + 6 ≤ R.slots) (hlocks : meth.locks = false)
    (hx : ∀ t : State, s.vm.Alike t.vm → H.size ≤ t.heap.size → (∀ q : Nat, q < H.size → t.heap[q]? = H[q]?) → XC cls s t)
    (hf : ∀ z ∈ locs, free z.base) (hc : cells + 1 ≤ mc) (hs : slots + 6 ≤ ms) :
    W p l e R s m args below meth c H locs cells slots (vx_MQ below Qc XC args s mc ms free) (F0 m pc ls rest) := by
  intro T hT X
  have htr : e.platform.stackTraces = false := (show e.platform.stackTraces = l.stackTraces by rw [X.admits.platform]).trans hl
  have Y := vx_rebase X (R' := { frames := R.frames, locals := R.locals, cells := 1, slots := 6 }) (Nat.le_refl _) (Nat.le_refl _) hRcells hRslots
  obtain ⟨s', hA⟩ : ∃ z, z = (T.setVm s.vm).setFrames (.invoking m args :: below) := ⟨_, rfl⟩
  rw [← hA] at Y
  have hvm : s'.vm = s.vm := by rw [hA]; rfl
  have hhp : s'.heap = H := by rw [hA]; exact hT
  have hW0 : s.WarmedH s'.vm := by rw [hvm]; exact State.WarmedH.refl s
  have hat' : ∀ w ∈ vx_atS own ic cls names, w.before args s' = true := fun w hw => vx_ot_at hW0 hvm.symm (hgood w (List.mem_cons_of_mem _ (List.mem_cons_of_mem _ hw))) (hat w hw)
  have hk' : (Cond.classLink own ik cls).before args s' = true := vx_ot_at hW0 hvm.symm (hgood _ List.mem_cons_self) hk
  have hini' : (Cond.initialized cls).before args s' = true := vx_ot_at hW0 hvm.symm (hgood _ (List.mem_cons_of_mem _ List.mem_cons_self)) hini
  have hU' : vx_Zq Bundle.tN "UNASSIGNED_STACK" Bundle.steD A s' s'.heap := by rw [hhp]; exact vx_Zq.moved hW0.alike (hU.kept hS.2.1)
  have hN' : vx_Zq Bundle.tN "SUPPRESSED_SENTINEL" Bundle.listD A s' s'.heap := by rw [hhp]; exact vx_Zq.moved hW0.alike (hN.kept hS.2.1)
  have h : ∀ w ∈ Bundle.ownAtoms own ic cls names, w.before args s' = true := vx_own hat' (vx_isRefq hU'.1) (vx_isRefq hN'.1) hU'.2.word hN'.2.word
  have hown' : s'.vm.findClass own = some m.cls := by rw [hvm]; exact hown
  have hins : (Cond.instantiable cls 6).before args s' = true := h _ (by simp [Bundle.ownAtoms])
  obtain ⟨vm₁, cX, kX, hfX, hkX, -, -, X₁, st1⟩ := Y.newCold hexec (own := own) (C := cls) (index := ik) (n := 6) hown' hk' hins hini'
    (g := F0 m pc ls rest) rfl (by rw [hb]; exact d0) (Nat.le_refl _) (Nat.le_refl _)
  generalize hT1 : (T.setVm vm₁).pushCell { cls := cX, slots := kX.instanceTypes.map defaultValue, vm := .none } = T1 at X₁ st1
  have hcat : (Value.ref T.heap.size).category = 1 := rfl
  have hcellA : T1.heap[T.heap.size]? = some (freshCell cX kX) := by rw [← hT1]; exact State.heap_pushCell_size _ _
  have d3' : decode c.code (pc + 3) = .ok (.dup, 1) := by rw [hb]; exact d3
  have d4' : decode c.code (pc + 4) = .ok (.ldc_w is, 3) := by rw [hb]; exact d4
  have hstr' : vk_R own is text sa s' := vk_R.warm hW0 hstr
  obtain ⟨U, hsteps, hrun, hend, hW, hsame, ce, hce, hO⟩ := X₁.ctorThrowS hexec htr (own := own) (cls := cls) (names := names) (ic := ic) hown' hcls hnames h (fun x hx => nomatch hx) hfX hkX hcellA (by rw [hhp, hT]; exact Nat.le_refl _) (msg := .ref sa) rfl
    (g := { method := m, pc := pc + 7, locals := ls, stack := .ref sa :: .ref T.heap.size :: .ref T.heap.size :: rest, locked := none }) rfl hsize rfl rfl (rest := rest) rfl
    (by rw [hb]; exact d7) (by rw [hb]; exact d10) hout hRframes (by simp only [List.map_cons, List.sum_cons, hcat]; omega) hlocks
  obtain ⟨f1, f2⟩ := vx_frame hsame
  rw [hhp] at f1 f2
  have hWs : s.WarmedH U.vm := State.WarmedH.trans hW0 hW
  have hcl : s.vm.findClass cls = some ce.cls := by
    have h9 := hO.cls
    rw [hvm] at h9
    exact h9
  have hall : s.sameButNew ({ U with vm := s.vm } : State) locs mc ms := by
    subst hA
    obtain ⟨e1, e2⟩ := hsame
    rw [State.setFrames_setFrames] at e1
    have h2 : (T.setVm s.vm).sameButNew ({ U with vm := s.vm } : State) [] (0 + 1) (0 + 6) := ⟨e1, e2⟩
    have h3 := X.same.trans h2
    rw [List.append_nil] at h3
    exact h3.mono hc hs
  refine ⟨U, ?_, .threw T.heap.size, hrun, hend, Or.inr ⟨T.heap.size, rfl, cls, ce, locs, hx U hWs.alike f1 (fun q hq => f2 q hq (fun z hz => nomatch hz)), hce, hO.vm, hcl, hWs, hall, hf⟩⟩
  refine st1 _ ?_
  show Steps p.tables e below (T1.setTop { method := m, pc := pc + 3, locals := ls, stack := .ref T.heap.size :: rest, locked := none }) _
  jvm_step X₁.here [X₁.here.top, hexec, d3', Value.category]
  exact X₁.ldcStringW hexec (own := own) (text := text) (index := is) (a := sa) hown' hstr'.1 hstr'.2
    (g := { method := m, pc := pc + 4, locals := ls, stack := .ref T.heap.size :: .ref T.heap.size :: rest, locked := none }) rfl d4' _ hsteps
end Ends
section Bodies
variable {l : Launch}
theorem vx_ofW {y : MethodName} {ws ws' : List Cond} {rm : Room} {Pc : Array Value → State → Prop} {Qc : Array Value → State → Outcome → State → Prop} {XC : String → State → State → Prop} {mc ms : Nat} {free : Addr → Prop} {cc : ByteArray} {maxL : Nat} {ret : Option FieldType}
    (hy : plainName y.cls = true) (hw : ws = Cond.code y cc maxL ret :: ws')
    (body : ∀ p e s m args below meth c s₁, BodyLoose p l y (headSpec ws rm) cc maxL ret e s m args below meth c s₁ → c.maxLocals = maxL → (∀ x ∈ c.exceptionTable.toList, False) → Pc args s →
      W p l e (headSpec ws rm).room s m args below meth c s.heap [] 0 0 (vx_MQ below Qc XC args s mc ms free) (entryFrame m args maxL)) : vx_Met l y ws rm Pc Qc XC mc ms free := by
  refine MetFree.of_bodyS (code := cc) (maxLocals := maxL) (ret := ret) hy ?_ ?_
  · intro args s m h hn
    obtain ⟨meth, c, h1, h2, h3, h4, h5, h6, -, -⟩ := Cond.code_spec hn (atoms_spec (ws := ws) h _ (by rw [hw]; exact List.mem_cons_self))
    exact ⟨meth, c, h1, h2, h3, h4, h5, h6⟩
  · intro p e s m args below meth c s₁ B hml hP _
    have hh0 : s₁.heap = s.heap := by rw [B.state]; rfl
    have ht : ∀ x ∈ c.exceptionTable.toList, False := by
      obtain ⟨meth9, c9, h1, h2, -, -, -, -, h7, -⟩ := Cond.code_spec B.named (atoms_spec (ws := ws) B.pre _ (by rw [hw]; exact List.mem_cons_self))
      cases Option.some.inj (h1.symm.trans B.method)
      cases Option.some.inj (h2.symm.trans (Stand.of_body B).code)
      intro x hx
      rw [Array.isEmpty_iff.mp h7] at hx
      cases hx
    obtain ⟨t, a1, o, b1, b2, b3⟩ := body p e s m args below meth c s₁ B hml ht hP s₁ hh0 (Stand.of_body B)
    exact ⟨t, o, a1, b1, b2, b3⟩
/-- the table of a body with handlers -/
theorem vx_table {p : Program} {x y : MethodName} {S : Spec} {cc bytes : ByteArray} {maxL maxL' : Nat} {ret ret' : Option FieldType} {e : Env} {s s₁ : State} {m : MethodId} {args : Array Value} {below : List Frame} {meth : Method} {c : Code} {hh : List (Nat × Nat × Nat × Nat)}
    (B : BodyLoose p l y S cc maxL ret e s m args below meth c s₁) (h : (Cond.codeWith y bytes maxL' ret' hh).before args s = true) : c.exceptionTable.toList = tableOf hh := by
  obtain ⟨m9, meth9, c9, hn9, h1, h2, -, -, h6, -⟩ := Cond.codeWith_spec h
  cases Option.some.inj (hn9.symm.trans B.named)
  cases Option.some.inj (h1.symm.trans B.method)
  cases Option.some.inj (h2.symm.trans (Stand.of_body B).code)
  rw [← h6, table_eq]
end Bodies
end VXA
/-! ===== END ===== -/
/-! ===== BEGIN a static call of a method with an exception table ===== -/
section VXS
variable {p : Program} {l : Launch} {e : Env} {R : Room} {s : State} {m : MethodId} {args : Array Value} {below : List Frame} {meth : Method} {c : Code} {T : State} {H : Heap} {locs : List Loc} {cells slots : Nat}
abbrev vx_CSW (R : Room) (s : State) (args : Array Value) (own : String) (index : Nat) (y : MethodName) (bytes : ByteArray) (maxL : Nat) (ret : Option FieldType) (hh : List (Nat × Nat × Nat × Nat)) (ws : List Cond) (rm : Room) (mc ms n : Nat) : Prop :=
  (rm.cells = mc ∧ rm.slots = ms ∧ rm.frames + 1 ≤ R.frames ∧ 8 + (maxL + 11) + rm.locals ≤ R.locals ∧ (∀ w ∈ ws, ∀ (a' : Array Value) (U : State), s.WarmedH U.vm → w.before a' U = true) ∧ Cond.codeWith y bytes maxL ret hh ∈ ws) ∧
  (Cond.codeWith y bytes maxL ret hh).before args s = true ∧ (Cond.initialized y.cls).before args s = true ∧ (y.cls ≠ "java/lang/invoke/MethodHandle" ∧ y.cls ≠ "java/lang/invoke/VarHandle") ∧
  (∀ sig, parseMethodDescriptor y.desc = some sig → n = sig.parameters.length) ∧ (Cond.methodLink own index y).before args s = true ∧ (Cond.static y).before args s = true
theorem vx_cwSW {own : String} {index maxL mc ms : Nat} {y : MethodName} {bytes : ByteArray} {ret : Option FieldType} {hh : List (Nat × Nat × Nat × Nat)} {Ts ws ws' : List Cond} {rm : Room} (n : Nat) (ht : ∀ w ∈ Ts, w.before args s = true) (hT : GoodIn Ts (va_wsS own index y ws)) (hw : ws = Cond.codeWith y bytes maxL ret hh :: ws') (hrc : rm.cells = mc) (hrs : rm.slots = ms)
    (hd : y.cls ≠ "java/lang/invoke/MethodHandle" ∧ y.cls ≠ "java/lang/invoke/VarHandle" ∧ (parseMethodDescriptor y.desc).map (fun d => d.parameters.length) = some n) (hR : rm.frames + 1 ≤ R.frames ∧ 8 + (maxL + 11) + rm.locals ≤ R.locals) :
    vx_CSW R s args own index y bytes maxL ret hh ws rm mc ms n := by
  have ok : ∀ w ∈ va_wsS own index y ws, w.before args s = true := fun w h => ht w (hT w h).1
  have hG : GoodIn Ts ws := fun w h => hT w (by unfold va_wsS; exact List.mem_append_right _ h)
  have hc : Cond.codeWith y bytes maxL ret hh ∈ ws := by rw [hw]; exact List.mem_cons_self
  refine ⟨⟨hrc, hrs, hR.1, hR.2, pay_in ht hG, hc⟩, ht _ (hG _ hc).1, ok _ (by simp [va_wsS]), ⟨hd.1, hd.2.1⟩, fun sig h => ?_, ok _ (by simp [va_wsS]), ok _ (by simp [va_wsS])⟩
  have h2 := hd.2.2
  rw [h] at h2
  exact (Option.some.inj h2).symm
theorem vx_callSW (X : Stand p l e R s m args below meth c T locs cells slots) (hexec : p.tables.exec = Jvm.exec) {own : String} {index : Nat} {y : MethodName} {bytes : ByteArray} {maxL : Nat} {ret : Option FieldType} {hh : List (Nat × Nat × Nat × Nat)}
    (hown : s.vm.findClass own = some m.cls) (hlink : (Cond.methodLink own index y).before args s = true) (hstat : (Cond.static y).before args s = true) (hinit : (Cond.initialized y.cls).before args s = true)
    (hcode : (Cond.codeWith y bytes maxL ret hh).before args s = true) (hy : y.cls ≠ "java/lang/invoke/MethodHandle" ∧ y.cls ≠ "java/lang/invoke/VarHandle")
    {W9 : Nat} {Pre : Pt → Array Value → Prop} {Post : Pt → Array Value → Option Value → Pt → Prop} (hK : Back l R p e below s args y 3 W9 Pre Post)
    {g : JFrame} (hg : g.method = m) (hsize : g.locals.size = c.maxLocals) {argsL rest : List Value} (hlen : ∀ sig, parseMethodDescriptor y.desc = some sig → argsL.length = sig.parameters.length)
    (hstack : g.stack = argsL.reverse ++ rest) (hW : 2 * g.monitorRoom + (rest.map fun v => v.category).sum ≤ W9) (hdg : decode c.code g.pc = .ok (.invokestatic index, 3))
    (hpre : ∀ vm₁, s.WarmedH vm₁ → Pre ⟨T.setVm vm₁, locs, cells, slots⟩ argsL.toArray) :
    ∃ (v : Option Value) (vm₁ : Vm) (B : Pt), s.WarmedH vm₁ ∧ Stand p l e R s m args below meth c B.U B.locs B.cells B.slots ∧ Post ⟨T.setVm vm₁, locs, cells, slots⟩ argsL.toArray v B ∧
      ∀ target, Steps p.tables e below (B.U.setTop { g with pc := g.pc + 3, stack := v.toList ++ rest }) target → Steps p.tables e below (T.setTop g) target := by
  obtain ⟨mk, methM, cM, hnamed, hmethM, -, -, -, -, -, -, hsigM⟩ := Cond.codeWith_spec hcode
  have hstatic : methM.isStatic = true := Cond.static_spec hnamed hmethM hstat
  obtain ⟨kP, hkP, -⟩ := className_of_methodNamed hnamed
  have hinitP : kP.init = .initialized := Cond.initialized_spec (findClass_of_methodNamed hnamed) hkP hinit
  obtain ⟨vm₁, X₁, hstep₁⟩ := X.invokestatic hexec hown hlink hnamed hmethM hstatic hkP hinitP hy (g := g) hg (argsL := argsL) (rest := rest) (hlen _ hsigM) hstack hdg
  obtain ⟨v, B, X', hpost, hsteps⟩ := hK m meth c ⟨T.setVm vm₁, locs, cells, slots⟩ { g with stack := rest } (.invokestatic index) mk argsL.toArray X₁ hg hsize hdg hW (X₁.named hnamed) (hpre vm₁ X₁.warmed)
  exact ⟨v, vm₁, B, X₁.warmed, X', hpost, fun target h => hstep₁ _ fun acts => by rw [doInvoke_state]; exact hsteps.trans h⟩
theorem vx_runSW {y : MethodName} {bytes cc : ByteArray} {maxL nL mc ms n index : Nat} {ret : Option FieldType} {hh : List (Nat × Nat × Nat × Nat)} {ws : List Cond} {rm : Room} {Pc : Array Value → State → Prop} {Qc : Array Value → State → Outcome → State → Prop} {free : Addr → Prop} {Ts : List Cond} {own : String} {As rest : List Value} {g : JFrame}
    (S : CallFix p m c cc nL s args Ts own) (hM : Met l y ws rm Pc Qc mc ms free) (cw : vx_CSW R s args own index y bytes maxL ret hh ws rm mc ms n) (hp : PreS s H Pc As)
    (hg : g.method = m) (hn : As.length = n) (hsize : g.locals.size = nL) (hstack : g.stack = As.reverse ++ rest) (hW : 2 * g.monitorRoom + (rest.map fun v => v.category).sum ≤ 8) (hdg : decode cc g.pc = .ok (.invokestatic index, 3)) (hf : cells + mc ≤ R.cells ∧ slots + ms ≤ R.slots) :
    va_Run p l e R s m args below meth c H locs cells slots mc ms g rest (Qc As.toArray) (free) := by
  obtain ⟨⟨hrc, hrs, hfr, hlo, hws, hcw⟩, hcode, hini, hy, hlen, hl, hstt⟩ := cw
  have hK : Back l R p e below s args y 3 8 (PreOf R mc ms Pc) (PostOf Qc mc ms free) := va_backW (hh := hh) (bytes := bytes) (maxL := maxL) (ret := ret) hM hp.1 hrc hrs hfr hlo hws hcw (fun a' U hW => word_at hW (Or.inl (by first | rfl | simp [Cond.onTables, Cond.keeps, Cond.steady])) hini)
  obtain ⟨hx, hb, hml, ho, -⟩ := S
  intro T hT X
  obtain ⟨v, vm₁, ⟨U', l2, c2, s2⟩, hW₁, X', ⟨g', mk, t, L, e1, e2, hq, h1, hL, h2, h3⟩, st⟩ := vx_callSW X hx (hh := hh) (bytes := bytes) (maxL := maxL) (ret := ret) ho hl hstt hini hcode hy hK hg (hsize.trans hml.symm) (argsL := As) (rest := rest) (fun sig h => hn.trans (hlen sig h)) hstack hW (by rw [hb]; exact hdg)
    (fun vm₁ hW₁ => ⟨hf.1, hf.2, hp.2 (T.setVm vm₁) hT hW₁⟩)
  dsimp only [Pt.U, Pt.locs, Pt.cells, Pt.slots] at X' e1 e2 h1 h2 h3 st
  subst h1; subst h2; subst h3
  exact ⟨v, (T.setVm vm₁).calling g' mk As.toArray, t, U', L, hT, X', hL, e1, e2, hq, st⟩
/-- not caught here, past rows that name other classes: it goes on to the caller -/
theorem vx_outP {p : Program} {l : Launch} {e : Env} {R : Room} {s : State} {m : MethodId} {args : Array Value} {below : List Frame} {meth : Method} {c : Code} {H : Heap} {locs : List Loc} {cells slots : Nat} {free : Addr → Prop} {ls : Array Slot} {rest : List Value} {Qc : Array Value → State → Outcome → State → Prop} {XC : String → State → State → Prop}
    {pc : Nat} {own E : String} {ce : Cell} {q : Addr} {mc ms : Nat} (hown : s.vm.findClass own = some m.cls) (hlocks : meth.locks = false)
    (hpass : ∀ z ∈ c.exceptionTable.toList, covers z pc = false ∨ (z.catchType ≠ 0 ∧ ∃ nm : String, (Cond.classLink own z.catchType nm).before args s = true ∧ va_Nc E nm s)) (hcell : H[q]? = some ce) (hv : ce.vm = .none) (hcl : s.vm.findClass E = some ce.cls)
    (hx : ∀ t : State, t.heap = H → s.vm.Alike t.vm → XC E s t) (hf : ∀ z ∈ locs, free z.base) (hc : cells ≤ mc) (hs : slots ≤ ms) :
    vx_W p l e R s m args below meth c H locs cells slots (vx_MQ below Qc XC args s mc ms free) (F0 m pc ls rest) q := by
  intro T hT X
  have hpl : e.platform.magicAccessors = ({} : Platform).magicAccessors := by rw [X.admits.platform]
  obtain ⟨vm', hW', X', st⟩ := X.outThrough hlocks q (g := F0 m pc ls rest) rfl rfl rfl (cell := ce) (by rw [hT]; exact hcell) (by rw [hv]; rfl)
    (by obtain ⟨k9, h9, -⟩ := Vm.findClass_spec hcl; exact ⟨k9, h9⟩) (fun z hz => by
      rcases hpass z hz with h | ⟨hz0, nm, hl1, hn1⟩
      · exact Or.inl h
      · obtain ⟨c6, hc6, hcl6⟩ := Cond.classLink_spec hown hl1 e.platform hpl
        obtain ⟨a8, b8, h1, h2, h3⟩ := hn1
        cases Option.some.inj (h1.symm.trans hcl)
        cases Option.some.inj (h2.symm.trans hc6)
        exact Or.inr ⟨hz0, _, hcl6, h3⟩)
  obtain ⟨g₀, hfr⟩ := X'.frames_eq
  have hcell9 : ((T.setVm vm').setFrames (.throwing q :: below)).heap[q]? = some ce := by
    show T.heap[q]? = some ce
    rw [hT]; exact hcell
  have hend : Ended ((T.setVm vm').setFrames (.throwing q :: below)) below (.threw q) := State.frames_setFrames _ (State.cur_lt_of_frames hfr)
  refine ⟨(T.setVm vm').setFrames (.throwing q :: below), ?_, .threw q, X'.here.running, hend, Or.inr ⟨q, rfl, E, ce, locs, hx _ hT (X'.ends _).1.alike, hcell9, hv, hcl, (X'.ends _).1, (X'.ends _).2.mono hc hs, hf⟩⟩
  rw [X.pushThrowing_eq]
  exact st
/-- a thing of a world lies in the heap -/
theorem vx_lt {D : va_G} {cl : List vw_C} {ws : va_W} {H1 : Heap} (h : va_P D cl ws H1) {k : Nat} {q : Nat × va_E} (hk : ws[k]? = some q) : q.1 < H1.size := (h k q hk).lt
end VXS
/-! ===== END ===== -/
/-! ===== BEGIN methods with a table of their own: called by a name, returning or throwing ===== -/
section VXH
/-! vx_backW, vx_callVX, vx_callSX, vx_callVW, vx_runVW, vx_runVX, vx_runSX, vx_ofWH follow the same proofs as their sisters above (Free/Laws.lean, Shelf42/LK1.lean); vx_outP calls Shelf42/NT130.lean (outThrough). -/
section
variable {l : Launch} {R : Room} {p : Program} {e : Env} {below : List Frame} {s : State} {sargs : Array Value} {y : MethodName} {len W9 : Nat}
theorem vx_backW {ws : List Cond} {rm : Room} {Pc : Array Value → State → Prop} {Qc : Array Value → State → Outcome → State → Prop} {XC : String → State → State → Prop} {mc ms : Nat} {free : Addr → Prop} {bytes : ByteArray} {maxL : Nat} {ret : Option FieldType} {hh : List (Nat × Nat × Nat × Nat)}
    (hM : vx_Met l y ws rm Pc Qc XC mc ms free) (hblind : FrameBlind Pc) (hrc : rm.cells = mc) (hrs : rm.slots = ms)
    (hframes : rm.frames + 1 ≤ R.frames) (hlocals : W9 + (maxL + 11) + rm.locals ≤ R.locals)
    (hws : ∀ w ∈ ws, ∀ a' U, s.WarmedH U.vm → w.before a' U = true) (hcode : Cond.codeWith y bytes maxL ret hh ∈ ws) (hinit : ∀ a' U, s.WarmedH U.vm → (Cond.initialized y.cls).before a' U = true) :
    vx_Back l R p e below s sargs y len W9 (PreOf R mc ms Pc) (PostOf Qc mc ms free) (vx_Post XC mc ms free) := by
  intro m meth c A g ig mk a X hg hsize hdg hW hn hp
  have h1 : (headSpec ws rm).pre.before a A.U = true := atoms_intro fun w hw => hws w hw _ _ X.warmed
  have h2 : (Cond.codeWith y bytes maxL ret hh).before a A.U = true := hws _ hcode _ _ X.warmed
  have h3 : (Cond.initialized y.cls).before a A.U = true := hinit _ _ X.warmed
  have h4 : A.cells + (headSpec ws rm).room.cells ≤ R.cells := by rw [show (headSpec ws rm).room.cells = mc from hrc]; exact hp.1
  have h5 : A.slots + (headSpec ws rm).room.slots ≤ R.slots := by rw [show (headSpec ws rm).room.slots = ms from hrs]; exact hp.2.1
  have hPc : Pc a (A.U.calling g mk a) := hblind _ _ _ _ hp.2.2
  obtain ⟨U, Ls, c0, s0⟩ := A
  dsimp only [Pt.U, Pt.locs, Pt.cells, Pt.slots] at h1 h2 h3 h4 h5 X hn hPc ⊢
  obtain ⟨m9, methY, cY, hn9, hmY, hcY, -, hlY, -⟩ := Cond.codeWith_spec h2
  cases Option.some.inj (hn9.symm.trans hn)
  obtain ⟨kY, hkY, -⟩ := className_of_methodNamed hn
  have hinitY : kY.init = .initialized := Cond.initialized_spec (findClass_of_methodNamed hn) hkY h3
  have h : At U g.method c below := by rw [hg]; exact X.here
  have hlocals9 : W9 + (maxL + 11) + (headSpec ws rm).room.locals ≤ R.locals := hlocals
  have happ : (headSpec ws rm).appliesLoose y e.platform (U.calling g mk a) = true :=
    Spec.appliesLoose_calling (g := g) h hdg hn hkY hinitY
      (X.room_calling (g := g) (R' := (headSpec ws rm).room) hsize hmY hcY hframes (by rw [hlY]; omega) h4 h5) h1
  obtain ⟨mid, hmid⟩ := h.above
  have hfr : (U.setTop g).frames = (.java g :: mid) ++ below := by rw [State.frames_setTop' g h.top, hmid]; rfl
  obtain ⟨o, s₂, hsteps, -, hend, hq⟩ := Steps.callFree hM p X.admits X.cas X.clock (acts := []) hfr happ hPc trivial
  have hq' : vx_Q Qc XC mc ms free a (U.calling g mk a) o s₂ := hq
  rw [State.frames_setTop' g h.top] at hend
  obtain ⟨g₀, hg0⟩ := Option.isSome_iff_exists.mp h.top
  obtain ⟨r, hr⟩ := State.topJava?_eq_some.mp hg0
  have hr' : (({ U with heap := s₂.heap, slotsUsed := s₂.slotsUsed } : State).setVm s₂.vm).frames = .java g₀ :: r := hr
  rcases hq' with ⟨hqc, L, hfe, hL⟩ | ⟨q, rfl, E, ce, L, hx, hce, hcv, hcl, hW₂, hsm, hL⟩
  · obtain ⟨⟨v, rfl⟩, hW₂, e2, q2, q3, q4, q5, q6⟩ := id hfe
    have e3 : s₂ = ({ (U.calling g mk a).setFrames s₂.frames with heap := s₂.heap, slotsUsed := s₂.slotsUsed } : State).setVm s₂.vm := by
      have : s₂ = ({ s₂ with vm := (U.calling g mk a).vm } : State).setVm s₂.vm := rfl
      rw [e2] at this
      exact this
    obtain ⟨c₂, i₂, len₂, hc₂, hd₂, hf₂⟩ := hend
    have hW' : U.WarmedH s₂.vm := hW₂
    have hcc : c₂ = c := by
      have h1 : s₂.code? g.method = U.code? g.method := by
        rw [State.code?_eq, State.code?_eq, hW'.alike.method?]
      exact Option.some.inj (hc₂.symm.trans (h1.trans h.code))
    subst hcc
    have hlen : len₂ = len := by rw [hdg] at hd₂; cases hd₂; rfl
    subst hlen
    have hs₂ : s₂ = (({ U with heap := s₂.heap, slotsUsed := s₂.slotsUsed } : State).setVm s₂.vm).setTop { g with pc := g.pc + len₂, stack := v.toList ++ g.stack } := by
      refine e3.trans ?_
      rw [hf₂, State.calling_eq h.top, State.setFrames_setFrames, State.setTop_of_frames _ hr', hr]
      rfl
    have hsame : U.sameButNew ({ U with heap := s₂.heap, slotsUsed := s₂.slotsUsed } : State) L mc ms := by
      refine ⟨?_, q2, q3, q4, q5, q6⟩
      obtain ⟨t, ht, -⟩ := State.frames_cons hr
      show ({ U with heap := s₂.heap, slotsUsed := s₂.slotsUsed } : State) = { U.setFrames U.frames with heap := s₂.heap, slotsUsed := s₂.slotsUsed }
      rw [State.setFrames_self ht]
    subst hg
    refine Or.inl ⟨v, ⟨(({ U with heap := s₂.heap, slotsUsed := s₂.slotsUsed } : State).setVm s₂.vm), Ls ++ L, c0 + mc, s0 + ms⟩,
      ⟨X.admits, X.cas, X.clock, X.frames, X.room, X.hears, X.method, X.code, (X.here.setHeapUsed s₂.heap s₂.slotsUsed).setVm hW'.alike, X.tail, State.WarmedH.trans X.warmed hW', X.limits, X.bytes, X.same.trans (hsame.setVm s.vm)⟩,
      ⟨g, mk, s₂, L, rfl, rfl, hqc, rfl, hL, rfl, rfl⟩, ?_⟩
    show Steps p.tables e below _ ((({ U with heap := s₂.heap, slotsUsed := s₂.slotsUsed } : State).setVm s₂.vm).setTop { g with pc := g.pc + len₂, stack := v.toList ++ g.stack })
    rw [← hs₂]
    exact hsteps
  · obtain ⟨e2, q2, q3, q4, q5, q6⟩ := id hsm
    have e3 : s₂ = ({ (U.calling g mk a).setFrames s₂.frames with heap := s₂.heap, slotsUsed := s₂.slotsUsed } : State).setVm s₂.vm := by
      have : s₂ = ({ s₂ with vm := (U.calling g mk a).vm } : State).setVm s₂.vm := rfl
      rw [e2] at this
      exact this
    have hf₂ : s₂.frames = .throwing q :: .java g :: U.frames.tail := hend
    have hW' : U.WarmedH s₂.vm := hW₂
    have hs₂ : s₂ = ((({ U with heap := s₂.heap, slotsUsed := s₂.slotsUsed } : State).setVm s₂.vm).setTop g).pushFrame (.throwing q) := by
      refine e3.trans ?_
      rw [hf₂, State.calling_eq h.top, State.setFrames_setFrames, State.pushFrame, State.frames_setTop _ hr', State.setTop_of_frames _ hr', State.setFrames_setFrames, hr]
      rfl
    have hsame : U.sameButNew ({ U with heap := s₂.heap, slotsUsed := s₂.slotsUsed } : State) L mc ms := by
      refine ⟨?_, q2, q3, q4, q5, q6⟩
      obtain ⟨t, ht, -⟩ := State.frames_cons hr
      show ({ U with heap := s₂.heap, slotsUsed := s₂.slotsUsed } : State) = { U.setFrames U.frames with heap := s₂.heap, slotsUsed := s₂.slotsUsed }
      rw [State.setFrames_self ht]
    subst hg
    refine Or.inr ⟨q, ⟨(({ U with heap := s₂.heap, slotsUsed := s₂.slotsUsed } : State).setVm s₂.vm), Ls ++ L, c0 + mc, s0 + ms⟩,
      ⟨X.admits, X.cas, X.clock, X.frames, X.room, X.hears, X.method, X.code, (X.here.setHeapUsed s₂.heap s₂.slotsUsed).setVm hW'.alike, X.tail, State.WarmedH.trans X.warmed hW', X.limits, X.bytes, X.same.trans (hsame.setVm s.vm)⟩,
      ⟨g, mk, s₂, L, E, ce, rfl, rfl, hx, hce, hcv, hcl, rfl, hL, rfl, rfl⟩, ?_⟩
    show Steps p.tables e below _ (((({ U with heap := s₂.heap, slotsUsed := s₂.slotsUsed } : State).setVm s₂.vm).setTop g).pushFrame (.throwing q))
    rw [← hs₂]
    exact hsteps
end
variable {p : Program} {l : Launch} {e : Env} {R : Room} {s : State} {m : MethodId} {args : Array Value} {below : List Frame} {meth : Method} {c : Code} {T : State} {H : Heap} {locs : List Loc} {cells slots : Nat}
theorem vx_callVX (X : Stand p l e R s m args below meth c T locs cells slots) (hexec : p.tables.exec = Jvm.exec) {own C : String} {index : Nat} {y : MethodName} {bytes : ByteArray} {maxL : Nat} {ret : Option FieldType} {hh : List (Nat × Nat × Nat × Nat)}
    (hown : s.vm.findClass own = some m.cls) (hlink : (Cond.methodLink own index y).before args s = true) (hinst : (Cond.instanceMethod y).before args s = true) (hsel : (Cond.selects C y y).before args s = true)
    (hcode : (Cond.codeWith y bytes maxL ret hh).before args s = true) (hy : y.cls ≠ "java/lang/invoke/MethodHandle" ∧ y.cls ≠ "java/lang/invoke/VarHandle")
    {W9 : Nat} {Pre : Pt → Array Value → Prop} {Post : Pt → Array Value → Option Value → Pt → Prop} {PostX : Pt → Array Value → Addr → Pt → Prop} (hK : vx_Back l R p e below s args y 3 W9 Pre Post PostX)
    {b : Addr} {cellB : Cell} (hcell : T.heap[b]? = some cellB) (hobj : cellB.vm.isStatics = false) (hcls : s.vm.findClass C = some cellB.cls)
    {g : JFrame} (hg : g.method = m) (hsize : g.locals.size = c.maxLocals) {argsL rest : List Value} (hlen : ∀ sig, parseMethodDescriptor y.desc = some sig → argsL.length = sig.parameters.length)
    (hstack : g.stack = argsL.reverse ++ .ref b :: rest) (hW : 2 * g.monitorRoom + (rest.map fun v => v.category).sum ≤ W9) (hdg : decode c.code g.pc = .ok (.invokevirtual index, 3))
    (hpre : ∀ vm₁, s.WarmedH vm₁ → Pre ⟨T.setVm vm₁, locs, cells, slots⟩ (Value.ref b :: argsL).toArray) :
    (∃ (v : Option Value) (vm₁ : Vm) (B : Pt), s.WarmedH vm₁ ∧ Stand p l e R s m args below meth c B.U B.locs B.cells B.slots ∧ Post ⟨T.setVm vm₁, locs, cells, slots⟩ (Value.ref b :: argsL).toArray v B ∧
      ∀ target, Steps p.tables e below (B.U.setTop { g with pc := g.pc + 3, stack := v.toList ++ rest }) target → Steps p.tables e below (T.setTop g) target) ∨
    (∃ (q : Addr) (vm₁ : Vm) (B : Pt), s.WarmedH vm₁ ∧ Stand p l e R s m args below meth c B.U B.locs B.cells B.slots ∧ PostX ⟨T.setVm vm₁, locs, cells, slots⟩ (Value.ref b :: argsL).toArray q B ∧
      Steps p.tables e below (T.setTop g) ((B.U.setTop { g with stack := rest }).pushFrame (.throwing q))) := by
  obtain ⟨mk, methM, hnamed, hmethM, hstM, habM⟩ := Cond.instanceMethod_spec hinst
  obtain ⟨m8, methM', cM, hn8, hmethM', -, -, -, -, -, -, hsigM⟩ := Cond.codeWith_spec hcode
  cases Option.some.inj (hn8.symm.trans hnamed)
  cases hmethM.symm.trans hmethM'
  obtain ⟨c2, r2, m2, q1, q2, q3, q4, kP, hkP, hkPi⟩ := Cond.selects_spec hsel
  cases hcls.symm.trans q1
  cases (State.methodFound?_of_named hnamed hy).symm.trans q2
  cases hnamed.symm.trans q3
  have hselP : selectMethod e.platform s.vm cellB.cls mk = .method mk := by rw [Launch.admits_selectMethod X.admits]; exact q4
  obtain ⟨vm₁, X₁, hstep₁⟩ := X.invokevirtual hexec hown hlink hnamed hmethM hstM hkP hkPi hy (a := b) (cell := cellB) hcell
    (fun z h => by rw [h] at hobj; cases hobj) hselP hmethM habM hkP hkPi (g := g) hg (argsL := argsL) (rest := rest) (hlen _ hsigM) hstack hdg
  rcases hK m meth c ⟨T.setVm vm₁, locs, cells, slots⟩ { g with stack := rest } (.invokevirtual index) mk (Value.ref b :: argsL).toArray X₁ hg hsize hdg hW (X₁.named hnamed) (hpre vm₁ X₁.warmed) with ⟨v, B, X', hpost, hsteps⟩ | ⟨q, B, X', hpost, hsteps⟩
  · exact Or.inl ⟨v, vm₁, B, X₁.warmed, X', hpost, fun target h => hstep₁ _ fun acts => by rw [doInvoke_state]; exact hsteps.trans h⟩
  · exact Or.inr ⟨q, vm₁, B, X₁.warmed, X', hpost, hstep₁ _ fun acts => by rw [doInvoke_state]; exact hsteps⟩
theorem vx_callSX (X : Stand p l e R s m args below meth c T locs cells slots) (hexec : p.tables.exec = Jvm.exec) {own : String} {index : Nat} {y : MethodName} {bytes : ByteArray} {maxL : Nat} {ret : Option FieldType} {hh : List (Nat × Nat × Nat × Nat)}
    (hown : s.vm.findClass own = some m.cls) (hlink : (Cond.methodLink own index y).before args s = true) (hstat : (Cond.static y).before args s = true) (hinit : (Cond.initialized y.cls).before args s = true)
    (hcode : (Cond.codeWith y bytes maxL ret hh).before args s = true) (hy : y.cls ≠ "java/lang/invoke/MethodHandle" ∧ y.cls ≠ "java/lang/invoke/VarHandle")
    {W9 : Nat} {Pre : Pt → Array Value → Prop} {Post : Pt → Array Value → Option Value → Pt → Prop} {PostX : Pt → Array Value → Addr → Pt → Prop} (hK : vx_Back l R p e below s args y 3 W9 Pre Post PostX)
    {g : JFrame} (hg : g.method = m) (hsize : g.locals.size = c.maxLocals) {argsL rest : List Value} (hlen : ∀ sig, parseMethodDescriptor y.desc = some sig → argsL.length = sig.parameters.length)
    (hstack : g.stack = argsL.reverse ++ rest) (hW : 2 * g.monitorRoom + (rest.map fun v => v.category).sum ≤ W9) (hdg : decode c.code g.pc = .ok (.invokestatic index, 3))
    (hpre : ∀ vm₁, s.WarmedH vm₁ → Pre ⟨T.setVm vm₁, locs, cells, slots⟩ argsL.toArray) :
    (∃ (v : Option Value) (vm₁ : Vm) (B : Pt), s.WarmedH vm₁ ∧ Stand p l e R s m args below meth c B.U B.locs B.cells B.slots ∧ Post ⟨T.setVm vm₁, locs, cells, slots⟩ argsL.toArray v B ∧
      ∀ target, Steps p.tables e below (B.U.setTop { g with pc := g.pc + 3, stack := v.toList ++ rest }) target → Steps p.tables e below (T.setTop g) target) ∨
    (∃ (q : Addr) (vm₁ : Vm) (B : Pt), s.WarmedH vm₁ ∧ Stand p l e R s m args below meth c B.U B.locs B.cells B.slots ∧ PostX ⟨T.setVm vm₁, locs, cells, slots⟩ argsL.toArray q B ∧
      Steps p.tables e below (T.setTop g) ((B.U.setTop { g with stack := rest }).pushFrame (.throwing q))) := by
  obtain ⟨mk, methM, cM, hnamed, hmethM, -, -, -, -, -, -, hsigM⟩ := Cond.codeWith_spec hcode
  have hstatic : methM.isStatic = true := Cond.static_spec hnamed hmethM hstat
  obtain ⟨kP, hkP, -⟩ := className_of_methodNamed hnamed
  have hinitP : kP.init = .initialized := Cond.initialized_spec (findClass_of_methodNamed hnamed) hkP hinit
  obtain ⟨vm₁, X₁, hstep₁⟩ := X.invokestatic hexec hown hlink hnamed hmethM hstatic hkP hinitP hy (g := g) hg (argsL := argsL) (rest := rest) (hlen _ hsigM) hstack hdg
  rcases hK m meth c ⟨T.setVm vm₁, locs, cells, slots⟩ { g with stack := rest } (.invokestatic index) mk argsL.toArray X₁ hg hsize hdg hW (X₁.named hnamed) (hpre vm₁ X₁.warmed) with ⟨v, B, X', hpost, hsteps⟩ | ⟨q, B, X', hpost, hsteps⟩
  · exact Or.inl ⟨v, vm₁, B, X₁.warmed, X', hpost, fun target h => hstep₁ _ fun acts => by rw [doInvoke_state]; exact hsteps.trans h⟩
  · exact Or.inr ⟨q, vm₁, B, X₁.warmed, X', hpost, hstep₁ _ fun acts => by rw [doInvoke_state]; exact hsteps⟩
theorem vx_callVW (X : Stand p l e R s m args below meth c T locs cells slots) (hexec : p.tables.exec = Jvm.exec) {own C : String} {index : Nat} {y : MethodName} {bytes : ByteArray} {maxL : Nat} {ret : Option FieldType} {hh : List (Nat × Nat × Nat × Nat)}
    (hown : s.vm.findClass own = some m.cls) (hlink : (Cond.methodLink own index y).before args s = true) (hinst : (Cond.instanceMethod y).before args s = true) (hsel : (Cond.selects C y y).before args s = true)
    (hcode : (Cond.codeWith y bytes maxL ret hh).before args s = true) (hy : y.cls ≠ "java/lang/invoke/MethodHandle" ∧ y.cls ≠ "java/lang/invoke/VarHandle")
    {W9 : Nat} {Pre : Pt → Array Value → Prop} {Post : Pt → Array Value → Option Value → Pt → Prop} (hK : Back l R p e below s args y 3 W9 Pre Post)
    {b : Addr} {cellB : Cell} (hcell : T.heap[b]? = some cellB) (hobj : cellB.vm.isStatics = false) (hcls : s.vm.findClass C = some cellB.cls)
    {g : JFrame} (hg : g.method = m) (hsize : g.locals.size = c.maxLocals) {argsL rest : List Value} (hlen : ∀ sig, parseMethodDescriptor y.desc = some sig → argsL.length = sig.parameters.length)
    (hstack : g.stack = argsL.reverse ++ .ref b :: rest) (hW : 2 * g.monitorRoom + (rest.map fun v => v.category).sum ≤ W9) (hdg : decode c.code g.pc = .ok (.invokevirtual index, 3))
    (hpre : ∀ vm₁, s.WarmedH vm₁ → Pre ⟨T.setVm vm₁, locs, cells, slots⟩ (Value.ref b :: argsL).toArray) :
    ∃ (v : Option Value) (vm₁ : Vm) (B : Pt), s.WarmedH vm₁ ∧ Stand p l e R s m args below meth c B.U B.locs B.cells B.slots ∧ Post ⟨T.setVm vm₁, locs, cells, slots⟩ (Value.ref b :: argsL).toArray v B ∧
      ∀ target, Steps p.tables e below (B.U.setTop { g with pc := g.pc + 3, stack := v.toList ++ rest }) target → Steps p.tables e below (T.setTop g) target := by
  obtain ⟨mk, methM, hnamed, hmethM, hstM, habM⟩ := Cond.instanceMethod_spec hinst
  obtain ⟨m8, methM', cM, hn8, hmethM', -, -, -, -, -, -, hsigM⟩ := Cond.codeWith_spec hcode
  cases Option.some.inj (hn8.symm.trans hnamed)
  cases hmethM.symm.trans hmethM'
  obtain ⟨c2, r2, m2, q1, q2, q3, q4, kP, hkP, hkPi⟩ := Cond.selects_spec hsel
  cases hcls.symm.trans q1
  cases (State.methodFound?_of_named hnamed hy).symm.trans q2
  cases hnamed.symm.trans q3
  have hselP : selectMethod e.platform s.vm cellB.cls mk = .method mk := by rw [Launch.admits_selectMethod X.admits]; exact q4
  obtain ⟨vm₁, X₁, hstep₁⟩ := X.invokevirtual hexec hown hlink hnamed hmethM hstM hkP hkPi hy (a := b) (cell := cellB) hcell
    (fun z h => by rw [h] at hobj; cases hobj) hselP hmethM habM hkP hkPi (g := g) hg (argsL := argsL) (rest := rest) (hlen _ hsigM) hstack hdg
  obtain ⟨v, B, X', hpost, hsteps⟩ := hK m meth c ⟨T.setVm vm₁, locs, cells, slots⟩ { g with stack := rest } (.invokevirtual index) mk (Value.ref b :: argsL).toArray X₁ hg hsize hdg hW (X₁.named hnamed) (hpre vm₁ X₁.warmed)
  exact ⟨v, vm₁, B, X₁.warmed, X', hpost, fun target h => hstep₁ _ fun acts => by rw [doInvoke_state]; exact hsteps.trans h⟩
abbrev vx_CVW (R : Room) (s : State) (args : Array Value) (own C : String) (index : Nat) (y : MethodName) (bytes : ByteArray) (maxL : Nat) (ret : Option FieldType) (hh : List (Nat × Nat × Nat × Nat)) (ws : List Cond) (rm : Room) (mc ms n : Nat) : Prop :=
  (rm.cells = mc ∧ rm.slots = ms ∧ rm.frames + 1 ≤ R.frames ∧ 8 + (maxL + 11) + rm.locals ≤ R.locals ∧ (∀ w ∈ ws, ∀ (a' : Array Value) (U : State), s.WarmedH U.vm → w.before a' U = true) ∧ Cond.codeWith y bytes maxL ret hh ∈ ws) ∧
  (Cond.codeWith y bytes maxL ret hh).before args s = true ∧ (Cond.initialized y.cls).before args s = true ∧ (y.cls ≠ "java/lang/invoke/MethodHandle" ∧ y.cls ≠ "java/lang/invoke/VarHandle") ∧
  (∀ sig, parseMethodDescriptor y.desc = some sig → n = sig.parameters.length) ∧ (Cond.methodLink own index y).before args s = true ∧ (Cond.instanceMethod y).before args s = true ∧ (Cond.selects C y y).before args s = true
theorem vx_cwVW {own C : String} {index maxL mc ms : Nat} {y : MethodName} {bytes : ByteArray} {ret : Option FieldType} {hh : List (Nat × Nat × Nat × Nat)} {Ts ws ws' : List Cond} {rm : Room} (n : Nat) (ht : ∀ w ∈ Ts, w.before args s = true) (hT : GoodIn Ts (wsV own index C y ws)) (hw : ws = Cond.codeWith y bytes maxL ret hh :: ws') (hrc : rm.cells = mc) (hrs : rm.slots = ms)
    (hd : y.cls = C ∧ y.cls ≠ "java/lang/invoke/MethodHandle" ∧ y.cls ≠ "java/lang/invoke/VarHandle" ∧ (parseMethodDescriptor y.desc).map (fun d => d.parameters.length) = some n) (hR : rm.frames + 1 ≤ R.frames ∧ 8 + (maxL + 11) + rm.locals ≤ R.locals) :
    vx_CVW R s args own C index y bytes maxL ret hh ws rm mc ms n := by
  obtain ⟨hC, hd⟩ := hd
  subst hC
  have ok : ∀ w ∈ wsV own index y.cls y ws, w.before args s = true := fun w h => ht w (hT w h).1
  have hG : GoodIn Ts ws := fun w h => hT w (by unfold wsV; exact List.mem_append_right _ h)
  have hc : Cond.codeWith y bytes maxL ret hh ∈ ws := by rw [hw]; exact List.mem_cons_self
  refine ⟨⟨hrc, hrs, hR.1, hR.2, pay_in ht hG, hc⟩, ht _ (hG _ hc).1, ok _ (by simp [wsV]), ⟨hd.1, hd.2.1⟩, fun sig h => ?_, ok _ (by simp [wsV]), ok _ (by simp [wsV]), ok _ (by simp [wsV])⟩
  have h2 := hd.2.2
  rw [h] at h2
  exact (Option.some.inj h2).symm
theorem vx_runVW {y : MethodName} {bytes cc : ByteArray} {maxL nL mc ms n index : Nat} {ret : Option FieldType} {hh : List (Nat × Nat × Nat × Nat)} {ws : List Cond} {rm : Room} {Pc : Array Value → State → Prop} {Qc : Array Value → State → Outcome → State → Prop} {free : Addr → Prop} {Ts : List Cond} {own C : String} {b : Addr} {As rest : List Value} {g : JFrame}
    (S : CallFix p m c cc nL s args Ts own) (hM : Met l y ws rm Pc Qc mc ms free) (cw : vx_CVW R s args own C index y bytes maxL ret hh ws rm mc ms n) (hp : PreV s H C b Pc As)
    (hg : g.method = m) (hn : As.length = n) (hsize : g.locals.size = nL) (hstack : g.stack = As.reverse ++ .ref b :: rest) (hW : 2 * g.monitorRoom + (rest.map fun v => v.category).sum ≤ 8) (hdg : decode cc g.pc = .ok (.invokevirtual index, 3)) (hf : cells + mc ≤ R.cells ∧ slots + ms ≤ R.slots) :
    va_Run p l e R s m args below meth c H locs cells slots mc ms g rest (Qc (Value.ref b :: As).toArray) free := by
  obtain ⟨⟨hrc, hrs, hfr, hlo, hws, hcw⟩, hcode, hini, hy, hlen, hl, hin, hse⟩ := cw
  have hK : Back l R p e below s args y 3 8 (PreOf R mc ms Pc) (PostOf Qc mc ms free) := va_backW (hh := hh) (bytes := bytes) (maxL := maxL) (ret := ret) hM hp.1 hrc hrs hfr hlo hws hcw (fun a' U hW => word_at hW (Or.inl (by first | rfl | simp [Cond.onTables, Cond.keeps, Cond.steady])) hini)
  obtain ⟨hx, hb, hml, ho, -⟩ := S
  obtain ⟨-, ⟨cellB, hcB, hoB, hclB⟩, hPc⟩ := hp
  intro T hT X
  obtain ⟨v, vm₁, ⟨U', l2, c2, s2⟩, hW₁, X', ⟨g', mk, t, L, e1, e2, hq, h1, hL, h2, h3⟩, st⟩ := vx_callVW X hx (C := C) (hh := hh) (bytes := bytes) (maxL := maxL) (ret := ret) ho hl hin hse hcode hy hK (by rw [hT]; exact hcB) hoB hclB hg (hsize.trans hml.symm) (argsL := As) (rest := rest) (fun sig h => hn.trans (hlen sig h)) hstack hW (by rw [hb]; exact hdg)
    (fun vm₁ hW₁ => ⟨hf.1, hf.2, hPc (T.setVm vm₁) hT hW₁⟩)
  dsimp only [Pt.U, Pt.locs, Pt.cells, Pt.slots] at X' e1 e2 h1 h2 h3 st
  subst h1; subst h2; subst h3
  exact ⟨v, (T.setVm vm₁).calling g' mk (Value.ref b :: As).toArray, t, U', L, hT, X', hL, e1, e2, hq, st⟩
section
variable {y : MethodName} {bytes cc : ByteArray} {maxL nL mc ms n index : Nat} {ret : Option FieldType} {ws : List Cond} {rm : Room} {Pc : Array Value → State → Prop} {Qc : Array Value → State → Outcome → State → Prop} {XC : String → State → State → Prop} {free : Addr → Prop} {Ts : List Cond} {own C : String} {b : Addr} {As rest : List Value} {g : JFrame}
theorem vx_runVX {hh : List (Nat × Nat × Nat × Nat)} (S : CallFix p m c cc nL s args Ts own) (hM : vx_Met l y ws rm Pc Qc XC mc ms free) (cw : vx_CVW R s args own C index y bytes maxL ret hh ws rm mc ms n) (hp : PreV s H C b Pc As)
    (hg : g.method = m) (hn : As.length = n) (hsize : g.locals.size = nL) (hstack : g.stack = As.reverse ++ .ref b :: rest) (hW : 2 * g.monitorRoom + (rest.map fun v => v.category).sum ≤ 8) (hdg : decode cc g.pc = .ok (.invokevirtual index, 3)) (hf : cells + mc ≤ R.cells ∧ slots + ms ≤ R.slots) :
    vx_Run p l e R s m args below meth c H locs cells slots mc ms g rest (Qc (Value.ref b :: As).toArray) XC free := by
  obtain ⟨⟨hrc, hrs, hfr, hlo, hws, hcw⟩, hcode, hini, hy, hlen, hl, hin, hse⟩ := cw
  have hK : vx_Back l R p e below s args y 3 8 (PreOf R mc ms Pc) (PostOf Qc mc ms free) (vx_Post XC mc ms free) := vx_backW (hh := hh) (bytes := bytes) (maxL := maxL) (ret := ret) hM hp.1 hrc hrs hfr hlo hws hcw (fun a' U hW => word_at hW (Or.inl (by first | rfl | simp [Cond.onTables, Cond.keeps, Cond.steady])) hini)
  obtain ⟨hx, hb, hml, ho, -⟩ := S
  obtain ⟨-, ⟨cellB, hcB, hoB, hclB⟩, hPc⟩ := hp
  intro T hT X
  rcases vx_callVX X hx (C := C) (hh := hh) (bytes := bytes) (maxL := maxL) (ret := ret) ho hl hin hse hcode hy hK (by rw [hT]; exact hcB) hoB hclB hg (hsize.trans hml.symm) (argsL := As) (rest := rest) (fun sig h => hn.trans (hlen sig h)) hstack hW (by rw [hb]; exact hdg)
    (fun vm₁ hW₁ => ⟨hf.1, hf.2, hPc (T.setVm vm₁) hT hW₁⟩) with ⟨v, vm₁, ⟨U', l2, c2, s2⟩, hW₁, X', ⟨g', mk, t, L, e1, e2, hq, h1, hL, h2, h3⟩, st⟩ | ⟨q, vm₁, ⟨U', l2, c2, s2⟩, hW₁, X', ⟨g', mk, t, L, E, ce, e1, e2, hq, hce, hcv, hcl, h1, hL, h2, h3⟩, st⟩
  · dsimp only [Pt.U, Pt.locs, Pt.cells, Pt.slots] at X' e1 e2 h1 h2 h3 st
    subst h1; subst h2; subst h3
    exact Or.inl ⟨v, (T.setVm vm₁).calling g' mk (Value.ref b :: As).toArray, t, U', L, hT, X', hL, e1, e2, hq, st⟩
  · dsimp only [Pt.U, Pt.locs, Pt.cells, Pt.slots] at X' e1 e2 h1 h2 h3 st hcl
    subst h1; subst h2; subst h3
    exact Or.inr ⟨q, (T.setVm vm₁).calling g' mk (Value.ref b :: As).toArray, t, U', L, E, ce, hT, X', hL, e1, e2, hq, hce, hcv, vx_cls hW₁ hcl, st⟩
theorem vx_runSX {hh : List (Nat × Nat × Nat × Nat)} (S : CallFix p m c cc nL s args Ts own) (hM : vx_Met l y ws rm Pc Qc XC mc ms free) (cw : vx_CSW R s args own index y bytes maxL ret hh ws rm mc ms n) (hp : PreS s H Pc As)
    (hg : g.method = m) (hn : As.length = n) (hsize : g.locals.size = nL) (hstack : g.stack = As.reverse ++ rest) (hW : 2 * g.monitorRoom + (rest.map fun v => v.category).sum ≤ 8) (hdg : decode cc g.pc = .ok (.invokestatic index, 3)) (hf : cells + mc ≤ R.cells ∧ slots + ms ≤ R.slots) :
    vx_Run p l e R s m args below meth c H locs cells slots mc ms g rest (Qc As.toArray) XC free := by
  obtain ⟨⟨hrc, hrs, hfr, hlo, hws, hcw⟩, hcode, hini, hy, hlen, hl, hstt⟩ := cw
  have hK : vx_Back l R p e below s args y 3 8 (PreOf R mc ms Pc) (PostOf Qc mc ms free) (vx_Post XC mc ms free) := vx_backW (hh := hh) (bytes := bytes) (maxL := maxL) (ret := ret) hM hp.1 hrc hrs hfr hlo hws hcw (fun a' U hW => word_at hW (Or.inl (by first | rfl | simp [Cond.onTables, Cond.keeps, Cond.steady])) hini)
  obtain ⟨hx, hb, hml, ho, -⟩ := S
  intro T hT X
  rcases vx_callSX X hx (hh := hh) (bytes := bytes) (maxL := maxL) (ret := ret) ho hl hstt hini hcode hy hK hg (hsize.trans hml.symm) (argsL := As) (rest := rest) (fun sig h => hn.trans (hlen sig h)) hstack hW (by rw [hb]; exact hdg)
    (fun vm₁ hW₁ => ⟨hf.1, hf.2, hp.2 (T.setVm vm₁) hT hW₁⟩) with ⟨v, vm₁, ⟨U', l2, c2, s2⟩, hW₁, X', ⟨g', mk, t, L, e1, e2, hq, h1, hL, h2, h3⟩, st⟩ | ⟨q, vm₁, ⟨U', l2, c2, s2⟩, hW₁, X', ⟨g', mk, t, L, E, ce, e1, e2, hq, hce, hcv, hcl, h1, hL, h2, h3⟩, st⟩
  · dsimp only [Pt.U, Pt.locs, Pt.cells, Pt.slots] at X' e1 e2 h1 h2 h3 st
    subst h1; subst h2; subst h3
    exact Or.inl ⟨v, (T.setVm vm₁).calling g' mk As.toArray, t, U', L, hT, X', hL, e1, e2, hq, st⟩
  · dsimp only [Pt.U, Pt.locs, Pt.cells, Pt.slots] at X' e1 e2 h1 h2 h3 st hcl
    subst h1; subst h2; subst h3
    exact Or.inr ⟨q, (T.setVm vm₁).calling g' mk As.toArray, t, U', L, E, ce, hT, X', hL, e1, e2, hq, hce, hcv, vx_cls hW₁ hcl, st⟩
end
end VXH
theorem vx_ofWH {l : Launch} {y : MethodName} {ws ws' : List Cond} {rm : Room} {Pc : Array Value → State → Prop} {Qc : Array Value → State → Outcome → State → Prop} {XC : String → State → State → Prop} {mc ms : Nat} {free : Addr → Prop} {cc : ByteArray} {maxL : Nat} {ret : Option FieldType} {hh : List (Nat × Nat × Nat × Nat)}
    (hy : plainName y.cls = true) (hw : ws = Cond.codeWith y cc maxL ret hh :: ws')
    (body : ∀ p e s m args below meth c s₁, BodyLoose p l y (headSpec ws rm) cc maxL ret e s m args below meth c s₁ → c.maxLocals = maxL → Pc args s →
      W p l e (headSpec ws rm).room s m args below meth c s.heap [] 0 0 (vx_MQ below Qc XC args s mc ms free) (entryFrame m args maxL)) : vx_Met l y ws rm Pc Qc XC mc ms free := by
  refine MetFree.of_bodyS (code := cc) (maxLocals := maxL) (ret := ret) hy ?_ ?_
  · intro args s m h hn
    obtain ⟨m9, meth, c, hn9, h1, h2, h3, h4, -, h5, h6, -⟩ := Cond.codeWith_spec (atoms_spec (ws := ws) h _ (by rw [hw]; exact List.mem_cons_self))
    cases hn.symm.trans hn9
    exact ⟨meth, c, h1, h2, h3, h4, h5, h6⟩
  · intro p e s m args below meth c s₁ B hml hP _
    have hh0 : s₁.heap = s.heap := by rw [B.state]; rfl
    obtain ⟨t, a1, o, b1, b2, b3⟩ := body p e s m args below meth c s₁ B hml hP s₁ hh0 (Stand.of_body B)
    exact ⟨t, o, a1, b1, b2, b3⟩
/-! ===== END ===== -/
end
section
/-! ===== BEGIN printed: names, fields, word lists, decode rows ===== -/
def RX0 : String := "BottleShip$Bottle"
def TX0 : u_T := fun k => match k with
  | 0 => ("BottleShip$Bottle", "neck", "I", false)
  | 1 => ("BottleShip$Bottle", "high", "I", false)
  | 2 => ("BottleShip$Bottle", "length", "I", false)
  | _ => ("BottleShip$Bottle", "putty", "I", false)
def tyX0 : Nat → FieldType := fun k => match k with
  | 0 => .int
  | 1 => .int
  | 2 => .int
  | _ => .int
abbrev wsX00 : List Cond := u_ws RX0 TX0 4
theorem nmX0 : ∀ a, a < 4 → ∀ b, b < 4 → a ≠ b → (TX0 a).2.1 ≠ (TX0 b).2.1 := by decide +kernel
theorem tyX0_ok : ∀ k, k < 4 → parseFieldDescriptor (TX0 k).2.2.1 = some (tyX0 k) := by decide +kernel
abbrev cX0_init : ByteArray := prog_2_method_1_code
def yX0_init : MethodName := ⟨RX0, "<init>", "()V"⟩
abbrev cX0_digestOnto : ByteArray := prog_2_method_2_code
def yX0_digestOnto : MethodName := ⟨RX0, "digestOnto", "(J)J"⟩
def RX1 : String := "BottleShip$Cord"
def TX1 : u_T := fun k => match k with
  | 0 => ("BottleShip$Cord", "mast", "I", false)
  | 1 => ("BottleShip$Cord", "to", "I", false)
  | 2 => ("BottleShip$Cord", "strength", "I", false)
  | 3 => ("BottleShip$Cord", "state", "I", false)
  | 4 => ("BottleShip$Cord", "lesserPlace", "I", false)
  | _ => ("BottleShip$Cord", "greaterPlace", "I", false)
def tyX1 : Nat → FieldType := fun k => match k with
  | 0 => .int
  | 1 => .int
  | 2 => .int
  | 3 => .int
  | 4 => .int
  | _ => .int
abbrev wsX10 : List Cond := u_ws RX1 TX1 6
theorem nmX1 : ∀ a, a < 6 → ∀ b, b < 6 → a ≠ b → (TX1 a).2.1 ≠ (TX1 b).2.1 := by decide +kernel
theorem tyX1_ok : ∀ k, k < 6 → parseFieldDescriptor (TX1 k).2.2.1 = some (tyX1 k) := by decide +kernel
abbrev cX1_init : ByteArray := prog_3_method_1_code
def yX1_init : MethodName := ⟨RX1, "<init>", "()V"⟩
abbrev cX1_span : ByteArray := prog_3_method_2_code
def yX1_span : MethodName := ⟨RX1, "span", "(II)V"⟩
abbrev cX1_crosses : ByteArray := prog_3_method_3_code
def yX1_crosses : MethodName := ⟨RX1, "crosses", "(LBottleShip$Cord;)Z"⟩
abbrev cX1_wear : ByteArray := prog_3_method_4_code
def yX1_wear : MethodName := ⟨RX1, "wear", "()V"⟩
def RX2 : String := "BottleShip$Hull"
def TX2 : u_T := fun k => match k with
  | 0 => ("BottleShip$Hull", "length", "I", false)
  | 1 => ("BottleShip$Hull", "height", "I", false)
  | _ => ("BottleShip$Hull", "width", "I", false)
def tyX2 : Nat → FieldType := fun k => match k with
  | 0 => .int
  | 1 => .int
  | _ => .int
abbrev wsX20 : List Cond := u_ws RX2 TX2 3
theorem nmX2 : ∀ a, a < 3 → ∀ b, b < 3 → a ≠ b → (TX2 a).2.1 ≠ (TX2 b).2.1 := by decide +kernel
theorem tyX2_ok : ∀ k, k < 3 → parseFieldDescriptor (TX2 k).2.2.1 = some (tyX2 k) := by decide +kernel
abbrev cX2_init : ByteArray := prog_4_method_1_code
def yX2_init : MethodName := ⟨RX2, "<init>", "()V"⟩
abbrev cX2_digestOnto : ByteArray := prog_4_method_2_code
def yX2_digestOnto : MethodName := ⟨RX2, "digestOnto", "(J)J"⟩
def RX3 : String := "BottleShip$Mast"
def TX3 : u_T := fun k => match k with
  | 0 => ("BottleShip$Mast", "yards", "[I", true)
  | 1 => ("BottleShip$Mast", "place", "I", false)
  | 2 => ("BottleShip$Mast", "height", "I", false)
  | _ => ("BottleShip$Mast", "yardCount", "I", false)
def tyX3 : Nat → FieldType := fun k => match k with
  | 0 => .array .int
  | 1 => .int
  | 2 => .int
  | _ => .int
abbrev wsX30 : List Cond := u_ws RX3 TX3 4
theorem nmX3 : ∀ a, a < 4 → ∀ b, b < 4 → a ≠ b → (TX3 a).2.1 ≠ (TX3 b).2.1 := by decide +kernel
theorem tyX3_ok : ∀ k, k < 4 → parseFieldDescriptor (TX3 k).2.2.1 = some (tyX3 k) := by decide +kernel
abbrev cX3_init : ByteArray := prog_5_method_1_code
def yX3_init : MethodName := ⟨RX3, "<init>", "()V"⟩
abbrev cX3_standing : ByteArray := prog_5_method_2_code
def yX3_standing : MethodName := ⟨RX3, "standing", "(I)I"⟩
abbrev cX3_reach : ByteArray := prog_5_method_3_code
def yX3_reach : MethodName := ⟨RX3, "reach", "(I)I"⟩
abbrev cX3_widestYard : ByteArray := prog_5_method_4_code
def yX3_widestYard : MethodName := ⟨RX3, "widestYard", "()I"⟩
abbrev cX3_digestYardsOnto : ByteArray := prog_5_method_5_code
def yX3_digestYardsOnto : MethodName := ⟨RX3, "digestYardsOnto", "(J)J"⟩
def RX4 : String := "BottleShip$Search"
def TX4 : u_T := fun k => match k with
  | 0 => ("BottleShip$Search", "handles", "[I", true)
  | 1 => ("BottleShip$Search", "lowered", "[I", true)
  | 2 => ("BottleShip$Search", "queue", "[I", true)
  | 3 => ("BottleShip$Search", "steps", "[I", true)
  | 4 => ("BottleShip$Search", "openers", "[I", true)
  | _ => ("BottleShip$Search", "reached", "I", false)
def tyX4 : Nat → FieldType := fun k => match k with
  | 0 => .array .int
  | 1 => .array .int
  | 2 => .array .int
  | 3 => .array .int
  | 4 => .array .int
  | _ => .int
abbrev wsX40 : List Cond := u_ws RX4 TX4 6
theorem nmX4 : ∀ a, a < 6 → ∀ b, b < 6 → a ≠ b → (TX4 a).2.1 ≠ (TX4 b).2.1 := by decide +kernel
theorem tyX4_ok : ∀ k, k < 6 → parseFieldDescriptor (TX4 k).2.2.1 = some (tyX4 k) := by decide +kernel
abbrev cX4_init : ByteArray := prog_6_method_1_code
def yX4_init : MethodName := ⟨RX4, "<init>", "()V"⟩
abbrev cX4_encode : ByteArray := prog_6_method_2_code
def yX4_encode : MethodName := ⟨RX4, "encode", "([I)I"⟩
abbrev cX4_decode : ByteArray := prog_6_method_3_code
def yX4_decode : MethodName := ⟨RX4, "decode", "(I[I)V"⟩
abbrev cX4_begin : ByteArray := prog_6_method_4_code
def yX4_begin : MethodName := ⟨RX4, "begin", "(I)V"⟩
abbrev cX4_reach : ByteArray := prog_6_method_5_code
def yX4_reach : MethodName := ⟨RX4, "reach", "(III)V"⟩
def RX5 : String := "BottleShip"
def TX5 : u_T := fun k => match k with
  | 0 => ("BottleShip", "bottle", "LBottleShip$Bottle;", true)
  | 1 => ("BottleShip", "hull", "LBottleShip$Hull;", true)
  | 2 => ("BottleShip", "masts", "[LBottleShip$Mast;", true)
  | 3 => ("BottleShip", "cords", "[LBottleShip$Cord;", true)
  | 4 => ("BottleShip", "search", "LBottleShip$Search;", true)
  | 5 => ("BottleShip", "leans", "[I", true)
  | 6 => ("BottleShip", "leansBefore", "[I", true)
  | 7 => ("BottleShip", "leansAfter", "[I", true)
  | 8 => ("BottleShip", "mastCount", "I", false)
  | 9 => ("BottleShip", "cordCount", "I", false)
  | 10 => ("BottleShip", "inside", "Z", false)
  | 11 => ("BottleShip", "hour", "I", false)
  | 12 => ("BottleShip", "pullsDone", "I", false)
  | _ => ("BottleShip", "pullsNotDone", "I", false)
def tyX5 : Nat → FieldType := fun k => match k with
  | 0 => .object "BottleShip$Bottle"
  | 1 => .object "BottleShip$Hull"
  | 2 => .array (.object "BottleShip$Mast")
  | 3 => .array (.object "BottleShip$Cord")
  | 4 => .object "BottleShip$Search"
  | 5 => .array .int
  | 6 => .array .int
  | 7 => .array .int
  | 8 => .int
  | 9 => .int
  | 10 => .boolean
  | 11 => .int
  | 12 => .int
  | _ => .int
abbrev wsX50 : List Cond := u_ws RX5 TX5 14
theorem nmX5 : ∀ a, a < 14 → ∀ b, b < 14 → a ≠ b → (TX5 a).2.1 ≠ (TX5 b).2.1 := by decide +kernel
theorem tyX5_ok : ∀ k, k < 14 → parseFieldDescriptor (TX5 k).2.2.1 = some (tyX5 k) := by decide +kernel
abbrev cX5_init : ByteArray := prog_1_method_1_code
def yX5_init : MethodName := ⟨RX5, "<init>", "()V"⟩
abbrev cX5_setBottle : ByteArray := prog_1_method_2_code
def yX5_setBottle : MethodName := ⟨RX5, "setBottle", "(IIII)I"⟩
abbrev cX5_setHull : ByteArray := prog_1_method_3_code
def yX5_setHull : MethodName := ⟨RX5, "setHull", "(III)I"⟩
abbrev cX5_step : ByteArray := prog_1_method_4_code
def yX5_step : MethodName := ⟨RX5, "step", "(II)I"⟩
abbrev cX5_yard : ByteArray := prog_1_method_5_code
def yX5_yard : MethodName := ⟨RX5, "yard", "(II)I"⟩
abbrev cX5_lead : ByteArray := prog_1_method_6_code
def yX5_lead : MethodName := ⟨RX5, "lead", "(III)I"⟩
abbrev cX5_enter : ByteArray := prog_1_method_7_code
def yX5_enter : MethodName := ⟨RX5, "enter", "()Z"⟩
abbrev cX5_leave : ByteArray := prog_1_method_8_code
def yX5_leave : MethodName := ⟨RX5, "leave", "()Z"⟩
abbrev cX5_pull : ByteArray := prog_1_method_9_code
def yX5_pull : MethodName := ⟨RX5, "pull", "(I)I"⟩
abbrev cX5_glue : ByteArray := prog_1_method_10_code
def yX5_glue : MethodName := ⟨RX5, "glue", "(I)I"⟩
abbrev cX5_cross : ByteArray := prog_1_method_11_code
def yX5_cross : MethodName := ⟨RX5, "cross", "(II)Z"⟩
abbrev cX5_mast : ByteArray := prog_1_method_12_code
def yX5_mast : MethodName := ⟨RX5, "mast", "(II)I"⟩
abbrev cX5_thread : ByteArray := prog_1_method_13_code
def yX5_thread : MethodName := ⟨RX5, "thread", "(II)I"⟩
abbrev cX5_ship : ByteArray := prog_1_method_14_code
def yX5_ship : MethodName := ⟨RX5, "ship", "(I)I"⟩
abbrev cX5_count : ByteArray := prog_1_method_15_code
def yX5_count : MethodName := ⟨RX5, "count", "(I)I"⟩
abbrev cX5_pass : ByteArray := prog_1_method_16_code
def yX5_pass : MethodName := ⟨RX5, "pass", "(I)I"⟩
abbrev cX5_fewest : ByteArray := prog_1_method_17_code
def yX5_fewest : MethodName := ⟨RX5, "fewest", "()I"⟩
abbrev cX5_first : ByteArray := prog_1_method_18_code
def yX5_first : MethodName := ⟨RX5, "first", "()I"⟩
abbrev cX5_least : ByteArray := prog_1_method_19_code
def yX5_least : MethodName := ⟨RX5, "least", "(I)I"⟩
abbrev cX5_falls : ByteArray := prog_1_method_20_code
def yX5_falls : MethodName := ⟨RX5, "falls", "()I"⟩
abbrev cX5_mean : ByteArray := prog_1_method_21_code
def yX5_mean : MethodName := ⟨RX5, "mean", "()D"⟩
abbrev cX5_digest : ByteArray := prog_1_method_22_code
def yX5_digest : MethodName := ⟨RX5, "digest", "()J"⟩
abbrev cX5_isWithin : ByteArray := prog_1_method_23_code
def yX5_isWithin : MethodName := ⟨RX5, "isWithin", "(III)Z"⟩
abbrev cX5_isMast : ByteArray := prog_1_method_24_code
def yX5_isMast : MethodName := ⟨RX5, "isMast", "(I)Z"⟩
abbrev cX5_isThread : ByteArray := prog_1_method_25_code
def yX5_isThread : MethodName := ⟨RX5, "isThread", "(I)Z"⟩
abbrev cX5_hasMastAt : ByteArray := prog_1_method_26_code
def yX5_hasMastAt : MethodName := ⟨RX5, "hasMastAt", "(I)Z"⟩
abbrev cX5_mastsLeaning : ByteArray := prog_1_method_27_code
def yX5_mastsLeaning : MethodName := ⟨RX5, "mastsLeaning", "(I)I"⟩
abbrev cX5_threadsThatAre : ByteArray := prog_1_method_28_code
def yX5_threadsThatAre : MethodName := ⟨RX5, "threadsThatAre", "(I)I"⟩
abbrev cX5_threadsFrom : ByteArray := prog_1_method_29_code
def yX5_threadsFrom : MethodName := ⟨RX5, "threadsFrom", "(II)I"⟩
abbrev cX5_isHeld : ByteArray := prog_1_method_30_code
def yX5_isHeld : MethodName := ⟨RX5, "isHeld", "(I)Z"⟩
abbrev cX5_looseThreadsFrom : ByteArray := prog_1_method_31_code
def yX5_looseThreadsFrom : MethodName := ⟨RX5, "looseThreadsFrom", "(I)I"⟩
abbrev cX5_crossingsOf : ByteArray := prog_1_method_32_code
def yX5_crossingsOf : MethodName := ⟨RX5, "crossingsOf", "(LBottleShip$Cord;)I"⟩
abbrev cX5_isCrossedByStronger : ByteArray := prog_1_method_33_code
def yX5_isCrossedByStronger : MethodName := ⟨RX5, "isCrossedByStronger", "(LBottleShip$Cord;)Z"⟩
abbrev cX5_breadth : ByteArray := prog_1_method_34_code
def yX5_breadth : MethodName := ⟨RX5, "breadth", "()I"⟩
abbrev cX5_topWith : ByteArray := prog_1_method_35_code
def yX5_topWith : MethodName := ⟨RX5, "topWith", "([I)I"⟩
abbrev cX5_endWith : ByteArray := prog_1_method_36_code
def yX5_endWith : MethodName := ⟨RX5, "endWith", "([I)I"⟩
abbrev cX5_goesThroughNeck : ByteArray := prog_1_method_37_code
def yX5_goesThroughNeck : MethodName := ⟨RX5, "goesThroughNeck", "()Z"⟩
abbrev cX5_fitsWith : ByteArray := prog_1_method_38_code
def yX5_fitsWith : MethodName := ⟨RX5, "fitsWith", "([I)Z"⟩
abbrev cX5_hindranceOf : ByteArray := prog_1_method_39_code
def yX5_hindranceOf : MethodName := ⟨RX5, "hindranceOf", "(LBottleShip$Cord;)I"⟩
abbrev cX5_loweredBy : ByteArray := prog_1_method_40_code
def yX5_loweredBy : MethodName := ⟨RX5, "loweredBy", "(I)I"⟩
abbrev cX5_raise : ByteArray := prog_1_method_41_code
def yX5_raise : MethodName := ⟨RX5, "raise", "(II[I[I)V"⟩
abbrev cX5_fallInAnHour : ByteArray := prog_1_method_42_code
def yX5_fallInAnHour : MethodName := ⟨RX5, "fallInAnHour", "(I)I"⟩
abbrev cX5_hoursUntilFlat : ByteArray := prog_1_method_43_code
def yX5_hoursUntilFlat : MethodName := ⟨RX5, "hoursUntilFlat", "(I)I"⟩
abbrev cX5_explore : ByteArray := prog_1_method_44_code
def yX5_explore : MethodName := ⟨RX5, "explore", "()V"⟩
abbrev cX5_exploreFrom : ByteArray := prog_1_method_45_code
def yX5_exploreFrom : MethodName := ⟨RX5, "exploreFrom", "(I)V"⟩
abbrev cX5_firstFreeThreadOf : ByteArray := prog_1_method_46_code
def yX5_firstFreeThreadOf : MethodName := ⟨RX5, "firstFreeThreadOf", "(I)I"⟩
def RX6 : String := "BottleShipModel"
def TX6 : u_T := fun k => match k with
  | 0 => ("BottleShipModel", "thrown", "I", false)
  | 1 => ("BottleShipModel", "neck", "I", false)
  | 2 => ("BottleShipModel", "high", "I", false)
  | 3 => ("BottleShipModel", "room", "I", false)
  | 4 => ("BottleShipModel", "putty", "I", false)
  | 5 => ("BottleShipModel", "length", "I", false)
  | 6 => ("BottleShipModel", "height", "I", false)
  | 7 => ("BottleShipModel", "width", "I", false)
  | 8 => ("BottleShipModel", "isIn", "Z", false)
  | 9 => ("BottleShipModel", "hour", "I", false)
  | 10 => ("BottleShipModel", "done", "I", false)
  | 11 => ("BottleShipModel", "refused", "I", false)
  | 12 => ("BottleShipModel", "masts", "I", false)
  | 13 => ("BottleShipModel", "leans", "I", false)
  | 14 => ("BottleShipModel", "place", "[I", true)
  | 15 => ("BottleShipModel", "tall", "[I", true)
  | 16 => ("BottleShipModel", "yards", "[I", true)
  | 17 => ("BottleShipModel", "wide", "[I", true)
  | 18 => ("BottleShipModel", "threads", "I", false)
  | 19 => ("BottleShipModel", "from", "[I", true)
  | 20 => ("BottleShipModel", "to", "[I", true)
  | 21 => ("BottleShipModel", "strength", "[I", true)
  | 22 => ("BottleShipModel", "state", "[I", true)
  | 23 => ("BottleShipModel", "pulls", "[I", true)
  | _ => ("BottleShipModel", "row", "[I", true)
def tyX6 : Nat → FieldType := fun k => match k with
  | 0 => .int
  | 1 => .int
  | 2 => .int
  | 3 => .int
  | 4 => .int
  | 5 => .int
  | 6 => .int
  | 7 => .int
  | 8 => .boolean
  | 9 => .int
  | 10 => .int
  | 11 => .int
  | 12 => .int
  | 13 => .int
  | 14 => .array .int
  | 15 => .array .int
  | 16 => .array .int
  | 17 => .array .int
  | 18 => .int
  | 19 => .array .int
  | 20 => .array .int
  | 21 => .array .int
  | 22 => .array .int
  | 23 => .array .int
  | _ => .array .int
abbrev wsX60 : List Cond := u_ws RX6 TX6 25
theorem nmX6 : ∀ a, a < 25 → ∀ b, b < 25 → a ≠ b → (TX6 a).2.1 ≠ (TX6 b).2.1 := by decide +kernel
theorem tyX6_ok : ∀ k, k < 25 → parseFieldDescriptor (TX6 k).2.2.1 = some (tyX6 k) := by decide +kernel
abbrev cX6_init : ByteArray := prog_8_method_1_code
def yX6_init : MethodName := ⟨RX6, "<init>", "()V"⟩
abbrev cX6_thrown : ByteArray := prog_8_method_2_code
def yX6_thrown : MethodName := ⟨RX6, "thrown", "()I"⟩
abbrev cX6_no : ByteArray := prog_8_method_3_code
def yX6_no : MethodName := ⟨RX6, "no", "(I)I"⟩
abbrev cX6_isBetween : ByteArray := prog_8_method_4_code
def yX6_isBetween : MethodName := ⟨RX6, "isBetween", "(III)Z"⟩
abbrev cX6_isMast : ByteArray := prog_8_method_5_code
def yX6_isMast : MethodName := ⟨RX6, "isMast", "(I)Z"⟩
abbrev cX6_isThread : ByteArray := prog_8_method_6_code
def yX6_isThread : MethodName := ⟨RX6, "isThread", "(I)Z"⟩
abbrev cX6_unit : ByteArray := prog_8_method_7_code
def yX6_unit : MethodName := ⟨RX6, "unit", "(I)I"⟩
abbrev cX6_lean : ByteArray := prog_8_method_8_code
def yX6_lean : MethodName := ⟨RX6, "lean", "(II)I"⟩
abbrev cX6_stands : ByteArray := prog_8_method_9_code
def yX6_stands : MethodName := ⟨RX6, "stands", "(II)I"⟩
abbrev cX6_reach : ByteArray := prog_8_method_10_code
def yX6_reach : MethodName := ⟨RX6, "reach", "(II)I"⟩
abbrev cX6_top : ByteArray := prog_8_method_11_code
def yX6_top : MethodName := ⟨RX6, "top", "(I)I"⟩
abbrev cX6_end : ByteArray := prog_8_method_12_code
def yX6_end : MethodName := ⟨RX6, "end", "(I)I"⟩
abbrev cX6_breadth : ByteArray := prog_8_method_13_code
def yX6_breadth : MethodName := ⟨RX6, "breadth", "(I)I"⟩
abbrev cX6_goesThrough : ByteArray := prog_8_method_14_code
def yX6_goesThrough : MethodName := ⟨RX6, "goesThrough", "()Z"⟩
abbrev cX6_fits : ByteArray := prog_8_method_15_code
def yX6_fits : MethodName := ⟨RX6, "fits", "(I)Z"⟩
abbrev cX6_isHeld : ByteArray := prog_8_method_16_code
def yX6_isHeld : MethodName := ⟨RX6, "isHeld", "(I)Z"⟩
abbrev cX6_loose : ByteArray := prog_8_method_17_code
def yX6_loose : MethodName := ⟨RX6, "loose", "(I)I"⟩
abbrev cX6_placeOf : ByteArray := prog_8_method_18_code
def yX6_placeOf : MethodName := ⟨RX6, "placeOf", "(I)I"⟩
abbrev cX6_crosses : ByteArray := prog_8_method_19_code
def yX6_crosses : MethodName := ⟨RX6, "crosses", "(II)Z"⟩
abbrev cX6_behind : ByteArray := prog_8_method_20_code
def yX6_behind : MethodName := ⟨RX6, "behind", "(II)I"⟩
abbrev cX6_leads : ByteArray := prog_8_method_21_code
def yX6_leads : MethodName := ⟨RX6, "leads", "(II)Z"⟩
abbrev cX6_setBottle : ByteArray := prog_8_method_22_code
def yX6_setBottle : MethodName := ⟨RX6, "setBottle", "(IIII)I"⟩
abbrev cX6_setHull : ByteArray := prog_8_method_23_code
def yX6_setHull : MethodName := ⟨RX6, "setHull", "(III)I"⟩
abbrev cX6_step : ByteArray := prog_8_method_24_code
def yX6_step : MethodName := ⟨RX6, "step", "(II)I"⟩
abbrev cX6_yard : ByteArray := prog_8_method_25_code
def yX6_yard : MethodName := ⟨RX6, "yard", "(II)I"⟩
abbrev cX6_lead : ByteArray := prog_8_method_26_code
def yX6_lead : MethodName := ⟨RX6, "lead", "(III)I"⟩
abbrev cX6_enter : ByteArray := prog_8_method_27_code
def yX6_enter : MethodName := ⟨RX6, "enter", "()Z"⟩
abbrev cX6_leave : ByteArray := prog_8_method_28_code
def yX6_leave : MethodName := ⟨RX6, "leave", "()Z"⟩
abbrev cX6_pull : ByteArray := prog_8_method_29_code
def yX6_pull : MethodName := ⟨RX6, "pull", "(I)I"⟩
abbrev cX6_glue : ByteArray := prog_8_method_30_code
def yX6_glue : MethodName := ⟨RX6, "glue", "(I)I"⟩
abbrev cX6_cross : ByteArray := prog_8_method_31_code
def yX6_cross : MethodName := ⟨RX6, "cross", "(II)Z"⟩
abbrev cX6_mastTold : ByteArray := prog_8_method_32_code
def yX6_mastTold : MethodName := ⟨RX6, "mastTold", "(II)I"⟩
abbrev cX6_mast : ByteArray := prog_8_method_33_code
def yX6_mast : MethodName := ⟨RX6, "mast", "(II)I"⟩
abbrev cX6_threadTold : ByteArray := prog_8_method_34_code
def yX6_threadTold : MethodName := ⟨RX6, "threadTold", "(II)I"⟩
abbrev cX6_thread : ByteArray := prog_8_method_35_code
def yX6_thread : MethodName := ⟨RX6, "thread", "(II)I"⟩
abbrev cX6_shipTold : ByteArray := prog_8_method_36_code
def yX6_shipTold : MethodName := ⟨RX6, "shipTold", "(I)I"⟩
abbrev cX6_ship : ByteArray := prog_8_method_37_code
def yX6_ship : MethodName := ⟨RX6, "ship", "(I)I"⟩
abbrev cX6_counted : ByteArray := prog_8_method_38_code
def yX6_counted : MethodName := ⟨RX6, "counted", "(I)I"⟩
abbrev cX6_count : ByteArray := prog_8_method_39_code
def yX6_count : MethodName := ⟨RX6, "count", "(I)I"⟩
abbrev cX6_later : ByteArray := prog_8_method_40_code
def yX6_later : MethodName := ⟨RX6, "later", "(I)I"⟩
abbrev cX6_flat : ByteArray := prog_8_method_41_code
def yX6_flat : MethodName := ⟨RX6, "flat", "(I)I"⟩
abbrev cX6_pass : ByteArray := prog_8_method_42_code
def yX6_pass : MethodName := ⟨RX6, "pass", "(I)I"⟩
abbrev cX6_search : ByteArray := prog_8_method_43_code
def yX6_search : MethodName := ⟨RX6, "search", "(I)I"⟩
abbrev cX6_fewest : ByteArray := prog_8_method_44_code
def yX6_fewest : MethodName := ⟨RX6, "fewest", "()I"⟩
abbrev cX6_first : ByteArray := prog_8_method_45_code
def yX6_first : MethodName := ⟨RX6, "first", "()I"⟩
abbrev cX6_least : ByteArray := prog_8_method_46_code
def yX6_least : MethodName := ⟨RX6, "least", "(I)I"⟩
abbrev cX6_falls : ByteArray := prog_8_method_47_code
def yX6_falls : MethodName := ⟨RX6, "falls", "()I"⟩
abbrev cX6_mean : ByteArray := prog_8_method_48_code
def yX6_mean : MethodName := ⟨RX6, "mean", "()D"⟩
abbrev cX6_digest : ByteArray := prog_8_method_49_code
def yX6_digest : MethodName := ⟨RX6, "digest", "()J"⟩
def RJx145de : String := "java/io/Serializable"
def TJx145de : u_T := fun k => match k with
  | _ => ("", "", "", false)
def tyJx145de : Nat → FieldType := fun k => match k with
  | _ => .int
abbrev wsJx145de0 : List Cond := u_ws RJx145de TJx145de 0
theorem nmJx145de : ∀ a, a < 0 → ∀ b, b < 0 → a ≠ b → (TJx145de a).2.1 ≠ (TJx145de b).2.1 := by decide +kernel
theorem tyJx145de_ok : ∀ k, k < 0 → parseFieldDescriptor (TJx145de k).2.2.1 = some (tyJx145de k) := by decide +kernel
def RJ9 : String := "java/lang/Math"
def TJ9 : u_T := fun k => match k with
  | _ => ("", "", "", false)
def tyJ9 : Nat → FieldType := fun k => match k with
  | _ => .int
abbrev wsJ90 : List Cond := u_ws RJ9 TJ9 0
theorem nmJ9 : ∀ a, a < 0 → ∀ b, b < 0 → a ≠ b → (TJ9 a).2.1 ≠ (TJ9 b).2.1 := by decide +kernel
theorem tyJ9_ok : ∀ k, k < 0 → parseFieldDescriptor (TJ9 k).2.2.1 = some (tyJ9 k) := by decide +kernel
abbrev cJ9_max_7cf53 : ByteArray := prog_13_method_65_code
def yJ9_max_7cf53 : MethodName := ⟨RJ9, "max", "(II)I"⟩
abbrev cJ9_min_7cf53 : ByteArray := prog_13_method_69_code
def yJ9_min_7cf53 : MethodName := ⟨RJ9, "min", "(II)I"⟩
def RJ0 : String := "java/lang/String"
def TJ0 : u_T := fun k => match k with
  | _ => ("", "", "", false)
def tyJ0 : Nat → FieldType := fun k => match k with
  | _ => .int
abbrev wsJ00 : List Cond := u_ws RJ0 TJ0 0
theorem nmJ0 : ∀ a, a < 0 → ∀ b, b < 0 → a ≠ b → (TJ0 a).2.1 ≠ (TJ0 b).2.1 := by decide +kernel
theorem tyJ0_ok : ∀ k, k < 0 → parseFieldDescriptor (TJ0 k).2.2.1 = some (tyJ0 k) := by decide +kernel
def RJ10 : String := "java/lang/System"
def TJ10 : u_T := fun k => match k with
  | _ => ("", "", "", false)
def tyJ10 : Nat → FieldType := fun k => match k with
  | _ => .int
abbrev wsJ100 : List Cond := u_ws RJ10 TJ10 0
theorem nmJ10 : ∀ a, a < 0 → ∀ b, b < 0 → a ≠ b → (TJ10 a).2.1 ≠ (TJ10 b).2.1 := by decide +kernel
theorem tyJ10_ok : ∀ k, k < 0 → parseFieldDescriptor (TJ10 k).2.2.1 = some (tyJ10 k) := by decide +kernel
def RJ7 : String := "java/util/Arrays"
def TJ7 : u_T := fun k => match k with
  | _ => ("", "", "", false)
def tyJ7 : Nat → FieldType := fun k => match k with
  | _ => .int
abbrev wsJ70 : List Cond := u_ws RJ7 TJ7 0
theorem nmJ7 : ∀ a, a < 0 → ∀ b, b < 0 → a ≠ b → (TJ7 a).2.1 ≠ (TJ7 b).2.1 := by decide +kernel
theorem tyJ7_ok : ∀ k, k < 0 → parseFieldDescriptor (TJ7 k).2.2.1 = some (tyJ7 k) := by decide +kernel
abbrev cJ7_fill_53178 : ByteArray := prog_18_method_103_code
def yJ7_fill_53178 : MethodName := ⟨RJ7, "fill", "([II)V"⟩
def RL : String := "BottleShipLaw"
abbrev cL_setBottle : ByteArray := method_3_code
def yL_setBottle : MethodName := ⟨RL, "setBottle", "(LBottleShip;IIII[J)I"⟩
abbrev cL_setHull : ByteArray := method_4_code
def yL_setHull : MethodName := ⟨RL, "setHull", "(LBottleShip;III[J)I"⟩
abbrev cL_step : ByteArray := method_5_code
def yL_step : MethodName := ⟨RL, "step", "(LBottleShip;II[J)I"⟩
abbrev cL_yard : ByteArray := method_6_code
def yL_yard : MethodName := ⟨RL, "yard", "(LBottleShip;II[J)I"⟩
abbrev cL_lead : ByteArray := method_7_code
def yL_lead : MethodName := ⟨RL, "lead", "(LBottleShip;III[J)I"⟩
abbrev cL_pull : ByteArray := method_8_code
def yL_pull : MethodName := ⟨RL, "pull", "(LBottleShip;I[J)I"⟩
abbrev cL_glue : ByteArray := method_9_code
def yL_glue : MethodName := ⟨RL, "glue", "(LBottleShip;I[J)I"⟩
abbrev cL_cross : ByteArray := method_10_code
def yL_cross : MethodName := ⟨RL, "cross", "(LBottleShip;II[J)I"⟩
abbrev cL_mast : ByteArray := method_11_code
def yL_mast : MethodName := ⟨RL, "mast", "(LBottleShip;II[J)I"⟩
abbrev cL_thread : ByteArray := method_12_code
def yL_thread : MethodName := ⟨RL, "thread", "(LBottleShip;II[J)I"⟩
abbrev cL_ship : ByteArray := method_13_code
def yL_ship : MethodName := ⟨RL, "ship", "(LBottleShip;I[J)I"⟩
abbrev cL_count : ByteArray := method_14_code
def yL_count : MethodName := ⟨RL, "count", "(LBottleShip;I[J)I"⟩
abbrev cL_pass : ByteArray := method_15_code
def yL_pass : MethodName := ⟨RL, "pass", "(LBottleShip;I[J)I"⟩
abbrev cL_least : ByteArray := method_16_code
def yL_least : MethodName := ⟨RL, "least", "(LBottleShip;I[J)I"⟩
abbrev cL_law : ByteArray := code
def yL_law : MethodName := ⟨RL, "law", "([I)Z"⟩
def wsX0_init : List Cond := .code yX0_init cX0_init 1 none :: ([.methodLink RX0 1 objectInit, .instanceMethod objectInit, .code objectInit ⟨#[0xb1]⟩ 1 none, .fieldLink RX0 7 "BottleShip$Bottle" "neck" "I", .fieldLink RX0 13 "BottleShip$Bottle" "high" "I", .fieldLink RX0 16 "BottleShip$Bottle" "length" "I", .fieldLink RX0 19 "BottleShip$Bottle" "putty" "I"] ++ wsX00)
def wsX0_digestOnto : List Cond := .code yX0_digestOnto cX0_digestOnto 3 (some .long) :: ([.constantLong RX0 22 (31), .fieldLink RX0 7 "BottleShip$Bottle" "neck" "I", .fieldLink RX0 13 "BottleShip$Bottle" "high" "I", .fieldLink RX0 16 "BottleShip$Bottle" "length" "I", .fieldLink RX0 19 "BottleShip$Bottle" "putty" "I"] ++ wsX00)
def wsX1_init : List Cond := .code yX1_init cX1_init 1 none :: ([.methodLink RX1 3 objectInit, .instanceMethod objectInit, .code objectInit ⟨#[0xb1]⟩ 1 none])
def wsX1_span : List Cond := .code yX1_span cX1_span 3 none :: ([.methodLink RX1 9 Lib.Math.min.name, .static Lib.Math.min.name, .initialized "java/lang/Math", .code Lib.Math.min.name Lib.Math.min.code 2 (some .int), .fieldLink RX1 15 "BottleShip$Cord" "lesserPlace" "I", .methodLink RX1 21 Lib.Math.max.name, .static Lib.Math.max.name, .code Lib.Math.max.name Lib.Math.max.code 2 (some .int), .fieldLink RX1 24 "BottleShip$Cord" "greaterPlace" "I"] ++ wsX10)
def wsX1_crosses : List Cond := .code yX1_crosses cX1_crosses 2 (some .boolean) :: ([.fieldLink RX1 27 "BottleShip$Cord" "state" "I", .fieldLink RX1 15 "BottleShip$Cord" "lesserPlace" "I", .methodLink RX1 21 Lib.Math.max.name, .static Lib.Math.max.name, .initialized "java/lang/Math", .code Lib.Math.max.name Lib.Math.max.code 2 (some .int), .fieldLink RX1 24 "BottleShip$Cord" "greaterPlace" "I", .methodLink RX1 9 Lib.Math.min.name, .static Lib.Math.min.name, .code Lib.Math.min.name Lib.Math.min.code 2 (some .int)] ++ wsX10)
def wsX1_wear : List Cond := .code yX1_wear cX1_wear 1 none :: ([.fieldLink RX1 30 "BottleShip$Cord" "strength" "I", .fieldLink RX1 27 "BottleShip$Cord" "state" "I"] ++ wsX10)
def wsX2_init : List Cond := .code yX2_init cX2_init 1 none :: ([.methodLink RX2 1 objectInit, .instanceMethod objectInit, .code objectInit ⟨#[0xb1]⟩ 1 none, .fieldLink RX2 7 "BottleShip$Hull" "length" "I", .fieldLink RX2 13 "BottleShip$Hull" "height" "I", .fieldLink RX2 16 "BottleShip$Hull" "width" "I"] ++ wsX20)
def wsX2_digestOnto : List Cond := .code yX2_digestOnto cX2_digestOnto 3 (some .long) :: ([.constantLong RX2 19 (31), .fieldLink RX2 7 "BottleShip$Hull" "length" "I", .fieldLink RX2 13 "BottleShip$Hull" "height" "I", .fieldLink RX2 16 "BottleShip$Hull" "width" "I"] ++ wsX20)
def wsX3_init : List Cond := .code yX3_init cX3_init 1 none :: ([.methodLink RX3 3 objectInit, .instanceMethod objectInit, .code objectInit ⟨#[0xb1]⟩ 1 none, .arrayClass .int, .fieldLink RX3 9 "BottleShip$Mast" "yards" "[I"] ++ wsX30)
def wsX3_standing : List Cond := .code yX3_standing cX3_standing 2 (some .int) :: ([.fieldLink RX3 15 "BottleShip$Mast" "height" "I"] ++ wsX30)
def wsX3_reach : List Cond := .code yX3_reach cX3_reach 2 (some .int) :: ([.fieldLink RX3 15 "BottleShip$Mast" "height" "I"] ++ wsX30)
def wsX3_widestYard : List Cond := .code yX3_widestYard cX3_widestYard 3 (some .int) :: ([.fieldLink RX3 19 "BottleShip$Mast" "yardCount" "I", .fieldLink RX3 9 "BottleShip$Mast" "yards" "[I", .methodLink RX3 22 Lib.Math.max.name, .static Lib.Math.max.name, .initialized "java/lang/Math", .code Lib.Math.max.name Lib.Math.max.code 2 (some .int)] ++ wsX30)
def wsX3_digestYardsOnto : List Cond := .code yX3_digestYardsOnto cX3_digestYardsOnto 6 (some .long) :: ([.fieldLink RX3 19 "BottleShip$Mast" "yardCount" "I", .constantLong RX3 28 (31), .fieldLink RX3 9 "BottleShip$Mast" "yards" "[I"] ++ wsX30)
def wsX4_init : List Cond := .code yX4_init cX4_init 1 none :: ([.methodLink RX4 3 objectInit, .instanceMethod objectInit, .code objectInit ⟨#[0xb1]⟩ 1 none, .arrayClass .int, .fieldLink RX4 9 "BottleShip$Search" "handles" "[I", .fieldLink RX4 15 "BottleShip$Search" "lowered" "[I", .fieldLink RX4 18 "BottleShip$Search" "queue" "[I", .fieldLink RX4 21 "BottleShip$Search" "steps" "[I", .fieldLink RX4 24 "BottleShip$Search" "openers" "[I"] ++ wsX40)
def wsX4_encode : List Cond := .code yX4_encode cX4_encode 1 (some .int) :: ([])
def wsX4_decode : List Cond := .code yX4_decode cX4_decode 2 none :: ([])
def wsJ7_fill_53178 : List Cond := .code yJ7_fill_53178 cJ7_fill_53178 4 none :: ([])
def wsX4_begin : List Cond := .code yX4_begin cX4_begin 2 none :: ([.fieldLink RX4 21 "BottleShip$Search" "steps" "[I", .fieldLink RX4 24 "BottleShip$Search" "openers" "[I", .fieldLink RX4 18 "BottleShip$Search" "queue" "[I", .fieldLink RX4 33 "BottleShip$Search" "reached" "I", .methodLink RX4 27 yJ7_fill_53178, .static yJ7_fill_53178, .initialized RJ7, .code yJ7_fill_53178 cJ7_fill_53178 4 none] ++ wsX40)
def wsX4_reach : List Cond := .code yX4_reach cX4_reach 5 none :: ([.fieldLink RX4 21 "BottleShip$Search" "steps" "[I", .fieldLink RX4 24 "BottleShip$Search" "openers" "[I", .fieldLink RX4 18 "BottleShip$Search" "queue" "[I", .fieldLink RX4 33 "BottleShip$Search" "reached" "I", .methodLink RX4 37 Lib.Math.min.name, .static Lib.Math.min.name, .initialized "java/lang/Math", .code Lib.Math.min.name Lib.Math.min.code 2 (some .int)] ++ wsX40)
def wsX5_init_r1 : List Cond := [Cond.methodLink RX5 1 objectInit, Cond.instanceMethod objectInit, Cond.code objectInit ⟨#[0xb1]⟩ 1 none, Cond.classLink RX5 7 RX0, Cond.instantiable RX0 4, Cond.initialized RX0, Cond.fieldLink RX5 10 "BottleShip" "bottle" "LBottleShip$Bottle;", Cond.classLink RX5 16 RX2, Cond.instantiable RX2 3, Cond.initialized RX2, Cond.fieldLink RX5 19 "BottleShip" "hull" "LBottleShip$Hull;", Cond.classLink RX5 23 RX3, Cond.fieldLink RX5 25 "BottleShip" "masts" "[LBottleShip$Mast;", Cond.classLink RX5 29 RX1, Cond.fieldLink RX5 31 "BottleShip" "cords" "[LBottleShip$Cord;", Cond.classLink RX5 35 RX4, Cond.instantiable RX4 6, Cond.initialized RX4, Cond.fieldLink RX5 38 "BottleShip" "search" "LBottleShip$Search;", Cond.arrayClass .int, Cond.fieldLink RX5 42 "BottleShip" "leans" "[I", Cond.fieldLink RX5 46 "BottleShip" "leansBefore" "[I", Cond.fieldLink RX5 49 "BottleShip" "leansAfter" "[I", Cond.instantiable RX3 4]
def wsX5_init_r2 : List Cond := [Cond.initialized RX3, Cond.instantiable RX1 6, Cond.initialized RX1, Cond.instanceMethod yX0_init, Cond.code yX0_init cX0_init 1 none, Cond.methodLink RX0 1 objectInit, Cond.fieldLink RX0 7 "BottleShip$Bottle" "neck" "I", Cond.fieldLink RX0 13 "BottleShip$Bottle" "high" "I", Cond.fieldLink RX0 16 "BottleShip$Bottle" "length" "I", Cond.fieldLink RX0 19 "BottleShip$Bottle" "putty" "I", Cond.instanceMethod yX2_init, Cond.code yX2_init cX2_init 1 none, Cond.methodLink RX2 1 objectInit, Cond.fieldLink RX2 7 "BottleShip$Hull" "length" "I", Cond.fieldLink RX2 13 "BottleShip$Hull" "height" "I", Cond.fieldLink RX2 16 "BottleShip$Hull" "width" "I", Cond.instanceMethod yX4_init, Cond.code yX4_init cX4_init 1 none, Cond.methodLink RX4 3 objectInit, Cond.fieldLink RX4 9 "BottleShip$Search" "handles" "[I", Cond.fieldLink RX4 15 "BottleShip$Search" "lowered" "[I", Cond.fieldLink RX4 18 "BottleShip$Search" "queue" "[I", Cond.fieldLink RX4 21 "BottleShip$Search" "steps" "[I", Cond.fieldLink RX4 24 "BottleShip$Search" "openers" "[I"]
def wsX5_init_r3 : List Cond := [Cond.instanceMethod yX3_init, Cond.code yX3_init cX3_init 1 none, Cond.methodLink RX3 3 objectInit, Cond.fieldLink RX3 9 "BottleShip$Mast" "yards" "[I", Cond.instanceMethod yX1_init, Cond.code yX1_init cX1_init 1 none, Cond.methodLink RX1 3 objectInit]
def wsX5_init : List Cond := .code yX5_init cX5_init 2 none :: ((wsX5_init_r1 ++ (wsX5_init_r2 ++ wsX5_init_r3)) ++ wsX00 ++ wsX50 ++ wsX20 ++ wsX40 ++ wsX30 ++ wsX10)
def wsX5_isWithin : List Cond := .code yX5_isWithin cX5_isWithin 3 (some .boolean) :: ([])
def wsX5_setBottle : List Cond := .code yX5_setBottle cX5_setBottle 6 (some .int) :: ([.classLink RX5 58 "java/lang/IllegalArgumentException", .initialized "java/lang/IllegalArgumentException", .classLink RX5 69 "java/lang/IllegalStateException", .initialized "java/lang/IllegalStateException", .fieldLink RX5 65 "BottleShip" "inside" "Z", .fieldLink RX5 10 "BottleShip" "bottle" "LBottleShip$Bottle;", .fieldLink RX5 74 "BottleShip$Bottle" "neck" "I", .fieldLink RX5 78 "BottleShip$Bottle" "high" "I", .fieldLink RX5 81 "BottleShip$Bottle" "length" "I", .fieldLink RX5 84 "BottleShip$Bottle" "putty" "I", .methodLink RX5 54 yX5_isWithin, .static yX5_isWithin, .initialized RX5, .code yX5_isWithin cX5_isWithin 3 (some .boolean)] ++ wsX50 ++ wsX00 ++ (vx_atS RX5 62 "java/lang/IllegalArgumentException" ["java/lang/RuntimeException", "java/lang/Exception"]).filter goodWord ++ (vx_atS RX5 73 "java/lang/IllegalStateException" ["java/lang/RuntimeException", "java/lang/Exception"]).filter goodWord)
def wsX5_setHull : List Cond := .code yX5_setHull cX5_setHull 5 (some .int) :: ([.classLink RX5 58 "java/lang/IllegalArgumentException", .initialized "java/lang/IllegalArgumentException", .classLink RX5 69 "java/lang/IllegalStateException", .initialized "java/lang/IllegalStateException", .fieldLink RX5 89 "BottleShip" "mastCount" "I", .fieldLink RX5 65 "BottleShip" "inside" "Z", .fieldLink RX5 19 "BottleShip" "hull" "LBottleShip$Hull;", .fieldLink RX5 94 "BottleShip$Hull" "length" "I", .fieldLink RX5 95 "BottleShip$Hull" "height" "I", .fieldLink RX5 98 "BottleShip$Hull" "width" "I", .methodLink RX5 54 yX5_isWithin, .static yX5_isWithin, .initialized RX5, .code yX5_isWithin cX5_isWithin 3 (some .boolean)] ++ wsX50 ++ wsX20 ++ (vx_atS RX5 62 "java/lang/IllegalArgumentException" ["java/lang/RuntimeException", "java/lang/Exception"]).filter goodWord ++ (vx_atS RX5 73 "java/lang/IllegalStateException" ["java/lang/RuntimeException", "java/lang/Exception"]).filter goodWord)
def wsX5_hasMastAt : List Cond := .code yX5_hasMastAt cX5_hasMastAt 3 (some .boolean) :: ([.fieldLink RX5 89 "BottleShip" "mastCount" "I", .fieldLink RX5 25 "BottleShip" "masts" "[LBottleShip$Mast;", .fieldLink RX5 109 "BottleShip$Mast" "place" "I"] ++ wsX50 ++ wsX30)
def wsX5_step : List Cond := .code yX5_step cX5_step 4 (some .int) :: ([.classLink RX5 58 "java/lang/IllegalArgumentException", .initialized "java/lang/IllegalArgumentException", .classLink RX5 69 "java/lang/IllegalStateException", .initialized "java/lang/IllegalStateException", .fieldLink RX5 19 "BottleShip" "hull" "LBottleShip$Hull;", .fieldLink RX5 94 "BottleShip$Hull" "length" "I", .fieldLink RX5 65 "BottleShip" "inside" "Z", .fieldLink RX5 89 "BottleShip" "mastCount" "I", .fieldLink RX5 25 "BottleShip" "masts" "[LBottleShip$Mast;", .fieldLink RX5 109 "BottleShip$Mast" "place" "I", .fieldLink RX5 112 "BottleShip$Mast" "height" "I", .fieldLink RX5 42 "BottleShip" "leans" "[I", .methodLink RX5 54 yX5_isWithin, .static yX5_isWithin, .initialized RX5, .code yX5_isWithin cX5_isWithin 3 (some .boolean), .methodLink RX5 103 yX5_hasMastAt, .instanceMethod yX5_hasMastAt, .selects RX5 yX5_hasMastAt yX5_hasMastAt, .code yX5_hasMastAt cX5_hasMastAt 3 (some .boolean)] ++ wsX50 ++ wsX20 ++ wsX30 ++ (vx_atS RX5 62 "java/lang/IllegalArgumentException" ["java/lang/RuntimeException", "java/lang/Exception"]).filter goodWord ++ (vx_atS RX5 73 "java/lang/IllegalStateException" ["java/lang/RuntimeException", "java/lang/Exception"]).filter goodWord)
def wsX5_isMast : List Cond := .code yX5_isMast cX5_isMast 2 (some .boolean) :: ([.fieldLink RX5 89 "BottleShip" "mastCount" "I"] ++ wsX50)
def wsX5_yard : List Cond := .code yX5_yard cX5_yard 4 (some .int) :: ([.classLink RX5 116 "java/lang/IndexOutOfBoundsException", .initialized "java/lang/IndexOutOfBoundsException", .classLink RX5 58 "java/lang/IllegalArgumentException", .initialized "java/lang/IllegalArgumentException", .classLink RX5 69 "java/lang/IllegalStateException", .initialized "java/lang/IllegalStateException", .fieldLink RX5 25 "BottleShip" "masts" "[LBottleShip$Mast;", .fieldLink RX5 65 "BottleShip" "inside" "Z", .fieldLink RX5 123 "BottleShip$Mast" "yardCount" "I", .fieldLink RX5 128 "BottleShip$Mast" "yards" "[I", .methodLink RX5 113 yX5_isMast, .instanceMethod yX5_isMast, .selects RX5 yX5_isMast yX5_isMast, .initialized RX5, .code yX5_isMast cX5_isMast 2 (some .boolean), .fieldLink RX5 89 "BottleShip" "mastCount" "I", .methodLink RX5 54 yX5_isWithin, .static yX5_isWithin, .code yX5_isWithin cX5_isWithin 3 (some .boolean)] ++ wsX50 ++ wsX30 ++ (vx_atS RX5 120 "java/lang/IndexOutOfBoundsException" ["java/lang/RuntimeException", "java/lang/Exception"]).filter goodWord ++ (vx_atS RX5 62 "java/lang/IllegalArgumentException" ["java/lang/RuntimeException", "java/lang/Exception"]).filter goodWord ++ (vx_atS RX5 73 "java/lang/IllegalStateException" ["java/lang/RuntimeException", "java/lang/Exception"]).filter goodWord)
def wsX5_lead_r1 : List Cond := [Cond.classLink RX5 116 "java/lang/IndexOutOfBoundsException", Cond.initialized "java/lang/IndexOutOfBoundsException", Cond.classLink RX5 58 "java/lang/IllegalArgumentException", Cond.initialized "java/lang/IllegalArgumentException", Cond.classLink RX5 69 "java/lang/IllegalStateException", Cond.initialized "java/lang/IllegalStateException", Cond.fieldLink RX5 133 "BottleShip" "cordCount" "I", Cond.fieldLink RX5 31 "BottleShip" "cords" "[LBottleShip$Cord;", Cond.fieldLink RX5 138 "BottleShip$Cord" "mast" "I", Cond.fieldLink RX5 141 "BottleShip$Cord" "to" "I", Cond.fieldLink RX5 144 "BottleShip$Cord" "strength" "I", Cond.fieldLink RX5 25 "BottleShip" "masts" "[LBottleShip$Mast;", Cond.fieldLink RX5 109 "BottleShip$Mast" "place" "I", Cond.methodLink RX5 113 yX5_isMast, Cond.instanceMethod yX5_isMast, Cond.selects RX5 yX5_isMast yX5_isMast, Cond.initialized RX5, Cond.code yX5_isMast cX5_isMast 2 (some .boolean), Cond.fieldLink RX5 89 "BottleShip" "mastCount" "I", Cond.methodLink RX5 54 yX5_isWithin, Cond.static yX5_isWithin, Cond.code yX5_isWithin cX5_isWithin 3 (some .boolean), Cond.methodLink RX5 147 yX1_span, Cond.instanceMethod yX1_span]
def wsX5_lead_r2 : List Cond := [Cond.selects RX1 yX1_span yX1_span, Cond.initialized RX1, Cond.code yX1_span cX1_span 3 none, Cond.methodLink RX1 9 Lib.Math.min.name, Cond.static Lib.Math.min.name, Cond.initialized "java/lang/Math", Cond.code Lib.Math.min.name Lib.Math.min.code 2 (some .int), Cond.fieldLink RX1 15 "BottleShip$Cord" "lesserPlace" "I", Cond.methodLink RX1 21 Lib.Math.max.name, Cond.static Lib.Math.max.name, Cond.code Lib.Math.max.name Lib.Math.max.code 2 (some .int), Cond.fieldLink RX1 24 "BottleShip$Cord" "greaterPlace" "I"]
def wsX5_lead : List Cond := .code yX5_lead cX5_lead 5 (some .int) :: ((wsX5_lead_r1 ++ wsX5_lead_r2) ++ wsX50 ++ wsX10 ++ wsX30 ++ (vx_atS RX5 120 "java/lang/IndexOutOfBoundsException" ["java/lang/RuntimeException", "java/lang/Exception"]).filter goodWord ++ (vx_atS RX5 62 "java/lang/IllegalArgumentException" ["java/lang/RuntimeException", "java/lang/Exception"]).filter goodWord ++ (vx_atS RX5 73 "java/lang/IllegalStateException" ["java/lang/RuntimeException", "java/lang/Exception"]).filter goodWord)
def wsX5_breadth : List Cond := .code yX5_breadth cX5_breadth 3 (some .int) :: ([.fieldLink RX5 19 "BottleShip" "hull" "LBottleShip$Hull;", .fieldLink RX5 98 "BottleShip$Hull" "width" "I", .fieldLink RX5 89 "BottleShip" "mastCount" "I", .fieldLink RX5 42 "BottleShip" "leans" "[I", .fieldLink RX5 25 "BottleShip" "masts" "[LBottleShip$Mast;", .methodLink RX5 276 Lib.Math.max.name, .static Lib.Math.max.name, .initialized "java/lang/Math", .code Lib.Math.max.name Lib.Math.max.code 2 (some .int), .methodLink RX5 305 yX3_widestYard, .instanceMethod yX3_widestYard, .selects RX3 yX3_widestYard yX3_widestYard, .initialized RX3, .code yX3_widestYard cX3_widestYard 3 (some .int), .fieldLink RX3 19 "BottleShip$Mast" "yardCount" "I", .fieldLink RX3 9 "BottleShip$Mast" "yards" "[I", .methodLink RX3 22 Lib.Math.max.name] ++ wsX50 ++ wsX20 ++ wsX30)
def wsX5_topWith : List Cond := .code yX5_topWith cX5_topWith 4 (some .int) :: ([.fieldLink RX5 89 "BottleShip" "mastCount" "I", .fieldLink RX5 25 "BottleShip" "masts" "[LBottleShip$Mast;", .methodLink RX5 276 Lib.Math.max.name, .static Lib.Math.max.name, .initialized "java/lang/Math", .code Lib.Math.max.name Lib.Math.max.code 2 (some .int), .fieldLink RX5 19 "BottleShip" "hull" "LBottleShip$Hull;", .fieldLink RX5 95 "BottleShip$Hull" "height" "I", .methodLink RX5 202 yX3_standing, .instanceMethod yX3_standing, .selects RX3 yX3_standing yX3_standing, .initialized RX3, .code yX3_standing cX3_standing 2 (some .int), .fieldLink RX3 15 "BottleShip$Mast" "height" "I"] ++ wsX50 ++ wsX20 ++ wsX30)
def wsX5_goesThroughNeck_r1 : List Cond := [Cond.fieldLink RX5 10 "BottleShip" "bottle" "LBottleShip$Bottle;", Cond.fieldLink RX5 74 "BottleShip$Bottle" "neck" "I", Cond.fieldLink RX5 42 "BottleShip" "leans" "[I", Cond.methodLink RX5 221 yX5_breadth, Cond.instanceMethod yX5_breadth, Cond.selects RX5 yX5_breadth yX5_breadth, Cond.initialized RX5, Cond.code yX5_breadth cX5_breadth 3 (some .int), Cond.fieldLink RX5 19 "BottleShip" "hull" "LBottleShip$Hull;", Cond.fieldLink RX5 98 "BottleShip$Hull" "width" "I", Cond.fieldLink RX5 89 "BottleShip" "mastCount" "I", Cond.fieldLink RX5 25 "BottleShip" "masts" "[LBottleShip$Mast;", Cond.methodLink RX5 276 Lib.Math.max.name, Cond.static Lib.Math.max.name, Cond.initialized "java/lang/Math", Cond.code Lib.Math.max.name Lib.Math.max.code 2 (some .int), Cond.methodLink RX5 305 yX3_widestYard, Cond.instanceMethod yX3_widestYard, Cond.selects RX3 yX3_widestYard yX3_widestYard, Cond.initialized RX3, Cond.code yX3_widestYard cX3_widestYard 3 (some .int), Cond.fieldLink RX3 19 "BottleShip$Mast" "yardCount" "I", Cond.fieldLink RX3 9 "BottleShip$Mast" "yards" "[I", Cond.methodLink RX3 22 Lib.Math.max.name]
def wsX5_goesThroughNeck_r2 : List Cond := [Cond.methodLink RX5 225 yX5_topWith, Cond.instanceMethod yX5_topWith, Cond.selects RX5 yX5_topWith yX5_topWith, Cond.code yX5_topWith cX5_topWith 4 (some .int), Cond.fieldLink RX5 95 "BottleShip$Hull" "height" "I", Cond.methodLink RX5 202 yX3_standing, Cond.instanceMethod yX3_standing, Cond.selects RX3 yX3_standing yX3_standing, Cond.code yX3_standing cX3_standing 2 (some .int), Cond.fieldLink RX3 15 "BottleShip$Mast" "height" "I"]
def wsX5_goesThroughNeck : List Cond := .code yX5_goesThroughNeck cX5_goesThroughNeck 1 (some .boolean) :: ((wsX5_goesThroughNeck_r1 ++ wsX5_goesThroughNeck_r2) ++ wsX50 ++ wsX00 ++ wsX20 ++ wsX30)
def wsX5_endWith : List Cond := .code yX5_endWith cX5_endWith 4 (some .int) :: ([.fieldLink RX5 19 "BottleShip" "hull" "LBottleShip$Hull;", .fieldLink RX5 94 "BottleShip$Hull" "length" "I", .fieldLink RX5 89 "BottleShip" "mastCount" "I", .fieldLink RX5 25 "BottleShip" "masts" "[LBottleShip$Mast;", .fieldLink RX5 109 "BottleShip$Mast" "place" "I", .methodLink RX5 276 Lib.Math.max.name, .static Lib.Math.max.name, .initialized "java/lang/Math", .code Lib.Math.max.name Lib.Math.max.code 2 (some .int), .methodLink RX5 205 yX3_reach, .instanceMethod yX3_reach, .selects RX3 yX3_reach yX3_reach, .initialized RX3, .code yX3_reach cX3_reach 2 (some .int), .fieldLink RX3 15 "BottleShip$Mast" "height" "I"] ++ wsX50 ++ wsX20 ++ wsX30)
def wsX5_fitsWith_r1 : List Cond := [Cond.fieldLink RX5 10 "BottleShip" "bottle" "LBottleShip$Bottle;", Cond.fieldLink RX5 81 "BottleShip$Bottle" "length" "I", Cond.fieldLink RX5 84 "BottleShip$Bottle" "putty" "I", Cond.fieldLink RX5 78 "BottleShip$Bottle" "high" "I", Cond.methodLink RX5 229 yX5_endWith, Cond.instanceMethod yX5_endWith, Cond.selects RX5 yX5_endWith yX5_endWith, Cond.initialized RX5, Cond.code yX5_endWith cX5_endWith 4 (some .int), Cond.fieldLink RX5 19 "BottleShip" "hull" "LBottleShip$Hull;", Cond.fieldLink RX5 94 "BottleShip$Hull" "length" "I", Cond.fieldLink RX5 89 "BottleShip" "mastCount" "I", Cond.fieldLink RX5 25 "BottleShip" "masts" "[LBottleShip$Mast;", Cond.fieldLink RX5 109 "BottleShip$Mast" "place" "I", Cond.methodLink RX5 276 Lib.Math.max.name, Cond.static Lib.Math.max.name, Cond.initialized "java/lang/Math", Cond.code Lib.Math.max.name Lib.Math.max.code 2 (some .int), Cond.methodLink RX5 205 yX3_reach, Cond.instanceMethod yX3_reach, Cond.selects RX3 yX3_reach yX3_reach, Cond.initialized RX3, Cond.code yX3_reach cX3_reach 2 (some .int), Cond.fieldLink RX3 15 "BottleShip$Mast" "height" "I"]
def wsX5_fitsWith_r2 : List Cond := [Cond.methodLink RX5 225 yX5_topWith, Cond.instanceMethod yX5_topWith, Cond.selects RX5 yX5_topWith yX5_topWith, Cond.code yX5_topWith cX5_topWith 4 (some .int), Cond.fieldLink RX5 95 "BottleShip$Hull" "height" "I", Cond.methodLink RX5 202 yX3_standing, Cond.instanceMethod yX3_standing, Cond.selects RX3 yX3_standing yX3_standing, Cond.code yX3_standing cX3_standing 2 (some .int)]
def wsX5_fitsWith : List Cond := .code yX5_fitsWith cX5_fitsWith 2 (some .boolean) :: ((wsX5_fitsWith_r1 ++ wsX5_fitsWith_r2) ++ wsX50 ++ wsX00 ++ wsX20 ++ wsX30)
def wsX5_enter_r1 : List Cond := [Cond.fieldLink RX5 65 "BottleShip" "inside" "Z", Cond.fieldLink RX5 42 "BottleShip" "leans" "[I", Cond.methodLink RX5 151 yX5_goesThroughNeck, Cond.instanceMethod yX5_goesThroughNeck, Cond.selects RX5 yX5_goesThroughNeck yX5_goesThroughNeck, Cond.initialized RX5, Cond.code yX5_goesThroughNeck cX5_goesThroughNeck 1 (some .boolean), Cond.fieldLink RX5 10 "BottleShip" "bottle" "LBottleShip$Bottle;", Cond.fieldLink RX5 74 "BottleShip$Bottle" "neck" "I", Cond.methodLink RX5 221 yX5_breadth, Cond.instanceMethod yX5_breadth, Cond.selects RX5 yX5_breadth yX5_breadth, Cond.code yX5_breadth cX5_breadth 3 (some .int), Cond.fieldLink RX5 19 "BottleShip" "hull" "LBottleShip$Hull;", Cond.fieldLink RX5 98 "BottleShip$Hull" "width" "I", Cond.fieldLink RX5 89 "BottleShip" "mastCount" "I", Cond.fieldLink RX5 25 "BottleShip" "masts" "[LBottleShip$Mast;", Cond.methodLink RX5 276 Lib.Math.max.name, Cond.static Lib.Math.max.name, Cond.initialized "java/lang/Math", Cond.code Lib.Math.max.name Lib.Math.max.code 2 (some .int), Cond.methodLink RX5 305 yX3_widestYard, Cond.instanceMethod yX3_widestYard, Cond.selects RX3 yX3_widestYard yX3_widestYard]
def wsX5_enter_r2 : List Cond := [Cond.initialized RX3, Cond.code yX3_widestYard cX3_widestYard 3 (some .int), Cond.fieldLink RX3 19 "BottleShip$Mast" "yardCount" "I", Cond.fieldLink RX3 9 "BottleShip$Mast" "yards" "[I", Cond.methodLink RX3 22 Lib.Math.max.name, Cond.methodLink RX5 225 yX5_topWith, Cond.instanceMethod yX5_topWith, Cond.selects RX5 yX5_topWith yX5_topWith, Cond.code yX5_topWith cX5_topWith 4 (some .int), Cond.fieldLink RX5 95 "BottleShip$Hull" "height" "I", Cond.methodLink RX5 202 yX3_standing, Cond.instanceMethod yX3_standing, Cond.selects RX3 yX3_standing yX3_standing, Cond.code yX3_standing cX3_standing 2 (some .int), Cond.fieldLink RX3 15 "BottleShip$Mast" "height" "I", Cond.methodLink RX5 155 yX5_fitsWith, Cond.instanceMethod yX5_fitsWith, Cond.selects RX5 yX5_fitsWith yX5_fitsWith, Cond.code yX5_fitsWith cX5_fitsWith 2 (some .boolean), Cond.fieldLink RX5 81 "BottleShip$Bottle" "length" "I", Cond.fieldLink RX5 84 "BottleShip$Bottle" "putty" "I", Cond.fieldLink RX5 78 "BottleShip$Bottle" "high" "I", Cond.methodLink RX5 229 yX5_endWith, Cond.instanceMethod yX5_endWith]
def wsX5_enter_r3 : List Cond := [Cond.selects RX5 yX5_endWith yX5_endWith, Cond.code yX5_endWith cX5_endWith 4 (some .int), Cond.fieldLink RX5 94 "BottleShip$Hull" "length" "I", Cond.fieldLink RX5 109 "BottleShip$Mast" "place" "I", Cond.methodLink RX5 205 yX3_reach, Cond.instanceMethod yX3_reach, Cond.selects RX3 yX3_reach yX3_reach, Cond.code yX3_reach cX3_reach 2 (some .int)]
def wsX5_enter : List Cond := .code yX5_enter cX5_enter 1 (some .boolean) :: ((wsX5_enter_r1 ++ (wsX5_enter_r2 ++ wsX5_enter_r3)) ++ wsX50 ++ wsX00 ++ wsX20 ++ wsX30)
def wsX5_leave_r1 : List Cond := [Cond.fieldLink RX5 65 "BottleShip" "inside" "Z", Cond.methodLink RX5 151 yX5_goesThroughNeck, Cond.instanceMethod yX5_goesThroughNeck, Cond.selects RX5 yX5_goesThroughNeck yX5_goesThroughNeck, Cond.initialized RX5, Cond.code yX5_goesThroughNeck cX5_goesThroughNeck 1 (some .boolean), Cond.fieldLink RX5 10 "BottleShip" "bottle" "LBottleShip$Bottle;", Cond.fieldLink RX5 74 "BottleShip$Bottle" "neck" "I", Cond.fieldLink RX5 42 "BottleShip" "leans" "[I", Cond.methodLink RX5 221 yX5_breadth, Cond.instanceMethod yX5_breadth, Cond.selects RX5 yX5_breadth yX5_breadth, Cond.code yX5_breadth cX5_breadth 3 (some .int), Cond.fieldLink RX5 19 "BottleShip" "hull" "LBottleShip$Hull;", Cond.fieldLink RX5 98 "BottleShip$Hull" "width" "I", Cond.fieldLink RX5 89 "BottleShip" "mastCount" "I", Cond.fieldLink RX5 25 "BottleShip" "masts" "[LBottleShip$Mast;", Cond.methodLink RX5 276 Lib.Math.max.name, Cond.static Lib.Math.max.name, Cond.initialized "java/lang/Math", Cond.code Lib.Math.max.name Lib.Math.max.code 2 (some .int), Cond.methodLink RX5 305 yX3_widestYard, Cond.instanceMethod yX3_widestYard, Cond.selects RX3 yX3_widestYard yX3_widestYard]
def wsX5_leave_r2 : List Cond := [Cond.initialized RX3, Cond.code yX3_widestYard cX3_widestYard 3 (some .int), Cond.fieldLink RX3 19 "BottleShip$Mast" "yardCount" "I", Cond.fieldLink RX3 9 "BottleShip$Mast" "yards" "[I", Cond.methodLink RX3 22 Lib.Math.max.name, Cond.methodLink RX5 225 yX5_topWith, Cond.instanceMethod yX5_topWith, Cond.selects RX5 yX5_topWith yX5_topWith, Cond.code yX5_topWith cX5_topWith 4 (some .int), Cond.fieldLink RX5 95 "BottleShip$Hull" "height" "I", Cond.methodLink RX5 202 yX3_standing, Cond.instanceMethod yX3_standing, Cond.selects RX3 yX3_standing yX3_standing, Cond.code yX3_standing cX3_standing 2 (some .int), Cond.fieldLink RX3 15 "BottleShip$Mast" "height" "I"]
def wsX5_leave : List Cond := .code yX5_leave cX5_leave 1 (some .boolean) :: ((wsX5_leave_r1 ++ wsX5_leave_r2) ++ wsX50 ++ wsX00 ++ wsX20 ++ wsX30)
def wsX5_isThread : List Cond := .code yX5_isThread cX5_isThread 2 (some .boolean) :: ([.fieldLink RX5 133 "BottleShip" "cordCount" "I"] ++ wsX50)
def wsX5_threadsFrom : List Cond := .code yX5_threadsFrom cX5_threadsFrom 5 (some .int) :: ([.fieldLink RX5 133 "BottleShip" "cordCount" "I", .fieldLink RX5 31 "BottleShip" "cords" "[LBottleShip$Cord;", .fieldLink RX5 138 "BottleShip$Cord" "mast" "I", .fieldLink RX5 164 "BottleShip$Cord" "state" "I"] ++ wsX50 ++ wsX10)
def wsX5_isHeld : List Cond := .code yX5_isHeld cX5_isHeld 2 (some .boolean) :: ([.methodLink RX5 302 yX5_threadsFrom, .instanceMethod yX5_threadsFrom, .selects RX5 yX5_threadsFrom yX5_threadsFrom, .initialized RX5, .code yX5_threadsFrom cX5_threadsFrom 5 (some .int), .fieldLink RX5 133 "BottleShip" "cordCount" "I", .fieldLink RX5 31 "BottleShip" "cords" "[LBottleShip$Cord;", .fieldLink RX5 138 "BottleShip$Cord" "mast" "I", .fieldLink RX5 164 "BottleShip$Cord" "state" "I"] ++ wsX50 ++ wsX10)
def wsX5_isCrossedByStronger : List Cond := .code yX5_isCrossedByStronger cX5_isCrossedByStronger 4 (some .boolean) :: ([.fieldLink RX5 133 "BottleShip" "cordCount" "I", .fieldLink RX5 31 "BottleShip" "cords" "[LBottleShip$Cord;", .fieldLink RX5 164 "BottleShip$Cord" "state" "I", .fieldLink RX5 144 "BottleShip$Cord" "strength" "I", .methodLink RX5 198 yX1_crosses, .instanceMethod yX1_crosses, .selects RX1 yX1_crosses yX1_crosses, .initialized RX1, .code yX1_crosses cX1_crosses 2 (some .boolean), .fieldLink RX1 27 "BottleShip$Cord" "state" "I", .fieldLink RX1 15 "BottleShip$Cord" "lesserPlace" "I", .methodLink RX1 21 Lib.Math.max.name, .static Lib.Math.max.name, .initialized "java/lang/Math", .code Lib.Math.max.name Lib.Math.max.code 2 (some .int), .fieldLink RX1 24 "BottleShip$Cord" "greaterPlace" "I", .methodLink RX1 9 Lib.Math.min.name, .static Lib.Math.min.name, .code Lib.Math.min.name Lib.Math.min.code 2 (some .int)] ++ wsX50 ++ wsX10)
def wsX5_loweredBy : List Cond := .code yX5_loweredBy cX5_loweredBy 5 (some .int) :: ([.fieldLink RX5 133 "BottleShip" "cordCount" "I", .fieldLink RX5 31 "BottleShip" "cords" "[LBottleShip$Cord;", .fieldLink RX5 138 "BottleShip$Cord" "mast" "I", .fieldLink RX5 164 "BottleShip$Cord" "state" "I", .fieldLink RX5 141 "BottleShip$Cord" "to" "I", .methodLink RX5 208 yX5_isHeld, .instanceMethod yX5_isHeld, .selects RX5 yX5_isHeld yX5_isHeld, .initialized RX5, .code yX5_isHeld cX5_isHeld 2 (some .boolean), .methodLink RX5 302 yX5_threadsFrom, .instanceMethod yX5_threadsFrom, .selects RX5 yX5_threadsFrom yX5_threadsFrom, .code yX5_threadsFrom cX5_threadsFrom 5 (some .int)] ++ wsX50 ++ wsX10)
def wsX5_raise : List Cond := .code yX5_raise cX5_raise 5 none :: ([])
def wsX5_hindranceOf_r1 : List Cond := [Cond.fieldLink RX5 138 "BottleShip$Cord" "mast" "I", Cond.fieldLink RX5 42 "BottleShip" "leans" "[I", Cond.fieldLink RX5 49 "BottleShip" "leansAfter" "[I", Cond.fieldLink RX5 65 "BottleShip" "inside" "Z", Cond.methodLink RX5 208 yX5_isHeld, Cond.instanceMethod yX5_isHeld, Cond.selects RX5 yX5_isHeld yX5_isHeld, Cond.initialized RX5, Cond.code yX5_isHeld cX5_isHeld 2 (some .boolean), Cond.methodLink RX5 302 yX5_threadsFrom, Cond.instanceMethod yX5_threadsFrom, Cond.selects RX5 yX5_threadsFrom yX5_threadsFrom, Cond.code yX5_threadsFrom cX5_threadsFrom 5 (some .int), Cond.fieldLink RX5 133 "BottleShip" "cordCount" "I", Cond.fieldLink RX5 31 "BottleShip" "cords" "[LBottleShip$Cord;", Cond.fieldLink RX5 164 "BottleShip$Cord" "state" "I", Cond.methodLink RX5 308 yX5_isCrossedByStronger, Cond.instanceMethod yX5_isCrossedByStronger, Cond.selects RX5 yX5_isCrossedByStronger yX5_isCrossedByStronger, Cond.code yX5_isCrossedByStronger cX5_isCrossedByStronger 4 (some .boolean), Cond.fieldLink RX5 144 "BottleShip$Cord" "strength" "I", Cond.methodLink RX5 198 yX1_crosses, Cond.instanceMethod yX1_crosses, Cond.selects RX1 yX1_crosses yX1_crosses]
def wsX5_hindranceOf_r2 : List Cond := [Cond.initialized RX1, Cond.code yX1_crosses cX1_crosses 2 (some .boolean), Cond.fieldLink RX1 27 "BottleShip$Cord" "state" "I", Cond.fieldLink RX1 15 "BottleShip$Cord" "lesserPlace" "I", Cond.methodLink RX1 21 Lib.Math.max.name, Cond.static Lib.Math.max.name, Cond.initialized "java/lang/Math", Cond.code Lib.Math.max.name Lib.Math.max.code 2 (some .int), Cond.fieldLink RX1 24 "BottleShip$Cord" "greaterPlace" "I", Cond.methodLink RX1 9 Lib.Math.min.name, Cond.static Lib.Math.min.name, Cond.code Lib.Math.min.name Lib.Math.min.code 2 (some .int), Cond.methodLink RX5 182 yX5_loweredBy, Cond.instanceMethod yX5_loweredBy, Cond.selects RX5 yX5_loweredBy yX5_loweredBy, Cond.code yX5_loweredBy cX5_loweredBy 5 (some .int), Cond.fieldLink RX5 141 "BottleShip$Cord" "to" "I", Cond.methodLink RX5 186 yX5_raise, Cond.static yX5_raise, Cond.code yX5_raise cX5_raise 5 none, Cond.methodLink RX5 155 yX5_fitsWith, Cond.instanceMethod yX5_fitsWith, Cond.selects RX5 yX5_fitsWith yX5_fitsWith, Cond.code yX5_fitsWith cX5_fitsWith 2 (some .boolean)]
def wsX5_hindranceOf_r3 : List Cond := [Cond.fieldLink RX5 10 "BottleShip" "bottle" "LBottleShip$Bottle;", Cond.fieldLink RX5 81 "BottleShip$Bottle" "length" "I", Cond.fieldLink RX5 84 "BottleShip$Bottle" "putty" "I", Cond.fieldLink RX5 78 "BottleShip$Bottle" "high" "I", Cond.methodLink RX5 229 yX5_endWith, Cond.instanceMethod yX5_endWith, Cond.selects RX5 yX5_endWith yX5_endWith, Cond.code yX5_endWith cX5_endWith 4 (some .int), Cond.fieldLink RX5 19 "BottleShip" "hull" "LBottleShip$Hull;", Cond.fieldLink RX5 94 "BottleShip$Hull" "length" "I", Cond.fieldLink RX5 89 "BottleShip" "mastCount" "I", Cond.fieldLink RX5 25 "BottleShip" "masts" "[LBottleShip$Mast;", Cond.fieldLink RX5 109 "BottleShip$Mast" "place" "I", Cond.methodLink RX5 276 Lib.Math.max.name, Cond.methodLink RX5 205 yX3_reach, Cond.instanceMethod yX3_reach, Cond.selects RX3 yX3_reach yX3_reach, Cond.initialized RX3, Cond.code yX3_reach cX3_reach 2 (some .int), Cond.fieldLink RX3 15 "BottleShip$Mast" "height" "I", Cond.methodLink RX5 225 yX5_topWith, Cond.instanceMethod yX5_topWith, Cond.selects RX5 yX5_topWith yX5_topWith, Cond.code yX5_topWith cX5_topWith 4 (some .int)]
def wsX5_hindranceOf_r4 : List Cond := [Cond.fieldLink RX5 95 "BottleShip$Hull" "height" "I", Cond.methodLink RX5 202 yX3_standing, Cond.instanceMethod yX3_standing, Cond.selects RX3 yX3_standing yX3_standing, Cond.code yX3_standing cX3_standing 2 (some .int)]
def wsX5_hindranceOf : List Cond := .code yX5_hindranceOf cX5_hindranceOf 2 (some .int) :: ((wsX5_hindranceOf_r1 ++ (wsX5_hindranceOf_r2 ++ (wsX5_hindranceOf_r3 ++ wsX5_hindranceOf_r4))) ++ wsX10 ++ wsX50 ++ wsX00 ++ wsX20 ++ wsX30)
def wsX5_pull_r1 : List Cond := [Cond.classLink RX5 116 "java/lang/IndexOutOfBoundsException", Cond.initialized "java/lang/IndexOutOfBoundsException", Cond.classLink RX5 69 "java/lang/IllegalStateException", Cond.initialized "java/lang/IllegalStateException", Cond.fieldLink RX5 31 "BottleShip" "cords" "[LBottleShip$Cord;", Cond.fieldLink RX5 164 "BottleShip$Cord" "state" "I", Cond.fieldLink RX5 173 "BottleShip" "pullsNotDone" "I", Cond.fieldLink RX5 179 "BottleShip" "pullsDone" "I", Cond.fieldLink RX5 138 "BottleShip$Cord" "mast" "I", Cond.fieldLink RX5 42 "BottleShip" "leans" "[I", Cond.fieldLink RX5 49 "BottleShip" "leansAfter" "[I", Cond.methodLink RX5 190 arraycopyName, Cond.native arraycopyName, Cond.static arraycopyName, Cond.initialized "java/lang/System", Cond.methodLink RX5 159 yX5_isThread, Cond.instanceMethod yX5_isThread, Cond.selects RX5 yX5_isThread yX5_isThread, Cond.initialized RX5, Cond.code yX5_isThread cX5_isThread 2 (some .boolean), Cond.fieldLink RX5 133 "BottleShip" "cordCount" "I", Cond.methodLink RX5 169 yX5_hindranceOf, Cond.instanceMethod yX5_hindranceOf, Cond.selects RX5 yX5_hindranceOf yX5_hindranceOf]
def wsX5_pull_r2 : List Cond := [Cond.code yX5_hindranceOf cX5_hindranceOf 2 (some .int), Cond.fieldLink RX5 65 "BottleShip" "inside" "Z", Cond.methodLink RX5 208 yX5_isHeld, Cond.instanceMethod yX5_isHeld, Cond.selects RX5 yX5_isHeld yX5_isHeld, Cond.code yX5_isHeld cX5_isHeld 2 (some .boolean), Cond.methodLink RX5 302 yX5_threadsFrom, Cond.instanceMethod yX5_threadsFrom, Cond.selects RX5 yX5_threadsFrom yX5_threadsFrom, Cond.code yX5_threadsFrom cX5_threadsFrom 5 (some .int), Cond.methodLink RX5 308 yX5_isCrossedByStronger, Cond.instanceMethod yX5_isCrossedByStronger, Cond.selects RX5 yX5_isCrossedByStronger yX5_isCrossedByStronger, Cond.code yX5_isCrossedByStronger cX5_isCrossedByStronger 4 (some .boolean), Cond.fieldLink RX5 144 "BottleShip$Cord" "strength" "I", Cond.methodLink RX5 198 yX1_crosses, Cond.instanceMethod yX1_crosses, Cond.selects RX1 yX1_crosses yX1_crosses, Cond.initialized RX1, Cond.code yX1_crosses cX1_crosses 2 (some .boolean), Cond.fieldLink RX1 27 "BottleShip$Cord" "state" "I", Cond.fieldLink RX1 15 "BottleShip$Cord" "lesserPlace" "I", Cond.methodLink RX1 21 Lib.Math.max.name, Cond.static Lib.Math.max.name]
def wsX5_pull_r3 : List Cond := [Cond.initialized "java/lang/Math", Cond.code Lib.Math.max.name Lib.Math.max.code 2 (some .int), Cond.fieldLink RX1 24 "BottleShip$Cord" "greaterPlace" "I", Cond.methodLink RX1 9 Lib.Math.min.name, Cond.static Lib.Math.min.name, Cond.code Lib.Math.min.name Lib.Math.min.code 2 (some .int), Cond.methodLink RX5 182 yX5_loweredBy, Cond.instanceMethod yX5_loweredBy, Cond.selects RX5 yX5_loweredBy yX5_loweredBy, Cond.code yX5_loweredBy cX5_loweredBy 5 (some .int), Cond.fieldLink RX5 141 "BottleShip$Cord" "to" "I", Cond.methodLink RX5 186 yX5_raise, Cond.static yX5_raise, Cond.code yX5_raise cX5_raise 5 none, Cond.methodLink RX5 155 yX5_fitsWith, Cond.instanceMethod yX5_fitsWith, Cond.selects RX5 yX5_fitsWith yX5_fitsWith, Cond.code yX5_fitsWith cX5_fitsWith 2 (some .boolean), Cond.fieldLink RX5 10 "BottleShip" "bottle" "LBottleShip$Bottle;", Cond.fieldLink RX5 81 "BottleShip$Bottle" "length" "I", Cond.fieldLink RX5 84 "BottleShip$Bottle" "putty" "I", Cond.fieldLink RX5 78 "BottleShip$Bottle" "high" "I", Cond.methodLink RX5 229 yX5_endWith, Cond.instanceMethod yX5_endWith]
def wsX5_pull_r4 : List Cond := [Cond.selects RX5 yX5_endWith yX5_endWith, Cond.code yX5_endWith cX5_endWith 4 (some .int), Cond.fieldLink RX5 19 "BottleShip" "hull" "LBottleShip$Hull;", Cond.fieldLink RX5 94 "BottleShip$Hull" "length" "I", Cond.fieldLink RX5 89 "BottleShip" "mastCount" "I", Cond.fieldLink RX5 25 "BottleShip" "masts" "[LBottleShip$Mast;", Cond.fieldLink RX5 109 "BottleShip$Mast" "place" "I", Cond.methodLink RX5 276 Lib.Math.max.name, Cond.methodLink RX5 205 yX3_reach, Cond.instanceMethod yX3_reach, Cond.selects RX3 yX3_reach yX3_reach, Cond.initialized RX3, Cond.code yX3_reach cX3_reach 2 (some .int), Cond.fieldLink RX3 15 "BottleShip$Mast" "height" "I", Cond.methodLink RX5 225 yX5_topWith, Cond.instanceMethod yX5_topWith, Cond.selects RX5 yX5_topWith yX5_topWith, Cond.code yX5_topWith cX5_topWith 4 (some .int), Cond.fieldLink RX5 95 "BottleShip$Hull" "height" "I", Cond.methodLink RX5 202 yX3_standing, Cond.instanceMethod yX3_standing, Cond.selects RX3 yX3_standing yX3_standing, Cond.code yX3_standing cX3_standing 2 (some .int), Cond.methodLink RX5 176 yX1_wear]
def wsX5_pull_r5 : List Cond := [Cond.instanceMethod yX1_wear, Cond.selects RX1 yX1_wear yX1_wear, Cond.code yX1_wear cX1_wear 1 none, Cond.fieldLink RX1 30 "BottleShip$Cord" "strength" "I"]
def wsX5_pull : List Cond := .code yX5_pull cX5_pull 4 (some .int) :: ((wsX5_pull_r1 ++ (wsX5_pull_r2 ++ (wsX5_pull_r3 ++ (wsX5_pull_r4 ++ wsX5_pull_r5)))) ++ wsX50 ++ wsX10 ++ wsX00 ++ wsX20 ++ wsX30 ++ (vx_atS RX5 120 "java/lang/IndexOutOfBoundsException" ["java/lang/RuntimeException", "java/lang/Exception"]).filter goodWord ++ (vx_atS RX5 73 "java/lang/IllegalStateException" ["java/lang/RuntimeException", "java/lang/Exception"]).filter goodWord)
def wsX5_glue : List Cond := .code yX5_glue cX5_glue 3 (some .int) :: ([.classLink RX5 116 "java/lang/IndexOutOfBoundsException", .initialized "java/lang/IndexOutOfBoundsException", .classLink RX5 69 "java/lang/IllegalStateException", .initialized "java/lang/IllegalStateException", .fieldLink RX5 31 "BottleShip" "cords" "[LBottleShip$Cord;", .fieldLink RX5 164 "BottleShip$Cord" "state" "I", .methodLink RX5 159 yX5_isThread, .instanceMethod yX5_isThread, .selects RX5 yX5_isThread yX5_isThread, .initialized RX5, .code yX5_isThread cX5_isThread 2 (some .boolean), .fieldLink RX5 133 "BottleShip" "cordCount" "I"] ++ wsX50 ++ wsX10 ++ (vx_atS RX5 120 "java/lang/IndexOutOfBoundsException" ["java/lang/RuntimeException", "java/lang/Exception"]).filter goodWord ++ (vx_atS RX5 73 "java/lang/IllegalStateException" ["java/lang/RuntimeException", "java/lang/Exception"]).filter goodWord)
def wsX5_cross : List Cond := .code yX5_cross cX5_cross 3 (some .boolean) :: ([.classLink RX5 116 "java/lang/IndexOutOfBoundsException", .initialized "java/lang/IndexOutOfBoundsException", .fieldLink RX5 31 "BottleShip" "cords" "[LBottleShip$Cord;", .methodLink RX5 159 yX5_isThread, .instanceMethod yX5_isThread, .selects RX5 yX5_isThread yX5_isThread, .initialized RX5, .code yX5_isThread cX5_isThread 2 (some .boolean), .fieldLink RX5 133 "BottleShip" "cordCount" "I", .methodLink RX5 198 yX1_crosses, .instanceMethod yX1_crosses, .selects RX1 yX1_crosses yX1_crosses, .initialized RX1, .code yX1_crosses cX1_crosses 2 (some .boolean), .fieldLink RX1 27 "BottleShip$Cord" "state" "I", .fieldLink RX1 15 "BottleShip$Cord" "lesserPlace" "I", .methodLink RX1 21 Lib.Math.max.name, .static Lib.Math.max.name, .initialized "java/lang/Math", .code Lib.Math.max.name Lib.Math.max.code 2 (some .int), .fieldLink RX1 24 "BottleShip$Cord" "greaterPlace" "I", .methodLink RX1 9 Lib.Math.min.name, .static Lib.Math.min.name, .code Lib.Math.min.name Lib.Math.min.code 2 (some .int)] ++ wsX50 ++ wsX10 ++ (vx_atS RX5 120 "java/lang/IndexOutOfBoundsException" ["java/lang/RuntimeException", "java/lang/Exception"]).filter goodWord)
def wsX5_looseThreadsFrom : List Cond := .code yX5_looseThreadsFrom cX5_looseThreadsFrom 2 (some .int) :: ([.methodLink RX5 302 yX5_threadsFrom, .instanceMethod yX5_threadsFrom, .selects RX5 yX5_threadsFrom yX5_threadsFrom, .initialized RX5, .code yX5_threadsFrom cX5_threadsFrom 5 (some .int), .fieldLink RX5 133 "BottleShip" "cordCount" "I", .fieldLink RX5 31 "BottleShip" "cords" "[LBottleShip$Cord;", .fieldLink RX5 138 "BottleShip$Cord" "mast" "I", .fieldLink RX5 164 "BottleShip$Cord" "state" "I"] ++ wsX50 ++ wsX10)
def wsX5_mast_r1 : List Cond := [Cond.classLink RX5 116 "java/lang/IndexOutOfBoundsException", Cond.initialized "java/lang/IndexOutOfBoundsException", Cond.fieldLink RX5 25 "BottleShip" "masts" "[LBottleShip$Mast;", Cond.fieldLink RX5 109 "BottleShip$Mast" "place" "I", Cond.fieldLink RX5 112 "BottleShip$Mast" "height" "I", Cond.fieldLink RX5 42 "BottleShip" "leans" "[I", Cond.fieldLink RX5 123 "BottleShip$Mast" "yardCount" "I", Cond.methodLink RX5 113 yX5_isMast, Cond.instanceMethod yX5_isMast, Cond.selects RX5 yX5_isMast yX5_isMast, Cond.initialized RX5, Cond.code yX5_isMast cX5_isMast 2 (some .boolean), Cond.fieldLink RX5 89 "BottleShip" "mastCount" "I", Cond.methodLink RX5 202 yX3_standing, Cond.instanceMethod yX3_standing, Cond.selects RX3 yX3_standing yX3_standing, Cond.initialized RX3, Cond.code yX3_standing cX3_standing 2 (some .int), Cond.fieldLink RX3 15 "BottleShip$Mast" "height" "I", Cond.methodLink RX5 205 yX3_reach, Cond.instanceMethod yX3_reach, Cond.selects RX3 yX3_reach yX3_reach, Cond.code yX3_reach cX3_reach 2 (some .int), Cond.methodLink RX5 208 yX5_isHeld]
def wsX5_mast_r2 : List Cond := [Cond.instanceMethod yX5_isHeld, Cond.selects RX5 yX5_isHeld yX5_isHeld, Cond.code yX5_isHeld cX5_isHeld 2 (some .boolean), Cond.methodLink RX5 302 yX5_threadsFrom, Cond.instanceMethod yX5_threadsFrom, Cond.selects RX5 yX5_threadsFrom yX5_threadsFrom, Cond.code yX5_threadsFrom cX5_threadsFrom 5 (some .int), Cond.fieldLink RX5 133 "BottleShip" "cordCount" "I", Cond.fieldLink RX5 31 "BottleShip" "cords" "[LBottleShip$Cord;", Cond.fieldLink RX5 138 "BottleShip$Cord" "mast" "I", Cond.fieldLink RX5 164 "BottleShip$Cord" "state" "I", Cond.methodLink RX5 211 yX5_looseThreadsFrom, Cond.instanceMethod yX5_looseThreadsFrom, Cond.selects RX5 yX5_looseThreadsFrom yX5_looseThreadsFrom, Cond.code yX5_looseThreadsFrom cX5_looseThreadsFrom 2 (some .int)]
def wsX5_mast : List Cond := .code yX5_mast cX5_mast 3 (some .int) :: ((wsX5_mast_r1 ++ wsX5_mast_r2) ++ wsX50 ++ wsX30 ++ wsX10 ++ (vx_atS RX5 120 "java/lang/IndexOutOfBoundsException" ["java/lang/RuntimeException", "java/lang/Exception"]).filter goodWord)
def wsX5_crossingsOf : List Cond := .code yX5_crossingsOf cX5_crossingsOf 4 (some .int) :: ([.fieldLink RX5 133 "BottleShip" "cordCount" "I", .fieldLink RX5 31 "BottleShip" "cords" "[LBottleShip$Cord;", .methodLink RX5 198 yX1_crosses, .instanceMethod yX1_crosses, .selects RX1 yX1_crosses yX1_crosses, .initialized RX1, .code yX1_crosses cX1_crosses 2 (some .boolean), .fieldLink RX1 27 "BottleShip$Cord" "state" "I", .fieldLink RX1 15 "BottleShip$Cord" "lesserPlace" "I", .methodLink RX1 21 Lib.Math.max.name, .static Lib.Math.max.name, .initialized "java/lang/Math", .code Lib.Math.max.name Lib.Math.max.code 2 (some .int), .fieldLink RX1 24 "BottleShip$Cord" "greaterPlace" "I", .methodLink RX1 9 Lib.Math.min.name, .static Lib.Math.min.name, .code Lib.Math.min.name Lib.Math.min.code 2 (some .int)] ++ wsX50 ++ wsX10)
def wsX5_thread_r1 : List Cond := [Cond.classLink RX5 116 "java/lang/IndexOutOfBoundsException", Cond.initialized "java/lang/IndexOutOfBoundsException", Cond.fieldLink RX5 31 "BottleShip" "cords" "[LBottleShip$Cord;", Cond.fieldLink RX5 138 "BottleShip$Cord" "mast" "I", Cond.fieldLink RX5 141 "BottleShip$Cord" "to" "I", Cond.fieldLink RX5 144 "BottleShip$Cord" "strength" "I", Cond.fieldLink RX5 164 "BottleShip$Cord" "state" "I", Cond.methodLink RX5 159 yX5_isThread, Cond.instanceMethod yX5_isThread, Cond.selects RX5 yX5_isThread yX5_isThread, Cond.initialized RX5, Cond.code yX5_isThread cX5_isThread 2 (some .boolean), Cond.fieldLink RX5 133 "BottleShip" "cordCount" "I", Cond.methodLink RX5 216 yX5_crossingsOf, Cond.instanceMethod yX5_crossingsOf, Cond.selects RX5 yX5_crossingsOf yX5_crossingsOf, Cond.code yX5_crossingsOf cX5_crossingsOf 4 (some .int), Cond.methodLink RX5 198 yX1_crosses, Cond.instanceMethod yX1_crosses, Cond.selects RX1 yX1_crosses yX1_crosses, Cond.initialized RX1, Cond.code yX1_crosses cX1_crosses 2 (some .boolean), Cond.fieldLink RX1 27 "BottleShip$Cord" "state" "I", Cond.fieldLink RX1 15 "BottleShip$Cord" "lesserPlace" "I"]
def wsX5_thread_r2 : List Cond := [Cond.methodLink RX1 21 Lib.Math.max.name, Cond.static Lib.Math.max.name, Cond.initialized "java/lang/Math", Cond.code Lib.Math.max.name Lib.Math.max.code 2 (some .int), Cond.fieldLink RX1 24 "BottleShip$Cord" "greaterPlace" "I", Cond.methodLink RX1 9 Lib.Math.min.name, Cond.static Lib.Math.min.name, Cond.code Lib.Math.min.name Lib.Math.min.code 2 (some .int)]
def wsX5_thread : List Cond := .code yX5_thread cX5_thread 4 (some .int) :: ((wsX5_thread_r1 ++ wsX5_thread_r2) ++ wsX50 ++ wsX10 ++ (vx_atS RX5 120 "java/lang/IndexOutOfBoundsException" ["java/lang/RuntimeException", "java/lang/Exception"]).filter goodWord)
def wsX5_ship_r1 : List Cond := [Cond.classLink RX5 116 "java/lang/IndexOutOfBoundsException", Cond.initialized "java/lang/IndexOutOfBoundsException", Cond.fieldLink RX5 42 "BottleShip" "leans" "[I", Cond.fieldLink RX5 65 "BottleShip" "inside" "Z", Cond.methodLink RX5 221 yX5_breadth, Cond.instanceMethod yX5_breadth, Cond.selects RX5 yX5_breadth yX5_breadth, Cond.initialized RX5, Cond.code yX5_breadth cX5_breadth 3 (some .int), Cond.fieldLink RX5 19 "BottleShip" "hull" "LBottleShip$Hull;", Cond.fieldLink RX5 98 "BottleShip$Hull" "width" "I", Cond.fieldLink RX5 89 "BottleShip" "mastCount" "I", Cond.fieldLink RX5 25 "BottleShip" "masts" "[LBottleShip$Mast;", Cond.methodLink RX5 276 Lib.Math.max.name, Cond.static Lib.Math.max.name, Cond.initialized "java/lang/Math", Cond.code Lib.Math.max.name Lib.Math.max.code 2 (some .int), Cond.methodLink RX5 305 yX3_widestYard, Cond.instanceMethod yX3_widestYard, Cond.selects RX3 yX3_widestYard yX3_widestYard, Cond.initialized RX3, Cond.code yX3_widestYard cX3_widestYard 3 (some .int), Cond.fieldLink RX3 19 "BottleShip$Mast" "yardCount" "I", Cond.fieldLink RX3 9 "BottleShip$Mast" "yards" "[I"]
def wsX5_ship_r2 : List Cond := [Cond.methodLink RX3 22 Lib.Math.max.name, Cond.methodLink RX5 225 yX5_topWith, Cond.instanceMethod yX5_topWith, Cond.selects RX5 yX5_topWith yX5_topWith, Cond.code yX5_topWith cX5_topWith 4 (some .int), Cond.fieldLink RX5 95 "BottleShip$Hull" "height" "I", Cond.methodLink RX5 202 yX3_standing, Cond.instanceMethod yX3_standing, Cond.selects RX3 yX3_standing yX3_standing, Cond.code yX3_standing cX3_standing 2 (some .int), Cond.fieldLink RX3 15 "BottleShip$Mast" "height" "I", Cond.methodLink RX5 229 yX5_endWith, Cond.instanceMethod yX5_endWith, Cond.selects RX5 yX5_endWith yX5_endWith, Cond.code yX5_endWith cX5_endWith 4 (some .int), Cond.fieldLink RX5 94 "BottleShip$Hull" "length" "I", Cond.fieldLink RX5 109 "BottleShip$Mast" "place" "I", Cond.methodLink RX5 205 yX3_reach, Cond.instanceMethod yX3_reach, Cond.selects RX3 yX3_reach yX3_reach, Cond.code yX3_reach cX3_reach 2 (some .int), Cond.methodLink RX5 151 yX5_goesThroughNeck, Cond.instanceMethod yX5_goesThroughNeck, Cond.selects RX5 yX5_goesThroughNeck yX5_goesThroughNeck]
def wsX5_ship_r3 : List Cond := [Cond.code yX5_goesThroughNeck cX5_goesThroughNeck 1 (some .boolean), Cond.fieldLink RX5 10 "BottleShip" "bottle" "LBottleShip$Bottle;", Cond.fieldLink RX5 74 "BottleShip$Bottle" "neck" "I", Cond.methodLink RX5 155 yX5_fitsWith, Cond.instanceMethod yX5_fitsWith, Cond.selects RX5 yX5_fitsWith yX5_fitsWith, Cond.code yX5_fitsWith cX5_fitsWith 2 (some .boolean), Cond.fieldLink RX5 81 "BottleShip$Bottle" "length" "I", Cond.fieldLink RX5 84 "BottleShip$Bottle" "putty" "I", Cond.fieldLink RX5 78 "BottleShip$Bottle" "high" "I"]
def wsX5_ship : List Cond := .code yX5_ship cX5_ship 2 (some .int) :: ((wsX5_ship_r1 ++ (wsX5_ship_r2 ++ wsX5_ship_r3)) ++ wsX50 ++ wsX20 ++ wsX30 ++ wsX00 ++ (vx_atS RX5 120 "java/lang/IndexOutOfBoundsException" ["java/lang/RuntimeException", "java/lang/Exception"]).filter goodWord)
def wsX5_mastsLeaning : List Cond := .code yX5_mastsLeaning cX5_mastsLeaning 4 (some .int) :: ([.fieldLink RX5 89 "BottleShip" "mastCount" "I", .fieldLink RX5 42 "BottleShip" "leans" "[I"] ++ wsX50)
def wsX5_threadsThatAre : List Cond := .code yX5_threadsThatAre cX5_threadsThatAre 4 (some .int) :: ([.fieldLink RX5 133 "BottleShip" "cordCount" "I", .fieldLink RX5 31 "BottleShip" "cords" "[LBottleShip$Cord;", .fieldLink RX5 164 "BottleShip$Cord" "state" "I"] ++ wsX50 ++ wsX10)
def wsX5_count : List Cond := .code yX5_count cX5_count 2 (some .int) :: ([.classLink RX5 116 "java/lang/IndexOutOfBoundsException", .initialized "java/lang/IndexOutOfBoundsException", .fieldLink RX5 234 "BottleShip" "hour" "I", .fieldLink RX5 89 "BottleShip" "mastCount" "I", .fieldLink RX5 133 "BottleShip" "cordCount" "I", .fieldLink RX5 179 "BottleShip" "pullsDone" "I", .fieldLink RX5 173 "BottleShip" "pullsNotDone" "I", .methodLink RX5 237 yX5_mastsLeaning, .instanceMethod yX5_mastsLeaning, .selects RX5 yX5_mastsLeaning yX5_mastsLeaning, .initialized RX5, .code yX5_mastsLeaning cX5_mastsLeaning 4 (some .int), .fieldLink RX5 42 "BottleShip" "leans" "[I", .methodLink RX5 240 yX5_threadsThatAre, .instanceMethod yX5_threadsThatAre, .selects RX5 yX5_threadsThatAre yX5_threadsThatAre, .code yX5_threadsThatAre cX5_threadsThatAre 4 (some .int), .fieldLink RX5 31 "BottleShip" "cords" "[LBottleShip$Cord;", .fieldLink RX5 164 "BottleShip$Cord" "state" "I"] ++ wsX50 ++ wsX10 ++ (vx_atS RX5 120 "java/lang/IndexOutOfBoundsException" ["java/lang/RuntimeException", "java/lang/Exception"]).filter goodWord)
def wsX5_fallInAnHour : List Cond := .code yX5_fallInAnHour cX5_fallInAnHour 2 (some .int) :: ([.fieldLink RX5 25 "BottleShip" "masts" "[LBottleShip$Mast;", .fieldLink RX5 123 "BottleShip$Mast" "yardCount" "I", .methodLink RX5 208 yX5_isHeld, .instanceMethod yX5_isHeld, .selects RX5 yX5_isHeld yX5_isHeld, .initialized RX5, .code yX5_isHeld cX5_isHeld 2 (some .boolean), .methodLink RX5 302 yX5_threadsFrom, .instanceMethod yX5_threadsFrom, .selects RX5 yX5_threadsFrom yX5_threadsFrom, .code yX5_threadsFrom cX5_threadsFrom 5 (some .int), .fieldLink RX5 133 "BottleShip" "cordCount" "I", .fieldLink RX5 31 "BottleShip" "cords" "[LBottleShip$Cord;", .fieldLink RX5 138 "BottleShip$Cord" "mast" "I", .fieldLink RX5 164 "BottleShip$Cord" "state" "I", .methodLink RX5 211 yX5_looseThreadsFrom, .instanceMethod yX5_looseThreadsFrom, .selects RX5 yX5_looseThreadsFrom yX5_looseThreadsFrom, .code yX5_looseThreadsFrom cX5_looseThreadsFrom 2 (some .int)] ++ wsX50 ++ wsX30 ++ wsX10)
def wsX5_pass_r1 : List Cond := [Cond.classLink RX5 58 "java/lang/IllegalArgumentException", Cond.initialized "java/lang/IllegalArgumentException", Cond.fieldLink RX5 89 "BottleShip" "mastCount" "I", Cond.fieldLink RX5 42 "BottleShip" "leans" "[I", Cond.methodLink RX5 248 Lib.Math.min.name, Cond.static Lib.Math.min.name, Cond.initialized "java/lang/Math", Cond.code Lib.Math.min.name Lib.Math.min.code 2 (some .int), Cond.fieldLink RX5 234 "BottleShip" "hour" "I", Cond.methodLink RX5 54 yX5_isWithin, Cond.static yX5_isWithin, Cond.initialized RX5, Cond.code yX5_isWithin cX5_isWithin 3 (some .boolean), Cond.methodLink RX5 237 yX5_mastsLeaning, Cond.instanceMethod yX5_mastsLeaning, Cond.selects RX5 yX5_mastsLeaning yX5_mastsLeaning, Cond.code yX5_mastsLeaning cX5_mastsLeaning 4 (some .int), Cond.methodLink RX5 245 yX5_fallInAnHour, Cond.instanceMethod yX5_fallInAnHour, Cond.selects RX5 yX5_fallInAnHour yX5_fallInAnHour, Cond.code yX5_fallInAnHour cX5_fallInAnHour 2 (some .int), Cond.fieldLink RX5 25 "BottleShip" "masts" "[LBottleShip$Mast;", Cond.fieldLink RX5 123 "BottleShip$Mast" "yardCount" "I", Cond.methodLink RX5 208 yX5_isHeld]
def wsX5_pass_r2 : List Cond := [Cond.instanceMethod yX5_isHeld, Cond.selects RX5 yX5_isHeld yX5_isHeld, Cond.code yX5_isHeld cX5_isHeld 2 (some .boolean), Cond.methodLink RX5 302 yX5_threadsFrom, Cond.instanceMethod yX5_threadsFrom, Cond.selects RX5 yX5_threadsFrom yX5_threadsFrom, Cond.code yX5_threadsFrom cX5_threadsFrom 5 (some .int), Cond.fieldLink RX5 133 "BottleShip" "cordCount" "I", Cond.fieldLink RX5 31 "BottleShip" "cords" "[LBottleShip$Cord;", Cond.fieldLink RX5 138 "BottleShip$Cord" "mast" "I", Cond.fieldLink RX5 164 "BottleShip$Cord" "state" "I", Cond.methodLink RX5 211 yX5_looseThreadsFrom, Cond.instanceMethod yX5_looseThreadsFrom, Cond.selects RX5 yX5_looseThreadsFrom yX5_looseThreadsFrom, Cond.code yX5_looseThreadsFrom cX5_looseThreadsFrom 2 (some .int)]
def wsX5_pass : List Cond := .code yX5_pass cX5_pass 6 (some .int) :: ((wsX5_pass_r1 ++ wsX5_pass_r2) ++ wsX50 ++ wsX30 ++ wsX10 ++ (vx_atS RX5 62 "java/lang/IllegalArgumentException" ["java/lang/RuntimeException", "java/lang/Exception"]).filter goodWord)
def wsX5_firstFreeThreadOf_r1 : List Cond := [Cond.fieldLink RX5 133 "BottleShip" "cordCount" "I", Cond.fieldLink RX5 31 "BottleShip" "cords" "[LBottleShip$Cord;", Cond.fieldLink RX5 138 "BottleShip$Cord" "mast" "I", Cond.fieldLink RX5 164 "BottleShip$Cord" "state" "I", Cond.methodLink RX5 208 yX5_isHeld, Cond.instanceMethod yX5_isHeld, Cond.selects RX5 yX5_isHeld yX5_isHeld, Cond.initialized RX5, Cond.code yX5_isHeld cX5_isHeld 2 (some .boolean), Cond.methodLink RX5 302 yX5_threadsFrom, Cond.instanceMethod yX5_threadsFrom, Cond.selects RX5 yX5_threadsFrom yX5_threadsFrom, Cond.code yX5_threadsFrom cX5_threadsFrom 5 (some .int), Cond.methodLink RX5 308 yX5_isCrossedByStronger, Cond.instanceMethod yX5_isCrossedByStronger, Cond.selects RX5 yX5_isCrossedByStronger yX5_isCrossedByStronger, Cond.code yX5_isCrossedByStronger cX5_isCrossedByStronger 4 (some .boolean), Cond.fieldLink RX5 144 "BottleShip$Cord" "strength" "I", Cond.methodLink RX5 198 yX1_crosses, Cond.instanceMethod yX1_crosses, Cond.selects RX1 yX1_crosses yX1_crosses, Cond.initialized RX1, Cond.code yX1_crosses cX1_crosses 2 (some .boolean), Cond.fieldLink RX1 27 "BottleShip$Cord" "state" "I"]
def wsX5_firstFreeThreadOf_r2 : List Cond := [Cond.fieldLink RX1 15 "BottleShip$Cord" "lesserPlace" "I", Cond.methodLink RX1 21 Lib.Math.max.name, Cond.static Lib.Math.max.name, Cond.initialized "java/lang/Math", Cond.code Lib.Math.max.name Lib.Math.max.code 2 (some .int), Cond.fieldLink RX1 24 "BottleShip$Cord" "greaterPlace" "I", Cond.methodLink RX1 9 Lib.Math.min.name, Cond.static Lib.Math.min.name, Cond.code Lib.Math.min.name Lib.Math.min.code 2 (some .int)]
def wsX5_firstFreeThreadOf : List Cond := .code yX5_firstFreeThreadOf cX5_firstFreeThreadOf 3 (some .int) :: ((wsX5_firstFreeThreadOf_r1 ++ wsX5_firstFreeThreadOf_r2) ++ wsX50 ++ wsX10)
def wsX5_exploreFrom_r1 : List Cond := [Cond.fieldLink RX5 46 "BottleShip" "leansBefore" "[I", Cond.fieldLink RX5 89 "BottleShip" "mastCount" "I", Cond.fieldLink RX5 38 "BottleShip" "search" "LBottleShip$Search;", Cond.fieldLink RX5 311 "BottleShip$Search" "handles" "[I", Cond.fieldLink RX5 317 "BottleShip$Search" "lowered" "[I", Cond.fieldLink RX5 49 "BottleShip" "leansAfter" "[I", Cond.fieldLink RX5 65 "BottleShip" "inside" "Z", Cond.methodLink RX5 269 yX4_decode, Cond.static yX4_decode, Cond.initialized RX4, Cond.code yX4_decode cX4_decode 2 none, Cond.methodLink RX5 186 yX5_raise, Cond.static yX5_raise, Cond.initialized RX5, Cond.code yX5_raise cX5_raise 5 none, Cond.methodLink RX5 155 yX5_fitsWith, Cond.instanceMethod yX5_fitsWith, Cond.selects RX5 yX5_fitsWith yX5_fitsWith, Cond.code yX5_fitsWith cX5_fitsWith 2 (some .boolean), Cond.fieldLink RX5 10 "BottleShip" "bottle" "LBottleShip$Bottle;", Cond.fieldLink RX5 81 "BottleShip$Bottle" "length" "I", Cond.fieldLink RX5 84 "BottleShip$Bottle" "putty" "I", Cond.fieldLink RX5 78 "BottleShip$Bottle" "high" "I", Cond.methodLink RX5 229 yX5_endWith]
def wsX5_exploreFrom_r2 : List Cond := [Cond.instanceMethod yX5_endWith, Cond.selects RX5 yX5_endWith yX5_endWith, Cond.code yX5_endWith cX5_endWith 4 (some .int), Cond.fieldLink RX5 19 "BottleShip" "hull" "LBottleShip$Hull;", Cond.fieldLink RX5 94 "BottleShip$Hull" "length" "I", Cond.fieldLink RX5 25 "BottleShip" "masts" "[LBottleShip$Mast;", Cond.fieldLink RX5 109 "BottleShip$Mast" "place" "I", Cond.methodLink RX5 276 Lib.Math.max.name, Cond.static Lib.Math.max.name, Cond.initialized "java/lang/Math", Cond.code Lib.Math.max.name Lib.Math.max.code 2 (some .int), Cond.methodLink RX5 205 yX3_reach, Cond.instanceMethod yX3_reach, Cond.selects RX3 yX3_reach yX3_reach, Cond.initialized RX3, Cond.code yX3_reach cX3_reach 2 (some .int), Cond.fieldLink RX3 15 "BottleShip$Mast" "height" "I", Cond.methodLink RX5 225 yX5_topWith, Cond.instanceMethod yX5_topWith, Cond.selects RX5 yX5_topWith yX5_topWith, Cond.code yX5_topWith cX5_topWith 4 (some .int), Cond.fieldLink RX5 95 "BottleShip$Hull" "height" "I", Cond.methodLink RX5 202 yX3_standing, Cond.instanceMethod yX3_standing]
def wsX5_exploreFrom_r3 : List Cond := [Cond.selects RX3 yX3_standing yX3_standing, Cond.code yX3_standing cX3_standing 2 (some .int), Cond.methodLink RX5 320 yX4_encode, Cond.static yX4_encode, Cond.code yX4_encode cX4_encode 1 (some .int), Cond.methodLink RX5 330 yX4_reach, Cond.instanceMethod yX4_reach, Cond.selects RX4 yX4_reach yX4_reach, Cond.code yX4_reach cX4_reach 5 none, Cond.fieldLink RX4 21 "BottleShip$Search" "steps" "[I", Cond.fieldLink RX4 24 "BottleShip$Search" "openers" "[I", Cond.fieldLink RX4 18 "BottleShip$Search" "queue" "[I", Cond.fieldLink RX4 33 "BottleShip$Search" "reached" "I", Cond.methodLink RX4 37 Lib.Math.min.name, Cond.static Lib.Math.min.name, Cond.code Lib.Math.min.name Lib.Math.min.code 2 (some .int)]
def wsX5_exploreFrom : List Cond := .code yX5_exploreFrom cX5_exploreFrom 3 none :: ((wsX5_exploreFrom_r1 ++ (wsX5_exploreFrom_r2 ++ wsX5_exploreFrom_r3)) ++ wsX50 ++ wsX40 ++ wsX00 ++ wsX20 ++ wsX30)
def wsX5_explore_r1 : List Cond := [Cond.fieldLink RX5 89 "BottleShip" "mastCount" "I", Cond.fieldLink RX5 38 "BottleShip" "search" "LBottleShip$Search;", Cond.fieldLink RX5 311 "BottleShip$Search" "handles" "[I", Cond.fieldLink RX5 317 "BottleShip$Search" "lowered" "[I", Cond.fieldLink RX5 42 "BottleShip" "leans" "[I", Cond.fieldLink RX5 263 "BottleShip$Search" "reached" "I", Cond.fieldLink RX5 266 "BottleShip$Search" "queue" "[I", Cond.methodLink RX5 314 yX5_firstFreeThreadOf, Cond.instanceMethod yX5_firstFreeThreadOf, Cond.selects RX5 yX5_firstFreeThreadOf yX5_firstFreeThreadOf, Cond.initialized RX5, Cond.code yX5_firstFreeThreadOf cX5_firstFreeThreadOf 3 (some .int), Cond.fieldLink RX5 133 "BottleShip" "cordCount" "I", Cond.fieldLink RX5 31 "BottleShip" "cords" "[LBottleShip$Cord;", Cond.fieldLink RX5 138 "BottleShip$Cord" "mast" "I", Cond.fieldLink RX5 164 "BottleShip$Cord" "state" "I", Cond.methodLink RX5 208 yX5_isHeld, Cond.instanceMethod yX5_isHeld, Cond.selects RX5 yX5_isHeld yX5_isHeld, Cond.code yX5_isHeld cX5_isHeld 2 (some .boolean), Cond.methodLink RX5 302 yX5_threadsFrom, Cond.instanceMethod yX5_threadsFrom, Cond.selects RX5 yX5_threadsFrom yX5_threadsFrom, Cond.code yX5_threadsFrom cX5_threadsFrom 5 (some .int)]
def wsX5_explore_r2 : List Cond := [Cond.methodLink RX5 308 yX5_isCrossedByStronger, Cond.instanceMethod yX5_isCrossedByStronger, Cond.selects RX5 yX5_isCrossedByStronger yX5_isCrossedByStronger, Cond.code yX5_isCrossedByStronger cX5_isCrossedByStronger 4 (some .boolean), Cond.fieldLink RX5 144 "BottleShip$Cord" "strength" "I", Cond.methodLink RX5 198 yX1_crosses, Cond.instanceMethod yX1_crosses, Cond.selects RX1 yX1_crosses yX1_crosses, Cond.initialized RX1, Cond.code yX1_crosses cX1_crosses 2 (some .boolean), Cond.fieldLink RX1 27 "BottleShip$Cord" "state" "I", Cond.fieldLink RX1 15 "BottleShip$Cord" "lesserPlace" "I", Cond.methodLink RX1 21 Lib.Math.max.name, Cond.static Lib.Math.max.name, Cond.initialized "java/lang/Math", Cond.code Lib.Math.max.name Lib.Math.max.code 2 (some .int), Cond.fieldLink RX1 24 "BottleShip$Cord" "greaterPlace" "I", Cond.methodLink RX1 9 Lib.Math.min.name, Cond.static Lib.Math.min.name, Cond.code Lib.Math.min.name Lib.Math.min.code 2 (some .int), Cond.methodLink RX5 182 yX5_loweredBy, Cond.instanceMethod yX5_loweredBy, Cond.selects RX5 yX5_loweredBy yX5_loweredBy, Cond.code yX5_loweredBy cX5_loweredBy 5 (some .int)]
def wsX5_explore_r3 : List Cond := [Cond.fieldLink RX5 141 "BottleShip$Cord" "to" "I", Cond.methodLink RX5 320 yX4_encode, Cond.static yX4_encode, Cond.initialized RX4, Cond.code yX4_encode cX4_encode 1 (some .int), Cond.methodLink RX5 323 yX4_begin, Cond.instanceMethod yX4_begin, Cond.selects RX4 yX4_begin yX4_begin, Cond.code yX4_begin cX4_begin 2 none, Cond.fieldLink RX4 21 "BottleShip$Search" "steps" "[I", Cond.fieldLink RX4 24 "BottleShip$Search" "openers" "[I", Cond.fieldLink RX4 18 "BottleShip$Search" "queue" "[I", Cond.fieldLink RX4 33 "BottleShip$Search" "reached" "I", Cond.methodLink RX4 27 yJ7_fill_53178, Cond.static yJ7_fill_53178, Cond.initialized RJ7, Cond.code yJ7_fill_53178 cJ7_fill_53178 4 none, Cond.methodLink RX5 327 yX5_exploreFrom, Cond.instanceMethod yX5_exploreFrom, Cond.selects RX5 yX5_exploreFrom yX5_exploreFrom, Cond.code yX5_exploreFrom cX5_exploreFrom 3 none, Cond.fieldLink RX5 46 "BottleShip" "leansBefore" "[I", Cond.fieldLink RX5 49 "BottleShip" "leansAfter" "[I", Cond.fieldLink RX5 65 "BottleShip" "inside" "Z"]
def wsX5_explore_r4 : List Cond := [Cond.methodLink RX5 269 yX4_decode, Cond.static yX4_decode, Cond.code yX4_decode cX4_decode 2 none, Cond.methodLink RX5 186 yX5_raise, Cond.static yX5_raise, Cond.code yX5_raise cX5_raise 5 none, Cond.methodLink RX5 155 yX5_fitsWith, Cond.instanceMethod yX5_fitsWith, Cond.selects RX5 yX5_fitsWith yX5_fitsWith, Cond.code yX5_fitsWith cX5_fitsWith 2 (some .boolean), Cond.fieldLink RX5 10 "BottleShip" "bottle" "LBottleShip$Bottle;", Cond.fieldLink RX5 81 "BottleShip$Bottle" "length" "I", Cond.fieldLink RX5 84 "BottleShip$Bottle" "putty" "I", Cond.fieldLink RX5 78 "BottleShip$Bottle" "high" "I", Cond.methodLink RX5 229 yX5_endWith, Cond.instanceMethod yX5_endWith, Cond.selects RX5 yX5_endWith yX5_endWith, Cond.code yX5_endWith cX5_endWith 4 (some .int), Cond.fieldLink RX5 19 "BottleShip" "hull" "LBottleShip$Hull;", Cond.fieldLink RX5 94 "BottleShip$Hull" "length" "I", Cond.fieldLink RX5 25 "BottleShip" "masts" "[LBottleShip$Mast;", Cond.fieldLink RX5 109 "BottleShip$Mast" "place" "I", Cond.methodLink RX5 276 Lib.Math.max.name, Cond.methodLink RX5 205 yX3_reach]
def wsX5_explore_r5 : List Cond := [Cond.instanceMethod yX3_reach, Cond.selects RX3 yX3_reach yX3_reach, Cond.initialized RX3, Cond.code yX3_reach cX3_reach 2 (some .int), Cond.fieldLink RX3 15 "BottleShip$Mast" "height" "I", Cond.methodLink RX5 225 yX5_topWith, Cond.instanceMethod yX5_topWith, Cond.selects RX5 yX5_topWith yX5_topWith, Cond.code yX5_topWith cX5_topWith 4 (some .int), Cond.fieldLink RX5 95 "BottleShip$Hull" "height" "I", Cond.methodLink RX5 202 yX3_standing, Cond.instanceMethod yX3_standing, Cond.selects RX3 yX3_standing yX3_standing, Cond.code yX3_standing cX3_standing 2 (some .int), Cond.methodLink RX5 330 yX4_reach, Cond.instanceMethod yX4_reach, Cond.selects RX4 yX4_reach yX4_reach, Cond.code yX4_reach cX4_reach 5 none, Cond.methodLink RX4 37 Lib.Math.min.name]
def wsX5_explore : List Cond := .code yX5_explore cX5_explore 2 none :: ((wsX5_explore_r1 ++ (wsX5_explore_r2 ++ (wsX5_explore_r3 ++ (wsX5_explore_r4 ++ wsX5_explore_r5)))) ++ wsX50 ++ wsX40 ++ wsX10 ++ wsX00 ++ wsX20 ++ wsX30)
def wsX5_fewest_r1 : List Cond := [Cond.fieldLink RX5 38 "BottleShip" "search" "LBottleShip$Search;", Cond.fieldLink RX5 257 "BottleShip$Search" "steps" "[I", Cond.methodLink RX5 254 yX5_explore, Cond.instanceMethod yX5_explore, Cond.selects RX5 yX5_explore yX5_explore, Cond.initialized RX5, Cond.code yX5_explore cX5_explore 2 none, Cond.fieldLink RX5 89 "BottleShip" "mastCount" "I", Cond.fieldLink RX5 311 "BottleShip$Search" "handles" "[I", Cond.fieldLink RX5 317 "BottleShip$Search" "lowered" "[I", Cond.fieldLink RX5 42 "BottleShip" "leans" "[I", Cond.fieldLink RX5 263 "BottleShip$Search" "reached" "I", Cond.fieldLink RX5 266 "BottleShip$Search" "queue" "[I", Cond.methodLink RX5 314 yX5_firstFreeThreadOf, Cond.instanceMethod yX5_firstFreeThreadOf, Cond.selects RX5 yX5_firstFreeThreadOf yX5_firstFreeThreadOf, Cond.code yX5_firstFreeThreadOf cX5_firstFreeThreadOf 3 (some .int), Cond.fieldLink RX5 133 "BottleShip" "cordCount" "I", Cond.fieldLink RX5 31 "BottleShip" "cords" "[LBottleShip$Cord;", Cond.fieldLink RX5 138 "BottleShip$Cord" "mast" "I", Cond.fieldLink RX5 164 "BottleShip$Cord" "state" "I", Cond.methodLink RX5 208 yX5_isHeld, Cond.instanceMethod yX5_isHeld, Cond.selects RX5 yX5_isHeld yX5_isHeld]
def wsX5_fewest_r2 : List Cond := [Cond.code yX5_isHeld cX5_isHeld 2 (some .boolean), Cond.methodLink RX5 302 yX5_threadsFrom, Cond.instanceMethod yX5_threadsFrom, Cond.selects RX5 yX5_threadsFrom yX5_threadsFrom, Cond.code yX5_threadsFrom cX5_threadsFrom 5 (some .int), Cond.methodLink RX5 308 yX5_isCrossedByStronger, Cond.instanceMethod yX5_isCrossedByStronger, Cond.selects RX5 yX5_isCrossedByStronger yX5_isCrossedByStronger, Cond.code yX5_isCrossedByStronger cX5_isCrossedByStronger 4 (some .boolean), Cond.fieldLink RX5 144 "BottleShip$Cord" "strength" "I", Cond.methodLink RX5 198 yX1_crosses, Cond.instanceMethod yX1_crosses, Cond.selects RX1 yX1_crosses yX1_crosses, Cond.initialized RX1, Cond.code yX1_crosses cX1_crosses 2 (some .boolean), Cond.fieldLink RX1 27 "BottleShip$Cord" "state" "I", Cond.fieldLink RX1 15 "BottleShip$Cord" "lesserPlace" "I", Cond.methodLink RX1 21 Lib.Math.max.name, Cond.static Lib.Math.max.name, Cond.initialized "java/lang/Math", Cond.code Lib.Math.max.name Lib.Math.max.code 2 (some .int), Cond.fieldLink RX1 24 "BottleShip$Cord" "greaterPlace" "I", Cond.methodLink RX1 9 Lib.Math.min.name, Cond.static Lib.Math.min.name]
def wsX5_fewest_r3 : List Cond := [Cond.code Lib.Math.min.name Lib.Math.min.code 2 (some .int), Cond.methodLink RX5 182 yX5_loweredBy, Cond.instanceMethod yX5_loweredBy, Cond.selects RX5 yX5_loweredBy yX5_loweredBy, Cond.code yX5_loweredBy cX5_loweredBy 5 (some .int), Cond.fieldLink RX5 141 "BottleShip$Cord" "to" "I", Cond.methodLink RX5 320 yX4_encode, Cond.static yX4_encode, Cond.initialized RX4, Cond.code yX4_encode cX4_encode 1 (some .int), Cond.methodLink RX5 323 yX4_begin, Cond.instanceMethod yX4_begin, Cond.selects RX4 yX4_begin yX4_begin, Cond.code yX4_begin cX4_begin 2 none, Cond.fieldLink RX4 21 "BottleShip$Search" "steps" "[I", Cond.fieldLink RX4 24 "BottleShip$Search" "openers" "[I", Cond.fieldLink RX4 18 "BottleShip$Search" "queue" "[I", Cond.fieldLink RX4 33 "BottleShip$Search" "reached" "I", Cond.methodLink RX4 27 yJ7_fill_53178, Cond.static yJ7_fill_53178, Cond.initialized RJ7, Cond.code yJ7_fill_53178 cJ7_fill_53178 4 none, Cond.methodLink RX5 327 yX5_exploreFrom, Cond.instanceMethod yX5_exploreFrom]
def wsX5_fewest_r4 : List Cond := [Cond.selects RX5 yX5_exploreFrom yX5_exploreFrom, Cond.code yX5_exploreFrom cX5_exploreFrom 3 none, Cond.fieldLink RX5 46 "BottleShip" "leansBefore" "[I", Cond.fieldLink RX5 49 "BottleShip" "leansAfter" "[I", Cond.fieldLink RX5 65 "BottleShip" "inside" "Z", Cond.methodLink RX5 269 yX4_decode, Cond.static yX4_decode, Cond.code yX4_decode cX4_decode 2 none, Cond.methodLink RX5 186 yX5_raise, Cond.static yX5_raise, Cond.code yX5_raise cX5_raise 5 none, Cond.methodLink RX5 155 yX5_fitsWith, Cond.instanceMethod yX5_fitsWith, Cond.selects RX5 yX5_fitsWith yX5_fitsWith, Cond.code yX5_fitsWith cX5_fitsWith 2 (some .boolean), Cond.fieldLink RX5 10 "BottleShip" "bottle" "LBottleShip$Bottle;", Cond.fieldLink RX5 81 "BottleShip$Bottle" "length" "I", Cond.fieldLink RX5 84 "BottleShip$Bottle" "putty" "I", Cond.fieldLink RX5 78 "BottleShip$Bottle" "high" "I", Cond.methodLink RX5 229 yX5_endWith, Cond.instanceMethod yX5_endWith, Cond.selects RX5 yX5_endWith yX5_endWith, Cond.code yX5_endWith cX5_endWith 4 (some .int), Cond.fieldLink RX5 19 "BottleShip" "hull" "LBottleShip$Hull;"]
def wsX5_fewest_r5 : List Cond := [Cond.fieldLink RX5 94 "BottleShip$Hull" "length" "I", Cond.fieldLink RX5 25 "BottleShip" "masts" "[LBottleShip$Mast;", Cond.fieldLink RX5 109 "BottleShip$Mast" "place" "I", Cond.methodLink RX5 276 Lib.Math.max.name, Cond.methodLink RX5 205 yX3_reach, Cond.instanceMethod yX3_reach, Cond.selects RX3 yX3_reach yX3_reach, Cond.initialized RX3, Cond.code yX3_reach cX3_reach 2 (some .int), Cond.fieldLink RX3 15 "BottleShip$Mast" "height" "I", Cond.methodLink RX5 225 yX5_topWith, Cond.instanceMethod yX5_topWith, Cond.selects RX5 yX5_topWith yX5_topWith, Cond.code yX5_topWith cX5_topWith 4 (some .int), Cond.fieldLink RX5 95 "BottleShip$Hull" "height" "I", Cond.methodLink RX5 202 yX3_standing, Cond.instanceMethod yX3_standing, Cond.selects RX3 yX3_standing yX3_standing, Cond.code yX3_standing cX3_standing 2 (some .int), Cond.methodLink RX5 330 yX4_reach, Cond.instanceMethod yX4_reach, Cond.selects RX4 yX4_reach yX4_reach, Cond.code yX4_reach cX4_reach 5 none, Cond.methodLink RX4 37 Lib.Math.min.name]
def wsX5_fewest : List Cond := .code yX5_fewest cX5_fewest 1 (some .int) :: ((wsX5_fewest_r1 ++ (wsX5_fewest_r2 ++ (wsX5_fewest_r3 ++ (wsX5_fewest_r4 ++ wsX5_fewest_r5)))) ++ wsX50 ++ wsX40 ++ wsX10 ++ wsX00 ++ wsX20 ++ wsX30)
def wsX5_first_r1 : List Cond := [Cond.fieldLink RX5 38 "BottleShip" "search" "LBottleShip$Search;", Cond.fieldLink RX5 260 "BottleShip$Search" "openers" "[I", Cond.methodLink RX5 254 yX5_explore, Cond.instanceMethod yX5_explore, Cond.selects RX5 yX5_explore yX5_explore, Cond.initialized RX5, Cond.code yX5_explore cX5_explore 2 none, Cond.fieldLink RX5 89 "BottleShip" "mastCount" "I", Cond.fieldLink RX5 311 "BottleShip$Search" "handles" "[I", Cond.fieldLink RX5 317 "BottleShip$Search" "lowered" "[I", Cond.fieldLink RX5 42 "BottleShip" "leans" "[I", Cond.fieldLink RX5 263 "BottleShip$Search" "reached" "I", Cond.fieldLink RX5 266 "BottleShip$Search" "queue" "[I", Cond.methodLink RX5 314 yX5_firstFreeThreadOf, Cond.instanceMethod yX5_firstFreeThreadOf, Cond.selects RX5 yX5_firstFreeThreadOf yX5_firstFreeThreadOf, Cond.code yX5_firstFreeThreadOf cX5_firstFreeThreadOf 3 (some .int), Cond.fieldLink RX5 133 "BottleShip" "cordCount" "I", Cond.fieldLink RX5 31 "BottleShip" "cords" "[LBottleShip$Cord;", Cond.fieldLink RX5 138 "BottleShip$Cord" "mast" "I", Cond.fieldLink RX5 164 "BottleShip$Cord" "state" "I", Cond.methodLink RX5 208 yX5_isHeld, Cond.instanceMethod yX5_isHeld, Cond.selects RX5 yX5_isHeld yX5_isHeld]
def wsX5_first_r2 : List Cond := [Cond.code yX5_isHeld cX5_isHeld 2 (some .boolean), Cond.methodLink RX5 302 yX5_threadsFrom, Cond.instanceMethod yX5_threadsFrom, Cond.selects RX5 yX5_threadsFrom yX5_threadsFrom, Cond.code yX5_threadsFrom cX5_threadsFrom 5 (some .int), Cond.methodLink RX5 308 yX5_isCrossedByStronger, Cond.instanceMethod yX5_isCrossedByStronger, Cond.selects RX5 yX5_isCrossedByStronger yX5_isCrossedByStronger, Cond.code yX5_isCrossedByStronger cX5_isCrossedByStronger 4 (some .boolean), Cond.fieldLink RX5 144 "BottleShip$Cord" "strength" "I", Cond.methodLink RX5 198 yX1_crosses, Cond.instanceMethod yX1_crosses, Cond.selects RX1 yX1_crosses yX1_crosses, Cond.initialized RX1, Cond.code yX1_crosses cX1_crosses 2 (some .boolean), Cond.fieldLink RX1 27 "BottleShip$Cord" "state" "I", Cond.fieldLink RX1 15 "BottleShip$Cord" "lesserPlace" "I", Cond.methodLink RX1 21 Lib.Math.max.name, Cond.static Lib.Math.max.name, Cond.initialized "java/lang/Math", Cond.code Lib.Math.max.name Lib.Math.max.code 2 (some .int), Cond.fieldLink RX1 24 "BottleShip$Cord" "greaterPlace" "I", Cond.methodLink RX1 9 Lib.Math.min.name, Cond.static Lib.Math.min.name]
def wsX5_first_r3 : List Cond := [Cond.code Lib.Math.min.name Lib.Math.min.code 2 (some .int), Cond.methodLink RX5 182 yX5_loweredBy, Cond.instanceMethod yX5_loweredBy, Cond.selects RX5 yX5_loweredBy yX5_loweredBy, Cond.code yX5_loweredBy cX5_loweredBy 5 (some .int), Cond.fieldLink RX5 141 "BottleShip$Cord" "to" "I", Cond.methodLink RX5 320 yX4_encode, Cond.static yX4_encode, Cond.initialized RX4, Cond.code yX4_encode cX4_encode 1 (some .int), Cond.methodLink RX5 323 yX4_begin, Cond.instanceMethod yX4_begin, Cond.selects RX4 yX4_begin yX4_begin, Cond.code yX4_begin cX4_begin 2 none, Cond.fieldLink RX4 21 "BottleShip$Search" "steps" "[I", Cond.fieldLink RX4 24 "BottleShip$Search" "openers" "[I", Cond.fieldLink RX4 18 "BottleShip$Search" "queue" "[I", Cond.fieldLink RX4 33 "BottleShip$Search" "reached" "I", Cond.methodLink RX4 27 yJ7_fill_53178, Cond.static yJ7_fill_53178, Cond.initialized RJ7, Cond.code yJ7_fill_53178 cJ7_fill_53178 4 none, Cond.methodLink RX5 327 yX5_exploreFrom, Cond.instanceMethod yX5_exploreFrom]
def wsX5_first_r4 : List Cond := [Cond.selects RX5 yX5_exploreFrom yX5_exploreFrom, Cond.code yX5_exploreFrom cX5_exploreFrom 3 none, Cond.fieldLink RX5 46 "BottleShip" "leansBefore" "[I", Cond.fieldLink RX5 49 "BottleShip" "leansAfter" "[I", Cond.fieldLink RX5 65 "BottleShip" "inside" "Z", Cond.methodLink RX5 269 yX4_decode, Cond.static yX4_decode, Cond.code yX4_decode cX4_decode 2 none, Cond.methodLink RX5 186 yX5_raise, Cond.static yX5_raise, Cond.code yX5_raise cX5_raise 5 none, Cond.methodLink RX5 155 yX5_fitsWith, Cond.instanceMethod yX5_fitsWith, Cond.selects RX5 yX5_fitsWith yX5_fitsWith, Cond.code yX5_fitsWith cX5_fitsWith 2 (some .boolean), Cond.fieldLink RX5 10 "BottleShip" "bottle" "LBottleShip$Bottle;", Cond.fieldLink RX5 81 "BottleShip$Bottle" "length" "I", Cond.fieldLink RX5 84 "BottleShip$Bottle" "putty" "I", Cond.fieldLink RX5 78 "BottleShip$Bottle" "high" "I", Cond.methodLink RX5 229 yX5_endWith, Cond.instanceMethod yX5_endWith, Cond.selects RX5 yX5_endWith yX5_endWith, Cond.code yX5_endWith cX5_endWith 4 (some .int), Cond.fieldLink RX5 19 "BottleShip" "hull" "LBottleShip$Hull;"]
def wsX5_first_r5 : List Cond := [Cond.fieldLink RX5 94 "BottleShip$Hull" "length" "I", Cond.fieldLink RX5 25 "BottleShip" "masts" "[LBottleShip$Mast;", Cond.fieldLink RX5 109 "BottleShip$Mast" "place" "I", Cond.methodLink RX5 276 Lib.Math.max.name, Cond.methodLink RX5 205 yX3_reach, Cond.instanceMethod yX3_reach, Cond.selects RX3 yX3_reach yX3_reach, Cond.initialized RX3, Cond.code yX3_reach cX3_reach 2 (some .int), Cond.fieldLink RX3 15 "BottleShip$Mast" "height" "I", Cond.methodLink RX5 225 yX5_topWith, Cond.instanceMethod yX5_topWith, Cond.selects RX5 yX5_topWith yX5_topWith, Cond.code yX5_topWith cX5_topWith 4 (some .int), Cond.fieldLink RX5 95 "BottleShip$Hull" "height" "I", Cond.methodLink RX5 202 yX3_standing, Cond.instanceMethod yX3_standing, Cond.selects RX3 yX3_standing yX3_standing, Cond.code yX3_standing cX3_standing 2 (some .int), Cond.methodLink RX5 330 yX4_reach, Cond.instanceMethod yX4_reach, Cond.selects RX4 yX4_reach yX4_reach, Cond.code yX4_reach cX4_reach 5 none, Cond.methodLink RX4 37 Lib.Math.min.name]
def wsX5_first : List Cond := .code yX5_first cX5_first 1 (some .int) :: ((wsX5_first_r1 ++ (wsX5_first_r2 ++ (wsX5_first_r3 ++ (wsX5_first_r4 ++ wsX5_first_r5)))) ++ wsX50 ++ wsX40 ++ wsX10 ++ wsX00 ++ wsX20 ++ wsX30)
def wsX5_least_r1 : List Cond := [Cond.classLink RX5 116 "java/lang/IndexOutOfBoundsException", Cond.initialized "java/lang/IndexOutOfBoundsException", Cond.fieldLink RX5 42 "BottleShip" "leans" "[I", Cond.fieldLink RX5 38 "BottleShip" "search" "LBottleShip$Search;", Cond.fieldLink RX5 263 "BottleShip$Search" "reached" "I", Cond.fieldLink RX5 266 "BottleShip$Search" "queue" "[I", Cond.fieldLink RX5 49 "BottleShip" "leansAfter" "[I", Cond.methodLink RX5 248 Lib.Math.min.name, Cond.static Lib.Math.min.name, Cond.initialized "java/lang/Math", Cond.code Lib.Math.min.name Lib.Math.min.code 2 (some .int), Cond.methodLink RX5 113 yX5_isMast, Cond.instanceMethod yX5_isMast, Cond.selects RX5 yX5_isMast yX5_isMast, Cond.initialized RX5, Cond.code yX5_isMast cX5_isMast 2 (some .boolean), Cond.fieldLink RX5 89 "BottleShip" "mastCount" "I", Cond.methodLink RX5 254 yX5_explore, Cond.instanceMethod yX5_explore, Cond.selects RX5 yX5_explore yX5_explore, Cond.code yX5_explore cX5_explore 2 none, Cond.fieldLink RX5 311 "BottleShip$Search" "handles" "[I", Cond.fieldLink RX5 317 "BottleShip$Search" "lowered" "[I", Cond.methodLink RX5 314 yX5_firstFreeThreadOf]
def wsX5_least_r2 : List Cond := [Cond.instanceMethod yX5_firstFreeThreadOf, Cond.selects RX5 yX5_firstFreeThreadOf yX5_firstFreeThreadOf, Cond.code yX5_firstFreeThreadOf cX5_firstFreeThreadOf 3 (some .int), Cond.fieldLink RX5 133 "BottleShip" "cordCount" "I", Cond.fieldLink RX5 31 "BottleShip" "cords" "[LBottleShip$Cord;", Cond.fieldLink RX5 138 "BottleShip$Cord" "mast" "I", Cond.fieldLink RX5 164 "BottleShip$Cord" "state" "I", Cond.methodLink RX5 208 yX5_isHeld, Cond.instanceMethod yX5_isHeld, Cond.selects RX5 yX5_isHeld yX5_isHeld, Cond.code yX5_isHeld cX5_isHeld 2 (some .boolean), Cond.methodLink RX5 302 yX5_threadsFrom, Cond.instanceMethod yX5_threadsFrom, Cond.selects RX5 yX5_threadsFrom yX5_threadsFrom, Cond.code yX5_threadsFrom cX5_threadsFrom 5 (some .int), Cond.methodLink RX5 308 yX5_isCrossedByStronger, Cond.instanceMethod yX5_isCrossedByStronger, Cond.selects RX5 yX5_isCrossedByStronger yX5_isCrossedByStronger, Cond.code yX5_isCrossedByStronger cX5_isCrossedByStronger 4 (some .boolean), Cond.fieldLink RX5 144 "BottleShip$Cord" "strength" "I", Cond.methodLink RX5 198 yX1_crosses, Cond.instanceMethod yX1_crosses, Cond.selects RX1 yX1_crosses yX1_crosses, Cond.initialized RX1]
def wsX5_least_r3 : List Cond := [Cond.code yX1_crosses cX1_crosses 2 (some .boolean), Cond.fieldLink RX1 27 "BottleShip$Cord" "state" "I", Cond.fieldLink RX1 15 "BottleShip$Cord" "lesserPlace" "I", Cond.methodLink RX1 21 Lib.Math.max.name, Cond.static Lib.Math.max.name, Cond.code Lib.Math.max.name Lib.Math.max.code 2 (some .int), Cond.fieldLink RX1 24 "BottleShip$Cord" "greaterPlace" "I", Cond.methodLink RX1 9 Lib.Math.min.name, Cond.methodLink RX5 182 yX5_loweredBy, Cond.instanceMethod yX5_loweredBy, Cond.selects RX5 yX5_loweredBy yX5_loweredBy, Cond.code yX5_loweredBy cX5_loweredBy 5 (some .int), Cond.fieldLink RX5 141 "BottleShip$Cord" "to" "I", Cond.methodLink RX5 320 yX4_encode, Cond.static yX4_encode, Cond.initialized RX4, Cond.code yX4_encode cX4_encode 1 (some .int), Cond.methodLink RX5 323 yX4_begin, Cond.instanceMethod yX4_begin, Cond.selects RX4 yX4_begin yX4_begin, Cond.code yX4_begin cX4_begin 2 none, Cond.fieldLink RX4 21 "BottleShip$Search" "steps" "[I", Cond.fieldLink RX4 24 "BottleShip$Search" "openers" "[I", Cond.fieldLink RX4 18 "BottleShip$Search" "queue" "[I"]
def wsX5_least_r4 : List Cond := [Cond.fieldLink RX4 33 "BottleShip$Search" "reached" "I", Cond.methodLink RX4 27 yJ7_fill_53178, Cond.static yJ7_fill_53178, Cond.initialized RJ7, Cond.code yJ7_fill_53178 cJ7_fill_53178 4 none, Cond.methodLink RX5 327 yX5_exploreFrom, Cond.instanceMethod yX5_exploreFrom, Cond.selects RX5 yX5_exploreFrom yX5_exploreFrom, Cond.code yX5_exploreFrom cX5_exploreFrom 3 none, Cond.fieldLink RX5 46 "BottleShip" "leansBefore" "[I", Cond.fieldLink RX5 65 "BottleShip" "inside" "Z", Cond.methodLink RX5 269 yX4_decode, Cond.static yX4_decode, Cond.code yX4_decode cX4_decode 2 none, Cond.methodLink RX5 186 yX5_raise, Cond.static yX5_raise, Cond.code yX5_raise cX5_raise 5 none, Cond.methodLink RX5 155 yX5_fitsWith, Cond.instanceMethod yX5_fitsWith, Cond.selects RX5 yX5_fitsWith yX5_fitsWith, Cond.code yX5_fitsWith cX5_fitsWith 2 (some .boolean), Cond.fieldLink RX5 10 "BottleShip" "bottle" "LBottleShip$Bottle;", Cond.fieldLink RX5 81 "BottleShip$Bottle" "length" "I", Cond.fieldLink RX5 84 "BottleShip$Bottle" "putty" "I"]
def wsX5_least_r5 : List Cond := [Cond.fieldLink RX5 78 "BottleShip$Bottle" "high" "I", Cond.methodLink RX5 229 yX5_endWith, Cond.instanceMethod yX5_endWith, Cond.selects RX5 yX5_endWith yX5_endWith, Cond.code yX5_endWith cX5_endWith 4 (some .int), Cond.fieldLink RX5 19 "BottleShip" "hull" "LBottleShip$Hull;", Cond.fieldLink RX5 94 "BottleShip$Hull" "length" "I", Cond.fieldLink RX5 25 "BottleShip" "masts" "[LBottleShip$Mast;", Cond.fieldLink RX5 109 "BottleShip$Mast" "place" "I", Cond.methodLink RX5 276 Lib.Math.max.name, Cond.methodLink RX5 205 yX3_reach, Cond.instanceMethod yX3_reach, Cond.selects RX3 yX3_reach yX3_reach, Cond.initialized RX3, Cond.code yX3_reach cX3_reach 2 (some .int), Cond.fieldLink RX3 15 "BottleShip$Mast" "height" "I", Cond.methodLink RX5 225 yX5_topWith, Cond.instanceMethod yX5_topWith, Cond.selects RX5 yX5_topWith yX5_topWith, Cond.code yX5_topWith cX5_topWith 4 (some .int), Cond.fieldLink RX5 95 "BottleShip$Hull" "height" "I", Cond.methodLink RX5 202 yX3_standing, Cond.instanceMethod yX3_standing, Cond.selects RX3 yX3_standing yX3_standing]
def wsX5_least_r6 : List Cond := [Cond.code yX3_standing cX3_standing 2 (some .int), Cond.methodLink RX5 330 yX4_reach, Cond.instanceMethod yX4_reach, Cond.selects RX4 yX4_reach yX4_reach, Cond.code yX4_reach cX4_reach 5 none, Cond.methodLink RX4 37 Lib.Math.min.name]
def wsX5_least : List Cond := .code yX5_least cX5_least 4 (some .int) :: ((wsX5_least_r1 ++ (wsX5_least_r2 ++ (wsX5_least_r3 ++ (wsX5_least_r4 ++ (wsX5_least_r5 ++ wsX5_least_r6))))) ++ wsX50 ++ wsX40 ++ wsX10 ++ wsX00 ++ wsX20 ++ wsX30 ++ (vx_atS RX5 120 "java/lang/IndexOutOfBoundsException" ["java/lang/RuntimeException", "java/lang/Exception"]).filter goodWord)
def wsX5_hoursUntilFlat : List Cond := .code yX5_hoursUntilFlat cX5_hoursUntilFlat 5 (some .int) :: ([.fieldLink RX5 42 "BottleShip" "leans" "[I", .methodLink RX5 245 yX5_fallInAnHour, .instanceMethod yX5_fallInAnHour, .selects RX5 yX5_fallInAnHour yX5_fallInAnHour, .initialized RX5, .code yX5_fallInAnHour cX5_fallInAnHour 2 (some .int), .fieldLink RX5 25 "BottleShip" "masts" "[LBottleShip$Mast;", .fieldLink RX5 123 "BottleShip$Mast" "yardCount" "I", .methodLink RX5 208 yX5_isHeld, .instanceMethod yX5_isHeld, .selects RX5 yX5_isHeld yX5_isHeld, .code yX5_isHeld cX5_isHeld 2 (some .boolean), .methodLink RX5 302 yX5_threadsFrom, .instanceMethod yX5_threadsFrom, .selects RX5 yX5_threadsFrom yX5_threadsFrom, .code yX5_threadsFrom cX5_threadsFrom 5 (some .int), .fieldLink RX5 133 "BottleShip" "cordCount" "I", .fieldLink RX5 31 "BottleShip" "cords" "[LBottleShip$Cord;", .fieldLink RX5 138 "BottleShip$Cord" "mast" "I", .fieldLink RX5 164 "BottleShip$Cord" "state" "I", .methodLink RX5 211 yX5_looseThreadsFrom, .instanceMethod yX5_looseThreadsFrom, .selects RX5 yX5_looseThreadsFrom yX5_looseThreadsFrom, .code yX5_looseThreadsFrom cX5_looseThreadsFrom 2 (some .int)] ++ wsX50 ++ wsX30 ++ wsX10)
def wsX5_falls_r1 : List Cond := [Cond.fieldLink RX5 89 "BottleShip" "mastCount" "I", Cond.methodLink RX5 276 Lib.Math.max.name, Cond.static Lib.Math.max.name, Cond.initialized "java/lang/Math", Cond.code Lib.Math.max.name Lib.Math.max.code 2 (some .int), Cond.methodLink RX5 273 yX5_hoursUntilFlat, Cond.instanceMethod yX5_hoursUntilFlat, Cond.selects RX5 yX5_hoursUntilFlat yX5_hoursUntilFlat, Cond.initialized RX5, Cond.code yX5_hoursUntilFlat cX5_hoursUntilFlat 5 (some .int), Cond.fieldLink RX5 42 "BottleShip" "leans" "[I", Cond.methodLink RX5 245 yX5_fallInAnHour, Cond.instanceMethod yX5_fallInAnHour, Cond.selects RX5 yX5_fallInAnHour yX5_fallInAnHour, Cond.code yX5_fallInAnHour cX5_fallInAnHour 2 (some .int), Cond.fieldLink RX5 25 "BottleShip" "masts" "[LBottleShip$Mast;", Cond.fieldLink RX5 123 "BottleShip$Mast" "yardCount" "I", Cond.methodLink RX5 208 yX5_isHeld, Cond.instanceMethod yX5_isHeld, Cond.selects RX5 yX5_isHeld yX5_isHeld, Cond.code yX5_isHeld cX5_isHeld 2 (some .boolean), Cond.methodLink RX5 302 yX5_threadsFrom, Cond.instanceMethod yX5_threadsFrom, Cond.selects RX5 yX5_threadsFrom yX5_threadsFrom]
def wsX5_falls_r2 : List Cond := [Cond.code yX5_threadsFrom cX5_threadsFrom 5 (some .int), Cond.fieldLink RX5 133 "BottleShip" "cordCount" "I", Cond.fieldLink RX5 31 "BottleShip" "cords" "[LBottleShip$Cord;", Cond.fieldLink RX5 138 "BottleShip$Cord" "mast" "I", Cond.fieldLink RX5 164 "BottleShip$Cord" "state" "I", Cond.methodLink RX5 211 yX5_looseThreadsFrom, Cond.instanceMethod yX5_looseThreadsFrom, Cond.selects RX5 yX5_looseThreadsFrom yX5_looseThreadsFrom, Cond.code yX5_looseThreadsFrom cX5_looseThreadsFrom 2 (some .int)]
def wsX5_falls : List Cond := .code yX5_falls cX5_falls 4 (some .int) :: ((wsX5_falls_r1 ++ wsX5_falls_r2) ++ wsX50 ++ wsX30 ++ wsX10)
def wsX5_mean : List Cond := .code yX5_mean cX5_mean 3 (some .double) :: ([.fieldLink RX5 89 "BottleShip" "mastCount" "I", .fieldLink RX5 42 "BottleShip" "leans" "[I"] ++ wsX50)
def wsX5_digest_r1 : List Cond := [Cond.constantLong RX5 279 (823), Cond.constantLong RX5 281 (31), Cond.fieldLink RX5 19 "BottleShip" "hull" "LBottleShip$Hull;", Cond.fieldLink RX5 10 "BottleShip" "bottle" "LBottleShip$Bottle;", Cond.fieldLink RX5 89 "BottleShip" "mastCount" "I", Cond.fieldLink RX5 25 "BottleShip" "masts" "[LBottleShip$Mast;", Cond.fieldLink RX5 133 "BottleShip" "cordCount" "I", Cond.methodLink RX5 283 yX5_count, Cond.instanceMethod yX5_count, Cond.selects RX5 yX5_count yX5_count, Cond.initialized RX5, Cond.code yX5_count cX5_count 2 (some .int), Cond.classLink RX5 116 "java/lang/IndexOutOfBoundsException", Cond.initialized "java/lang/IndexOutOfBoundsException", Cond.fieldLink RX5 234 "BottleShip" "hour" "I", Cond.fieldLink RX5 179 "BottleShip" "pullsDone" "I", Cond.fieldLink RX5 173 "BottleShip" "pullsNotDone" "I", Cond.methodLink RX5 237 yX5_mastsLeaning, Cond.instanceMethod yX5_mastsLeaning, Cond.selects RX5 yX5_mastsLeaning yX5_mastsLeaning, Cond.code yX5_mastsLeaning cX5_mastsLeaning 4 (some .int), Cond.fieldLink RX5 42 "BottleShip" "leans" "[I", Cond.methodLink RX5 240 yX5_threadsThatAre, Cond.instanceMethod yX5_threadsThatAre]
def wsX5_digest_r2 : List Cond := [Cond.selects RX5 yX5_threadsThatAre yX5_threadsThatAre, Cond.code yX5_threadsThatAre cX5_threadsThatAre 4 (some .int), Cond.fieldLink RX5 31 "BottleShip" "cords" "[LBottleShip$Cord;", Cond.fieldLink RX5 164 "BottleShip$Cord" "state" "I", Cond.methodLink RX5 286 yX5_ship, Cond.instanceMethod yX5_ship, Cond.selects RX5 yX5_ship yX5_ship, Cond.code yX5_ship cX5_ship 2 (some .int), Cond.fieldLink RX5 65 "BottleShip" "inside" "Z", Cond.methodLink RX5 221 yX5_breadth, Cond.instanceMethod yX5_breadth, Cond.selects RX5 yX5_breadth yX5_breadth, Cond.code yX5_breadth cX5_breadth 3 (some .int), Cond.fieldLink RX5 98 "BottleShip$Hull" "width" "I", Cond.methodLink RX5 276 Lib.Math.max.name, Cond.static Lib.Math.max.name, Cond.initialized "java/lang/Math", Cond.code Lib.Math.max.name Lib.Math.max.code 2 (some .int), Cond.methodLink RX5 305 yX3_widestYard, Cond.instanceMethod yX3_widestYard, Cond.selects RX3 yX3_widestYard yX3_widestYard, Cond.initialized RX3, Cond.code yX3_widestYard cX3_widestYard 3 (some .int), Cond.fieldLink RX3 19 "BottleShip$Mast" "yardCount" "I"]
def wsX5_digest_r3 : List Cond := [Cond.fieldLink RX3 9 "BottleShip$Mast" "yards" "[I", Cond.methodLink RX3 22 Lib.Math.max.name, Cond.methodLink RX5 225 yX5_topWith, Cond.instanceMethod yX5_topWith, Cond.selects RX5 yX5_topWith yX5_topWith, Cond.code yX5_topWith cX5_topWith 4 (some .int), Cond.fieldLink RX5 95 "BottleShip$Hull" "height" "I", Cond.methodLink RX5 202 yX3_standing, Cond.instanceMethod yX3_standing, Cond.selects RX3 yX3_standing yX3_standing, Cond.code yX3_standing cX3_standing 2 (some .int), Cond.fieldLink RX3 15 "BottleShip$Mast" "height" "I", Cond.methodLink RX5 229 yX5_endWith, Cond.instanceMethod yX5_endWith, Cond.selects RX5 yX5_endWith yX5_endWith, Cond.code yX5_endWith cX5_endWith 4 (some .int), Cond.fieldLink RX5 94 "BottleShip$Hull" "length" "I", Cond.fieldLink RX5 109 "BottleShip$Mast" "place" "I", Cond.methodLink RX5 205 yX3_reach, Cond.instanceMethod yX3_reach, Cond.selects RX3 yX3_reach yX3_reach, Cond.code yX3_reach cX3_reach 2 (some .int), Cond.methodLink RX5 151 yX5_goesThroughNeck, Cond.instanceMethod yX5_goesThroughNeck]
def wsX5_digest_r4 : List Cond := [Cond.selects RX5 yX5_goesThroughNeck yX5_goesThroughNeck, Cond.code yX5_goesThroughNeck cX5_goesThroughNeck 1 (some .boolean), Cond.fieldLink RX5 74 "BottleShip$Bottle" "neck" "I", Cond.methodLink RX5 155 yX5_fitsWith, Cond.instanceMethod yX5_fitsWith, Cond.selects RX5 yX5_fitsWith yX5_fitsWith, Cond.code yX5_fitsWith cX5_fitsWith 2 (some .boolean), Cond.fieldLink RX5 81 "BottleShip$Bottle" "length" "I", Cond.fieldLink RX5 84 "BottleShip$Bottle" "putty" "I", Cond.fieldLink RX5 78 "BottleShip$Bottle" "high" "I", Cond.methodLink RX5 289 yX0_digestOnto, Cond.instanceMethod yX0_digestOnto, Cond.selects RX0 yX0_digestOnto yX0_digestOnto, Cond.initialized RX0, Cond.code yX0_digestOnto cX0_digestOnto 3 (some .long), Cond.constantLong RX0 22 (31), Cond.fieldLink RX0 7 "BottleShip$Bottle" "neck" "I", Cond.fieldLink RX0 13 "BottleShip$Bottle" "high" "I", Cond.fieldLink RX0 16 "BottleShip$Bottle" "length" "I", Cond.fieldLink RX0 19 "BottleShip$Bottle" "putty" "I", Cond.methodLink RX5 293 yX2_digestOnto, Cond.instanceMethod yX2_digestOnto, Cond.selects RX2 yX2_digestOnto yX2_digestOnto, Cond.initialized RX2]
def wsX5_digest_r5 : List Cond := [Cond.code yX2_digestOnto cX2_digestOnto 3 (some .long), Cond.constantLong RX2 19 (31), Cond.fieldLink RX2 7 "BottleShip$Hull" "length" "I", Cond.fieldLink RX2 13 "BottleShip$Hull" "height" "I", Cond.fieldLink RX2 16 "BottleShip$Hull" "width" "I", Cond.methodLink RX5 294 yX5_mast, Cond.instanceMethod yX5_mast, Cond.selects RX5 yX5_mast yX5_mast, Cond.code yX5_mast cX5_mast 3 (some .int), Cond.fieldLink RX5 112 "BottleShip$Mast" "height" "I", Cond.fieldLink RX5 123 "BottleShip$Mast" "yardCount" "I", Cond.methodLink RX5 113 yX5_isMast, Cond.instanceMethod yX5_isMast, Cond.selects RX5 yX5_isMast yX5_isMast, Cond.code yX5_isMast cX5_isMast 2 (some .boolean), Cond.methodLink RX5 208 yX5_isHeld, Cond.instanceMethod yX5_isHeld, Cond.selects RX5 yX5_isHeld yX5_isHeld, Cond.code yX5_isHeld cX5_isHeld 2 (some .boolean), Cond.methodLink RX5 302 yX5_threadsFrom, Cond.instanceMethod yX5_threadsFrom, Cond.selects RX5 yX5_threadsFrom yX5_threadsFrom, Cond.code yX5_threadsFrom cX5_threadsFrom 5 (some .int), Cond.fieldLink RX5 138 "BottleShip$Cord" "mast" "I"]
def wsX5_digest_r6 : List Cond := [Cond.methodLink RX5 211 yX5_looseThreadsFrom, Cond.instanceMethod yX5_looseThreadsFrom, Cond.selects RX5 yX5_looseThreadsFrom yX5_looseThreadsFrom, Cond.code yX5_looseThreadsFrom cX5_looseThreadsFrom 2 (some .int), Cond.methodLink RX5 296 yX3_digestYardsOnto, Cond.instanceMethod yX3_digestYardsOnto, Cond.selects RX3 yX3_digestYardsOnto yX3_digestYardsOnto, Cond.code yX3_digestYardsOnto cX3_digestYardsOnto 6 (some .long), Cond.constantLong RX3 28 (31), Cond.methodLink RX5 299 yX5_thread, Cond.instanceMethod yX5_thread, Cond.selects RX5 yX5_thread yX5_thread, Cond.code yX5_thread cX5_thread 4 (some .int), Cond.fieldLink RX5 141 "BottleShip$Cord" "to" "I", Cond.fieldLink RX5 144 "BottleShip$Cord" "strength" "I", Cond.methodLink RX5 159 yX5_isThread, Cond.instanceMethod yX5_isThread, Cond.selects RX5 yX5_isThread yX5_isThread, Cond.code yX5_isThread cX5_isThread 2 (some .boolean), Cond.methodLink RX5 216 yX5_crossingsOf, Cond.instanceMethod yX5_crossingsOf, Cond.selects RX5 yX5_crossingsOf yX5_crossingsOf, Cond.code yX5_crossingsOf cX5_crossingsOf 4 (some .int), Cond.methodLink RX5 198 yX1_crosses]
def wsX5_digest_r7 : List Cond := [Cond.instanceMethod yX1_crosses, Cond.selects RX1 yX1_crosses yX1_crosses, Cond.initialized RX1, Cond.code yX1_crosses cX1_crosses 2 (some .boolean), Cond.fieldLink RX1 27 "BottleShip$Cord" "state" "I", Cond.fieldLink RX1 15 "BottleShip$Cord" "lesserPlace" "I", Cond.methodLink RX1 21 Lib.Math.max.name, Cond.fieldLink RX1 24 "BottleShip$Cord" "greaterPlace" "I", Cond.methodLink RX1 9 Lib.Math.min.name, Cond.static Lib.Math.min.name, Cond.code Lib.Math.min.name Lib.Math.min.code 2 (some .int)]
def wsX5_digest : List Cond := .code yX5_digest cX5_digest 5 (some .long) :: ((wsX5_digest_r1 ++ (wsX5_digest_r2 ++ (wsX5_digest_r3 ++ (wsX5_digest_r4 ++ (wsX5_digest_r5 ++ (wsX5_digest_r6 ++ wsX5_digest_r7)))))) ++ wsX50 ++ wsX10 ++ wsX20 ++ wsX30 ++ wsX00 ++ (vx_atS RX5 120 "java/lang/IndexOutOfBoundsException" ["java/lang/RuntimeException", "java/lang/Exception"]).filter goodWord)
def wsX6_init : List Cond := .code yX6_init cX6_init 1 none :: ([.methodLink RX6 1 objectInit, .instanceMethod objectInit, .code objectInit ⟨#[0xb1]⟩ 1 none, .fieldLink RX6 7 "BottleShipModel" "neck" "I", .fieldLink RX6 13 "BottleShipModel" "high" "I", .fieldLink RX6 16 "BottleShipModel" "room" "I", .fieldLink RX6 19 "BottleShipModel" "length" "I", .fieldLink RX6 22 "BottleShipModel" "height" "I", .fieldLink RX6 25 "BottleShipModel" "width" "I", .arrayClass .int, .fieldLink RX6 28 "BottleShipModel" "place" "[I", .fieldLink RX6 32 "BottleShipModel" "tall" "[I", .fieldLink RX6 35 "BottleShipModel" "yards" "[I", .fieldLink RX6 38 "BottleShipModel" "wide" "[I", .fieldLink RX6 41 "BottleShipModel" "from" "[I", .fieldLink RX6 44 "BottleShipModel" "to" "[I", .fieldLink RX6 47 "BottleShipModel" "strength" "[I", .fieldLink RX6 50 "BottleShipModel" "state" "[I", .fieldLink RX6 53 "BottleShipModel" "pulls" "[I", .fieldLink RX6 56 "BottleShipModel" "row" "[I"] ++ wsX60)
def wsX6_thrown : List Cond := .code yX6_thrown cX6_thrown 1 (some .int) :: ([.fieldLink RX6 59 "BottleShipModel" "thrown" "I"] ++ wsX60)
def wsX6_no : List Cond := .code yX6_no cX6_no 2 (some .int) :: ([.fieldLink RX6 59 "BottleShipModel" "thrown" "I"] ++ wsX60)
def wsX6_isBetween : List Cond := .code yX6_isBetween cX6_isBetween 3 (some .boolean) :: ([])
def wsX6_isMast : List Cond := .code yX6_isMast cX6_isMast 2 (some .boolean) :: ([.fieldLink RX6 62 "BottleShipModel" "masts" "I", .methodLink RX6 65 yX6_isBetween, .static yX6_isBetween, .initialized RX6, .code yX6_isBetween cX6_isBetween 3 (some .boolean)] ++ wsX60)
def wsX6_isThread : List Cond := .code yX6_isThread cX6_isThread 2 (some .boolean) :: ([.fieldLink RX6 69 "BottleShipModel" "threads" "I", .methodLink RX6 65 yX6_isBetween, .static yX6_isBetween, .initialized RX6, .code yX6_isBetween cX6_isBetween 3 (some .boolean)] ++ wsX60)
def wsX6_unit : List Cond := .code yX6_unit cX6_unit 1 (some .int) :: ([])
def wsX6_lean : List Cond := .code yX6_lean cX6_lean 2 (some .int) :: ([.methodLink RX6 72 yX6_unit, .static yX6_unit, .initialized RX6, .code yX6_unit cX6_unit 1 (some .int)])
def wsX6_stands : List Cond := .code yX6_stands cX6_stands 3 (some .int) :: ([.fieldLink RX6 32 "BottleShipModel" "tall" "[I", .methodLink RX6 76 yX6_lean, .static yX6_lean, .initialized RX6, .code yX6_lean cX6_lean 2 (some .int), .methodLink RX6 72 yX6_unit, .static yX6_unit, .code yX6_unit cX6_unit 1 (some .int)] ++ wsX60)
def wsX6_reach : List Cond := .code yX6_reach cX6_reach 3 (some .int) :: ([.fieldLink RX6 32 "BottleShipModel" "tall" "[I", .methodLink RX6 76 yX6_lean, .static yX6_lean, .initialized RX6, .code yX6_lean cX6_lean 2 (some .int), .methodLink RX6 72 yX6_unit, .static yX6_unit, .code yX6_unit cX6_unit 1 (some .int)] ++ wsX60)
def wsX6_top : List Cond := .code yX6_top cX6_top 4 (some .int) :: ([.fieldLink RX6 62 "BottleShipModel" "masts" "I", .methodLink RX6 83 Lib.Math.max.name, .static Lib.Math.max.name, .initialized "java/lang/Math", .code Lib.Math.max.name Lib.Math.max.code 2 (some .int), .fieldLink RX6 22 "BottleShipModel" "height" "I", .methodLink RX6 80 yX6_stands, .instanceMethod yX6_stands, .selects RX6 yX6_stands yX6_stands, .initialized RX6, .code yX6_stands cX6_stands 3 (some .int), .fieldLink RX6 32 "BottleShipModel" "tall" "[I", .methodLink RX6 76 yX6_lean, .static yX6_lean, .code yX6_lean cX6_lean 2 (some .int), .methodLink RX6 72 yX6_unit, .static yX6_unit, .code yX6_unit cX6_unit 1 (some .int)] ++ wsX60)
def wsX6_end : List Cond := .code yX6_end cX6_end 4 (some .int) :: ([.fieldLink RX6 19 "BottleShipModel" "length" "I", .fieldLink RX6 62 "BottleShipModel" "masts" "I", .fieldLink RX6 28 "BottleShipModel" "place" "[I", .methodLink RX6 83 Lib.Math.max.name, .static Lib.Math.max.name, .initialized "java/lang/Math", .code Lib.Math.max.name Lib.Math.max.code 2 (some .int), .methodLink RX6 88 yX6_reach, .instanceMethod yX6_reach, .selects RX6 yX6_reach yX6_reach, .initialized RX6, .code yX6_reach cX6_reach 3 (some .int), .fieldLink RX6 32 "BottleShipModel" "tall" "[I", .methodLink RX6 76 yX6_lean, .static yX6_lean, .code yX6_lean cX6_lean 2 (some .int), .methodLink RX6 72 yX6_unit, .static yX6_unit, .code yX6_unit cX6_unit 1 (some .int)] ++ wsX60)
def wsX6_breadth : List Cond := .code yX6_breadth cX6_breadth 5 (some .int) :: ([.fieldLink RX6 25 "BottleShipModel" "width" "I", .fieldLink RX6 62 "BottleShipModel" "masts" "I", .fieldLink RX6 35 "BottleShipModel" "yards" "[I", .fieldLink RX6 38 "BottleShipModel" "wide" "[I", .methodLink RX6 83 Lib.Math.max.name, .static Lib.Math.max.name, .initialized "java/lang/Math", .code Lib.Math.max.name Lib.Math.max.code 2 (some .int), .methodLink RX6 76 yX6_lean, .static yX6_lean, .initialized RX6, .code yX6_lean cX6_lean 2 (some .int), .methodLink RX6 72 yX6_unit, .static yX6_unit, .code yX6_unit cX6_unit 1 (some .int)] ++ wsX60)
def wsX6_goesThrough_r1 : List Cond := [Cond.fieldLink RX6 91 "BottleShipModel" "leans" "I", Cond.fieldLink RX6 7 "BottleShipModel" "neck" "I", Cond.methodLink RX6 94 yX6_breadth, Cond.instanceMethod yX6_breadth, Cond.selects RX6 yX6_breadth yX6_breadth, Cond.initialized RX6, Cond.code yX6_breadth cX6_breadth 5 (some .int), Cond.fieldLink RX6 25 "BottleShipModel" "width" "I", Cond.fieldLink RX6 62 "BottleShipModel" "masts" "I", Cond.fieldLink RX6 35 "BottleShipModel" "yards" "[I", Cond.fieldLink RX6 38 "BottleShipModel" "wide" "[I", Cond.methodLink RX6 83 Lib.Math.max.name, Cond.static Lib.Math.max.name, Cond.initialized "java/lang/Math", Cond.code Lib.Math.max.name Lib.Math.max.code 2 (some .int), Cond.methodLink RX6 76 yX6_lean, Cond.static yX6_lean, Cond.code yX6_lean cX6_lean 2 (some .int), Cond.methodLink RX6 72 yX6_unit, Cond.static yX6_unit, Cond.code yX6_unit cX6_unit 1 (some .int), Cond.methodLink RX6 97 yX6_top, Cond.instanceMethod yX6_top, Cond.selects RX6 yX6_top yX6_top]
def wsX6_goesThrough_r2 : List Cond := [Cond.code yX6_top cX6_top 4 (some .int), Cond.fieldLink RX6 22 "BottleShipModel" "height" "I", Cond.methodLink RX6 80 yX6_stands, Cond.instanceMethod yX6_stands, Cond.selects RX6 yX6_stands yX6_stands, Cond.code yX6_stands cX6_stands 3 (some .int), Cond.fieldLink RX6 32 "BottleShipModel" "tall" "[I"]
def wsX6_goesThrough : List Cond := .code yX6_goesThrough cX6_goesThrough 1 (some .boolean) :: ((wsX6_goesThrough_r1 ++ wsX6_goesThrough_r2) ++ wsX60)
def wsX6_fits_r1 : List Cond := [Cond.fieldLink RX6 16 "BottleShipModel" "room" "I", Cond.fieldLink RX6 103 "BottleShipModel" "putty" "I", Cond.fieldLink RX6 13 "BottleShipModel" "high" "I", Cond.methodLink RX6 100 yX6_end, Cond.instanceMethod yX6_end, Cond.selects RX6 yX6_end yX6_end, Cond.initialized RX6, Cond.code yX6_end cX6_end 4 (some .int), Cond.fieldLink RX6 19 "BottleShipModel" "length" "I", Cond.fieldLink RX6 62 "BottleShipModel" "masts" "I", Cond.fieldLink RX6 28 "BottleShipModel" "place" "[I", Cond.methodLink RX6 83 Lib.Math.max.name, Cond.static Lib.Math.max.name, Cond.initialized "java/lang/Math", Cond.code Lib.Math.max.name Lib.Math.max.code 2 (some .int), Cond.methodLink RX6 88 yX6_reach, Cond.instanceMethod yX6_reach, Cond.selects RX6 yX6_reach yX6_reach, Cond.code yX6_reach cX6_reach 3 (some .int), Cond.fieldLink RX6 32 "BottleShipModel" "tall" "[I", Cond.methodLink RX6 76 yX6_lean, Cond.static yX6_lean, Cond.code yX6_lean cX6_lean 2 (some .int), Cond.methodLink RX6 72 yX6_unit]
def wsX6_fits_r2 : List Cond := [Cond.static yX6_unit, Cond.code yX6_unit cX6_unit 1 (some .int), Cond.methodLink RX6 97 yX6_top, Cond.instanceMethod yX6_top, Cond.selects RX6 yX6_top yX6_top, Cond.code yX6_top cX6_top 4 (some .int), Cond.fieldLink RX6 22 "BottleShipModel" "height" "I", Cond.methodLink RX6 80 yX6_stands, Cond.instanceMethod yX6_stands, Cond.selects RX6 yX6_stands yX6_stands, Cond.code yX6_stands cX6_stands 3 (some .int)]
def wsX6_fits : List Cond := .code yX6_fits cX6_fits 2 (some .boolean) :: ((wsX6_fits_r1 ++ wsX6_fits_r2) ++ wsX60)
def wsX6_isHeld : List Cond := .code yX6_isHeld cX6_isHeld 3 (some .boolean) :: ([.fieldLink RX6 69 "BottleShipModel" "threads" "I", .fieldLink RX6 41 "BottleShipModel" "from" "[I", .fieldLink RX6 50 "BottleShipModel" "state" "[I"] ++ wsX60)
def wsX6_loose : List Cond := .code yX6_loose cX6_loose 4 (some .int) :: ([.fieldLink RX6 69 "BottleShipModel" "threads" "I", .fieldLink RX6 41 "BottleShipModel" "from" "[I", .fieldLink RX6 50 "BottleShipModel" "state" "[I"] ++ wsX60)
def wsX6_placeOf : List Cond := .code yX6_placeOf cX6_placeOf 2 (some .int) :: ([.fieldLink RX6 28 "BottleShipModel" "place" "[I"] ++ wsX60)
def wsX6_crosses : List Cond := .code yX6_crosses cX6_crosses 5 (some .boolean) :: ([.fieldLink RX6 50 "BottleShipModel" "state" "[I", .fieldLink RX6 41 "BottleShipModel" "from" "[I", .fieldLink RX6 44 "BottleShipModel" "to" "[I", .methodLink RX6 109 Lib.Math.min.name, .static Lib.Math.min.name, .initialized "java/lang/Math", .code Lib.Math.min.name Lib.Math.min.code 2 (some .int), .methodLink RX6 83 Lib.Math.max.name, .static Lib.Math.max.name, .code Lib.Math.max.name Lib.Math.max.code 2 (some .int), .methodLink RX6 106 yX6_placeOf, .instanceMethod yX6_placeOf, .selects RX6 yX6_placeOf yX6_placeOf, .initialized RX6, .code yX6_placeOf cX6_placeOf 2 (some .int), .fieldLink RX6 28 "BottleShipModel" "place" "[I"] ++ wsX60)
def wsX6_leads : List Cond := .code yX6_leads cX6_leads 4 (some .boolean) :: ([.fieldLink RX6 69 "BottleShipModel" "threads" "I", .fieldLink RX6 41 "BottleShipModel" "from" "[I", .fieldLink RX6 44 "BottleShipModel" "to" "[I", .fieldLink RX6 50 "BottleShipModel" "state" "[I"] ++ wsX60)
def wsX6_behind_r1 : List Cond := [Cond.fieldLink RX6 41 "BottleShipModel" "from" "[I", Cond.fieldLink RX6 69 "BottleShipModel" "threads" "I", Cond.fieldLink RX6 50 "BottleShipModel" "state" "[I", Cond.fieldLink RX6 47 "BottleShipModel" "strength" "[I", Cond.fieldLink RX6 62 "BottleShipModel" "masts" "I", Cond.fieldLink RX6 123 "BottleShipModel" "isIn" "Z", Cond.methodLink RX6 76 yX6_lean, Cond.static yX6_lean, Cond.initialized RX6, Cond.code yX6_lean cX6_lean 2 (some .int), Cond.methodLink RX6 72 yX6_unit, Cond.static yX6_unit, Cond.code yX6_unit cX6_unit 1 (some .int), Cond.methodLink RX6 112 yX6_isHeld, Cond.instanceMethod yX6_isHeld, Cond.selects RX6 yX6_isHeld yX6_isHeld, Cond.code yX6_isHeld cX6_isHeld 3 (some .boolean), Cond.methodLink RX6 116 yX6_crosses, Cond.instanceMethod yX6_crosses, Cond.selects RX6 yX6_crosses yX6_crosses, Cond.code yX6_crosses cX6_crosses 5 (some .boolean), Cond.fieldLink RX6 44 "BottleShipModel" "to" "[I", Cond.methodLink RX6 109 Lib.Math.min.name, Cond.static Lib.Math.min.name]
def wsX6_behind_r2 : List Cond := [Cond.initialized "java/lang/Math", Cond.code Lib.Math.min.name Lib.Math.min.code 2 (some .int), Cond.methodLink RX6 83 Lib.Math.max.name, Cond.static Lib.Math.max.name, Cond.code Lib.Math.max.name Lib.Math.max.code 2 (some .int), Cond.methodLink RX6 106 yX6_placeOf, Cond.instanceMethod yX6_placeOf, Cond.selects RX6 yX6_placeOf yX6_placeOf, Cond.code yX6_placeOf cX6_placeOf 2 (some .int), Cond.fieldLink RX6 28 "BottleShipModel" "place" "[I", Cond.methodLink RX6 120 yX6_leads, Cond.instanceMethod yX6_leads, Cond.selects RX6 yX6_leads yX6_leads, Cond.code yX6_leads cX6_leads 4 (some .boolean), Cond.methodLink RX6 127 yX6_fits, Cond.instanceMethod yX6_fits, Cond.selects RX6 yX6_fits yX6_fits, Cond.code yX6_fits cX6_fits 2 (some .boolean), Cond.fieldLink RX6 16 "BottleShipModel" "room" "I", Cond.fieldLink RX6 103 "BottleShipModel" "putty" "I", Cond.fieldLink RX6 13 "BottleShipModel" "high" "I", Cond.methodLink RX6 100 yX6_end, Cond.instanceMethod yX6_end, Cond.selects RX6 yX6_end yX6_end]
def wsX6_behind_r3 : List Cond := [Cond.code yX6_end cX6_end 4 (some .int), Cond.fieldLink RX6 19 "BottleShipModel" "length" "I", Cond.methodLink RX6 88 yX6_reach, Cond.instanceMethod yX6_reach, Cond.selects RX6 yX6_reach yX6_reach, Cond.code yX6_reach cX6_reach 3 (some .int), Cond.fieldLink RX6 32 "BottleShipModel" "tall" "[I", Cond.methodLink RX6 97 yX6_top, Cond.instanceMethod yX6_top, Cond.selects RX6 yX6_top yX6_top, Cond.code yX6_top cX6_top 4 (some .int), Cond.fieldLink RX6 22 "BottleShipModel" "height" "I", Cond.methodLink RX6 80 yX6_stands, Cond.instanceMethod yX6_stands, Cond.selects RX6 yX6_stands yX6_stands, Cond.code yX6_stands cX6_stands 3 (some .int)]
def wsX6_behind : List Cond := .code yX6_behind cX6_behind 6 (some .int) :: ((wsX6_behind_r1 ++ (wsX6_behind_r2 ++ wsX6_behind_r3)) ++ wsX60)
def wsX6_setBottle : List Cond := .code yX6_setBottle cX6_setBottle 6 (some .int) :: ([.fieldLink RX6 59 "BottleShipModel" "thrown" "I", .fieldLink RX6 123 "BottleShipModel" "isIn" "Z", .fieldLink RX6 7 "BottleShipModel" "neck" "I", .fieldLink RX6 13 "BottleShipModel" "high" "I", .fieldLink RX6 16 "BottleShipModel" "room" "I", .fieldLink RX6 103 "BottleShipModel" "putty" "I", .methodLink RX6 65 yX6_isBetween, .static yX6_isBetween, .initialized RX6, .code yX6_isBetween cX6_isBetween 3 (some .boolean), .methodLink RX6 130 yX6_no, .instanceMethod yX6_no, .selects RX6 yX6_no yX6_no, .code yX6_no cX6_no 2 (some .int)] ++ wsX60)
def wsX6_setHull : List Cond := .code yX6_setHull cX6_setHull 5 (some .int) :: ([.fieldLink RX6 59 "BottleShipModel" "thrown" "I", .fieldLink RX6 62 "BottleShipModel" "masts" "I", .fieldLink RX6 123 "BottleShipModel" "isIn" "Z", .fieldLink RX6 19 "BottleShipModel" "length" "I", .fieldLink RX6 22 "BottleShipModel" "height" "I", .fieldLink RX6 25 "BottleShipModel" "width" "I", .methodLink RX6 65 yX6_isBetween, .static yX6_isBetween, .initialized RX6, .code yX6_isBetween cX6_isBetween 3 (some .boolean), .methodLink RX6 130 yX6_no, .instanceMethod yX6_no, .selects RX6 yX6_no yX6_no, .code yX6_no cX6_no 2 (some .int)] ++ wsX60)
def wsX6_step : List Cond := .code yX6_step cX6_step 5 (some .int) :: ([.fieldLink RX6 59 "BottleShipModel" "thrown" "I", .fieldLink RX6 19 "BottleShipModel" "length" "I", .fieldLink RX6 123 "BottleShipModel" "isIn" "Z", .fieldLink RX6 62 "BottleShipModel" "masts" "I", .fieldLink RX6 28 "BottleShipModel" "place" "[I", .fieldLink RX6 32 "BottleShipModel" "tall" "[I", .fieldLink RX6 91 "BottleShipModel" "leans" "I", .methodLink RX6 65 yX6_isBetween, .static yX6_isBetween, .initialized RX6, .code yX6_isBetween cX6_isBetween 3 (some .boolean), .methodLink RX6 130 yX6_no, .instanceMethod yX6_no, .selects RX6 yX6_no yX6_no, .code yX6_no cX6_no 2 (some .int), .methodLink RX6 72 yX6_unit, .static yX6_unit, .code yX6_unit cX6_unit 1 (some .int)] ++ wsX60)
def wsX6_yard : List Cond := .code yX6_yard cX6_yard 3 (some .int) :: ([.fieldLink RX6 59 "BottleShipModel" "thrown" "I", .fieldLink RX6 123 "BottleShipModel" "isIn" "Z", .fieldLink RX6 35 "BottleShipModel" "yards" "[I", .fieldLink RX6 38 "BottleShipModel" "wide" "[I", .methodLink RX6 133 yX6_isMast, .instanceMethod yX6_isMast, .selects RX6 yX6_isMast yX6_isMast, .initialized RX6, .code yX6_isMast cX6_isMast 2 (some .boolean), .fieldLink RX6 62 "BottleShipModel" "masts" "I", .methodLink RX6 65 yX6_isBetween, .static yX6_isBetween, .code yX6_isBetween cX6_isBetween 3 (some .boolean), .methodLink RX6 130 yX6_no, .instanceMethod yX6_no, .selects RX6 yX6_no yX6_no, .code yX6_no cX6_no 2 (some .int)] ++ wsX60)
def wsX6_lead : List Cond := .code yX6_lead cX6_lead 4 (some .int) :: ([.fieldLink RX6 59 "BottleShipModel" "thrown" "I", .fieldLink RX6 69 "BottleShipModel" "threads" "I", .fieldLink RX6 41 "BottleShipModel" "from" "[I", .fieldLink RX6 44 "BottleShipModel" "to" "[I", .fieldLink RX6 47 "BottleShipModel" "strength" "[I", .methodLink RX6 133 yX6_isMast, .instanceMethod yX6_isMast, .selects RX6 yX6_isMast yX6_isMast, .initialized RX6, .code yX6_isMast cX6_isMast 2 (some .boolean), .fieldLink RX6 62 "BottleShipModel" "masts" "I", .methodLink RX6 65 yX6_isBetween, .static yX6_isBetween, .code yX6_isBetween cX6_isBetween 3 (some .boolean), .methodLink RX6 130 yX6_no, .instanceMethod yX6_no, .selects RX6 yX6_no yX6_no, .code yX6_no cX6_no 2 (some .int)] ++ wsX60)
def wsX6_enter_r1 : List Cond := [Cond.fieldLink RX6 59 "BottleShipModel" "thrown" "I", Cond.fieldLink RX6 123 "BottleShipModel" "isIn" "Z", Cond.fieldLink RX6 91 "BottleShipModel" "leans" "I", Cond.methodLink RX6 136 yX6_goesThrough, Cond.instanceMethod yX6_goesThrough, Cond.selects RX6 yX6_goesThrough yX6_goesThrough, Cond.initialized RX6, Cond.code yX6_goesThrough cX6_goesThrough 1 (some .boolean), Cond.fieldLink RX6 7 "BottleShipModel" "neck" "I", Cond.methodLink RX6 94 yX6_breadth, Cond.instanceMethod yX6_breadth, Cond.selects RX6 yX6_breadth yX6_breadth, Cond.code yX6_breadth cX6_breadth 5 (some .int), Cond.fieldLink RX6 25 "BottleShipModel" "width" "I", Cond.fieldLink RX6 62 "BottleShipModel" "masts" "I", Cond.fieldLink RX6 35 "BottleShipModel" "yards" "[I", Cond.fieldLink RX6 38 "BottleShipModel" "wide" "[I", Cond.methodLink RX6 83 Lib.Math.max.name, Cond.static Lib.Math.max.name, Cond.initialized "java/lang/Math", Cond.code Lib.Math.max.name Lib.Math.max.code 2 (some .int), Cond.methodLink RX6 76 yX6_lean, Cond.static yX6_lean, Cond.code yX6_lean cX6_lean 2 (some .int)]
def wsX6_enter_r2 : List Cond := [Cond.methodLink RX6 72 yX6_unit, Cond.static yX6_unit, Cond.code yX6_unit cX6_unit 1 (some .int), Cond.methodLink RX6 97 yX6_top, Cond.instanceMethod yX6_top, Cond.selects RX6 yX6_top yX6_top, Cond.code yX6_top cX6_top 4 (some .int), Cond.fieldLink RX6 22 "BottleShipModel" "height" "I", Cond.methodLink RX6 80 yX6_stands, Cond.instanceMethod yX6_stands, Cond.selects RX6 yX6_stands yX6_stands, Cond.code yX6_stands cX6_stands 3 (some .int), Cond.fieldLink RX6 32 "BottleShipModel" "tall" "[I", Cond.methodLink RX6 127 yX6_fits, Cond.instanceMethod yX6_fits, Cond.selects RX6 yX6_fits yX6_fits, Cond.code yX6_fits cX6_fits 2 (some .boolean), Cond.fieldLink RX6 16 "BottleShipModel" "room" "I", Cond.fieldLink RX6 103 "BottleShipModel" "putty" "I", Cond.fieldLink RX6 13 "BottleShipModel" "high" "I", Cond.methodLink RX6 100 yX6_end, Cond.instanceMethod yX6_end, Cond.selects RX6 yX6_end yX6_end, Cond.code yX6_end cX6_end 4 (some .int)]
def wsX6_enter_r3 : List Cond := [Cond.fieldLink RX6 19 "BottleShipModel" "length" "I", Cond.fieldLink RX6 28 "BottleShipModel" "place" "[I", Cond.methodLink RX6 88 yX6_reach, Cond.instanceMethod yX6_reach, Cond.selects RX6 yX6_reach yX6_reach, Cond.code yX6_reach cX6_reach 3 (some .int)]
def wsX6_enter : List Cond := .code yX6_enter cX6_enter 2 (some .boolean) :: ((wsX6_enter_r1 ++ (wsX6_enter_r2 ++ wsX6_enter_r3)) ++ wsX60)
def wsX6_leave_r1 : List Cond := [Cond.fieldLink RX6 59 "BottleShipModel" "thrown" "I", Cond.fieldLink RX6 123 "BottleShipModel" "isIn" "Z", Cond.methodLink RX6 136 yX6_goesThrough, Cond.instanceMethod yX6_goesThrough, Cond.selects RX6 yX6_goesThrough yX6_goesThrough, Cond.initialized RX6, Cond.code yX6_goesThrough cX6_goesThrough 1 (some .boolean), Cond.fieldLink RX6 91 "BottleShipModel" "leans" "I", Cond.fieldLink RX6 7 "BottleShipModel" "neck" "I", Cond.methodLink RX6 94 yX6_breadth, Cond.instanceMethod yX6_breadth, Cond.selects RX6 yX6_breadth yX6_breadth, Cond.code yX6_breadth cX6_breadth 5 (some .int), Cond.fieldLink RX6 25 "BottleShipModel" "width" "I", Cond.fieldLink RX6 62 "BottleShipModel" "masts" "I", Cond.fieldLink RX6 35 "BottleShipModel" "yards" "[I", Cond.fieldLink RX6 38 "BottleShipModel" "wide" "[I", Cond.methodLink RX6 83 Lib.Math.max.name, Cond.static Lib.Math.max.name, Cond.initialized "java/lang/Math", Cond.code Lib.Math.max.name Lib.Math.max.code 2 (some .int), Cond.methodLink RX6 76 yX6_lean, Cond.static yX6_lean, Cond.code yX6_lean cX6_lean 2 (some .int)]
def wsX6_leave_r2 : List Cond := [Cond.methodLink RX6 72 yX6_unit, Cond.static yX6_unit, Cond.code yX6_unit cX6_unit 1 (some .int), Cond.methodLink RX6 97 yX6_top, Cond.instanceMethod yX6_top, Cond.selects RX6 yX6_top yX6_top, Cond.code yX6_top cX6_top 4 (some .int), Cond.fieldLink RX6 22 "BottleShipModel" "height" "I", Cond.methodLink RX6 80 yX6_stands, Cond.instanceMethod yX6_stands, Cond.selects RX6 yX6_stands yX6_stands, Cond.code yX6_stands cX6_stands 3 (some .int), Cond.fieldLink RX6 32 "BottleShipModel" "tall" "[I"]
def wsX6_leave : List Cond := .code yX6_leave cX6_leave 2 (some .boolean) :: ((wsX6_leave_r1 ++ wsX6_leave_r2) ++ wsX60)
def wsX6_pull_r1 : List Cond := [Cond.fieldLink RX6 59 "BottleShipModel" "thrown" "I", Cond.fieldLink RX6 50 "BottleShipModel" "state" "[I", Cond.fieldLink RX6 91 "BottleShipModel" "leans" "I", Cond.fieldLink RX6 146 "BottleShipModel" "done" "I", Cond.fieldLink RX6 41 "BottleShipModel" "from" "[I", Cond.fieldLink RX6 149 "BottleShipModel" "refused" "I", Cond.fieldLink RX6 47 "BottleShipModel" "strength" "[I", Cond.methodLink RX6 140 yX6_isThread, Cond.instanceMethod yX6_isThread, Cond.selects RX6 yX6_isThread yX6_isThread, Cond.initialized RX6, Cond.code yX6_isThread cX6_isThread 2 (some .boolean), Cond.fieldLink RX6 69 "BottleShipModel" "threads" "I", Cond.methodLink RX6 65 yX6_isBetween, Cond.static yX6_isBetween, Cond.code yX6_isBetween cX6_isBetween 3 (some .boolean), Cond.methodLink RX6 130 yX6_no, Cond.instanceMethod yX6_no, Cond.selects RX6 yX6_no yX6_no, Cond.code yX6_no cX6_no 2 (some .int), Cond.methodLink RX6 143 yX6_behind, Cond.instanceMethod yX6_behind, Cond.selects RX6 yX6_behind yX6_behind, Cond.code yX6_behind cX6_behind 6 (some .int)]
def wsX6_pull_r2 : List Cond := [Cond.fieldLink RX6 62 "BottleShipModel" "masts" "I", Cond.fieldLink RX6 123 "BottleShipModel" "isIn" "Z", Cond.methodLink RX6 76 yX6_lean, Cond.static yX6_lean, Cond.code yX6_lean cX6_lean 2 (some .int), Cond.methodLink RX6 72 yX6_unit, Cond.static yX6_unit, Cond.code yX6_unit cX6_unit 1 (some .int), Cond.methodLink RX6 112 yX6_isHeld, Cond.instanceMethod yX6_isHeld, Cond.selects RX6 yX6_isHeld yX6_isHeld, Cond.code yX6_isHeld cX6_isHeld 3 (some .boolean), Cond.methodLink RX6 116 yX6_crosses, Cond.instanceMethod yX6_crosses, Cond.selects RX6 yX6_crosses yX6_crosses, Cond.code yX6_crosses cX6_crosses 5 (some .boolean), Cond.fieldLink RX6 44 "BottleShipModel" "to" "[I", Cond.methodLink RX6 109 Lib.Math.min.name, Cond.static Lib.Math.min.name, Cond.initialized "java/lang/Math", Cond.code Lib.Math.min.name Lib.Math.min.code 2 (some .int), Cond.methodLink RX6 83 Lib.Math.max.name, Cond.static Lib.Math.max.name, Cond.code Lib.Math.max.name Lib.Math.max.code 2 (some .int)]
def wsX6_pull_r3 : List Cond := [Cond.methodLink RX6 106 yX6_placeOf, Cond.instanceMethod yX6_placeOf, Cond.selects RX6 yX6_placeOf yX6_placeOf, Cond.code yX6_placeOf cX6_placeOf 2 (some .int), Cond.fieldLink RX6 28 "BottleShipModel" "place" "[I", Cond.methodLink RX6 120 yX6_leads, Cond.instanceMethod yX6_leads, Cond.selects RX6 yX6_leads yX6_leads, Cond.code yX6_leads cX6_leads 4 (some .boolean), Cond.methodLink RX6 127 yX6_fits, Cond.instanceMethod yX6_fits, Cond.selects RX6 yX6_fits yX6_fits, Cond.code yX6_fits cX6_fits 2 (some .boolean), Cond.fieldLink RX6 16 "BottleShipModel" "room" "I", Cond.fieldLink RX6 103 "BottleShipModel" "putty" "I", Cond.fieldLink RX6 13 "BottleShipModel" "high" "I", Cond.methodLink RX6 100 yX6_end, Cond.instanceMethod yX6_end, Cond.selects RX6 yX6_end yX6_end, Cond.code yX6_end cX6_end 4 (some .int), Cond.fieldLink RX6 19 "BottleShipModel" "length" "I", Cond.methodLink RX6 88 yX6_reach, Cond.instanceMethod yX6_reach, Cond.selects RX6 yX6_reach yX6_reach]
def wsX6_pull_r4 : List Cond := [Cond.code yX6_reach cX6_reach 3 (some .int), Cond.fieldLink RX6 32 "BottleShipModel" "tall" "[I", Cond.methodLink RX6 97 yX6_top, Cond.instanceMethod yX6_top, Cond.selects RX6 yX6_top yX6_top, Cond.code yX6_top cX6_top 4 (some .int), Cond.fieldLink RX6 22 "BottleShipModel" "height" "I", Cond.methodLink RX6 80 yX6_stands, Cond.instanceMethod yX6_stands, Cond.selects RX6 yX6_stands yX6_stands, Cond.code yX6_stands cX6_stands 3 (some .int)]
def wsX6_pull : List Cond := .code yX6_pull cX6_pull 3 (some .int) :: ((wsX6_pull_r1 ++ (wsX6_pull_r2 ++ (wsX6_pull_r3 ++ wsX6_pull_r4))) ++ wsX60)
def wsX6_glue : List Cond := .code yX6_glue cX6_glue 2 (some .int) :: ([.fieldLink RX6 59 "BottleShipModel" "thrown" "I", .fieldLink RX6 50 "BottleShipModel" "state" "[I", .methodLink RX6 140 yX6_isThread, .instanceMethod yX6_isThread, .selects RX6 yX6_isThread yX6_isThread, .initialized RX6, .code yX6_isThread cX6_isThread 2 (some .boolean), .fieldLink RX6 69 "BottleShipModel" "threads" "I", .methodLink RX6 65 yX6_isBetween, .static yX6_isBetween, .code yX6_isBetween cX6_isBetween 3 (some .boolean), .methodLink RX6 130 yX6_no, .instanceMethod yX6_no, .selects RX6 yX6_no yX6_no, .code yX6_no cX6_no 2 (some .int)] ++ wsX60)
def wsX6_cross_r1 : List Cond := [Cond.fieldLink RX6 59 "BottleShipModel" "thrown" "I", Cond.methodLink RX6 140 yX6_isThread, Cond.instanceMethod yX6_isThread, Cond.selects RX6 yX6_isThread yX6_isThread, Cond.initialized RX6, Cond.code yX6_isThread cX6_isThread 2 (some .boolean), Cond.fieldLink RX6 69 "BottleShipModel" "threads" "I", Cond.methodLink RX6 65 yX6_isBetween, Cond.static yX6_isBetween, Cond.code yX6_isBetween cX6_isBetween 3 (some .boolean), Cond.methodLink RX6 130 yX6_no, Cond.instanceMethod yX6_no, Cond.selects RX6 yX6_no yX6_no, Cond.code yX6_no cX6_no 2 (some .int), Cond.methodLink RX6 116 yX6_crosses, Cond.instanceMethod yX6_crosses, Cond.selects RX6 yX6_crosses yX6_crosses, Cond.code yX6_crosses cX6_crosses 5 (some .boolean), Cond.fieldLink RX6 50 "BottleShipModel" "state" "[I", Cond.fieldLink RX6 41 "BottleShipModel" "from" "[I", Cond.fieldLink RX6 44 "BottleShipModel" "to" "[I", Cond.methodLink RX6 109 Lib.Math.min.name, Cond.static Lib.Math.min.name, Cond.initialized "java/lang/Math"]
def wsX6_cross_r2 : List Cond := [Cond.code Lib.Math.min.name Lib.Math.min.code 2 (some .int), Cond.methodLink RX6 83 Lib.Math.max.name, Cond.static Lib.Math.max.name, Cond.code Lib.Math.max.name Lib.Math.max.code 2 (some .int), Cond.methodLink RX6 106 yX6_placeOf, Cond.instanceMethod yX6_placeOf, Cond.selects RX6 yX6_placeOf yX6_placeOf, Cond.code yX6_placeOf cX6_placeOf 2 (some .int), Cond.fieldLink RX6 28 "BottleShipModel" "place" "[I"]
def wsX6_cross : List Cond := .code yX6_cross cX6_cross 3 (some .boolean) :: ((wsX6_cross_r1 ++ wsX6_cross_r2) ++ wsX60)
def wsX6_mastTold_r1 : List Cond := [Cond.arrayClass .int, Cond.fieldLink RX6 28 "BottleShipModel" "place" "[I", Cond.fieldLink RX6 32 "BottleShipModel" "tall" "[I", Cond.fieldLink RX6 91 "BottleShipModel" "leans" "I", Cond.fieldLink RX6 35 "BottleShipModel" "yards" "[I", Cond.methodLink RX6 76 yX6_lean, Cond.static yX6_lean, Cond.initialized RX6, Cond.code yX6_lean cX6_lean 2 (some .int), Cond.methodLink RX6 72 yX6_unit, Cond.static yX6_unit, Cond.code yX6_unit cX6_unit 1 (some .int), Cond.methodLink RX6 80 yX6_stands, Cond.instanceMethod yX6_stands, Cond.selects RX6 yX6_stands yX6_stands, Cond.code yX6_stands cX6_stands 3 (some .int), Cond.methodLink RX6 88 yX6_reach, Cond.instanceMethod yX6_reach, Cond.selects RX6 yX6_reach yX6_reach, Cond.code yX6_reach cX6_reach 3 (some .int), Cond.methodLink RX6 112 yX6_isHeld, Cond.instanceMethod yX6_isHeld, Cond.selects RX6 yX6_isHeld yX6_isHeld, Cond.code yX6_isHeld cX6_isHeld 3 (some .boolean)]
def wsX6_mastTold_r2 : List Cond := [Cond.fieldLink RX6 69 "BottleShipModel" "threads" "I", Cond.fieldLink RX6 41 "BottleShipModel" "from" "[I", Cond.fieldLink RX6 50 "BottleShipModel" "state" "[I", Cond.methodLink RX6 152 yX6_loose, Cond.instanceMethod yX6_loose, Cond.selects RX6 yX6_loose yX6_loose, Cond.code yX6_loose cX6_loose 4 (some .int)]
def wsX6_mastTold : List Cond := .code yX6_mastTold cX6_mastTold 4 (some .int) :: ((wsX6_mastTold_r1 ++ wsX6_mastTold_r2) ++ wsX60)
def wsX6_mast_r1 : List Cond := [Cond.fieldLink RX6 59 "BottleShipModel" "thrown" "I", Cond.methodLink RX6 133 yX6_isMast, Cond.instanceMethod yX6_isMast, Cond.selects RX6 yX6_isMast yX6_isMast, Cond.initialized RX6, Cond.code yX6_isMast cX6_isMast 2 (some .boolean), Cond.fieldLink RX6 62 "BottleShipModel" "masts" "I", Cond.methodLink RX6 65 yX6_isBetween, Cond.static yX6_isBetween, Cond.code yX6_isBetween cX6_isBetween 3 (some .boolean), Cond.methodLink RX6 155 yX6_mastTold, Cond.instanceMethod yX6_mastTold, Cond.selects RX6 yX6_mastTold yX6_mastTold, Cond.code yX6_mastTold cX6_mastTold 4 (some .int), Cond.arrayClass .int, Cond.fieldLink RX6 28 "BottleShipModel" "place" "[I", Cond.fieldLink RX6 32 "BottleShipModel" "tall" "[I", Cond.fieldLink RX6 91 "BottleShipModel" "leans" "I", Cond.fieldLink RX6 35 "BottleShipModel" "yards" "[I", Cond.methodLink RX6 76 yX6_lean, Cond.static yX6_lean, Cond.code yX6_lean cX6_lean 2 (some .int), Cond.methodLink RX6 72 yX6_unit, Cond.static yX6_unit]
def wsX6_mast_r2 : List Cond := [Cond.code yX6_unit cX6_unit 1 (some .int), Cond.methodLink RX6 80 yX6_stands, Cond.instanceMethod yX6_stands, Cond.selects RX6 yX6_stands yX6_stands, Cond.code yX6_stands cX6_stands 3 (some .int), Cond.methodLink RX6 88 yX6_reach, Cond.instanceMethod yX6_reach, Cond.selects RX6 yX6_reach yX6_reach, Cond.code yX6_reach cX6_reach 3 (some .int), Cond.methodLink RX6 112 yX6_isHeld, Cond.instanceMethod yX6_isHeld, Cond.selects RX6 yX6_isHeld yX6_isHeld, Cond.code yX6_isHeld cX6_isHeld 3 (some .boolean), Cond.fieldLink RX6 69 "BottleShipModel" "threads" "I", Cond.fieldLink RX6 41 "BottleShipModel" "from" "[I", Cond.fieldLink RX6 50 "BottleShipModel" "state" "[I", Cond.methodLink RX6 152 yX6_loose, Cond.instanceMethod yX6_loose, Cond.selects RX6 yX6_loose yX6_loose, Cond.code yX6_loose cX6_loose 4 (some .int), Cond.methodLink RX6 130 yX6_no, Cond.instanceMethod yX6_no, Cond.selects RX6 yX6_no yX6_no, Cond.code yX6_no cX6_no 2 (some .int)]
def wsX6_mast : List Cond := .code yX6_mast cX6_mast 3 (some .int) :: ((wsX6_mast_r1 ++ wsX6_mast_r2) ++ wsX60)
def wsX6_threadTold : List Cond := .code yX6_threadTold cX6_threadTold 5 (some .int) :: ([.fieldLink RX6 69 "BottleShipModel" "threads" "I", .arrayClass .int, .fieldLink RX6 41 "BottleShipModel" "from" "[I", .fieldLink RX6 44 "BottleShipModel" "to" "[I", .fieldLink RX6 47 "BottleShipModel" "strength" "[I", .fieldLink RX6 50 "BottleShipModel" "state" "[I", .methodLink RX6 116 yX6_crosses, .instanceMethod yX6_crosses, .selects RX6 yX6_crosses yX6_crosses, .initialized RX6, .code yX6_crosses cX6_crosses 5 (some .boolean), .methodLink RX6 109 Lib.Math.min.name, .static Lib.Math.min.name, .initialized "java/lang/Math", .code Lib.Math.min.name Lib.Math.min.code 2 (some .int), .methodLink RX6 83 Lib.Math.max.name, .static Lib.Math.max.name, .code Lib.Math.max.name Lib.Math.max.code 2 (some .int), .methodLink RX6 106 yX6_placeOf, .instanceMethod yX6_placeOf, .selects RX6 yX6_placeOf yX6_placeOf, .code yX6_placeOf cX6_placeOf 2 (some .int), .fieldLink RX6 28 "BottleShipModel" "place" "[I"] ++ wsX60)
def wsX6_thread_r1 : List Cond := [Cond.fieldLink RX6 59 "BottleShipModel" "thrown" "I", Cond.methodLink RX6 140 yX6_isThread, Cond.instanceMethod yX6_isThread, Cond.selects RX6 yX6_isThread yX6_isThread, Cond.initialized RX6, Cond.code yX6_isThread cX6_isThread 2 (some .boolean), Cond.fieldLink RX6 69 "BottleShipModel" "threads" "I", Cond.methodLink RX6 65 yX6_isBetween, Cond.static yX6_isBetween, Cond.code yX6_isBetween cX6_isBetween 3 (some .boolean), Cond.methodLink RX6 158 yX6_threadTold, Cond.instanceMethod yX6_threadTold, Cond.selects RX6 yX6_threadTold yX6_threadTold, Cond.code yX6_threadTold cX6_threadTold 5 (some .int), Cond.arrayClass .int, Cond.fieldLink RX6 41 "BottleShipModel" "from" "[I", Cond.fieldLink RX6 44 "BottleShipModel" "to" "[I", Cond.fieldLink RX6 47 "BottleShipModel" "strength" "[I", Cond.fieldLink RX6 50 "BottleShipModel" "state" "[I", Cond.methodLink RX6 116 yX6_crosses, Cond.instanceMethod yX6_crosses, Cond.selects RX6 yX6_crosses yX6_crosses, Cond.code yX6_crosses cX6_crosses 5 (some .boolean), Cond.methodLink RX6 109 Lib.Math.min.name]
def wsX6_thread_r2 : List Cond := [Cond.static Lib.Math.min.name, Cond.initialized "java/lang/Math", Cond.code Lib.Math.min.name Lib.Math.min.code 2 (some .int), Cond.methodLink RX6 83 Lib.Math.max.name, Cond.static Lib.Math.max.name, Cond.code Lib.Math.max.name Lib.Math.max.code 2 (some .int), Cond.methodLink RX6 106 yX6_placeOf, Cond.instanceMethod yX6_placeOf, Cond.selects RX6 yX6_placeOf yX6_placeOf, Cond.code yX6_placeOf cX6_placeOf 2 (some .int), Cond.fieldLink RX6 28 "BottleShipModel" "place" "[I", Cond.methodLink RX6 130 yX6_no, Cond.instanceMethod yX6_no, Cond.selects RX6 yX6_no yX6_no, Cond.code yX6_no cX6_no 2 (some .int)]
def wsX6_thread : List Cond := .code yX6_thread cX6_thread 3 (some .int) :: ((wsX6_thread_r1 ++ wsX6_thread_r2) ++ wsX60)
def wsX6_shipTold_r1 : List Cond := [Cond.arrayClass .int, Cond.fieldLink RX6 91 "BottleShipModel" "leans" "I", Cond.fieldLink RX6 123 "BottleShipModel" "isIn" "Z", Cond.methodLink RX6 94 yX6_breadth, Cond.instanceMethod yX6_breadth, Cond.selects RX6 yX6_breadth yX6_breadth, Cond.initialized RX6, Cond.code yX6_breadth cX6_breadth 5 (some .int), Cond.fieldLink RX6 25 "BottleShipModel" "width" "I", Cond.fieldLink RX6 62 "BottleShipModel" "masts" "I", Cond.fieldLink RX6 35 "BottleShipModel" "yards" "[I", Cond.fieldLink RX6 38 "BottleShipModel" "wide" "[I", Cond.methodLink RX6 83 Lib.Math.max.name, Cond.static Lib.Math.max.name, Cond.initialized "java/lang/Math", Cond.code Lib.Math.max.name Lib.Math.max.code 2 (some .int), Cond.methodLink RX6 76 yX6_lean, Cond.static yX6_lean, Cond.code yX6_lean cX6_lean 2 (some .int), Cond.methodLink RX6 72 yX6_unit, Cond.static yX6_unit, Cond.code yX6_unit cX6_unit 1 (some .int), Cond.methodLink RX6 97 yX6_top, Cond.instanceMethod yX6_top]
def wsX6_shipTold_r2 : List Cond := [Cond.selects RX6 yX6_top yX6_top, Cond.code yX6_top cX6_top 4 (some .int), Cond.fieldLink RX6 22 "BottleShipModel" "height" "I", Cond.methodLink RX6 80 yX6_stands, Cond.instanceMethod yX6_stands, Cond.selects RX6 yX6_stands yX6_stands, Cond.code yX6_stands cX6_stands 3 (some .int), Cond.fieldLink RX6 32 "BottleShipModel" "tall" "[I", Cond.methodLink RX6 100 yX6_end, Cond.instanceMethod yX6_end, Cond.selects RX6 yX6_end yX6_end, Cond.code yX6_end cX6_end 4 (some .int), Cond.fieldLink RX6 19 "BottleShipModel" "length" "I", Cond.fieldLink RX6 28 "BottleShipModel" "place" "[I", Cond.methodLink RX6 88 yX6_reach, Cond.instanceMethod yX6_reach, Cond.selects RX6 yX6_reach yX6_reach, Cond.code yX6_reach cX6_reach 3 (some .int), Cond.methodLink RX6 136 yX6_goesThrough, Cond.instanceMethod yX6_goesThrough, Cond.selects RX6 yX6_goesThrough yX6_goesThrough, Cond.code yX6_goesThrough cX6_goesThrough 1 (some .boolean), Cond.fieldLink RX6 7 "BottleShipModel" "neck" "I", Cond.methodLink RX6 127 yX6_fits]
def wsX6_shipTold_r3 : List Cond := [Cond.instanceMethod yX6_fits, Cond.selects RX6 yX6_fits yX6_fits, Cond.code yX6_fits cX6_fits 2 (some .boolean), Cond.fieldLink RX6 16 "BottleShipModel" "room" "I", Cond.fieldLink RX6 103 "BottleShipModel" "putty" "I", Cond.fieldLink RX6 13 "BottleShipModel" "high" "I"]
def wsX6_shipTold : List Cond := .code yX6_shipTold cX6_shipTold 3 (some .int) :: ((wsX6_shipTold_r1 ++ (wsX6_shipTold_r2 ++ wsX6_shipTold_r3)) ++ wsX60)
def wsX6_ship_r1 : List Cond := [Cond.fieldLink RX6 59 "BottleShipModel" "thrown" "I", Cond.methodLink RX6 65 yX6_isBetween, Cond.static yX6_isBetween, Cond.initialized RX6, Cond.code yX6_isBetween cX6_isBetween 3 (some .boolean), Cond.methodLink RX6 161 yX6_shipTold, Cond.instanceMethod yX6_shipTold, Cond.selects RX6 yX6_shipTold yX6_shipTold, Cond.code yX6_shipTold cX6_shipTold 3 (some .int), Cond.arrayClass .int, Cond.fieldLink RX6 91 "BottleShipModel" "leans" "I", Cond.fieldLink RX6 123 "BottleShipModel" "isIn" "Z", Cond.methodLink RX6 94 yX6_breadth, Cond.instanceMethod yX6_breadth, Cond.selects RX6 yX6_breadth yX6_breadth, Cond.code yX6_breadth cX6_breadth 5 (some .int), Cond.fieldLink RX6 25 "BottleShipModel" "width" "I", Cond.fieldLink RX6 62 "BottleShipModel" "masts" "I", Cond.fieldLink RX6 35 "BottleShipModel" "yards" "[I", Cond.fieldLink RX6 38 "BottleShipModel" "wide" "[I", Cond.methodLink RX6 83 Lib.Math.max.name, Cond.static Lib.Math.max.name, Cond.initialized "java/lang/Math", Cond.code Lib.Math.max.name Lib.Math.max.code 2 (some .int)]
def wsX6_ship_r2 : List Cond := [Cond.methodLink RX6 76 yX6_lean, Cond.static yX6_lean, Cond.code yX6_lean cX6_lean 2 (some .int), Cond.methodLink RX6 72 yX6_unit, Cond.static yX6_unit, Cond.code yX6_unit cX6_unit 1 (some .int), Cond.methodLink RX6 97 yX6_top, Cond.instanceMethod yX6_top, Cond.selects RX6 yX6_top yX6_top, Cond.code yX6_top cX6_top 4 (some .int), Cond.fieldLink RX6 22 "BottleShipModel" "height" "I", Cond.methodLink RX6 80 yX6_stands, Cond.instanceMethod yX6_stands, Cond.selects RX6 yX6_stands yX6_stands, Cond.code yX6_stands cX6_stands 3 (some .int), Cond.fieldLink RX6 32 "BottleShipModel" "tall" "[I", Cond.methodLink RX6 100 yX6_end, Cond.instanceMethod yX6_end, Cond.selects RX6 yX6_end yX6_end, Cond.code yX6_end cX6_end 4 (some .int), Cond.fieldLink RX6 19 "BottleShipModel" "length" "I", Cond.fieldLink RX6 28 "BottleShipModel" "place" "[I", Cond.methodLink RX6 88 yX6_reach, Cond.instanceMethod yX6_reach]
def wsX6_ship_r3 : List Cond := [Cond.selects RX6 yX6_reach yX6_reach, Cond.code yX6_reach cX6_reach 3 (some .int), Cond.methodLink RX6 136 yX6_goesThrough, Cond.instanceMethod yX6_goesThrough, Cond.selects RX6 yX6_goesThrough yX6_goesThrough, Cond.code yX6_goesThrough cX6_goesThrough 1 (some .boolean), Cond.fieldLink RX6 7 "BottleShipModel" "neck" "I", Cond.methodLink RX6 127 yX6_fits, Cond.instanceMethod yX6_fits, Cond.selects RX6 yX6_fits yX6_fits, Cond.code yX6_fits cX6_fits 2 (some .boolean), Cond.fieldLink RX6 16 "BottleShipModel" "room" "I", Cond.fieldLink RX6 103 "BottleShipModel" "putty" "I", Cond.fieldLink RX6 13 "BottleShipModel" "high" "I", Cond.methodLink RX6 130 yX6_no, Cond.instanceMethod yX6_no, Cond.selects RX6 yX6_no yX6_no, Cond.code yX6_no cX6_no 2 (some .int)]
def wsX6_ship : List Cond := .code yX6_ship cX6_ship 2 (some .int) :: ((wsX6_ship_r1 ++ (wsX6_ship_r2 ++ wsX6_ship_r3)) ++ wsX60)
def wsX6_counted : List Cond := .code yX6_counted cX6_counted 6 (some .int) :: ([.fieldLink RX6 62 "BottleShipModel" "masts" "I", .fieldLink RX6 91 "BottleShipModel" "leans" "I", .fieldLink RX6 69 "BottleShipModel" "threads" "I", .fieldLink RX6 50 "BottleShipModel" "state" "[I", .arrayClass .int, .fieldLink RX6 164 "BottleShipModel" "hour" "I", .fieldLink RX6 146 "BottleShipModel" "done" "I", .fieldLink RX6 149 "BottleShipModel" "refused" "I", .methodLink RX6 76 yX6_lean, .static yX6_lean, .initialized RX6, .code yX6_lean cX6_lean 2 (some .int), .methodLink RX6 72 yX6_unit, .static yX6_unit, .code yX6_unit cX6_unit 1 (some .int)] ++ wsX60)
def wsX6_count_r1 : List Cond := [Cond.fieldLink RX6 59 "BottleShipModel" "thrown" "I", Cond.methodLink RX6 65 yX6_isBetween, Cond.static yX6_isBetween, Cond.initialized RX6, Cond.code yX6_isBetween cX6_isBetween 3 (some .boolean), Cond.methodLink RX6 167 yX6_counted, Cond.instanceMethod yX6_counted, Cond.selects RX6 yX6_counted yX6_counted, Cond.code yX6_counted cX6_counted 6 (some .int), Cond.fieldLink RX6 62 "BottleShipModel" "masts" "I", Cond.fieldLink RX6 91 "BottleShipModel" "leans" "I", Cond.fieldLink RX6 69 "BottleShipModel" "threads" "I", Cond.fieldLink RX6 50 "BottleShipModel" "state" "[I", Cond.arrayClass .int, Cond.fieldLink RX6 164 "BottleShipModel" "hour" "I", Cond.fieldLink RX6 146 "BottleShipModel" "done" "I", Cond.fieldLink RX6 149 "BottleShipModel" "refused" "I", Cond.methodLink RX6 76 yX6_lean, Cond.static yX6_lean, Cond.code yX6_lean cX6_lean 2 (some .int), Cond.methodLink RX6 72 yX6_unit, Cond.static yX6_unit, Cond.code yX6_unit cX6_unit 1 (some .int), Cond.methodLink RX6 130 yX6_no]
def wsX6_count_r2 : List Cond := [Cond.instanceMethod yX6_no, Cond.selects RX6 yX6_no yX6_no, Cond.code yX6_no cX6_no 2 (some .int)]
def wsX6_count : List Cond := .code yX6_count cX6_count 2 (some .int) :: ((wsX6_count_r1 ++ wsX6_count_r2) ++ wsX60)
def wsX6_later : List Cond := .code yX6_later cX6_later 4 (some .int) :: ([.fieldLink RX6 62 "BottleShipModel" "masts" "I", .fieldLink RX6 35 "BottleShipModel" "yards" "[I", .methodLink RX6 109 Lib.Math.min.name, .static Lib.Math.min.name, .initialized "java/lang/Math", .code Lib.Math.min.name Lib.Math.min.code 2 (some .int), .methodLink RX6 112 yX6_isHeld, .instanceMethod yX6_isHeld, .selects RX6 yX6_isHeld yX6_isHeld, .initialized RX6, .code yX6_isHeld cX6_isHeld 3 (some .boolean), .fieldLink RX6 69 "BottleShipModel" "threads" "I", .fieldLink RX6 41 "BottleShipModel" "from" "[I", .fieldLink RX6 50 "BottleShipModel" "state" "[I", .methodLink RX6 152 yX6_loose, .instanceMethod yX6_loose, .selects RX6 yX6_loose yX6_loose, .code yX6_loose cX6_loose 4 (some .int), .methodLink RX6 72 yX6_unit, .static yX6_unit, .code yX6_unit cX6_unit 1 (some .int), .methodLink RX6 76 yX6_lean, .static yX6_lean, .code yX6_lean cX6_lean 2 (some .int)] ++ wsX60)
def wsX6_flat : List Cond := .code yX6_flat cX6_flat 4 (some .int) :: ([.fieldLink RX6 62 "BottleShipModel" "masts" "I", .methodLink RX6 76 yX6_lean, .static yX6_lean, .initialized RX6, .code yX6_lean cX6_lean 2 (some .int), .methodLink RX6 72 yX6_unit, .static yX6_unit, .code yX6_unit cX6_unit 1 (some .int)] ++ wsX60)
def wsX6_pass_r1 : List Cond := [Cond.fieldLink RX6 59 "BottleShipModel" "thrown" "I", Cond.fieldLink RX6 91 "BottleShipModel" "leans" "I", Cond.fieldLink RX6 164 "BottleShipModel" "hour" "I", Cond.methodLink RX6 65 yX6_isBetween, Cond.static yX6_isBetween, Cond.initialized RX6, Cond.code yX6_isBetween cX6_isBetween 3 (some .boolean), Cond.methodLink RX6 130 yX6_no, Cond.instanceMethod yX6_no, Cond.selects RX6 yX6_no yX6_no, Cond.code yX6_no cX6_no 2 (some .int), Cond.methodLink RX6 170 yX6_flat, Cond.instanceMethod yX6_flat, Cond.selects RX6 yX6_flat yX6_flat, Cond.code yX6_flat cX6_flat 4 (some .int), Cond.fieldLink RX6 62 "BottleShipModel" "masts" "I", Cond.methodLink RX6 76 yX6_lean, Cond.static yX6_lean, Cond.code yX6_lean cX6_lean 2 (some .int), Cond.methodLink RX6 72 yX6_unit, Cond.static yX6_unit, Cond.code yX6_unit cX6_unit 1 (some .int), Cond.methodLink RX6 173 yX6_later, Cond.instanceMethod yX6_later]
def wsX6_pass_r2 : List Cond := [Cond.selects RX6 yX6_later yX6_later, Cond.code yX6_later cX6_later 4 (some .int), Cond.fieldLink RX6 35 "BottleShipModel" "yards" "[I", Cond.methodLink RX6 109 Lib.Math.min.name, Cond.static Lib.Math.min.name, Cond.initialized "java/lang/Math", Cond.code Lib.Math.min.name Lib.Math.min.code 2 (some .int), Cond.methodLink RX6 112 yX6_isHeld, Cond.instanceMethod yX6_isHeld, Cond.selects RX6 yX6_isHeld yX6_isHeld, Cond.code yX6_isHeld cX6_isHeld 3 (some .boolean), Cond.fieldLink RX6 69 "BottleShipModel" "threads" "I", Cond.fieldLink RX6 41 "BottleShipModel" "from" "[I", Cond.fieldLink RX6 50 "BottleShipModel" "state" "[I", Cond.methodLink RX6 152 yX6_loose, Cond.instanceMethod yX6_loose, Cond.selects RX6 yX6_loose yX6_loose, Cond.code yX6_loose cX6_loose 4 (some .int)]
def wsX6_pass : List Cond := .code yX6_pass cX6_pass 4 (some .int) :: ((wsX6_pass_r1 ++ wsX6_pass_r2) ++ wsX60)
def wsX6_search_r1 : List Cond := [Cond.fieldLink RX6 53 "BottleShipModel" "pulls" "[I", Cond.fieldLink RX6 56 "BottleShipModel" "row" "[I", Cond.fieldLink RX6 69 "BottleShipModel" "threads" "I", Cond.fieldLink RX6 50 "BottleShipModel" "state" "[I", Cond.methodLink RX6 143 yX6_behind, Cond.instanceMethod yX6_behind, Cond.selects RX6 yX6_behind yX6_behind, Cond.initialized RX6, Cond.code yX6_behind cX6_behind 6 (some .int), Cond.fieldLink RX6 41 "BottleShipModel" "from" "[I", Cond.fieldLink RX6 47 "BottleShipModel" "strength" "[I", Cond.fieldLink RX6 62 "BottleShipModel" "masts" "I", Cond.fieldLink RX6 123 "BottleShipModel" "isIn" "Z", Cond.methodLink RX6 76 yX6_lean, Cond.static yX6_lean, Cond.code yX6_lean cX6_lean 2 (some .int), Cond.methodLink RX6 72 yX6_unit, Cond.static yX6_unit, Cond.code yX6_unit cX6_unit 1 (some .int), Cond.methodLink RX6 112 yX6_isHeld, Cond.instanceMethod yX6_isHeld, Cond.selects RX6 yX6_isHeld yX6_isHeld, Cond.code yX6_isHeld cX6_isHeld 3 (some .boolean), Cond.methodLink RX6 116 yX6_crosses]
def wsX6_search_r2 : List Cond := [Cond.instanceMethod yX6_crosses, Cond.selects RX6 yX6_crosses yX6_crosses, Cond.code yX6_crosses cX6_crosses 5 (some .boolean), Cond.fieldLink RX6 44 "BottleShipModel" "to" "[I", Cond.methodLink RX6 109 Lib.Math.min.name, Cond.static Lib.Math.min.name, Cond.initialized "java/lang/Math", Cond.code Lib.Math.min.name Lib.Math.min.code 2 (some .int), Cond.methodLink RX6 83 Lib.Math.max.name, Cond.static Lib.Math.max.name, Cond.code Lib.Math.max.name Lib.Math.max.code 2 (some .int), Cond.methodLink RX6 106 yX6_placeOf, Cond.instanceMethod yX6_placeOf, Cond.selects RX6 yX6_placeOf yX6_placeOf, Cond.code yX6_placeOf cX6_placeOf 2 (some .int), Cond.fieldLink RX6 28 "BottleShipModel" "place" "[I", Cond.methodLink RX6 120 yX6_leads, Cond.instanceMethod yX6_leads, Cond.selects RX6 yX6_leads yX6_leads, Cond.code yX6_leads cX6_leads 4 (some .boolean), Cond.methodLink RX6 127 yX6_fits, Cond.instanceMethod yX6_fits, Cond.selects RX6 yX6_fits yX6_fits, Cond.code yX6_fits cX6_fits 2 (some .boolean)]
def wsX6_search_r3 : List Cond := [Cond.fieldLink RX6 16 "BottleShipModel" "room" "I", Cond.fieldLink RX6 103 "BottleShipModel" "putty" "I", Cond.fieldLink RX6 13 "BottleShipModel" "high" "I", Cond.methodLink RX6 100 yX6_end, Cond.instanceMethod yX6_end, Cond.selects RX6 yX6_end yX6_end, Cond.code yX6_end cX6_end 4 (some .int), Cond.fieldLink RX6 19 "BottleShipModel" "length" "I", Cond.methodLink RX6 88 yX6_reach, Cond.instanceMethod yX6_reach, Cond.selects RX6 yX6_reach yX6_reach, Cond.code yX6_reach cX6_reach 3 (some .int), Cond.fieldLink RX6 32 "BottleShipModel" "tall" "[I", Cond.methodLink RX6 97 yX6_top, Cond.instanceMethod yX6_top, Cond.selects RX6 yX6_top yX6_top, Cond.code yX6_top cX6_top 4 (some .int), Cond.fieldLink RX6 22 "BottleShipModel" "height" "I", Cond.methodLink RX6 80 yX6_stands, Cond.instanceMethod yX6_stands, Cond.selects RX6 yX6_stands yX6_stands, Cond.code yX6_stands cX6_stands 3 (some .int)]
def wsX6_search : List Cond := .code yX6_search cX6_search 6 (some .int) :: ((wsX6_search_r1 ++ (wsX6_search_r2 ++ wsX6_search_r3)) ++ wsX60)
def wsX6_fewest_r1 : List Cond := [Cond.fieldLink RX6 59 "BottleShipModel" "thrown" "I", Cond.fieldLink RX6 91 "BottleShipModel" "leans" "I", Cond.fieldLink RX6 53 "BottleShipModel" "pulls" "[I", Cond.methodLink RX6 176 yX6_search, Cond.instanceMethod yX6_search, Cond.selects RX6 yX6_search yX6_search, Cond.initialized RX6, Cond.code yX6_search cX6_search 6 (some .int), Cond.fieldLink RX6 56 "BottleShipModel" "row" "[I", Cond.fieldLink RX6 69 "BottleShipModel" "threads" "I", Cond.fieldLink RX6 50 "BottleShipModel" "state" "[I", Cond.methodLink RX6 143 yX6_behind, Cond.instanceMethod yX6_behind, Cond.selects RX6 yX6_behind yX6_behind, Cond.code yX6_behind cX6_behind 6 (some .int), Cond.fieldLink RX6 41 "BottleShipModel" "from" "[I", Cond.fieldLink RX6 47 "BottleShipModel" "strength" "[I", Cond.fieldLink RX6 62 "BottleShipModel" "masts" "I", Cond.fieldLink RX6 123 "BottleShipModel" "isIn" "Z", Cond.methodLink RX6 76 yX6_lean, Cond.static yX6_lean, Cond.code yX6_lean cX6_lean 2 (some .int), Cond.methodLink RX6 72 yX6_unit, Cond.static yX6_unit]
def wsX6_fewest_r2 : List Cond := [Cond.code yX6_unit cX6_unit 1 (some .int), Cond.methodLink RX6 112 yX6_isHeld, Cond.instanceMethod yX6_isHeld, Cond.selects RX6 yX6_isHeld yX6_isHeld, Cond.code yX6_isHeld cX6_isHeld 3 (some .boolean), Cond.methodLink RX6 116 yX6_crosses, Cond.instanceMethod yX6_crosses, Cond.selects RX6 yX6_crosses yX6_crosses, Cond.code yX6_crosses cX6_crosses 5 (some .boolean), Cond.fieldLink RX6 44 "BottleShipModel" "to" "[I", Cond.methodLink RX6 109 Lib.Math.min.name, Cond.static Lib.Math.min.name, Cond.initialized "java/lang/Math", Cond.code Lib.Math.min.name Lib.Math.min.code 2 (some .int), Cond.methodLink RX6 83 Lib.Math.max.name, Cond.static Lib.Math.max.name, Cond.code Lib.Math.max.name Lib.Math.max.code 2 (some .int), Cond.methodLink RX6 106 yX6_placeOf, Cond.instanceMethod yX6_placeOf, Cond.selects RX6 yX6_placeOf yX6_placeOf, Cond.code yX6_placeOf cX6_placeOf 2 (some .int), Cond.fieldLink RX6 28 "BottleShipModel" "place" "[I", Cond.methodLink RX6 120 yX6_leads, Cond.instanceMethod yX6_leads]
def wsX6_fewest_r3 : List Cond := [Cond.selects RX6 yX6_leads yX6_leads, Cond.code yX6_leads cX6_leads 4 (some .boolean), Cond.methodLink RX6 127 yX6_fits, Cond.instanceMethod yX6_fits, Cond.selects RX6 yX6_fits yX6_fits, Cond.code yX6_fits cX6_fits 2 (some .boolean), Cond.fieldLink RX6 16 "BottleShipModel" "room" "I", Cond.fieldLink RX6 103 "BottleShipModel" "putty" "I", Cond.fieldLink RX6 13 "BottleShipModel" "high" "I", Cond.methodLink RX6 100 yX6_end, Cond.instanceMethod yX6_end, Cond.selects RX6 yX6_end yX6_end, Cond.code yX6_end cX6_end 4 (some .int), Cond.fieldLink RX6 19 "BottleShipModel" "length" "I", Cond.methodLink RX6 88 yX6_reach, Cond.instanceMethod yX6_reach, Cond.selects RX6 yX6_reach yX6_reach, Cond.code yX6_reach cX6_reach 3 (some .int), Cond.fieldLink RX6 32 "BottleShipModel" "tall" "[I", Cond.methodLink RX6 97 yX6_top, Cond.instanceMethod yX6_top, Cond.selects RX6 yX6_top yX6_top, Cond.code yX6_top cX6_top 4 (some .int), Cond.fieldLink RX6 22 "BottleShipModel" "height" "I"]
def wsX6_fewest_r4 : List Cond := [Cond.methodLink RX6 80 yX6_stands, Cond.instanceMethod yX6_stands, Cond.selects RX6 yX6_stands yX6_stands, Cond.code yX6_stands cX6_stands 3 (some .int)]
def wsX6_fewest : List Cond := .code yX6_fewest cX6_fewest 1 (some .int) :: ((wsX6_fewest_r1 ++ (wsX6_fewest_r2 ++ (wsX6_fewest_r3 ++ wsX6_fewest_r4))) ++ wsX60)
def wsX6_first_r1 : List Cond := [Cond.fieldLink RX6 59 "BottleShipModel" "thrown" "I", Cond.fieldLink RX6 91 "BottleShipModel" "leans" "I", Cond.fieldLink RX6 53 "BottleShipModel" "pulls" "[I", Cond.fieldLink RX6 69 "BottleShipModel" "threads" "I", Cond.fieldLink RX6 50 "BottleShipModel" "state" "[I", Cond.methodLink RX6 176 yX6_search, Cond.instanceMethod yX6_search, Cond.selects RX6 yX6_search yX6_search, Cond.initialized RX6, Cond.code yX6_search cX6_search 6 (some .int), Cond.fieldLink RX6 56 "BottleShipModel" "row" "[I", Cond.methodLink RX6 143 yX6_behind, Cond.instanceMethod yX6_behind, Cond.selects RX6 yX6_behind yX6_behind, Cond.code yX6_behind cX6_behind 6 (some .int), Cond.fieldLink RX6 41 "BottleShipModel" "from" "[I", Cond.fieldLink RX6 47 "BottleShipModel" "strength" "[I", Cond.fieldLink RX6 62 "BottleShipModel" "masts" "I", Cond.fieldLink RX6 123 "BottleShipModel" "isIn" "Z", Cond.methodLink RX6 76 yX6_lean, Cond.static yX6_lean, Cond.code yX6_lean cX6_lean 2 (some .int), Cond.methodLink RX6 72 yX6_unit, Cond.static yX6_unit]
def wsX6_first_r2 : List Cond := [Cond.code yX6_unit cX6_unit 1 (some .int), Cond.methodLink RX6 112 yX6_isHeld, Cond.instanceMethod yX6_isHeld, Cond.selects RX6 yX6_isHeld yX6_isHeld, Cond.code yX6_isHeld cX6_isHeld 3 (some .boolean), Cond.methodLink RX6 116 yX6_crosses, Cond.instanceMethod yX6_crosses, Cond.selects RX6 yX6_crosses yX6_crosses, Cond.code yX6_crosses cX6_crosses 5 (some .boolean), Cond.fieldLink RX6 44 "BottleShipModel" "to" "[I", Cond.methodLink RX6 109 Lib.Math.min.name, Cond.static Lib.Math.min.name, Cond.initialized "java/lang/Math", Cond.code Lib.Math.min.name Lib.Math.min.code 2 (some .int), Cond.methodLink RX6 83 Lib.Math.max.name, Cond.static Lib.Math.max.name, Cond.code Lib.Math.max.name Lib.Math.max.code 2 (some .int), Cond.methodLink RX6 106 yX6_placeOf, Cond.instanceMethod yX6_placeOf, Cond.selects RX6 yX6_placeOf yX6_placeOf, Cond.code yX6_placeOf cX6_placeOf 2 (some .int), Cond.fieldLink RX6 28 "BottleShipModel" "place" "[I", Cond.methodLink RX6 120 yX6_leads, Cond.instanceMethod yX6_leads]
def wsX6_first_r3 : List Cond := [Cond.selects RX6 yX6_leads yX6_leads, Cond.code yX6_leads cX6_leads 4 (some .boolean), Cond.methodLink RX6 127 yX6_fits, Cond.instanceMethod yX6_fits, Cond.selects RX6 yX6_fits yX6_fits, Cond.code yX6_fits cX6_fits 2 (some .boolean), Cond.fieldLink RX6 16 "BottleShipModel" "room" "I", Cond.fieldLink RX6 103 "BottleShipModel" "putty" "I", Cond.fieldLink RX6 13 "BottleShipModel" "high" "I", Cond.methodLink RX6 100 yX6_end, Cond.instanceMethod yX6_end, Cond.selects RX6 yX6_end yX6_end, Cond.code yX6_end cX6_end 4 (some .int), Cond.fieldLink RX6 19 "BottleShipModel" "length" "I", Cond.methodLink RX6 88 yX6_reach, Cond.instanceMethod yX6_reach, Cond.selects RX6 yX6_reach yX6_reach, Cond.code yX6_reach cX6_reach 3 (some .int), Cond.fieldLink RX6 32 "BottleShipModel" "tall" "[I", Cond.methodLink RX6 97 yX6_top, Cond.instanceMethod yX6_top, Cond.selects RX6 yX6_top yX6_top, Cond.code yX6_top cX6_top 4 (some .int), Cond.fieldLink RX6 22 "BottleShipModel" "height" "I"]
def wsX6_first_r4 : List Cond := [Cond.methodLink RX6 80 yX6_stands, Cond.instanceMethod yX6_stands, Cond.selects RX6 yX6_stands yX6_stands, Cond.code yX6_stands cX6_stands 3 (some .int)]
def wsX6_first : List Cond := .code yX6_first cX6_first 4 (some .int) :: ((wsX6_first_r1 ++ (wsX6_first_r2 ++ (wsX6_first_r3 ++ wsX6_first_r4))) ++ wsX60)
def wsX6_least_r1 : List Cond := [Cond.fieldLink RX6 59 "BottleShipModel" "thrown" "I", Cond.fieldLink RX6 91 "BottleShipModel" "leans" "I", Cond.fieldLink RX6 56 "BottleShipModel" "row" "[I", Cond.methodLink RX6 109 Lib.Math.min.name, Cond.static Lib.Math.min.name, Cond.initialized "java/lang/Math", Cond.code Lib.Math.min.name Lib.Math.min.code 2 (some .int), Cond.methodLink RX6 133 yX6_isMast, Cond.instanceMethod yX6_isMast, Cond.selects RX6 yX6_isMast yX6_isMast, Cond.initialized RX6, Cond.code yX6_isMast cX6_isMast 2 (some .boolean), Cond.fieldLink RX6 62 "BottleShipModel" "masts" "I", Cond.methodLink RX6 65 yX6_isBetween, Cond.static yX6_isBetween, Cond.code yX6_isBetween cX6_isBetween 3 (some .boolean), Cond.methodLink RX6 130 yX6_no, Cond.instanceMethod yX6_no, Cond.selects RX6 yX6_no yX6_no, Cond.code yX6_no cX6_no 2 (some .int), Cond.methodLink RX6 176 yX6_search, Cond.instanceMethod yX6_search, Cond.selects RX6 yX6_search yX6_search, Cond.code yX6_search cX6_search 6 (some .int)]
def wsX6_least_r2 : List Cond := [Cond.fieldLink RX6 53 "BottleShipModel" "pulls" "[I", Cond.fieldLink RX6 69 "BottleShipModel" "threads" "I", Cond.fieldLink RX6 50 "BottleShipModel" "state" "[I", Cond.methodLink RX6 143 yX6_behind, Cond.instanceMethod yX6_behind, Cond.selects RX6 yX6_behind yX6_behind, Cond.code yX6_behind cX6_behind 6 (some .int), Cond.fieldLink RX6 41 "BottleShipModel" "from" "[I", Cond.fieldLink RX6 47 "BottleShipModel" "strength" "[I", Cond.fieldLink RX6 123 "BottleShipModel" "isIn" "Z", Cond.methodLink RX6 76 yX6_lean, Cond.static yX6_lean, Cond.code yX6_lean cX6_lean 2 (some .int), Cond.methodLink RX6 72 yX6_unit, Cond.static yX6_unit, Cond.code yX6_unit cX6_unit 1 (some .int), Cond.methodLink RX6 112 yX6_isHeld, Cond.instanceMethod yX6_isHeld, Cond.selects RX6 yX6_isHeld yX6_isHeld, Cond.code yX6_isHeld cX6_isHeld 3 (some .boolean), Cond.methodLink RX6 116 yX6_crosses, Cond.instanceMethod yX6_crosses, Cond.selects RX6 yX6_crosses yX6_crosses, Cond.code yX6_crosses cX6_crosses 5 (some .boolean)]
def wsX6_least_r3 : List Cond := [Cond.fieldLink RX6 44 "BottleShipModel" "to" "[I", Cond.methodLink RX6 83 Lib.Math.max.name, Cond.static Lib.Math.max.name, Cond.code Lib.Math.max.name Lib.Math.max.code 2 (some .int), Cond.methodLink RX6 106 yX6_placeOf, Cond.instanceMethod yX6_placeOf, Cond.selects RX6 yX6_placeOf yX6_placeOf, Cond.code yX6_placeOf cX6_placeOf 2 (some .int), Cond.fieldLink RX6 28 "BottleShipModel" "place" "[I", Cond.methodLink RX6 120 yX6_leads, Cond.instanceMethod yX6_leads, Cond.selects RX6 yX6_leads yX6_leads, Cond.code yX6_leads cX6_leads 4 (some .boolean), Cond.methodLink RX6 127 yX6_fits, Cond.instanceMethod yX6_fits, Cond.selects RX6 yX6_fits yX6_fits, Cond.code yX6_fits cX6_fits 2 (some .boolean), Cond.fieldLink RX6 16 "BottleShipModel" "room" "I", Cond.fieldLink RX6 103 "BottleShipModel" "putty" "I", Cond.fieldLink RX6 13 "BottleShipModel" "high" "I", Cond.methodLink RX6 100 yX6_end, Cond.instanceMethod yX6_end, Cond.selects RX6 yX6_end yX6_end, Cond.code yX6_end cX6_end 4 (some .int)]
def wsX6_least_r4 : List Cond := [Cond.fieldLink RX6 19 "BottleShipModel" "length" "I", Cond.methodLink RX6 88 yX6_reach, Cond.instanceMethod yX6_reach, Cond.selects RX6 yX6_reach yX6_reach, Cond.code yX6_reach cX6_reach 3 (some .int), Cond.fieldLink RX6 32 "BottleShipModel" "tall" "[I", Cond.methodLink RX6 97 yX6_top, Cond.instanceMethod yX6_top, Cond.selects RX6 yX6_top yX6_top, Cond.code yX6_top cX6_top 4 (some .int), Cond.fieldLink RX6 22 "BottleShipModel" "height" "I", Cond.methodLink RX6 80 yX6_stands, Cond.instanceMethod yX6_stands, Cond.selects RX6 yX6_stands yX6_stands, Cond.code yX6_stands cX6_stands 3 (some .int)]
def wsX6_least : List Cond := .code yX6_least cX6_least 5 (some .int) :: ((wsX6_least_r1 ++ (wsX6_least_r2 ++ (wsX6_least_r3 ++ wsX6_least_r4))) ++ wsX60)
def wsX6_falls_r1 : List Cond := [Cond.fieldLink RX6 59 "BottleShipModel" "thrown" "I", Cond.fieldLink RX6 91 "BottleShipModel" "leans" "I", Cond.fieldLink RX6 62 "BottleShipModel" "masts" "I", Cond.methodLink RX6 170 yX6_flat, Cond.instanceMethod yX6_flat, Cond.selects RX6 yX6_flat yX6_flat, Cond.initialized RX6, Cond.code yX6_flat cX6_flat 4 (some .int), Cond.methodLink RX6 76 yX6_lean, Cond.static yX6_lean, Cond.code yX6_lean cX6_lean 2 (some .int), Cond.methodLink RX6 72 yX6_unit, Cond.static yX6_unit, Cond.code yX6_unit cX6_unit 1 (some .int), Cond.methodLink RX6 173 yX6_later, Cond.instanceMethod yX6_later, Cond.selects RX6 yX6_later yX6_later, Cond.code yX6_later cX6_later 4 (some .int), Cond.fieldLink RX6 35 "BottleShipModel" "yards" "[I", Cond.methodLink RX6 109 Lib.Math.min.name, Cond.static Lib.Math.min.name, Cond.initialized "java/lang/Math", Cond.code Lib.Math.min.name Lib.Math.min.code 2 (some .int), Cond.methodLink RX6 112 yX6_isHeld]
def wsX6_falls_r2 : List Cond := [Cond.instanceMethod yX6_isHeld, Cond.selects RX6 yX6_isHeld yX6_isHeld, Cond.code yX6_isHeld cX6_isHeld 3 (some .boolean), Cond.fieldLink RX6 69 "BottleShipModel" "threads" "I", Cond.fieldLink RX6 41 "BottleShipModel" "from" "[I", Cond.fieldLink RX6 50 "BottleShipModel" "state" "[I", Cond.methodLink RX6 152 yX6_loose, Cond.instanceMethod yX6_loose, Cond.selects RX6 yX6_loose yX6_loose, Cond.code yX6_loose cX6_loose 4 (some .int)]
def wsX6_falls : List Cond := .code yX6_falls cX6_falls 3 (some .int) :: ((wsX6_falls_r1 ++ wsX6_falls_r2) ++ wsX60)
def wsX6_mean : List Cond := .code yX6_mean cX6_mean 3 (some .double) :: ([.fieldLink RX6 59 "BottleShipModel" "thrown" "I", .fieldLink RX6 62 "BottleShipModel" "masts" "I", .fieldLink RX6 91 "BottleShipModel" "leans" "I", .methodLink RX6 76 yX6_lean, .static yX6_lean, .initialized RX6, .code yX6_lean cX6_lean 2 (some .int), .methodLink RX6 72 yX6_unit, .static yX6_unit, .code yX6_unit cX6_unit 1 (some .int)] ++ wsX60)
def wsX6_digest_r1 : List Cond := [Cond.fieldLink RX6 59 "BottleShipModel" "thrown" "I", Cond.constantLong RX6 179 (823), Cond.constantLong RX6 181 (31), Cond.arrayClass .int, Cond.fieldLink RX6 7 "BottleShipModel" "neck" "I", Cond.fieldLink RX6 13 "BottleShipModel" "high" "I", Cond.fieldLink RX6 16 "BottleShipModel" "room" "I", Cond.fieldLink RX6 103 "BottleShipModel" "putty" "I", Cond.fieldLink RX6 19 "BottleShipModel" "length" "I", Cond.fieldLink RX6 22 "BottleShipModel" "height" "I", Cond.fieldLink RX6 25 "BottleShipModel" "width" "I", Cond.fieldLink RX6 62 "BottleShipModel" "masts" "I", Cond.fieldLink RX6 35 "BottleShipModel" "yards" "[I", Cond.fieldLink RX6 38 "BottleShipModel" "wide" "[I", Cond.fieldLink RX6 69 "BottleShipModel" "threads" "I", Cond.methodLink RX6 167 yX6_counted, Cond.instanceMethod yX6_counted, Cond.selects RX6 yX6_counted yX6_counted, Cond.initialized RX6, Cond.code yX6_counted cX6_counted 6 (some .int), Cond.fieldLink RX6 91 "BottleShipModel" "leans" "I", Cond.fieldLink RX6 50 "BottleShipModel" "state" "[I", Cond.fieldLink RX6 164 "BottleShipModel" "hour" "I", Cond.fieldLink RX6 146 "BottleShipModel" "done" "I"]
def wsX6_digest_r2 : List Cond := [Cond.fieldLink RX6 149 "BottleShipModel" "refused" "I", Cond.methodLink RX6 76 yX6_lean, Cond.static yX6_lean, Cond.code yX6_lean cX6_lean 2 (some .int), Cond.methodLink RX6 72 yX6_unit, Cond.static yX6_unit, Cond.code yX6_unit cX6_unit 1 (some .int), Cond.methodLink RX6 161 yX6_shipTold, Cond.instanceMethod yX6_shipTold, Cond.selects RX6 yX6_shipTold yX6_shipTold, Cond.code yX6_shipTold cX6_shipTold 3 (some .int), Cond.fieldLink RX6 123 "BottleShipModel" "isIn" "Z", Cond.methodLink RX6 94 yX6_breadth, Cond.instanceMethod yX6_breadth, Cond.selects RX6 yX6_breadth yX6_breadth, Cond.code yX6_breadth cX6_breadth 5 (some .int), Cond.methodLink RX6 83 Lib.Math.max.name, Cond.static Lib.Math.max.name, Cond.initialized "java/lang/Math", Cond.code Lib.Math.max.name Lib.Math.max.code 2 (some .int), Cond.methodLink RX6 97 yX6_top, Cond.instanceMethod yX6_top, Cond.selects RX6 yX6_top yX6_top, Cond.code yX6_top cX6_top 4 (some .int)]
def wsX6_digest_r3 : List Cond := [Cond.methodLink RX6 80 yX6_stands, Cond.instanceMethod yX6_stands, Cond.selects RX6 yX6_stands yX6_stands, Cond.code yX6_stands cX6_stands 3 (some .int), Cond.fieldLink RX6 32 "BottleShipModel" "tall" "[I", Cond.methodLink RX6 100 yX6_end, Cond.instanceMethod yX6_end, Cond.selects RX6 yX6_end yX6_end, Cond.code yX6_end cX6_end 4 (some .int), Cond.fieldLink RX6 28 "BottleShipModel" "place" "[I", Cond.methodLink RX6 88 yX6_reach, Cond.instanceMethod yX6_reach, Cond.selects RX6 yX6_reach yX6_reach, Cond.code yX6_reach cX6_reach 3 (some .int), Cond.methodLink RX6 136 yX6_goesThrough, Cond.instanceMethod yX6_goesThrough, Cond.selects RX6 yX6_goesThrough yX6_goesThrough, Cond.code yX6_goesThrough cX6_goesThrough 1 (some .boolean), Cond.methodLink RX6 127 yX6_fits, Cond.instanceMethod yX6_fits, Cond.selects RX6 yX6_fits yX6_fits, Cond.code yX6_fits cX6_fits 2 (some .boolean), Cond.methodLink RX6 155 yX6_mastTold, Cond.instanceMethod yX6_mastTold]
def wsX6_digest_r4 : List Cond := [Cond.selects RX6 yX6_mastTold yX6_mastTold, Cond.code yX6_mastTold cX6_mastTold 4 (some .int), Cond.methodLink RX6 112 yX6_isHeld, Cond.instanceMethod yX6_isHeld, Cond.selects RX6 yX6_isHeld yX6_isHeld, Cond.code yX6_isHeld cX6_isHeld 3 (some .boolean), Cond.fieldLink RX6 41 "BottleShipModel" "from" "[I", Cond.methodLink RX6 152 yX6_loose, Cond.instanceMethod yX6_loose, Cond.selects RX6 yX6_loose yX6_loose, Cond.code yX6_loose cX6_loose 4 (some .int), Cond.methodLink RX6 158 yX6_threadTold, Cond.instanceMethod yX6_threadTold, Cond.selects RX6 yX6_threadTold yX6_threadTold, Cond.code yX6_threadTold cX6_threadTold 5 (some .int), Cond.fieldLink RX6 44 "BottleShipModel" "to" "[I", Cond.fieldLink RX6 47 "BottleShipModel" "strength" "[I", Cond.methodLink RX6 116 yX6_crosses, Cond.instanceMethod yX6_crosses, Cond.selects RX6 yX6_crosses yX6_crosses, Cond.code yX6_crosses cX6_crosses 5 (some .boolean), Cond.methodLink RX6 109 Lib.Math.min.name, Cond.static Lib.Math.min.name, Cond.code Lib.Math.min.name Lib.Math.min.code 2 (some .int)]
def wsX6_digest_r5 : List Cond := [Cond.methodLink RX6 106 yX6_placeOf, Cond.instanceMethod yX6_placeOf, Cond.selects RX6 yX6_placeOf yX6_placeOf, Cond.code yX6_placeOf cX6_placeOf 2 (some .int)]
def wsX6_digest : List Cond := .code yX6_digest cX6_digest 6 (some .long) :: ((wsX6_digest_r1 ++ (wsX6_digest_r2 ++ (wsX6_digest_r3 ++ (wsX6_digest_r4 ++ wsX6_digest_r5)))) ++ wsX60)
def wsJ9_max_7cf53 : List Cond := .code yJ9_max_7cf53 cJ9_max_7cf53 2 (some .int) :: ([])
def wsJ9_min_7cf53 : List Cond := .code yJ9_min_7cf53 cJ9_min_7cf53 2 (some .int) :: ([])
def wsL_setBottle : List Cond := .codeWith yL_setBottle cL_setBottle 7 (some .int) [(0, 14, 17, 13), (0, 14, 21, 15)] :: ([.classLink RL 13 "java/lang/IllegalArgumentException", .classLink RL 15 "java/lang/IllegalStateException", .methodLink RL 7 yX5_setBottle, .instanceMethod yX5_setBottle, .selects RX5 yX5_setBottle yX5_setBottle, .initialized RX5, .code yX5_setBottle cX5_setBottle 6 (some .int), .classLink RX5 58 "java/lang/IllegalArgumentException", .initialized "java/lang/IllegalArgumentException", .classLink RX5 69 "java/lang/IllegalStateException", .initialized "java/lang/IllegalStateException", .fieldLink RX5 65 "BottleShip" "inside" "Z", .fieldLink RX5 10 "BottleShip" "bottle" "LBottleShip$Bottle;", .fieldLink RX5 74 "BottleShip$Bottle" "neck" "I", .fieldLink RX5 78 "BottleShip$Bottle" "high" "I", .fieldLink RX5 81 "BottleShip$Bottle" "length" "I", .fieldLink RX5 84 "BottleShip$Bottle" "putty" "I", .methodLink RX5 54 yX5_isWithin, .static yX5_isWithin, .code yX5_isWithin cX5_isWithin 3 (some .boolean)] ++ wsX50 ++ wsX00 ++ (vx_atS RX5 62 "java/lang/IllegalArgumentException" ["java/lang/RuntimeException", "java/lang/Exception"]).filter goodWord ++ (vx_atS RX5 73 "java/lang/IllegalStateException" ["java/lang/RuntimeException", "java/lang/Exception"]).filter goodWord)
def wsL_setHull : List Cond := .codeWith yL_setHull cL_setHull 6 (some .int) [(0, 12, 15, 13), (0, 12, 19, 15)] :: ([.classLink RL 13 "java/lang/IllegalArgumentException", .classLink RL 15 "java/lang/IllegalStateException", .methodLink RL 17 yX5_setHull, .instanceMethod yX5_setHull, .selects RX5 yX5_setHull yX5_setHull, .initialized RX5, .code yX5_setHull cX5_setHull 5 (some .int), .classLink RX5 58 "java/lang/IllegalArgumentException", .initialized "java/lang/IllegalArgumentException", .classLink RX5 69 "java/lang/IllegalStateException", .initialized "java/lang/IllegalStateException", .fieldLink RX5 89 "BottleShip" "mastCount" "I", .fieldLink RX5 65 "BottleShip" "inside" "Z", .fieldLink RX5 19 "BottleShip" "hull" "LBottleShip$Hull;", .fieldLink RX5 94 "BottleShip$Hull" "length" "I", .fieldLink RX5 95 "BottleShip$Hull" "height" "I", .fieldLink RX5 98 "BottleShip$Hull" "width" "I", .methodLink RX5 54 yX5_isWithin, .static yX5_isWithin, .code yX5_isWithin cX5_isWithin 3 (some .boolean)] ++ wsX50 ++ wsX20 ++ (vx_atS RX5 62 "java/lang/IllegalArgumentException" ["java/lang/RuntimeException", "java/lang/Exception"]).filter goodWord ++ (vx_atS RX5 73 "java/lang/IllegalStateException" ["java/lang/RuntimeException", "java/lang/Exception"]).filter goodWord)
def wsL_step_r1 : List Cond := [Cond.classLink RL 13 "java/lang/IllegalArgumentException", Cond.classLink RL 15 "java/lang/IllegalStateException", Cond.methodLink RL 21 yX5_step, Cond.instanceMethod yX5_step, Cond.selects RX5 yX5_step yX5_step, Cond.initialized RX5, Cond.code yX5_step cX5_step 4 (some .int), Cond.classLink RX5 58 "java/lang/IllegalArgumentException", Cond.initialized "java/lang/IllegalArgumentException", Cond.classLink RX5 69 "java/lang/IllegalStateException", Cond.initialized "java/lang/IllegalStateException", Cond.fieldLink RX5 19 "BottleShip" "hull" "LBottleShip$Hull;", Cond.fieldLink RX5 94 "BottleShip$Hull" "length" "I", Cond.fieldLink RX5 65 "BottleShip" "inside" "Z", Cond.fieldLink RX5 89 "BottleShip" "mastCount" "I", Cond.fieldLink RX5 25 "BottleShip" "masts" "[LBottleShip$Mast;", Cond.fieldLink RX5 109 "BottleShip$Mast" "place" "I", Cond.fieldLink RX5 112 "BottleShip$Mast" "height" "I", Cond.fieldLink RX5 42 "BottleShip" "leans" "[I", Cond.methodLink RX5 54 yX5_isWithin, Cond.static yX5_isWithin, Cond.code yX5_isWithin cX5_isWithin 3 (some .boolean), Cond.methodLink RX5 103 yX5_hasMastAt, Cond.instanceMethod yX5_hasMastAt]
def wsL_step_r2 : List Cond := [Cond.selects RX5 yX5_hasMastAt yX5_hasMastAt, Cond.code yX5_hasMastAt cX5_hasMastAt 3 (some .boolean)]
def wsL_step : List Cond := .codeWith yL_step cL_step 5 (some .int) [(0, 10, 13, 13), (0, 10, 17, 15)] :: ((wsL_step_r1 ++ wsL_step_r2) ++ wsX50 ++ wsX20 ++ wsX30 ++ (vx_atS RX5 62 "java/lang/IllegalArgumentException" ["java/lang/RuntimeException", "java/lang/Exception"]).filter goodWord ++ (vx_atS RX5 73 "java/lang/IllegalStateException" ["java/lang/RuntimeException", "java/lang/Exception"]).filter goodWord)
def wsL_yard_r1 : List Cond := [Cond.classLink RL 28 "java/lang/IndexOutOfBoundsException", Cond.classLink RL 13 "java/lang/IllegalArgumentException", Cond.classLink RL 15 "java/lang/IllegalStateException", Cond.methodLink RL 25 yX5_yard, Cond.instanceMethod yX5_yard, Cond.selects RX5 yX5_yard yX5_yard, Cond.initialized RX5, Cond.code yX5_yard cX5_yard 4 (some .int), Cond.classLink RX5 116 "java/lang/IndexOutOfBoundsException", Cond.initialized "java/lang/IndexOutOfBoundsException", Cond.classLink RX5 58 "java/lang/IllegalArgumentException", Cond.initialized "java/lang/IllegalArgumentException", Cond.classLink RX5 69 "java/lang/IllegalStateException", Cond.initialized "java/lang/IllegalStateException", Cond.fieldLink RX5 25 "BottleShip" "masts" "[LBottleShip$Mast;", Cond.fieldLink RX5 65 "BottleShip" "inside" "Z", Cond.fieldLink RX5 123 "BottleShip$Mast" "yardCount" "I", Cond.fieldLink RX5 128 "BottleShip$Mast" "yards" "[I", Cond.methodLink RX5 113 yX5_isMast, Cond.instanceMethod yX5_isMast, Cond.selects RX5 yX5_isMast yX5_isMast, Cond.code yX5_isMast cX5_isMast 2 (some .boolean), Cond.fieldLink RX5 89 "BottleShip" "mastCount" "I", Cond.methodLink RX5 54 yX5_isWithin]
def wsL_yard_r2 : List Cond := [Cond.static yX5_isWithin, Cond.code yX5_isWithin cX5_isWithin 3 (some .boolean)]
def wsL_yard : List Cond := .codeWith yL_yard cL_yard 5 (some .int) [(0, 10, 13, 28), (0, 10, 17, 13), (0, 10, 21, 15)] :: ((wsL_yard_r1 ++ wsL_yard_r2) ++ wsX50 ++ wsX30 ++ (vx_atS RX5 120 "java/lang/IndexOutOfBoundsException" ["java/lang/RuntimeException", "java/lang/Exception"]).filter goodWord ++ (vx_atS RX5 62 "java/lang/IllegalArgumentException" ["java/lang/RuntimeException", "java/lang/Exception"]).filter goodWord ++ (vx_atS RX5 73 "java/lang/IllegalStateException" ["java/lang/RuntimeException", "java/lang/Exception"]).filter goodWord)
def wsL_lead_r1 : List Cond := [Cond.classLink RL 28 "java/lang/IndexOutOfBoundsException", Cond.classLink RL 13 "java/lang/IllegalArgumentException", Cond.classLink RL 15 "java/lang/IllegalStateException", Cond.methodLink RL 30 yX5_lead, Cond.instanceMethod yX5_lead, Cond.selects RX5 yX5_lead yX5_lead, Cond.initialized RX5, Cond.code yX5_lead cX5_lead 5 (some .int), Cond.classLink RX5 116 "java/lang/IndexOutOfBoundsException", Cond.initialized "java/lang/IndexOutOfBoundsException", Cond.classLink RX5 58 "java/lang/IllegalArgumentException", Cond.initialized "java/lang/IllegalArgumentException", Cond.classLink RX5 69 "java/lang/IllegalStateException", Cond.initialized "java/lang/IllegalStateException", Cond.fieldLink RX5 133 "BottleShip" "cordCount" "I", Cond.fieldLink RX5 31 "BottleShip" "cords" "[LBottleShip$Cord;", Cond.fieldLink RX5 138 "BottleShip$Cord" "mast" "I", Cond.fieldLink RX5 141 "BottleShip$Cord" "to" "I", Cond.fieldLink RX5 144 "BottleShip$Cord" "strength" "I", Cond.fieldLink RX5 25 "BottleShip" "masts" "[LBottleShip$Mast;", Cond.fieldLink RX5 109 "BottleShip$Mast" "place" "I", Cond.methodLink RX5 113 yX5_isMast, Cond.instanceMethod yX5_isMast, Cond.selects RX5 yX5_isMast yX5_isMast]
def wsL_lead_r2 : List Cond := [Cond.code yX5_isMast cX5_isMast 2 (some .boolean), Cond.fieldLink RX5 89 "BottleShip" "mastCount" "I", Cond.methodLink RX5 54 yX5_isWithin, Cond.static yX5_isWithin, Cond.code yX5_isWithin cX5_isWithin 3 (some .boolean), Cond.methodLink RX5 147 yX1_span, Cond.instanceMethod yX1_span, Cond.selects RX1 yX1_span yX1_span, Cond.initialized RX1, Cond.code yX1_span cX1_span 3 none, Cond.methodLink RX1 9 Lib.Math.min.name, Cond.static Lib.Math.min.name, Cond.initialized "java/lang/Math", Cond.code Lib.Math.min.name Lib.Math.min.code 2 (some .int), Cond.fieldLink RX1 15 "BottleShip$Cord" "lesserPlace" "I", Cond.methodLink RX1 21 Lib.Math.max.name, Cond.static Lib.Math.max.name, Cond.code Lib.Math.max.name Lib.Math.max.code 2 (some .int), Cond.fieldLink RX1 24 "BottleShip$Cord" "greaterPlace" "I"]
def wsL_lead : List Cond := .codeWith yL_lead cL_lead 6 (some .int) [(0, 12, 15, 28), (0, 12, 19, 13), (0, 12, 23, 15)] :: ((wsL_lead_r1 ++ wsL_lead_r2) ++ wsX50 ++ wsX10 ++ wsX30 ++ (vx_atS RX5 120 "java/lang/IndexOutOfBoundsException" ["java/lang/RuntimeException", "java/lang/Exception"]).filter goodWord ++ (vx_atS RX5 62 "java/lang/IllegalArgumentException" ["java/lang/RuntimeException", "java/lang/Exception"]).filter goodWord ++ (vx_atS RX5 73 "java/lang/IllegalStateException" ["java/lang/RuntimeException", "java/lang/Exception"]).filter goodWord)
def wsL_pull_r1 : List Cond := [Cond.classLink RL 28 "java/lang/IndexOutOfBoundsException", Cond.classLink RL 15 "java/lang/IllegalStateException", Cond.methodLink RL 33 yX5_pull, Cond.instanceMethod yX5_pull, Cond.selects RX5 yX5_pull yX5_pull, Cond.initialized RX5, Cond.code yX5_pull cX5_pull 4 (some .int), Cond.classLink RX5 116 "java/lang/IndexOutOfBoundsException", Cond.initialized "java/lang/IndexOutOfBoundsException", Cond.classLink RX5 69 "java/lang/IllegalStateException", Cond.initialized "java/lang/IllegalStateException", Cond.fieldLink RX5 31 "BottleShip" "cords" "[LBottleShip$Cord;", Cond.fieldLink RX5 164 "BottleShip$Cord" "state" "I", Cond.fieldLink RX5 173 "BottleShip" "pullsNotDone" "I", Cond.fieldLink RX5 179 "BottleShip" "pullsDone" "I", Cond.fieldLink RX5 138 "BottleShip$Cord" "mast" "I", Cond.fieldLink RX5 42 "BottleShip" "leans" "[I", Cond.fieldLink RX5 49 "BottleShip" "leansAfter" "[I", Cond.methodLink RX5 190 arraycopyName, Cond.native arraycopyName, Cond.static arraycopyName, Cond.initialized "java/lang/System", Cond.methodLink RX5 159 yX5_isThread, Cond.instanceMethod yX5_isThread]
def wsL_pull_r2 : List Cond := [Cond.selects RX5 yX5_isThread yX5_isThread, Cond.code yX5_isThread cX5_isThread 2 (some .boolean), Cond.fieldLink RX5 133 "BottleShip" "cordCount" "I", Cond.methodLink RX5 169 yX5_hindranceOf, Cond.instanceMethod yX5_hindranceOf, Cond.selects RX5 yX5_hindranceOf yX5_hindranceOf, Cond.code yX5_hindranceOf cX5_hindranceOf 2 (some .int), Cond.fieldLink RX5 65 "BottleShip" "inside" "Z", Cond.methodLink RX5 208 yX5_isHeld, Cond.instanceMethod yX5_isHeld, Cond.selects RX5 yX5_isHeld yX5_isHeld, Cond.code yX5_isHeld cX5_isHeld 2 (some .boolean), Cond.methodLink RX5 302 yX5_threadsFrom, Cond.instanceMethod yX5_threadsFrom, Cond.selects RX5 yX5_threadsFrom yX5_threadsFrom, Cond.code yX5_threadsFrom cX5_threadsFrom 5 (some .int), Cond.methodLink RX5 308 yX5_isCrossedByStronger, Cond.instanceMethod yX5_isCrossedByStronger, Cond.selects RX5 yX5_isCrossedByStronger yX5_isCrossedByStronger, Cond.code yX5_isCrossedByStronger cX5_isCrossedByStronger 4 (some .boolean), Cond.fieldLink RX5 144 "BottleShip$Cord" "strength" "I", Cond.methodLink RX5 198 yX1_crosses, Cond.instanceMethod yX1_crosses, Cond.selects RX1 yX1_crosses yX1_crosses]
def wsL_pull_r3 : List Cond := [Cond.initialized RX1, Cond.code yX1_crosses cX1_crosses 2 (some .boolean), Cond.fieldLink RX1 27 "BottleShip$Cord" "state" "I", Cond.fieldLink RX1 15 "BottleShip$Cord" "lesserPlace" "I", Cond.methodLink RX1 21 Lib.Math.max.name, Cond.static Lib.Math.max.name, Cond.initialized "java/lang/Math", Cond.code Lib.Math.max.name Lib.Math.max.code 2 (some .int), Cond.fieldLink RX1 24 "BottleShip$Cord" "greaterPlace" "I", Cond.methodLink RX1 9 Lib.Math.min.name, Cond.static Lib.Math.min.name, Cond.code Lib.Math.min.name Lib.Math.min.code 2 (some .int), Cond.methodLink RX5 182 yX5_loweredBy, Cond.instanceMethod yX5_loweredBy, Cond.selects RX5 yX5_loweredBy yX5_loweredBy, Cond.code yX5_loweredBy cX5_loweredBy 5 (some .int), Cond.fieldLink RX5 141 "BottleShip$Cord" "to" "I", Cond.methodLink RX5 186 yX5_raise, Cond.static yX5_raise, Cond.code yX5_raise cX5_raise 5 none, Cond.methodLink RX5 155 yX5_fitsWith, Cond.instanceMethod yX5_fitsWith, Cond.selects RX5 yX5_fitsWith yX5_fitsWith, Cond.code yX5_fitsWith cX5_fitsWith 2 (some .boolean)]
def wsL_pull_r4 : List Cond := [Cond.fieldLink RX5 10 "BottleShip" "bottle" "LBottleShip$Bottle;", Cond.fieldLink RX5 81 "BottleShip$Bottle" "length" "I", Cond.fieldLink RX5 84 "BottleShip$Bottle" "putty" "I", Cond.fieldLink RX5 78 "BottleShip$Bottle" "high" "I", Cond.methodLink RX5 229 yX5_endWith, Cond.instanceMethod yX5_endWith, Cond.selects RX5 yX5_endWith yX5_endWith, Cond.code yX5_endWith cX5_endWith 4 (some .int), Cond.fieldLink RX5 19 "BottleShip" "hull" "LBottleShip$Hull;", Cond.fieldLink RX5 94 "BottleShip$Hull" "length" "I", Cond.fieldLink RX5 89 "BottleShip" "mastCount" "I", Cond.fieldLink RX5 25 "BottleShip" "masts" "[LBottleShip$Mast;", Cond.fieldLink RX5 109 "BottleShip$Mast" "place" "I", Cond.methodLink RX5 276 Lib.Math.max.name, Cond.methodLink RX5 205 yX3_reach, Cond.instanceMethod yX3_reach, Cond.selects RX3 yX3_reach yX3_reach, Cond.initialized RX3, Cond.code yX3_reach cX3_reach 2 (some .int), Cond.fieldLink RX3 15 "BottleShip$Mast" "height" "I", Cond.methodLink RX5 225 yX5_topWith, Cond.instanceMethod yX5_topWith, Cond.selects RX5 yX5_topWith yX5_topWith, Cond.code yX5_topWith cX5_topWith 4 (some .int)]
def wsL_pull_r5 : List Cond := [Cond.fieldLink RX5 95 "BottleShip$Hull" "height" "I", Cond.methodLink RX5 202 yX3_standing, Cond.instanceMethod yX3_standing, Cond.selects RX3 yX3_standing yX3_standing, Cond.code yX3_standing cX3_standing 2 (some .int), Cond.methodLink RX5 176 yX1_wear, Cond.instanceMethod yX1_wear, Cond.selects RX1 yX1_wear yX1_wear, Cond.code yX1_wear cX1_wear 1 none, Cond.fieldLink RX1 30 "BottleShip$Cord" "strength" "I"]
def wsL_pull : List Cond := .codeWith yL_pull cL_pull 4 (some .int) [(0, 9, 12, 28), (0, 9, 15, 15)] :: ((wsL_pull_r1 ++ (wsL_pull_r2 ++ (wsL_pull_r3 ++ (wsL_pull_r4 ++ wsL_pull_r5)))) ++ wsX50 ++ wsX10 ++ wsX00 ++ wsX20 ++ wsX30 ++ (vx_atS RX5 120 "java/lang/IndexOutOfBoundsException" ["java/lang/RuntimeException", "java/lang/Exception"]).filter goodWord ++ (vx_atS RX5 73 "java/lang/IllegalStateException" ["java/lang/RuntimeException", "java/lang/Exception"]).filter goodWord)
def wsL_glue : List Cond := .codeWith yL_glue cL_glue 4 (some .int) [(0, 9, 12, 28), (0, 9, 15, 15)] :: ([.classLink RL 28 "java/lang/IndexOutOfBoundsException", .classLink RL 15 "java/lang/IllegalStateException", .methodLink RL 37 yX5_glue, .instanceMethod yX5_glue, .selects RX5 yX5_glue yX5_glue, .initialized RX5, .code yX5_glue cX5_glue 3 (some .int), .classLink RX5 116 "java/lang/IndexOutOfBoundsException", .initialized "java/lang/IndexOutOfBoundsException", .classLink RX5 69 "java/lang/IllegalStateException", .initialized "java/lang/IllegalStateException", .fieldLink RX5 31 "BottleShip" "cords" "[LBottleShip$Cord;", .fieldLink RX5 164 "BottleShip$Cord" "state" "I", .methodLink RX5 159 yX5_isThread, .instanceMethod yX5_isThread, .selects RX5 yX5_isThread yX5_isThread, .code yX5_isThread cX5_isThread 2 (some .boolean), .fieldLink RX5 133 "BottleShip" "cordCount" "I"] ++ wsX50 ++ wsX10 ++ (vx_atS RX5 120 "java/lang/IndexOutOfBoundsException" ["java/lang/RuntimeException", "java/lang/Exception"]).filter goodWord ++ (vx_atS RX5 73 "java/lang/IllegalStateException" ["java/lang/RuntimeException", "java/lang/Exception"]).filter goodWord)
def wsL_cross_r1 : List Cond := [Cond.classLink RL 28 "java/lang/IndexOutOfBoundsException", Cond.methodLink RL 40 yX5_cross, Cond.instanceMethod yX5_cross, Cond.selects RX5 yX5_cross yX5_cross, Cond.initialized RX5, Cond.code yX5_cross cX5_cross 3 (some .boolean), Cond.classLink RX5 116 "java/lang/IndexOutOfBoundsException", Cond.initialized "java/lang/IndexOutOfBoundsException", Cond.fieldLink RX5 31 "BottleShip" "cords" "[LBottleShip$Cord;", Cond.methodLink RX5 159 yX5_isThread, Cond.instanceMethod yX5_isThread, Cond.selects RX5 yX5_isThread yX5_isThread, Cond.code yX5_isThread cX5_isThread 2 (some .boolean), Cond.fieldLink RX5 133 "BottleShip" "cordCount" "I", Cond.methodLink RX5 198 yX1_crosses, Cond.instanceMethod yX1_crosses, Cond.selects RX1 yX1_crosses yX1_crosses, Cond.initialized RX1, Cond.code yX1_crosses cX1_crosses 2 (some .boolean), Cond.fieldLink RX1 27 "BottleShip$Cord" "state" "I", Cond.fieldLink RX1 15 "BottleShip$Cord" "lesserPlace" "I", Cond.methodLink RX1 21 Lib.Math.max.name, Cond.static Lib.Math.max.name, Cond.initialized "java/lang/Math"]
def wsL_cross_r2 : List Cond := [Cond.code Lib.Math.max.name Lib.Math.max.code 2 (some .int), Cond.fieldLink RX1 24 "BottleShip$Cord" "greaterPlace" "I", Cond.methodLink RX1 9 Lib.Math.min.name, Cond.static Lib.Math.min.name, Cond.code Lib.Math.min.name Lib.Math.min.code 2 (some .int)]
def wsL_cross : List Cond := .codeWith yL_cross cL_cross 5 (some .int) [(0, 17, 20, 28)] :: ((wsL_cross_r1 ++ wsL_cross_r2) ++ wsX50 ++ wsX10 ++ (vx_atS RX5 120 "java/lang/IndexOutOfBoundsException" ["java/lang/RuntimeException", "java/lang/Exception"]).filter goodWord)
def wsL_mast_r1 : List Cond := [Cond.classLink RL 28 "java/lang/IndexOutOfBoundsException", Cond.methodLink RL 44 yX5_mast, Cond.instanceMethod yX5_mast, Cond.selects RX5 yX5_mast yX5_mast, Cond.initialized RX5, Cond.code yX5_mast cX5_mast 3 (some .int), Cond.classLink RX5 116 "java/lang/IndexOutOfBoundsException", Cond.initialized "java/lang/IndexOutOfBoundsException", Cond.fieldLink RX5 25 "BottleShip" "masts" "[LBottleShip$Mast;", Cond.fieldLink RX5 109 "BottleShip$Mast" "place" "I", Cond.fieldLink RX5 112 "BottleShip$Mast" "height" "I", Cond.fieldLink RX5 42 "BottleShip" "leans" "[I", Cond.fieldLink RX5 123 "BottleShip$Mast" "yardCount" "I", Cond.methodLink RX5 113 yX5_isMast, Cond.instanceMethod yX5_isMast, Cond.selects RX5 yX5_isMast yX5_isMast, Cond.code yX5_isMast cX5_isMast 2 (some .boolean), Cond.fieldLink RX5 89 "BottleShip" "mastCount" "I", Cond.methodLink RX5 202 yX3_standing, Cond.instanceMethod yX3_standing, Cond.selects RX3 yX3_standing yX3_standing, Cond.initialized RX3, Cond.code yX3_standing cX3_standing 2 (some .int), Cond.fieldLink RX3 15 "BottleShip$Mast" "height" "I"]
def wsL_mast_r2 : List Cond := [Cond.methodLink RX5 205 yX3_reach, Cond.instanceMethod yX3_reach, Cond.selects RX3 yX3_reach yX3_reach, Cond.code yX3_reach cX3_reach 2 (some .int), Cond.methodLink RX5 208 yX5_isHeld, Cond.instanceMethod yX5_isHeld, Cond.selects RX5 yX5_isHeld yX5_isHeld, Cond.code yX5_isHeld cX5_isHeld 2 (some .boolean), Cond.methodLink RX5 302 yX5_threadsFrom, Cond.instanceMethod yX5_threadsFrom, Cond.selects RX5 yX5_threadsFrom yX5_threadsFrom, Cond.code yX5_threadsFrom cX5_threadsFrom 5 (some .int), Cond.fieldLink RX5 133 "BottleShip" "cordCount" "I", Cond.fieldLink RX5 31 "BottleShip" "cords" "[LBottleShip$Cord;", Cond.fieldLink RX5 138 "BottleShip$Cord" "mast" "I", Cond.fieldLink RX5 164 "BottleShip$Cord" "state" "I", Cond.methodLink RX5 211 yX5_looseThreadsFrom, Cond.instanceMethod yX5_looseThreadsFrom, Cond.selects RX5 yX5_looseThreadsFrom yX5_looseThreadsFrom, Cond.code yX5_looseThreadsFrom cX5_looseThreadsFrom 2 (some .int)]
def wsL_mast : List Cond := .codeWith yL_mast cL_mast 5 (some .int) [(0, 10, 13, 28)] :: ((wsL_mast_r1 ++ wsL_mast_r2) ++ wsX50 ++ wsX30 ++ wsX10 ++ (vx_atS RX5 120 "java/lang/IndexOutOfBoundsException" ["java/lang/RuntimeException", "java/lang/Exception"]).filter goodWord)
def wsL_thread_r1 : List Cond := [Cond.classLink RL 28 "java/lang/IndexOutOfBoundsException", Cond.methodLink RL 47 yX5_thread, Cond.instanceMethod yX5_thread, Cond.selects RX5 yX5_thread yX5_thread, Cond.initialized RX5, Cond.code yX5_thread cX5_thread 4 (some .int), Cond.classLink RX5 116 "java/lang/IndexOutOfBoundsException", Cond.initialized "java/lang/IndexOutOfBoundsException", Cond.fieldLink RX5 31 "BottleShip" "cords" "[LBottleShip$Cord;", Cond.fieldLink RX5 138 "BottleShip$Cord" "mast" "I", Cond.fieldLink RX5 141 "BottleShip$Cord" "to" "I", Cond.fieldLink RX5 144 "BottleShip$Cord" "strength" "I", Cond.fieldLink RX5 164 "BottleShip$Cord" "state" "I", Cond.methodLink RX5 159 yX5_isThread, Cond.instanceMethod yX5_isThread, Cond.selects RX5 yX5_isThread yX5_isThread, Cond.code yX5_isThread cX5_isThread 2 (some .boolean), Cond.fieldLink RX5 133 "BottleShip" "cordCount" "I", Cond.methodLink RX5 216 yX5_crossingsOf, Cond.instanceMethod yX5_crossingsOf, Cond.selects RX5 yX5_crossingsOf yX5_crossingsOf, Cond.code yX5_crossingsOf cX5_crossingsOf 4 (some .int), Cond.methodLink RX5 198 yX1_crosses, Cond.instanceMethod yX1_crosses]
def wsL_thread_r2 : List Cond := [Cond.selects RX1 yX1_crosses yX1_crosses, Cond.initialized RX1, Cond.code yX1_crosses cX1_crosses 2 (some .boolean), Cond.fieldLink RX1 27 "BottleShip$Cord" "state" "I", Cond.fieldLink RX1 15 "BottleShip$Cord" "lesserPlace" "I", Cond.methodLink RX1 21 Lib.Math.max.name, Cond.static Lib.Math.max.name, Cond.initialized "java/lang/Math", Cond.code Lib.Math.max.name Lib.Math.max.code 2 (some .int), Cond.fieldLink RX1 24 "BottleShip$Cord" "greaterPlace" "I", Cond.methodLink RX1 9 Lib.Math.min.name, Cond.static Lib.Math.min.name, Cond.code Lib.Math.min.name Lib.Math.min.code 2 (some .int)]
def wsL_thread : List Cond := .codeWith yL_thread cL_thread 5 (some .int) [(0, 10, 13, 28)] :: ((wsL_thread_r1 ++ wsL_thread_r2) ++ wsX50 ++ wsX10 ++ (vx_atS RX5 120 "java/lang/IndexOutOfBoundsException" ["java/lang/RuntimeException", "java/lang/Exception"]).filter goodWord)
def wsL_ship_r1 : List Cond := [Cond.classLink RL 28 "java/lang/IndexOutOfBoundsException", Cond.methodLink RL 50 yX5_ship, Cond.instanceMethod yX5_ship, Cond.selects RX5 yX5_ship yX5_ship, Cond.initialized RX5, Cond.code yX5_ship cX5_ship 2 (some .int), Cond.classLink RX5 116 "java/lang/IndexOutOfBoundsException", Cond.initialized "java/lang/IndexOutOfBoundsException", Cond.fieldLink RX5 42 "BottleShip" "leans" "[I", Cond.fieldLink RX5 65 "BottleShip" "inside" "Z", Cond.methodLink RX5 221 yX5_breadth, Cond.instanceMethod yX5_breadth, Cond.selects RX5 yX5_breadth yX5_breadth, Cond.code yX5_breadth cX5_breadth 3 (some .int), Cond.fieldLink RX5 19 "BottleShip" "hull" "LBottleShip$Hull;", Cond.fieldLink RX5 98 "BottleShip$Hull" "width" "I", Cond.fieldLink RX5 89 "BottleShip" "mastCount" "I", Cond.fieldLink RX5 25 "BottleShip" "masts" "[LBottleShip$Mast;", Cond.methodLink RX5 276 Lib.Math.max.name, Cond.static Lib.Math.max.name, Cond.initialized "java/lang/Math", Cond.code Lib.Math.max.name Lib.Math.max.code 2 (some .int), Cond.methodLink RX5 305 yX3_widestYard, Cond.instanceMethod yX3_widestYard]
def wsL_ship_r2 : List Cond := [Cond.selects RX3 yX3_widestYard yX3_widestYard, Cond.initialized RX3, Cond.code yX3_widestYard cX3_widestYard 3 (some .int), Cond.fieldLink RX3 19 "BottleShip$Mast" "yardCount" "I", Cond.fieldLink RX3 9 "BottleShip$Mast" "yards" "[I", Cond.methodLink RX3 22 Lib.Math.max.name, Cond.methodLink RX5 225 yX5_topWith, Cond.instanceMethod yX5_topWith, Cond.selects RX5 yX5_topWith yX5_topWith, Cond.code yX5_topWith cX5_topWith 4 (some .int), Cond.fieldLink RX5 95 "BottleShip$Hull" "height" "I", Cond.methodLink RX5 202 yX3_standing, Cond.instanceMethod yX3_standing, Cond.selects RX3 yX3_standing yX3_standing, Cond.code yX3_standing cX3_standing 2 (some .int), Cond.fieldLink RX3 15 "BottleShip$Mast" "height" "I", Cond.methodLink RX5 229 yX5_endWith, Cond.instanceMethod yX5_endWith, Cond.selects RX5 yX5_endWith yX5_endWith, Cond.code yX5_endWith cX5_endWith 4 (some .int), Cond.fieldLink RX5 94 "BottleShip$Hull" "length" "I", Cond.fieldLink RX5 109 "BottleShip$Mast" "place" "I", Cond.methodLink RX5 205 yX3_reach, Cond.instanceMethod yX3_reach]
def wsL_ship_r3 : List Cond := [Cond.selects RX3 yX3_reach yX3_reach, Cond.code yX3_reach cX3_reach 2 (some .int), Cond.methodLink RX5 151 yX5_goesThroughNeck, Cond.instanceMethod yX5_goesThroughNeck, Cond.selects RX5 yX5_goesThroughNeck yX5_goesThroughNeck, Cond.code yX5_goesThroughNeck cX5_goesThroughNeck 1 (some .boolean), Cond.fieldLink RX5 10 "BottleShip" "bottle" "LBottleShip$Bottle;", Cond.fieldLink RX5 74 "BottleShip$Bottle" "neck" "I", Cond.methodLink RX5 155 yX5_fitsWith, Cond.instanceMethod yX5_fitsWith, Cond.selects RX5 yX5_fitsWith yX5_fitsWith, Cond.code yX5_fitsWith cX5_fitsWith 2 (some .boolean), Cond.fieldLink RX5 81 "BottleShip$Bottle" "length" "I", Cond.fieldLink RX5 84 "BottleShip$Bottle" "putty" "I", Cond.fieldLink RX5 78 "BottleShip$Bottle" "high" "I"]
def wsL_ship : List Cond := .codeWith yL_ship cL_ship 4 (some .int) [(0, 9, 12, 28)] :: ((wsL_ship_r1 ++ (wsL_ship_r2 ++ wsL_ship_r3)) ++ wsX50 ++ wsX20 ++ wsX30 ++ wsX00 ++ (vx_atS RX5 120 "java/lang/IndexOutOfBoundsException" ["java/lang/RuntimeException", "java/lang/Exception"]).filter goodWord)
def wsL_count : List Cond := .codeWith yL_count cL_count 4 (some .int) [(0, 9, 12, 28)] :: ([.classLink RL 28 "java/lang/IndexOutOfBoundsException", .methodLink RL 53 yX5_count, .instanceMethod yX5_count, .selects RX5 yX5_count yX5_count, .initialized RX5, .code yX5_count cX5_count 2 (some .int), .classLink RX5 116 "java/lang/IndexOutOfBoundsException", .initialized "java/lang/IndexOutOfBoundsException", .fieldLink RX5 234 "BottleShip" "hour" "I", .fieldLink RX5 89 "BottleShip" "mastCount" "I", .fieldLink RX5 133 "BottleShip" "cordCount" "I", .fieldLink RX5 179 "BottleShip" "pullsDone" "I", .fieldLink RX5 173 "BottleShip" "pullsNotDone" "I", .methodLink RX5 237 yX5_mastsLeaning, .instanceMethod yX5_mastsLeaning, .selects RX5 yX5_mastsLeaning yX5_mastsLeaning, .code yX5_mastsLeaning cX5_mastsLeaning 4 (some .int), .fieldLink RX5 42 "BottleShip" "leans" "[I", .methodLink RX5 240 yX5_threadsThatAre, .instanceMethod yX5_threadsThatAre, .selects RX5 yX5_threadsThatAre yX5_threadsThatAre, .code yX5_threadsThatAre cX5_threadsThatAre 4 (some .int), .fieldLink RX5 31 "BottleShip" "cords" "[LBottleShip$Cord;", .fieldLink RX5 164 "BottleShip$Cord" "state" "I"] ++ wsX50 ++ wsX10 ++ (vx_atS RX5 120 "java/lang/IndexOutOfBoundsException" ["java/lang/RuntimeException", "java/lang/Exception"]).filter goodWord)
def wsL_pass_r1 : List Cond := [Cond.classLink RL 13 "java/lang/IllegalArgumentException", Cond.methodLink RL 56 yX5_pass, Cond.instanceMethod yX5_pass, Cond.selects RX5 yX5_pass yX5_pass, Cond.initialized RX5, Cond.code yX5_pass cX5_pass 6 (some .int), Cond.classLink RX5 58 "java/lang/IllegalArgumentException", Cond.initialized "java/lang/IllegalArgumentException", Cond.fieldLink RX5 89 "BottleShip" "mastCount" "I", Cond.fieldLink RX5 42 "BottleShip" "leans" "[I", Cond.methodLink RX5 248 Lib.Math.min.name, Cond.static Lib.Math.min.name, Cond.initialized "java/lang/Math", Cond.code Lib.Math.min.name Lib.Math.min.code 2 (some .int), Cond.fieldLink RX5 234 "BottleShip" "hour" "I", Cond.methodLink RX5 54 yX5_isWithin, Cond.static yX5_isWithin, Cond.code yX5_isWithin cX5_isWithin 3 (some .boolean), Cond.methodLink RX5 237 yX5_mastsLeaning, Cond.instanceMethod yX5_mastsLeaning, Cond.selects RX5 yX5_mastsLeaning yX5_mastsLeaning, Cond.code yX5_mastsLeaning cX5_mastsLeaning 4 (some .int), Cond.methodLink RX5 245 yX5_fallInAnHour, Cond.instanceMethod yX5_fallInAnHour]
def wsL_pass_r2 : List Cond := [Cond.selects RX5 yX5_fallInAnHour yX5_fallInAnHour, Cond.code yX5_fallInAnHour cX5_fallInAnHour 2 (some .int), Cond.fieldLink RX5 25 "BottleShip" "masts" "[LBottleShip$Mast;", Cond.fieldLink RX5 123 "BottleShip$Mast" "yardCount" "I", Cond.methodLink RX5 208 yX5_isHeld, Cond.instanceMethod yX5_isHeld, Cond.selects RX5 yX5_isHeld yX5_isHeld, Cond.code yX5_isHeld cX5_isHeld 2 (some .boolean), Cond.methodLink RX5 302 yX5_threadsFrom, Cond.instanceMethod yX5_threadsFrom, Cond.selects RX5 yX5_threadsFrom yX5_threadsFrom, Cond.code yX5_threadsFrom cX5_threadsFrom 5 (some .int), Cond.fieldLink RX5 133 "BottleShip" "cordCount" "I", Cond.fieldLink RX5 31 "BottleShip" "cords" "[LBottleShip$Cord;", Cond.fieldLink RX5 138 "BottleShip$Cord" "mast" "I", Cond.fieldLink RX5 164 "BottleShip$Cord" "state" "I", Cond.methodLink RX5 211 yX5_looseThreadsFrom, Cond.instanceMethod yX5_looseThreadsFrom, Cond.selects RX5 yX5_looseThreadsFrom yX5_looseThreadsFrom, Cond.code yX5_looseThreadsFrom cX5_looseThreadsFrom 2 (some .int)]
def wsL_pass : List Cond := .codeWith yL_pass cL_pass 4 (some .int) [(0, 9, 12, 13)] :: ((wsL_pass_r1 ++ wsL_pass_r2) ++ wsX50 ++ wsX30 ++ wsX10 ++ (vx_atS RX5 62 "java/lang/IllegalArgumentException" ["java/lang/RuntimeException", "java/lang/Exception"]).filter goodWord)
def wsL_least_r1 : List Cond := [Cond.classLink RL 28 "java/lang/IndexOutOfBoundsException", Cond.methodLink RL 59 yX5_least, Cond.instanceMethod yX5_least, Cond.selects RX5 yX5_least yX5_least, Cond.initialized RX5, Cond.code yX5_least cX5_least 4 (some .int), Cond.classLink RX5 116 "java/lang/IndexOutOfBoundsException", Cond.initialized "java/lang/IndexOutOfBoundsException", Cond.fieldLink RX5 42 "BottleShip" "leans" "[I", Cond.fieldLink RX5 38 "BottleShip" "search" "LBottleShip$Search;", Cond.fieldLink RX5 263 "BottleShip$Search" "reached" "I", Cond.fieldLink RX5 266 "BottleShip$Search" "queue" "[I", Cond.fieldLink RX5 49 "BottleShip" "leansAfter" "[I", Cond.methodLink RX5 248 Lib.Math.min.name, Cond.static Lib.Math.min.name, Cond.initialized "java/lang/Math", Cond.code Lib.Math.min.name Lib.Math.min.code 2 (some .int), Cond.methodLink RX5 113 yX5_isMast, Cond.instanceMethod yX5_isMast, Cond.selects RX5 yX5_isMast yX5_isMast, Cond.code yX5_isMast cX5_isMast 2 (some .boolean), Cond.fieldLink RX5 89 "BottleShip" "mastCount" "I", Cond.methodLink RX5 254 yX5_explore, Cond.instanceMethod yX5_explore]
def wsL_least_r2 : List Cond := [Cond.selects RX5 yX5_explore yX5_explore, Cond.code yX5_explore cX5_explore 2 none, Cond.fieldLink RX5 311 "BottleShip$Search" "handles" "[I", Cond.fieldLink RX5 317 "BottleShip$Search" "lowered" "[I", Cond.methodLink RX5 314 yX5_firstFreeThreadOf, Cond.instanceMethod yX5_firstFreeThreadOf, Cond.selects RX5 yX5_firstFreeThreadOf yX5_firstFreeThreadOf, Cond.code yX5_firstFreeThreadOf cX5_firstFreeThreadOf 3 (some .int), Cond.fieldLink RX5 133 "BottleShip" "cordCount" "I", Cond.fieldLink RX5 31 "BottleShip" "cords" "[LBottleShip$Cord;", Cond.fieldLink RX5 138 "BottleShip$Cord" "mast" "I", Cond.fieldLink RX5 164 "BottleShip$Cord" "state" "I", Cond.methodLink RX5 208 yX5_isHeld, Cond.instanceMethod yX5_isHeld, Cond.selects RX5 yX5_isHeld yX5_isHeld, Cond.code yX5_isHeld cX5_isHeld 2 (some .boolean), Cond.methodLink RX5 302 yX5_threadsFrom, Cond.instanceMethod yX5_threadsFrom, Cond.selects RX5 yX5_threadsFrom yX5_threadsFrom, Cond.code yX5_threadsFrom cX5_threadsFrom 5 (some .int), Cond.methodLink RX5 308 yX5_isCrossedByStronger, Cond.instanceMethod yX5_isCrossedByStronger, Cond.selects RX5 yX5_isCrossedByStronger yX5_isCrossedByStronger, Cond.code yX5_isCrossedByStronger cX5_isCrossedByStronger 4 (some .boolean)]
def wsL_least_r3 : List Cond := [Cond.fieldLink RX5 144 "BottleShip$Cord" "strength" "I", Cond.methodLink RX5 198 yX1_crosses, Cond.instanceMethod yX1_crosses, Cond.selects RX1 yX1_crosses yX1_crosses, Cond.initialized RX1, Cond.code yX1_crosses cX1_crosses 2 (some .boolean), Cond.fieldLink RX1 27 "BottleShip$Cord" "state" "I", Cond.fieldLink RX1 15 "BottleShip$Cord" "lesserPlace" "I", Cond.methodLink RX1 21 Lib.Math.max.name, Cond.static Lib.Math.max.name, Cond.code Lib.Math.max.name Lib.Math.max.code 2 (some .int), Cond.fieldLink RX1 24 "BottleShip$Cord" "greaterPlace" "I", Cond.methodLink RX1 9 Lib.Math.min.name, Cond.methodLink RX5 182 yX5_loweredBy, Cond.instanceMethod yX5_loweredBy, Cond.selects RX5 yX5_loweredBy yX5_loweredBy, Cond.code yX5_loweredBy cX5_loweredBy 5 (some .int), Cond.fieldLink RX5 141 "BottleShip$Cord" "to" "I", Cond.methodLink RX5 320 yX4_encode, Cond.static yX4_encode, Cond.initialized RX4, Cond.code yX4_encode cX4_encode 1 (some .int), Cond.methodLink RX5 323 yX4_begin, Cond.instanceMethod yX4_begin]
def wsL_least_r4 : List Cond := [Cond.selects RX4 yX4_begin yX4_begin, Cond.code yX4_begin cX4_begin 2 none, Cond.fieldLink RX4 21 "BottleShip$Search" "steps" "[I", Cond.fieldLink RX4 24 "BottleShip$Search" "openers" "[I", Cond.fieldLink RX4 18 "BottleShip$Search" "queue" "[I", Cond.fieldLink RX4 33 "BottleShip$Search" "reached" "I", Cond.methodLink RX4 27 yJ7_fill_53178, Cond.static yJ7_fill_53178, Cond.initialized RJ7, Cond.code yJ7_fill_53178 cJ7_fill_53178 4 none, Cond.methodLink RX5 327 yX5_exploreFrom, Cond.instanceMethod yX5_exploreFrom, Cond.selects RX5 yX5_exploreFrom yX5_exploreFrom, Cond.code yX5_exploreFrom cX5_exploreFrom 3 none, Cond.fieldLink RX5 46 "BottleShip" "leansBefore" "[I", Cond.fieldLink RX5 65 "BottleShip" "inside" "Z", Cond.methodLink RX5 269 yX4_decode, Cond.static yX4_decode, Cond.code yX4_decode cX4_decode 2 none, Cond.methodLink RX5 186 yX5_raise, Cond.static yX5_raise, Cond.code yX5_raise cX5_raise 5 none, Cond.methodLink RX5 155 yX5_fitsWith, Cond.instanceMethod yX5_fitsWith]
def wsL_least_r5 : List Cond := [Cond.selects RX5 yX5_fitsWith yX5_fitsWith, Cond.code yX5_fitsWith cX5_fitsWith 2 (some .boolean), Cond.fieldLink RX5 10 "BottleShip" "bottle" "LBottleShip$Bottle;", Cond.fieldLink RX5 81 "BottleShip$Bottle" "length" "I", Cond.fieldLink RX5 84 "BottleShip$Bottle" "putty" "I", Cond.fieldLink RX5 78 "BottleShip$Bottle" "high" "I", Cond.methodLink RX5 229 yX5_endWith, Cond.instanceMethod yX5_endWith, Cond.selects RX5 yX5_endWith yX5_endWith, Cond.code yX5_endWith cX5_endWith 4 (some .int), Cond.fieldLink RX5 19 "BottleShip" "hull" "LBottleShip$Hull;", Cond.fieldLink RX5 94 "BottleShip$Hull" "length" "I", Cond.fieldLink RX5 25 "BottleShip" "masts" "[LBottleShip$Mast;", Cond.fieldLink RX5 109 "BottleShip$Mast" "place" "I", Cond.methodLink RX5 276 Lib.Math.max.name, Cond.methodLink RX5 205 yX3_reach, Cond.instanceMethod yX3_reach, Cond.selects RX3 yX3_reach yX3_reach, Cond.initialized RX3, Cond.code yX3_reach cX3_reach 2 (some .int), Cond.fieldLink RX3 15 "BottleShip$Mast" "height" "I", Cond.methodLink RX5 225 yX5_topWith, Cond.instanceMethod yX5_topWith, Cond.selects RX5 yX5_topWith yX5_topWith]
def wsL_least_r6 : List Cond := [Cond.code yX5_topWith cX5_topWith 4 (some .int), Cond.fieldLink RX5 95 "BottleShip$Hull" "height" "I", Cond.methodLink RX5 202 yX3_standing, Cond.instanceMethod yX3_standing, Cond.selects RX3 yX3_standing yX3_standing, Cond.code yX3_standing cX3_standing 2 (some .int), Cond.methodLink RX5 330 yX4_reach, Cond.instanceMethod yX4_reach, Cond.selects RX4 yX4_reach yX4_reach, Cond.code yX4_reach cX4_reach 5 none, Cond.methodLink RX4 37 Lib.Math.min.name]
def wsL_least : List Cond := .codeWith yL_least cL_least 4 (some .int) [(0, 9, 12, 28)] :: ((wsL_least_r1 ++ (wsL_least_r2 ++ (wsL_least_r3 ++ (wsL_least_r4 ++ (wsL_least_r5 ++ wsL_least_r6))))) ++ wsX50 ++ wsX40 ++ wsX10 ++ wsX00 ++ wsX20 ++ wsX30 ++ (vx_atS RX5 120 "java/lang/IndexOutOfBoundsException" ["java/lang/RuntimeException", "java/lang/Exception"]).filter goodWord)
def wsL_law0_r1 : List Cond := [Cond.classLink RL 8 RX5, Cond.instantiable RX5 14, Cond.initialized RX5, Cond.classLink RL 63 RX6, Cond.instantiable RX6 25, Cond.initialized RX6, Cond.arrayClass .long, Cond.methodLink RL 62 yX5_init, Cond.instanceMethod yX5_init, Cond.code yX5_init cX5_init 2 none, Cond.methodLink RX5 1 objectInit, Cond.instanceMethod objectInit, Cond.code objectInit ⟨#[0xb1]⟩ 1 none, Cond.classLink RX5 7 RX0, Cond.instantiable RX0 4, Cond.initialized RX0, Cond.fieldLink RX5 10 "BottleShip" "bottle" "LBottleShip$Bottle;", Cond.classLink RX5 16 RX2, Cond.instantiable RX2 3, Cond.initialized RX2, Cond.fieldLink RX5 19 "BottleShip" "hull" "LBottleShip$Hull;", Cond.classLink RX5 23 RX3, Cond.fieldLink RX5 25 "BottleShip" "masts" "[LBottleShip$Mast;", Cond.classLink RX5 29 RX1]
def wsL_law0_r2 : List Cond := [Cond.fieldLink RX5 31 "BottleShip" "cords" "[LBottleShip$Cord;", Cond.classLink RX5 35 RX4, Cond.instantiable RX4 6, Cond.initialized RX4, Cond.fieldLink RX5 38 "BottleShip" "search" "LBottleShip$Search;", Cond.arrayClass .int, Cond.fieldLink RX5 42 "BottleShip" "leans" "[I", Cond.fieldLink RX5 46 "BottleShip" "leansBefore" "[I", Cond.fieldLink RX5 49 "BottleShip" "leansAfter" "[I", Cond.instantiable RX3 4, Cond.initialized RX3, Cond.instantiable RX1 6, Cond.initialized RX1, Cond.instanceMethod yX0_init, Cond.code yX0_init cX0_init 1 none, Cond.methodLink RX0 1 objectInit, Cond.fieldLink RX0 7 "BottleShip$Bottle" "neck" "I", Cond.fieldLink RX0 13 "BottleShip$Bottle" "high" "I", Cond.fieldLink RX0 16 "BottleShip$Bottle" "length" "I", Cond.fieldLink RX0 19 "BottleShip$Bottle" "putty" "I", Cond.instanceMethod yX2_init, Cond.code yX2_init cX2_init 1 none, Cond.methodLink RX2 1 objectInit, Cond.fieldLink RX2 7 "BottleShip$Hull" "length" "I"]
def wsL_law0_r3 : List Cond := [Cond.fieldLink RX2 13 "BottleShip$Hull" "height" "I", Cond.fieldLink RX2 16 "BottleShip$Hull" "width" "I", Cond.instanceMethod yX4_init, Cond.code yX4_init cX4_init 1 none, Cond.methodLink RX4 3 objectInit, Cond.fieldLink RX4 9 "BottleShip$Search" "handles" "[I", Cond.fieldLink RX4 15 "BottleShip$Search" "lowered" "[I", Cond.fieldLink RX4 18 "BottleShip$Search" "queue" "[I", Cond.fieldLink RX4 21 "BottleShip$Search" "steps" "[I", Cond.fieldLink RX4 24 "BottleShip$Search" "openers" "[I", Cond.instanceMethod yX3_init, Cond.code yX3_init cX3_init 1 none, Cond.methodLink RX3 3 objectInit, Cond.fieldLink RX3 9 "BottleShip$Mast" "yards" "[I", Cond.instanceMethod yX1_init, Cond.code yX1_init cX1_init 1 none, Cond.methodLink RX1 3 objectInit, Cond.methodLink RL 65 yX6_init, Cond.instanceMethod yX6_init, Cond.code yX6_init cX6_init 1 none, Cond.methodLink RX6 1 objectInit, Cond.fieldLink RX6 7 "BottleShipModel" "neck" "I", Cond.fieldLink RX6 13 "BottleShipModel" "high" "I", Cond.fieldLink RX6 16 "BottleShipModel" "room" "I"]
def wsL_law0_r4 : List Cond := [Cond.fieldLink RX6 19 "BottleShipModel" "length" "I", Cond.fieldLink RX6 22 "BottleShipModel" "height" "I", Cond.fieldLink RX6 25 "BottleShipModel" "width" "I", Cond.fieldLink RX6 28 "BottleShipModel" "place" "[I", Cond.fieldLink RX6 32 "BottleShipModel" "tall" "[I", Cond.fieldLink RX6 35 "BottleShipModel" "yards" "[I", Cond.fieldLink RX6 38 "BottleShipModel" "wide" "[I", Cond.fieldLink RX6 41 "BottleShipModel" "from" "[I", Cond.fieldLink RX6 44 "BottleShipModel" "to" "[I", Cond.fieldLink RX6 47 "BottleShipModel" "strength" "[I", Cond.fieldLink RX6 50 "BottleShipModel" "state" "[I", Cond.fieldLink RX6 53 "BottleShipModel" "pulls" "[I", Cond.fieldLink RX6 56 "BottleShipModel" "row" "[I", Cond.methodLink RL 66 yL_setBottle, Cond.static yL_setBottle, Cond.initialized RL, Cond.codeWith yL_setBottle cL_setBottle 7 (some .int) [(0, 14, 17, 13), (0, 14, 21, 15)], Cond.classLink RL 13 "java/lang/IllegalArgumentException", Cond.classLink RL 15 "java/lang/IllegalStateException", Cond.methodLink RL 7 yX5_setBottle, Cond.instanceMethod yX5_setBottle, Cond.selects RX5 yX5_setBottle yX5_setBottle, Cond.code yX5_setBottle cX5_setBottle 6 (some .int), Cond.classLink RX5 58 "java/lang/IllegalArgumentException"]
def wsL_law0_r5 : List Cond := [Cond.initialized "java/lang/IllegalArgumentException", Cond.classLink RX5 69 "java/lang/IllegalStateException", Cond.initialized "java/lang/IllegalStateException", Cond.fieldLink RX5 65 "BottleShip" "inside" "Z", Cond.fieldLink RX5 74 "BottleShip$Bottle" "neck" "I", Cond.fieldLink RX5 78 "BottleShip$Bottle" "high" "I", Cond.fieldLink RX5 81 "BottleShip$Bottle" "length" "I", Cond.fieldLink RX5 84 "BottleShip$Bottle" "putty" "I", Cond.methodLink RX5 54 yX5_isWithin, Cond.static yX5_isWithin, Cond.code yX5_isWithin cX5_isWithin 3 (some .boolean), Cond.methodLink RL 71 yX6_setBottle, Cond.instanceMethod yX6_setBottle, Cond.selects RX6 yX6_setBottle yX6_setBottle, Cond.code yX6_setBottle cX6_setBottle 6 (some .int), Cond.fieldLink RX6 59 "BottleShipModel" "thrown" "I", Cond.fieldLink RX6 123 "BottleShipModel" "isIn" "Z", Cond.fieldLink RX6 103 "BottleShipModel" "putty" "I", Cond.methodLink RX6 65 yX6_isBetween, Cond.static yX6_isBetween, Cond.code yX6_isBetween cX6_isBetween 3 (some .boolean), Cond.methodLink RX6 130 yX6_no, Cond.instanceMethod yX6_no, Cond.selects RX6 yX6_no yX6_no]
def wsL_law0_r6 : List Cond := [Cond.code yX6_no cX6_no 2 (some .int), Cond.methodLink RL 72 yX6_thrown, Cond.instanceMethod yX6_thrown, Cond.selects RX6 yX6_thrown yX6_thrown, Cond.code yX6_thrown cX6_thrown 1 (some .int), Cond.methodLink RL 76 yL_setHull, Cond.static yL_setHull, Cond.codeWith yL_setHull cL_setHull 6 (some .int) [(0, 12, 15, 13), (0, 12, 19, 15)], Cond.methodLink RL 17 yX5_setHull, Cond.instanceMethod yX5_setHull, Cond.selects RX5 yX5_setHull yX5_setHull, Cond.code yX5_setHull cX5_setHull 5 (some .int), Cond.fieldLink RX5 89 "BottleShip" "mastCount" "I", Cond.fieldLink RX5 94 "BottleShip$Hull" "length" "I", Cond.fieldLink RX5 95 "BottleShip$Hull" "height" "I", Cond.fieldLink RX5 98 "BottleShip$Hull" "width" "I", Cond.methodLink RL 79 yX6_setHull, Cond.instanceMethod yX6_setHull, Cond.selects RX6 yX6_setHull yX6_setHull, Cond.code yX6_setHull cX6_setHull 5 (some .int), Cond.fieldLink RX6 62 "BottleShipModel" "masts" "I", Cond.methodLink RL 80 yL_step, Cond.static yL_step, Cond.codeWith yL_step cL_step 5 (some .int) [(0, 10, 13, 13), (0, 10, 17, 15)]]
def wsL_law0_r7 : List Cond := [Cond.methodLink RL 21 yX5_step, Cond.instanceMethod yX5_step, Cond.selects RX5 yX5_step yX5_step, Cond.code yX5_step cX5_step 4 (some .int), Cond.fieldLink RX5 109 "BottleShip$Mast" "place" "I", Cond.fieldLink RX5 112 "BottleShip$Mast" "height" "I", Cond.methodLink RX5 103 yX5_hasMastAt, Cond.instanceMethod yX5_hasMastAt, Cond.selects RX5 yX5_hasMastAt yX5_hasMastAt, Cond.code yX5_hasMastAt cX5_hasMastAt 3 (some .boolean), Cond.methodLink RL 83 yX6_step, Cond.instanceMethod yX6_step, Cond.selects RX6 yX6_step yX6_step, Cond.code yX6_step cX6_step 5 (some .int), Cond.fieldLink RX6 91 "BottleShipModel" "leans" "I", Cond.methodLink RX6 72 yX6_unit, Cond.static yX6_unit, Cond.code yX6_unit cX6_unit 1 (some .int), Cond.methodLink RL 84 yL_yard, Cond.static yL_yard, Cond.codeWith yL_yard cL_yard 5 (some .int) [(0, 10, 13, 28), (0, 10, 17, 13), (0, 10, 21, 15)], Cond.classLink RL 28 "java/lang/IndexOutOfBoundsException", Cond.methodLink RL 25 yX5_yard, Cond.instanceMethod yX5_yard]
def wsL_law0_r8 : List Cond := [Cond.selects RX5 yX5_yard yX5_yard, Cond.code yX5_yard cX5_yard 4 (some .int), Cond.classLink RX5 116 "java/lang/IndexOutOfBoundsException", Cond.initialized "java/lang/IndexOutOfBoundsException", Cond.fieldLink RX5 123 "BottleShip$Mast" "yardCount" "I", Cond.fieldLink RX5 128 "BottleShip$Mast" "yards" "[I", Cond.methodLink RX5 113 yX5_isMast, Cond.instanceMethod yX5_isMast, Cond.selects RX5 yX5_isMast yX5_isMast, Cond.code yX5_isMast cX5_isMast 2 (some .boolean), Cond.methodLink RL 86 yX6_yard, Cond.instanceMethod yX6_yard, Cond.selects RX6 yX6_yard yX6_yard, Cond.code yX6_yard cX6_yard 3 (some .int), Cond.methodLink RX6 133 yX6_isMast, Cond.instanceMethod yX6_isMast, Cond.selects RX6 yX6_isMast yX6_isMast, Cond.code yX6_isMast cX6_isMast 2 (some .boolean), Cond.methodLink RL 87 yL_lead, Cond.static yL_lead, Cond.codeWith yL_lead cL_lead 6 (some .int) [(0, 12, 15, 28), (0, 12, 19, 13), (0, 12, 23, 15)], Cond.methodLink RL 30 yX5_lead, Cond.instanceMethod yX5_lead, Cond.selects RX5 yX5_lead yX5_lead]
def wsL_law0_r9 : List Cond := [Cond.code yX5_lead cX5_lead 5 (some .int), Cond.fieldLink RX5 133 "BottleShip" "cordCount" "I", Cond.fieldLink RX5 138 "BottleShip$Cord" "mast" "I", Cond.fieldLink RX5 141 "BottleShip$Cord" "to" "I", Cond.fieldLink RX5 144 "BottleShip$Cord" "strength" "I", Cond.methodLink RX5 147 yX1_span, Cond.instanceMethod yX1_span, Cond.selects RX1 yX1_span yX1_span, Cond.code yX1_span cX1_span 3 none, Cond.methodLink RX1 9 Lib.Math.min.name, Cond.static Lib.Math.min.name, Cond.initialized "java/lang/Math", Cond.code Lib.Math.min.name Lib.Math.min.code 2 (some .int), Cond.fieldLink RX1 15 "BottleShip$Cord" "lesserPlace" "I", Cond.methodLink RX1 21 Lib.Math.max.name, Cond.static Lib.Math.max.name, Cond.code Lib.Math.max.name Lib.Math.max.code 2 (some .int), Cond.fieldLink RX1 24 "BottleShip$Cord" "greaterPlace" "I", Cond.methodLink RL 89 yX6_lead, Cond.instanceMethod yX6_lead, Cond.selects RX6 yX6_lead yX6_lead, Cond.code yX6_lead cX6_lead 4 (some .int), Cond.fieldLink RX6 69 "BottleShipModel" "threads" "I", Cond.methodLink RL 90 yX5_enter]
def wsL_law0_r10 : List Cond := [Cond.instanceMethod yX5_enter, Cond.selects RX5 yX5_enter yX5_enter, Cond.code yX5_enter cX5_enter 1 (some .boolean), Cond.methodLink RX5 151 yX5_goesThroughNeck, Cond.instanceMethod yX5_goesThroughNeck, Cond.selects RX5 yX5_goesThroughNeck yX5_goesThroughNeck, Cond.code yX5_goesThroughNeck cX5_goesThroughNeck 1 (some .boolean), Cond.methodLink RX5 221 yX5_breadth, Cond.instanceMethod yX5_breadth, Cond.selects RX5 yX5_breadth yX5_breadth, Cond.code yX5_breadth cX5_breadth 3 (some .int), Cond.methodLink RX5 276 Lib.Math.max.name, Cond.methodLink RX5 305 yX3_widestYard, Cond.instanceMethod yX3_widestYard, Cond.selects RX3 yX3_widestYard yX3_widestYard, Cond.code yX3_widestYard cX3_widestYard 3 (some .int), Cond.fieldLink RX3 19 "BottleShip$Mast" "yardCount" "I", Cond.methodLink RX3 22 Lib.Math.max.name, Cond.methodLink RX5 225 yX5_topWith, Cond.instanceMethod yX5_topWith, Cond.selects RX5 yX5_topWith yX5_topWith, Cond.code yX5_topWith cX5_topWith 4 (some .int), Cond.methodLink RX5 202 yX3_standing, Cond.instanceMethod yX3_standing]
def wsL_law0_r11 : List Cond := [Cond.selects RX3 yX3_standing yX3_standing, Cond.code yX3_standing cX3_standing 2 (some .int), Cond.fieldLink RX3 15 "BottleShip$Mast" "height" "I", Cond.methodLink RX5 155 yX5_fitsWith, Cond.instanceMethod yX5_fitsWith, Cond.selects RX5 yX5_fitsWith yX5_fitsWith, Cond.code yX5_fitsWith cX5_fitsWith 2 (some .boolean), Cond.methodLink RX5 229 yX5_endWith, Cond.instanceMethod yX5_endWith, Cond.selects RX5 yX5_endWith yX5_endWith, Cond.code yX5_endWith cX5_endWith 4 (some .int), Cond.methodLink RX5 205 yX3_reach, Cond.instanceMethod yX3_reach, Cond.selects RX3 yX3_reach yX3_reach, Cond.code yX3_reach cX3_reach 2 (some .int), Cond.methodLink RL 94 yX6_enter, Cond.instanceMethod yX6_enter, Cond.selects RX6 yX6_enter yX6_enter, Cond.code yX6_enter cX6_enter 2 (some .boolean), Cond.methodLink RX6 136 yX6_goesThrough, Cond.instanceMethod yX6_goesThrough, Cond.selects RX6 yX6_goesThrough yX6_goesThrough, Cond.code yX6_goesThrough cX6_goesThrough 1 (some .boolean), Cond.methodLink RX6 94 yX6_breadth]
def wsL_law0_r12 : List Cond := [Cond.instanceMethod yX6_breadth, Cond.selects RX6 yX6_breadth yX6_breadth, Cond.code yX6_breadth cX6_breadth 5 (some .int), Cond.methodLink RX6 83 Lib.Math.max.name, Cond.methodLink RX6 76 yX6_lean, Cond.static yX6_lean, Cond.code yX6_lean cX6_lean 2 (some .int), Cond.methodLink RX6 97 yX6_top, Cond.instanceMethod yX6_top, Cond.selects RX6 yX6_top yX6_top, Cond.code yX6_top cX6_top 4 (some .int), Cond.methodLink RX6 80 yX6_stands, Cond.instanceMethod yX6_stands, Cond.selects RX6 yX6_stands yX6_stands, Cond.code yX6_stands cX6_stands 3 (some .int), Cond.methodLink RX6 127 yX6_fits, Cond.instanceMethod yX6_fits, Cond.selects RX6 yX6_fits yX6_fits, Cond.code yX6_fits cX6_fits 2 (some .boolean), Cond.methodLink RX6 100 yX6_end, Cond.instanceMethod yX6_end, Cond.selects RX6 yX6_end yX6_end, Cond.code yX6_end cX6_end 4 (some .int), Cond.methodLink RX6 88 yX6_reach]
def wsL_law0_r13 : List Cond := [Cond.instanceMethod yX6_reach, Cond.selects RX6 yX6_reach yX6_reach, Cond.code yX6_reach cX6_reach 3 (some .int), Cond.methodLink RL 95 yX5_leave, Cond.instanceMethod yX5_leave, Cond.selects RX5 yX5_leave yX5_leave, Cond.code yX5_leave cX5_leave 1 (some .boolean), Cond.methodLink RL 98 yX6_leave, Cond.instanceMethod yX6_leave, Cond.selects RX6 yX6_leave yX6_leave, Cond.code yX6_leave cX6_leave 2 (some .boolean), Cond.methodLink RL 99 yL_pull, Cond.static yL_pull, Cond.codeWith yL_pull cL_pull 4 (some .int) [(0, 9, 12, 28), (0, 9, 15, 15)], Cond.methodLink RL 33 yX5_pull, Cond.instanceMethod yX5_pull, Cond.selects RX5 yX5_pull yX5_pull, Cond.code yX5_pull cX5_pull 4 (some .int), Cond.fieldLink RX5 164 "BottleShip$Cord" "state" "I", Cond.fieldLink RX5 173 "BottleShip" "pullsNotDone" "I", Cond.fieldLink RX5 179 "BottleShip" "pullsDone" "I", Cond.methodLink RX5 190 arraycopyName, Cond.native arraycopyName, Cond.static arraycopyName]
def wsL_law0_r14 : List Cond := [Cond.initialized "java/lang/System", Cond.methodLink RX5 159 yX5_isThread, Cond.instanceMethod yX5_isThread, Cond.selects RX5 yX5_isThread yX5_isThread, Cond.code yX5_isThread cX5_isThread 2 (some .boolean), Cond.methodLink RX5 169 yX5_hindranceOf, Cond.instanceMethod yX5_hindranceOf, Cond.selects RX5 yX5_hindranceOf yX5_hindranceOf, Cond.code yX5_hindranceOf cX5_hindranceOf 2 (some .int), Cond.methodLink RX5 208 yX5_isHeld, Cond.instanceMethod yX5_isHeld, Cond.selects RX5 yX5_isHeld yX5_isHeld, Cond.code yX5_isHeld cX5_isHeld 2 (some .boolean), Cond.methodLink RX5 302 yX5_threadsFrom, Cond.instanceMethod yX5_threadsFrom, Cond.selects RX5 yX5_threadsFrom yX5_threadsFrom, Cond.code yX5_threadsFrom cX5_threadsFrom 5 (some .int), Cond.methodLink RX5 308 yX5_isCrossedByStronger, Cond.instanceMethod yX5_isCrossedByStronger, Cond.selects RX5 yX5_isCrossedByStronger yX5_isCrossedByStronger, Cond.code yX5_isCrossedByStronger cX5_isCrossedByStronger 4 (some .boolean), Cond.methodLink RX5 198 yX1_crosses, Cond.instanceMethod yX1_crosses, Cond.selects RX1 yX1_crosses yX1_crosses]
def wsL_law0_r15 : List Cond := [Cond.code yX1_crosses cX1_crosses 2 (some .boolean), Cond.fieldLink RX1 27 "BottleShip$Cord" "state" "I", Cond.methodLink RX5 182 yX5_loweredBy, Cond.instanceMethod yX5_loweredBy, Cond.selects RX5 yX5_loweredBy yX5_loweredBy, Cond.code yX5_loweredBy cX5_loweredBy 5 (some .int), Cond.methodLink RX5 186 yX5_raise, Cond.static yX5_raise, Cond.code yX5_raise cX5_raise 5 none, Cond.methodLink RX5 176 yX1_wear, Cond.instanceMethod yX1_wear, Cond.selects RX1 yX1_wear yX1_wear, Cond.code yX1_wear cX1_wear 1 none, Cond.fieldLink RX1 30 "BottleShip$Cord" "strength" "I", Cond.methodLink RL 102 yX6_pull, Cond.instanceMethod yX6_pull, Cond.selects RX6 yX6_pull yX6_pull, Cond.code yX6_pull cX6_pull 3 (some .int), Cond.fieldLink RX6 146 "BottleShipModel" "done" "I", Cond.fieldLink RX6 149 "BottleShipModel" "refused" "I", Cond.methodLink RX6 140 yX6_isThread, Cond.instanceMethod yX6_isThread, Cond.selects RX6 yX6_isThread yX6_isThread, Cond.code yX6_isThread cX6_isThread 2 (some .boolean)]
def wsL_law0_r16 : List Cond := [Cond.methodLink RX6 143 yX6_behind, Cond.instanceMethod yX6_behind, Cond.selects RX6 yX6_behind yX6_behind, Cond.code yX6_behind cX6_behind 6 (some .int), Cond.methodLink RX6 112 yX6_isHeld, Cond.instanceMethod yX6_isHeld, Cond.selects RX6 yX6_isHeld yX6_isHeld, Cond.code yX6_isHeld cX6_isHeld 3 (some .boolean), Cond.methodLink RX6 116 yX6_crosses, Cond.instanceMethod yX6_crosses, Cond.selects RX6 yX6_crosses yX6_crosses, Cond.code yX6_crosses cX6_crosses 5 (some .boolean), Cond.methodLink RX6 109 Lib.Math.min.name, Cond.methodLink RX6 106 yX6_placeOf, Cond.instanceMethod yX6_placeOf, Cond.selects RX6 yX6_placeOf yX6_placeOf, Cond.code yX6_placeOf cX6_placeOf 2 (some .int), Cond.methodLink RX6 120 yX6_leads, Cond.instanceMethod yX6_leads, Cond.selects RX6 yX6_leads yX6_leads, Cond.code yX6_leads cX6_leads 4 (some .boolean), Cond.methodLink RL 103 yL_glue, Cond.static yL_glue, Cond.codeWith yL_glue cL_glue 4 (some .int) [(0, 9, 12, 28), (0, 9, 15, 15)]]
def wsL_law0_r17 : List Cond := [Cond.methodLink RL 37 yX5_glue, Cond.instanceMethod yX5_glue, Cond.selects RX5 yX5_glue yX5_glue, Cond.code yX5_glue cX5_glue 3 (some .int), Cond.methodLink RL 105 yX6_glue, Cond.instanceMethod yX6_glue, Cond.selects RX6 yX6_glue yX6_glue, Cond.code yX6_glue cX6_glue 2 (some .int), Cond.methodLink RL 106 yL_cross, Cond.static yL_cross, Cond.codeWith yL_cross cL_cross 5 (some .int) [(0, 17, 20, 28)], Cond.methodLink RL 40 yX5_cross, Cond.instanceMethod yX5_cross, Cond.selects RX5 yX5_cross yX5_cross, Cond.code yX5_cross cX5_cross 3 (some .boolean), Cond.methodLink RL 108 yX6_cross, Cond.instanceMethod yX6_cross, Cond.selects RX6 yX6_cross yX6_cross, Cond.code yX6_cross cX6_cross 3 (some .boolean), Cond.methodLink RL 109 yL_mast, Cond.static yL_mast, Cond.codeWith yL_mast cL_mast 5 (some .int) [(0, 10, 13, 28)], Cond.methodLink RL 44 yX5_mast, Cond.instanceMethod yX5_mast]
def wsL_law0_r18 : List Cond := [Cond.selects RX5 yX5_mast yX5_mast, Cond.code yX5_mast cX5_mast 3 (some .int), Cond.methodLink RX5 211 yX5_looseThreadsFrom, Cond.instanceMethod yX5_looseThreadsFrom, Cond.selects RX5 yX5_looseThreadsFrom yX5_looseThreadsFrom, Cond.code yX5_looseThreadsFrom cX5_looseThreadsFrom 2 (some .int), Cond.methodLink RL 111 yX6_mast, Cond.instanceMethod yX6_mast, Cond.selects RX6 yX6_mast yX6_mast, Cond.code yX6_mast cX6_mast 3 (some .int), Cond.methodLink RX6 155 yX6_mastTold, Cond.instanceMethod yX6_mastTold, Cond.selects RX6 yX6_mastTold yX6_mastTold, Cond.code yX6_mastTold cX6_mastTold 4 (some .int), Cond.methodLink RX6 152 yX6_loose, Cond.instanceMethod yX6_loose, Cond.selects RX6 yX6_loose yX6_loose, Cond.code yX6_loose cX6_loose 4 (some .int), Cond.methodLink RL 112 yL_thread, Cond.static yL_thread, Cond.codeWith yL_thread cL_thread 5 (some .int) [(0, 10, 13, 28)], Cond.methodLink RL 47 yX5_thread, Cond.instanceMethod yX5_thread, Cond.selects RX5 yX5_thread yX5_thread]
def wsL_law0_r19 : List Cond := [Cond.code yX5_thread cX5_thread 4 (some .int), Cond.methodLink RX5 216 yX5_crossingsOf, Cond.instanceMethod yX5_crossingsOf, Cond.selects RX5 yX5_crossingsOf yX5_crossingsOf, Cond.code yX5_crossingsOf cX5_crossingsOf 4 (some .int), Cond.methodLink RL 114 yX6_thread, Cond.instanceMethod yX6_thread, Cond.selects RX6 yX6_thread yX6_thread, Cond.code yX6_thread cX6_thread 3 (some .int), Cond.methodLink RX6 158 yX6_threadTold, Cond.instanceMethod yX6_threadTold, Cond.selects RX6 yX6_threadTold yX6_threadTold, Cond.code yX6_threadTold cX6_threadTold 5 (some .int), Cond.methodLink RL 115 yL_ship, Cond.static yL_ship, Cond.codeWith yL_ship cL_ship 4 (some .int) [(0, 9, 12, 28)], Cond.methodLink RL 50 yX5_ship, Cond.instanceMethod yX5_ship, Cond.selects RX5 yX5_ship yX5_ship, Cond.code yX5_ship cX5_ship 2 (some .int), Cond.methodLink RL 117 yX6_ship, Cond.instanceMethod yX6_ship, Cond.selects RX6 yX6_ship yX6_ship, Cond.code yX6_ship cX6_ship 2 (some .int)]
def wsL_law0_r20 : List Cond := [Cond.methodLink RX6 161 yX6_shipTold, Cond.instanceMethod yX6_shipTold, Cond.selects RX6 yX6_shipTold yX6_shipTold, Cond.code yX6_shipTold cX6_shipTold 3 (some .int), Cond.methodLink RL 118 yL_count, Cond.static yL_count, Cond.codeWith yL_count cL_count 4 (some .int) [(0, 9, 12, 28)], Cond.methodLink RL 53 yX5_count, Cond.instanceMethod yX5_count, Cond.selects RX5 yX5_count yX5_count, Cond.code yX5_count cX5_count 2 (some .int), Cond.fieldLink RX5 234 "BottleShip" "hour" "I", Cond.methodLink RX5 237 yX5_mastsLeaning, Cond.instanceMethod yX5_mastsLeaning, Cond.selects RX5 yX5_mastsLeaning yX5_mastsLeaning, Cond.code yX5_mastsLeaning cX5_mastsLeaning 4 (some .int), Cond.methodLink RX5 240 yX5_threadsThatAre, Cond.instanceMethod yX5_threadsThatAre, Cond.selects RX5 yX5_threadsThatAre yX5_threadsThatAre, Cond.code yX5_threadsThatAre cX5_threadsThatAre 4 (some .int), Cond.methodLink RL 120 yX6_count, Cond.instanceMethod yX6_count, Cond.selects RX6 yX6_count yX6_count, Cond.code yX6_count cX6_count 2 (some .int)]
def wsL_law0_r21 : List Cond := [Cond.methodLink RX6 167 yX6_counted, Cond.instanceMethod yX6_counted, Cond.selects RX6 yX6_counted yX6_counted, Cond.code yX6_counted cX6_counted 6 (some .int), Cond.fieldLink RX6 164 "BottleShipModel" "hour" "I", Cond.methodLink RL 121 yL_pass, Cond.static yL_pass, Cond.codeWith yL_pass cL_pass 4 (some .int) [(0, 9, 12, 13)], Cond.methodLink RL 56 yX5_pass, Cond.instanceMethod yX5_pass, Cond.selects RX5 yX5_pass yX5_pass, Cond.code yX5_pass cX5_pass 6 (some .int), Cond.methodLink RX5 248 Lib.Math.min.name, Cond.methodLink RX5 245 yX5_fallInAnHour, Cond.instanceMethod yX5_fallInAnHour, Cond.selects RX5 yX5_fallInAnHour yX5_fallInAnHour, Cond.code yX5_fallInAnHour cX5_fallInAnHour 2 (some .int), Cond.methodLink RL 123 yX6_pass, Cond.instanceMethod yX6_pass, Cond.selects RX6 yX6_pass yX6_pass, Cond.code yX6_pass cX6_pass 4 (some .int), Cond.methodLink RX6 170 yX6_flat, Cond.instanceMethod yX6_flat, Cond.selects RX6 yX6_flat yX6_flat]
def wsL_law0_r22 : List Cond := [Cond.code yX6_flat cX6_flat 4 (some .int), Cond.methodLink RX6 173 yX6_later, Cond.instanceMethod yX6_later, Cond.selects RX6 yX6_later yX6_later, Cond.code yX6_later cX6_later 4 (some .int), Cond.methodLink RL 124 yX5_fewest, Cond.instanceMethod yX5_fewest, Cond.selects RX5 yX5_fewest yX5_fewest, Cond.code yX5_fewest cX5_fewest 1 (some .int), Cond.fieldLink RX5 257 "BottleShip$Search" "steps" "[I", Cond.methodLink RX5 254 yX5_explore, Cond.instanceMethod yX5_explore, Cond.selects RX5 yX5_explore yX5_explore, Cond.code yX5_explore cX5_explore 2 none, Cond.fieldLink RX5 311 "BottleShip$Search" "handles" "[I", Cond.fieldLink RX5 317 "BottleShip$Search" "lowered" "[I", Cond.fieldLink RX5 263 "BottleShip$Search" "reached" "I", Cond.fieldLink RX5 266 "BottleShip$Search" "queue" "[I", Cond.methodLink RX5 314 yX5_firstFreeThreadOf, Cond.instanceMethod yX5_firstFreeThreadOf, Cond.selects RX5 yX5_firstFreeThreadOf yX5_firstFreeThreadOf, Cond.code yX5_firstFreeThreadOf cX5_firstFreeThreadOf 3 (some .int), Cond.methodLink RX5 320 yX4_encode, Cond.static yX4_encode]
def wsL_law0_r23 : List Cond := [Cond.code yX4_encode cX4_encode 1 (some .int), Cond.methodLink RX5 323 yX4_begin, Cond.instanceMethod yX4_begin, Cond.selects RX4 yX4_begin yX4_begin, Cond.code yX4_begin cX4_begin 2 none, Cond.fieldLink RX4 33 "BottleShip$Search" "reached" "I", Cond.methodLink RX4 27 yJ7_fill_53178, Cond.static yJ7_fill_53178, Cond.initialized RJ7, Cond.code yJ7_fill_53178 cJ7_fill_53178 4 none, Cond.methodLink RX5 327 yX5_exploreFrom, Cond.instanceMethod yX5_exploreFrom, Cond.selects RX5 yX5_exploreFrom yX5_exploreFrom, Cond.code yX5_exploreFrom cX5_exploreFrom 3 none, Cond.methodLink RX5 269 yX4_decode, Cond.static yX4_decode, Cond.code yX4_decode cX4_decode 2 none, Cond.methodLink RX5 330 yX4_reach, Cond.instanceMethod yX4_reach, Cond.selects RX4 yX4_reach yX4_reach, Cond.code yX4_reach cX4_reach 5 none, Cond.methodLink RX4 37 Lib.Math.min.name, Cond.methodLink RL 127 yX6_fewest, Cond.instanceMethod yX6_fewest]
def wsL_law0_r24 : List Cond := [Cond.selects RX6 yX6_fewest yX6_fewest, Cond.code yX6_fewest cX6_fewest 1 (some .int), Cond.methodLink RX6 176 yX6_search, Cond.instanceMethod yX6_search, Cond.selects RX6 yX6_search yX6_search, Cond.code yX6_search cX6_search 6 (some .int), Cond.methodLink RL 128 yX5_first, Cond.instanceMethod yX5_first, Cond.selects RX5 yX5_first yX5_first, Cond.code yX5_first cX5_first 1 (some .int), Cond.fieldLink RX5 260 "BottleShip$Search" "openers" "[I", Cond.methodLink RL 131 yX6_first, Cond.instanceMethod yX6_first, Cond.selects RX6 yX6_first yX6_first, Cond.code yX6_first cX6_first 4 (some .int), Cond.methodLink RL 132 yL_least, Cond.static yL_least, Cond.codeWith yL_least cL_least 4 (some .int) [(0, 9, 12, 28)], Cond.methodLink RL 59 yX5_least, Cond.instanceMethod yX5_least, Cond.selects RX5 yX5_least yX5_least, Cond.code yX5_least cX5_least 4 (some .int), Cond.methodLink RL 134 yX6_least, Cond.instanceMethod yX6_least]
def wsL_law0_r25 : List Cond := [Cond.selects RX6 yX6_least yX6_least, Cond.code yX6_least cX6_least 5 (some .int), Cond.methodLink RL 135 yX5_falls, Cond.instanceMethod yX5_falls, Cond.selects RX5 yX5_falls yX5_falls, Cond.code yX5_falls cX5_falls 4 (some .int), Cond.methodLink RX5 273 yX5_hoursUntilFlat, Cond.instanceMethod yX5_hoursUntilFlat, Cond.selects RX5 yX5_hoursUntilFlat yX5_hoursUntilFlat, Cond.code yX5_hoursUntilFlat cX5_hoursUntilFlat 5 (some .int), Cond.methodLink RL 138 yX6_falls, Cond.instanceMethod yX6_falls, Cond.selects RX6 yX6_falls yX6_falls, Cond.code yX6_falls cX6_falls 3 (some .int), Cond.methodLink RL 139 yX5_mean, Cond.instanceMethod yX5_mean, Cond.selects RX5 yX5_mean yX5_mean, Cond.code yX5_mean cX5_mean 3 (some .double), Cond.methodLink RL 143 yX6_mean, Cond.instanceMethod yX6_mean, Cond.selects RX6 yX6_mean yX6_mean, Cond.code yX6_mean cX6_mean 3 (some .double), Cond.methodLink RL 144 yX5_digest, Cond.instanceMethod yX5_digest]
def wsL_law0_r26 : List Cond := [Cond.selects RX5 yX5_digest yX5_digest, Cond.code yX5_digest cX5_digest 5 (some .long), Cond.constantLong RX5 279 (823), Cond.constantLong RX5 281 (31), Cond.methodLink RX5 283 yX5_count, Cond.methodLink RX5 286 yX5_ship, Cond.methodLink RX5 289 yX0_digestOnto, Cond.instanceMethod yX0_digestOnto, Cond.selects RX0 yX0_digestOnto yX0_digestOnto, Cond.code yX0_digestOnto cX0_digestOnto 3 (some .long), Cond.constantLong RX0 22 (31), Cond.methodLink RX5 293 yX2_digestOnto, Cond.instanceMethod yX2_digestOnto, Cond.selects RX2 yX2_digestOnto yX2_digestOnto, Cond.code yX2_digestOnto cX2_digestOnto 3 (some .long), Cond.constantLong RX2 19 (31), Cond.methodLink RX5 294 yX5_mast, Cond.methodLink RX5 296 yX3_digestYardsOnto, Cond.instanceMethod yX3_digestYardsOnto, Cond.selects RX3 yX3_digestYardsOnto yX3_digestYardsOnto, Cond.code yX3_digestYardsOnto cX3_digestYardsOnto 6 (some .long), Cond.constantLong RX3 28 (31), Cond.methodLink RX5 299 yX5_thread, Cond.methodLink RL 148 yX6_digest]
def wsL_law0_r27 : List Cond := [Cond.instanceMethod yX6_digest, Cond.selects RX6 yX6_digest yX6_digest, Cond.code yX6_digest cX6_digest 6 (some .long), Cond.constantLong RX6 179 (823), Cond.constantLong RX6 181 (31)]
def wsL_law0 : List Cond := (wsL_law0_r1 ++ (wsL_law0_r2 ++ (wsL_law0_r3 ++ (wsL_law0_r4 ++ (wsL_law0_r5 ++ (wsL_law0_r6 ++ (wsL_law0_r7 ++ (wsL_law0_r8 ++ (wsL_law0_r9 ++ (wsL_law0_r10 ++ (wsL_law0_r11 ++ (wsL_law0_r12 ++ (wsL_law0_r13 ++ (wsL_law0_r14 ++ (wsL_law0_r15 ++ (wsL_law0_r16 ++ (wsL_law0_r17 ++ (wsL_law0_r18 ++ (wsL_law0_r19 ++ (wsL_law0_r20 ++ (wsL_law0_r21 ++ (wsL_law0_r22 ++ (wsL_law0_r23 ++ (wsL_law0_r24 ++ (wsL_law0_r25 ++ (wsL_law0_r26 ++ wsL_law0_r27)))))))))))))))))))))))))) ++ wsX50 ++ wsX60 ++ wsX00 ++ wsX20 ++ wsX40 ++ wsX30 ++ wsX10 ++ ([] : List Cond)
def wsL_law : List Cond := wsL_law0 ++ (vx_atS RX5 62 "java/lang/IllegalArgumentException" ["java/lang/RuntimeException", "java/lang/Exception"]).filter goodWord ++ (vx_atS RX5 73 "java/lang/IllegalStateException" ["java/lang/RuntimeException", "java/lang/Exception"]).filter goodWord ++ (vx_atS RX5 120 "java/lang/IndexOutOfBoundsException" ["java/lang/RuntimeException", "java/lang/Exception"]).filter goodWord
set_option maxRecDepth 20000 in
theorem in_wsL_law0_r1 : ∀ w ∈ wsL_law0_r1, w ∈ lw_tbl := fun w h => (goodIn_r wsL_law0_r1 [63, 64, 47, 652, 653, 53, 927, 65, 66, 67, 68, 69, 70, 71, 72, 48, 196, 94, 95, 49, 197, 113, 198, 115] (by decide +kernel) (by decide +kernel) w h).1
set_option maxRecDepth 20000 in
theorem in_wsL_law0_r2 : ∀ w ∈ wsL_law0_r2, w ∈ lw_tbl := fun w h => (goodIn_r wsL_law0_r2 [199, 117, 118, 50, 200, 148, 201, 202, 203, 149, 51, 170, 52, 74, 75, 76, 77, 79, 81, 83, 97, 98, 99, 100] (by decide +kernel) (by decide +kernel) w h).1
set_option maxRecDepth 20000 in
theorem in_wsL_law0_r3 : ∀ w ∈ wsL_law0_r3, w ∈ lw_tbl := fun w h => (goodIn_r wsL_law0_r3 [102, 104, 120, 121, 122, 123, 125, 127, 129, 131, 151, 152, 153, 154, 172, 173, 174, 654, 655, 656, 657, 659, 660, 661] (by decide +kernel) (by decide +kernel) w h).1
set_option maxRecDepth 20000 in
theorem in_wsL_law0_r4 : ∀ w ∈ wsL_law0_r4, w ∈ lw_tbl := fun w h => (goodIn_r wsL_law0_r4 [663, 664, 665, 672, 673, 674, 675, 677, 678, 679, 680, 681, 682, 497, 498, 46, 499, 500, 501, 502, 503, 504, 505, 509] (by decide +kernel) (by decide +kernel) w h).1
set_option maxRecDepth 20000 in
theorem in_wsL_law0_r5 : ∀ w ∈ wsL_law0_r5, w ∈ lw_tbl := fun w h => (goodIn_r wsL_law0_r5 [57, 525, 58, 206, 78, 80, 82, 84, 506, 507, 508, 738, 739, 740, 741, 658, 666, 662, 742, 743, 744, 745, 747, 23] (by decide +kernel) (by decide +kernel) w h).1
set_option maxRecDepth 20000 in
theorem in_wsL_law0_r6 : ∀ w ∈ wsL_law0_r6, w ∈ lw_tbl := fun w h => (goodIn_r wsL_law0_r6 [748, 734, 735, 736, 737, 541, 542, 543, 544, 545, 546, 547, 204, 101, 103, 105, 749, 750, 751, 752, 670, 550, 551, 552] (by decide +kernel) (by decide +kernel) w h).1
set_option maxRecDepth 20000 in
theorem in_wsL_law0_r7 : ∀ w ∈ wsL_law0_r7, w ∈ lw_tbl := fun w h => (goodIn_r wsL_law0_r7 [553, 554, 555, 556, 156, 158, 558, 560, 21, 561, 753, 754, 755, 756, 671, 757, 758, 759, 563, 564, 565, 566, 567, 568] (by decide +kernel) (by decide +kernel) w h).1
set_option maxRecDepth 20000 in
theorem in_wsL_law0_r8 : ∀ w ∈ wsL_law0_r8, w ∈ lw_tbl := fun w h => (goodIn_r wsL_law0_r8 [569, 570, 386, 59, 160, 155, 473, 475, 18, 476, 760, 761, 762, 763, 764, 766, 24, 767, 573, 574, 575, 576, 577, 578] (by decide +kernel) (by decide +kernel) w h).1
set_option maxRecDepth 20000 in
theorem in_wsL_law0_r9 : ∀ w ∈ wsL_law0_r9, w ∈ lw_tbl := fun w h => (goodIn_r wsL_law0_r9 [579, 205, 175, 176, 178, 582, 583, 584, 585, 312, 313, 60, 314, 181, 311, 256, 257, 182, 768, 769, 770, 771, 676, 239] (by decide +kernel) (by decide +kernel) w h).1
set_option maxRecDepth 20000 in
theorem in_wsL_law0_r10 : ∀ w ∈ wsL_law0_r10, w ∈ lw_tbl := fun w h => (goodIn_r wsL_law0_r10 [240, 241, 242, 243, 245, 0, 246, 247, 249, 1, 250, 258, 251, 252, 253, 254, 159, 255, 259, 261, 2, 262, 263, 264] (by decide +kernel) (by decide +kernel) w h).1
set_option maxRecDepth 20000 in
theorem in_wsL_law0_r11 : ∀ w ∈ wsL_law0_r11, w ∈ lw_tbl := fun w h => (goodIn_r wsL_law0_r11 [265, 266, 157, 267, 269, 3, 270, 271, 273, 4, 274, 275, 276, 277, 278, 772, 773, 774, 775, 776, 778, 25, 779, 780] (by decide +kernel) (by decide +kernel) w h).1
set_option maxRecDepth 20000 in
theorem in_wsL_law0_r12 : ∀ w ∈ wsL_law0_r12, w ∈ lw_tbl := fun w h => (goodIn_r wsL_law0_r12 [782, 26, 783, 787, 784, 785, 786, 788, 790, 27, 791, 792, 794, 28, 795, 796, 798, 29, 799, 800, 802, 30, 803, 804] (by decide +kernel) (by decide +kernel) w h).1
set_option maxRecDepth 20000 in
theorem in_wsL_law0_r13 : ∀ w ∈ wsL_law0_r13, w ∈ lw_tbl := fun w h => (goodIn_r wsL_law0_r13 [806, 31, 807, 279, 280, 281, 282, 808, 809, 810, 811, 586, 587, 588, 589, 590, 591, 592, 180, 209, 208, 602, 604, 603] (by decide +kernel) (by decide +kernel) w h).1
set_option maxRecDepth 20000 in
theorem in_wsL_law0_r14 : ∀ w ∈ wsL_law0_r14, w ∈ lw_tbl := fun w h => (goodIn_r wsL_law0_r14 [61, 487, 489, 19, 490, 594, 596, 22, 597, 295, 297, 7, 298, 299, 301, 8, 302, 303, 305, 9, 306, 307, 308, 309] (by decide +kernel) (by decide +kernel) w h).1
set_option maxRecDepth 20000 in
theorem in_wsL_law0_r15 : ∀ w ∈ wsL_law0_r15, w ∈ lw_tbl := fun w h => (goodIn_r wsL_law0_r15 [310, 179, 315, 317, 10, 318, 336, 337, 338, 598, 599, 600, 601, 177, 812, 813, 814, 815, 668, 669, 816, 818, 32, 819] (by decide +kernel) (by decide +kernel) w h).1
set_option maxRecDepth 20000 in
theorem in_wsL_law0_r16 : ∀ w ∈ wsL_law0_r16, w ∈ lw_tbl := fun w h => (goodIn_r wsL_law0_r16 [820, 822, 33, 823, 824, 826, 34, 827, 828, 830, 35, 831, 836, 832, 834, 36, 835, 837, 839, 37, 840, 605, 606, 607] (by decide +kernel) (by decide +kernel) w h).1
set_option maxRecDepth 20000 in
theorem in_wsL_law0_r17 : ∀ w ∈ wsL_law0_r17, w ∈ lw_tbl := fun w h => (goodIn_r wsL_law0_r17 [608, 609, 610, 611, 841, 842, 843, 844, 613, 614, 615, 616, 617, 618, 619, 845, 846, 847, 848, 620, 621, 622, 623, 470] (by decide +kernel) (by decide +kernel) w h).1
set_option maxRecDepth 20000 in
theorem in_wsL_law0_r18 : ∀ w ∈ wsL_law0_r18, w ∈ lw_tbl := fun w h => (goodIn_r wsL_law0_r18 [471, 472, 360, 362, 14, 363, 849, 850, 851, 852, 853, 855, 38, 856, 857, 859, 39, 860, 624, 625, 626, 627, 484, 485] (by decide +kernel) (by decide +kernel) w h).1
set_option maxRecDepth 20000 in
theorem in_wsL_law0_r19 : ∀ w ∈ wsL_law0_r19, w ∈ lw_tbl := fun w h => (goodIn_r wsL_law0_r19 [486, 492, 494, 20, 495, 861, 862, 863, 864, 865, 867, 40, 868, 628, 629, 630, 631, 455, 456, 457, 869, 870, 871, 872] (by decide +kernel) (by decide +kernel) w h).1
set_option maxRecDepth 20000 in
theorem in_wsL_law0_r20 : ∀ w ∈ wsL_law0_r20, w ∈ lw_tbl := fun w h => (goodIn_r wsL_law0_r20 [873, 875, 41, 876, 632, 633, 634, 635, 375, 376, 377, 207, 378, 380, 15, 381, 382, 384, 16, 385, 877, 878, 879, 880] (by decide +kernel) (by decide +kernel) w h).1
set_option maxRecDepth 20000 in
theorem in_wsL_law0_r21 : ∀ w ∈ wsL_law0_r21, w ∈ lw_tbl := fun w h => (goodIn_r wsL_law0_r21 [881, 883, 42, 884, 667, 636, 637, 638, 639, 640, 641, 642, 644, 356, 358, 13, 359, 885, 886, 887, 888, 889, 891, 43] (by decide +kernel) (by decide +kernel) w h).1
set_option maxRecDepth 20000 in
theorem in_wsL_law0_r22 : ∀ w ∈ wsL_law0_r22, w ∈ lw_tbl := fun w h => (goodIn_r wsL_law0_r22 [892, 893, 895, 44, 896, 283, 284, 285, 286, 130, 287, 289, 5, 290, 124, 126, 134, 128, 291, 293, 6, 294, 319, 320] (by decide +kernel) (by decide +kernel) w h).1
set_option maxRecDepth 20000 in
theorem in_wsL_law0_r23 : ∀ w ∈ wsL_law0_r23, w ∈ lw_tbl := fun w h => (goodIn_r wsL_law0_r23 [321, 322, 323, 324, 325, 133, 326, 327, 62, 328, 329, 331, 11, 332, 333, 334, 335, 339, 340, 341, 342, 343, 897, 898] (by decide +kernel) (by decide +kernel) w h).1
set_option maxRecDepth 20000 in
theorem in_wsL_law0_r24 : ∀ w ∈ wsL_law0_r24, w ∈ lw_tbl := fun w h => (goodIn_r wsL_law0_r24 [899, 900, 901, 903, 45, 904, 344, 345, 346, 347, 132, 905, 906, 907, 908, 645, 646, 647, 648, 649, 650, 651, 909, 910] (by decide +kernel) (by decide +kernel) w h).1
set_option maxRecDepth 20000 in
theorem in_wsL_law0_r25 : ∀ w ∈ wsL_law0_r25, w ∈ lw_tbl := fun w h => (goodIn_r wsL_law0_r25 [911, 912, 348, 349, 350, 351, 352, 354, 12, 355, 913, 914, 915, 916, 364, 365, 366, 367, 917, 918, 919, 920, 368, 369] (by decide +kernel) (by decide +kernel) w h).1
set_option maxRecDepth 20000 in
theorem in_wsL_law0_r26 : ∀ w ∈ wsL_law0_r26, w ∈ lw_tbl := fun w h => (goodIn_r wsL_law0_r26 [370, 371, 372, 373, 374, 454, 459, 460, 461, 462, 463, 464, 465, 466, 467, 468, 469, 478, 479, 480, 481, 482, 483, 921] (by decide +kernel) (by decide +kernel) w h).1
set_option maxRecDepth 20000 in
theorem in_wsL_law0_r27 : ∀ w ∈ wsL_law0_r27, w ∈ lw_tbl := fun w h => (goodIn_r wsL_law0_r27 [922, 923, 924, 925, 926] (by decide +kernel) (by decide +kernel) w h).1
set_option maxRecDepth 20000 in
theorem in_wsX50 : ∀ w ∈ wsX50, w ∈ lw_tbl := fun w h => (goodIn_r wsX50 [210, 212, 214, 216, 218, 220, 222, 224, 226, 228, 230, 232, 234, 236] (by decide +kernel) (by decide +kernel) w h).1
set_option maxRecDepth 20000 in
theorem in_wsX60 : ∀ w ∈ wsX60, w ∈ lw_tbl := fun w h => (goodIn_r wsX60 [683, 685, 687, 689, 691, 693, 695, 697, 699, 701, 703, 705, 707, 709, 711, 713, 715, 717, 719, 721, 723, 725, 727, 729, 731] (by decide +kernel) (by decide +kernel) w h).1
set_option maxRecDepth 20000 in
theorem in_wsX00 : ∀ w ∈ wsX00, w ∈ lw_tbl := fun w h => (goodIn_r wsX00 [85, 87, 89, 91] (by decide +kernel) (by decide +kernel) w h).1
set_option maxRecDepth 20000 in
theorem in_wsX20 : ∀ w ∈ wsX20, w ∈ lw_tbl := fun w h => (goodIn_r wsX20 [106, 108, 110] (by decide +kernel) (by decide +kernel) w h).1
set_option maxRecDepth 20000 in
theorem in_wsX40 : ∀ w ∈ wsX40, w ∈ lw_tbl := fun w h => (goodIn_r wsX40 [135, 137, 139, 141, 143, 145] (by decide +kernel) (by decide +kernel) w h).1
set_option maxRecDepth 20000 in
theorem in_wsX30 : ∀ w ∈ wsX30, w ∈ lw_tbl := fun w h => (goodIn_r wsX30 [161, 163, 165, 167] (by decide +kernel) (by decide +kernel) w h).1
set_option maxRecDepth 20000 in
theorem in_wsX10 : ∀ w ∈ wsX10, w ∈ lw_tbl := fun w h => (goodIn_r wsX10 [183, 185, 187, 189, 191, 193] (by decide +kernel) (by decide +kernel) w h).1
end
section
theorem wsL_law_in0 : ∀ w ∈ wsL_law0, w ∈ lw_tbl := by
  unfold wsL_law0
  intro w h
  rcases List.mem_append.mp h with h | h
  rotate_left
  · exact absurd h List.not_mem_nil
  rcases List.mem_append.mp h with h | h
  rotate_left
  · exact in_wsX10 w h
  rcases List.mem_append.mp h with h | h
  rotate_left
  · exact in_wsX30 w h
  rcases List.mem_append.mp h with h | h
  rotate_left
  · exact in_wsX40 w h
  rcases List.mem_append.mp h with h | h
  rotate_left
  · exact in_wsX20 w h
  rcases List.mem_append.mp h with h | h
  rotate_left
  · exact in_wsX00 w h
  rcases List.mem_append.mp h with h | h
  rotate_left
  · exact in_wsX60 w h
  rcases List.mem_append.mp h with h | h
  rotate_left
  · exact in_wsX50 w h
  rcases List.mem_append.mp h with h | h
  · exact in_wsL_law0_r1 w h
  rcases List.mem_append.mp h with h | h
  · exact in_wsL_law0_r2 w h
  rcases List.mem_append.mp h with h | h
  · exact in_wsL_law0_r3 w h
  rcases List.mem_append.mp h with h | h
  · exact in_wsL_law0_r4 w h
  rcases List.mem_append.mp h with h | h
  · exact in_wsL_law0_r5 w h
  rcases List.mem_append.mp h with h | h
  · exact in_wsL_law0_r6 w h
  rcases List.mem_append.mp h with h | h
  · exact in_wsL_law0_r7 w h
  rcases List.mem_append.mp h with h | h
  · exact in_wsL_law0_r8 w h
  rcases List.mem_append.mp h with h | h
  · exact in_wsL_law0_r9 w h
  rcases List.mem_append.mp h with h | h
  · exact in_wsL_law0_r10 w h
  rcases List.mem_append.mp h with h | h
  · exact in_wsL_law0_r11 w h
  rcases List.mem_append.mp h with h | h
  · exact in_wsL_law0_r12 w h
  rcases List.mem_append.mp h with h | h
  · exact in_wsL_law0_r13 w h
  rcases List.mem_append.mp h with h | h
  · exact in_wsL_law0_r14 w h
  rcases List.mem_append.mp h with h | h
  · exact in_wsL_law0_r15 w h
  rcases List.mem_append.mp h with h | h
  · exact in_wsL_law0_r16 w h
  rcases List.mem_append.mp h with h | h
  · exact in_wsL_law0_r17 w h
  rcases List.mem_append.mp h with h | h
  · exact in_wsL_law0_r18 w h
  rcases List.mem_append.mp h with h | h
  · exact in_wsL_law0_r19 w h
  rcases List.mem_append.mp h with h | h
  · exact in_wsL_law0_r20 w h
  rcases List.mem_append.mp h with h | h
  · exact in_wsL_law0_r21 w h
  rcases List.mem_append.mp h with h | h
  · exact in_wsL_law0_r22 w h
  rcases List.mem_append.mp h with h | h
  · exact in_wsL_law0_r23 w h
  rcases List.mem_append.mp h with h | h
  · exact in_wsL_law0_r24 w h
  rcases List.mem_append.mp h with h | h
  · exact in_wsL_law0_r25 w h
  rcases List.mem_append.mp h with h | h
  · exact in_wsL_law0_r26 w h
  exact in_wsL_law0_r27 w h
theorem wsL_law_x0 : ∀ w ∈ (vx_atS RX5 62 "java/lang/IllegalArgumentException" ["java/lang/RuntimeException", "java/lang/Exception"]).filter goodWord, w ∈ lw_tbl := by decide +kernel
theorem wsL_law_x1 : ∀ w ∈ (vx_atS RX5 73 "java/lang/IllegalStateException" ["java/lang/RuntimeException", "java/lang/Exception"]).filter goodWord, w ∈ lw_tbl := by decide +kernel
theorem wsL_law_x2 : ∀ w ∈ (vx_atS RX5 120 "java/lang/IndexOutOfBoundsException" ["java/lang/RuntimeException", "java/lang/Exception"]).filter goodWord, w ∈ lw_tbl := by decide +kernel
theorem wsL_law_in : ∀ w ∈ wsL_law, w ∈ lw_tbl := fun w h => (List.mem_append.mp h).elim (fun h => (List.mem_append.mp h).elim (fun h => (List.mem_append.mp h).elim (fun h => wsL_law_in0 w h) (fun h => wsL_law_x0 w h)) (fun h => wsL_law_x1 w h)) (fun h => wsL_law_x2 w h)
theorem inlX0 : ∀ w ∈ wsX00, w ∈ wsL_law := fun _ h => List.mem_append_left _ (List.mem_append_left _ (List.mem_append_left _ (List.mem_append_left _ (List.mem_append_left _ (List.mem_append_left _ (List.mem_append_left _ (List.mem_append_left _ (List.mem_append_right _ h))))))))
theorem inX0 : ∀ w ∈ wsX00, w ∈ lw_tbl := fun w h => wsL_law_in w (inlX0 w h)
theorem inlX1 : ∀ w ∈ wsX10, w ∈ wsL_law := fun _ h => List.mem_append_left _ (List.mem_append_left _ (List.mem_append_left _ (List.mem_append_left _ (List.mem_append_right _ h))))
theorem inX1 : ∀ w ∈ wsX10, w ∈ lw_tbl := fun w h => wsL_law_in w (inlX1 w h)
theorem inlX2 : ∀ w ∈ wsX20, w ∈ wsL_law := fun _ h => List.mem_append_left _ (List.mem_append_left _ (List.mem_append_left _ (List.mem_append_left _ (List.mem_append_left _ (List.mem_append_left _ (List.mem_append_left _ (List.mem_append_right _ h)))))))
theorem inX2 : ∀ w ∈ wsX20, w ∈ lw_tbl := fun w h => wsL_law_in w (inlX2 w h)
theorem inlX3 : ∀ w ∈ wsX30, w ∈ wsL_law := fun _ h => List.mem_append_left _ (List.mem_append_left _ (List.mem_append_left _ (List.mem_append_left _ (List.mem_append_left _ (List.mem_append_right _ h)))))
theorem inX3 : ∀ w ∈ wsX30, w ∈ lw_tbl := fun w h => wsL_law_in w (inlX3 w h)
theorem inlX4 : ∀ w ∈ wsX40, w ∈ wsL_law := fun _ h => List.mem_append_left _ (List.mem_append_left _ (List.mem_append_left _ (List.mem_append_left _ (List.mem_append_left _ (List.mem_append_left _ (List.mem_append_right _ h))))))
theorem inX4 : ∀ w ∈ wsX40, w ∈ lw_tbl := fun w h => wsL_law_in w (inlX4 w h)
theorem inlX5 : ∀ w ∈ wsX50, w ∈ wsL_law := fun _ h => List.mem_append_left _ (List.mem_append_left _ (List.mem_append_left _ (List.mem_append_left _ (List.mem_append_left _ (List.mem_append_left _ (List.mem_append_left _ (List.mem_append_left _ (List.mem_append_left _ (List.mem_append_left _ (List.mem_append_right _ h))))))))))
theorem inX5 : ∀ w ∈ wsX50, w ∈ lw_tbl := fun w h => wsL_law_in w (inlX5 w h)
theorem inlX6 : ∀ w ∈ wsX60, w ∈ wsL_law := fun _ h => List.mem_append_left _ (List.mem_append_left _ (List.mem_append_left _ (List.mem_append_left _ (List.mem_append_left _ (List.mem_append_left _ (List.mem_append_left _ (List.mem_append_left _ (List.mem_append_left _ (List.mem_append_right _ h)))))))))
theorem inX6 : ∀ w ∈ wsX60, w ∈ lw_tbl := fun w h => wsL_law_in w (inlX6 w h)
theorem inJx145de : ∀ w ∈ wsJx145de0, w ∈ lw_tbl := by decide +kernel
theorem inJ9 : ∀ w ∈ wsJ90, w ∈ lw_tbl := by decide +kernel
theorem inJ0 : ∀ w ∈ wsJ00, w ∈ lw_tbl := by decide +kernel
theorem inJ10 : ∀ w ∈ wsJ100, w ∈ lw_tbl := by decide +kernel
theorem inJ7 : ∀ w ∈ wsJ70, w ∈ lw_tbl := by decide +kernel
theorem dX0_init_0 : decode cX0_init 0 = .ok (.aload_n 0, 1) := by decide +kernel
theorem dX0_init_1 : decode cX0_init 1 = .ok (.invokespecial 1, 3) := by decide +kernel
theorem dX0_init_4 : decode cX0_init 4 = .ok (.aload_n 0, 1) := by decide +kernel
theorem dX0_init_5 : decode cX0_init 5 = .ok (.bipush 8, 2) := by decide +kernel
theorem dX0_init_7 : decode cX0_init 7 = .ok (.putfield 7, 3) := by decide +kernel
theorem dX0_init_10 : decode cX0_init 10 = .ok (.aload_n 0, 1) := by decide +kernel
theorem dX0_init_11 : decode cX0_init 11 = .ok (.bipush 30, 2) := by decide +kernel
theorem dX0_init_13 : decode cX0_init 13 = .ok (.putfield 13, 3) := by decide +kernel
theorem dX0_init_16 : decode cX0_init 16 = .ok (.aload_n 0, 1) := by decide +kernel
theorem dX0_init_17 : decode cX0_init 17 = .ok (.bipush 60, 2) := by decide +kernel
theorem dX0_init_19 : decode cX0_init 19 = .ok (.putfield 16, 3) := by decide +kernel
theorem dX0_init_22 : decode cX0_init 22 = .ok (.aload_n 0, 1) := by decide +kernel
theorem dX0_init_23 : decode cX0_init 23 = .ok (.iconst 0, 1) := by decide +kernel
theorem dX0_init_24 : decode cX0_init 24 = .ok (.putfield 19, 3) := by decide +kernel
theorem dX0_init_27 : decode cX0_init 27 = .ok (.return_, 1) := by decide +kernel
theorem dX0_digestOnto_0 : decode cX0_digestOnto 0 = .ok (.lload_n 1, 1) := by decide +kernel
theorem dX0_digestOnto_1 : decode cX0_digestOnto 1 = .ok (.ldc2_w 22, 3) := by decide +kernel
theorem dX0_digestOnto_4 : decode cX0_digestOnto 4 = .ok (.lmul, 1) := by decide +kernel
theorem dX0_digestOnto_5 : decode cX0_digestOnto 5 = .ok (.aload_n 0, 1) := by decide +kernel
theorem dX0_digestOnto_6 : decode cX0_digestOnto 6 = .ok (.getfield 7, 3) := by decide +kernel
theorem dX0_digestOnto_9 : decode cX0_digestOnto 9 = .ok (.i2l, 1) := by decide +kernel
theorem dX0_digestOnto_10 : decode cX0_digestOnto 10 = .ok (.ladd, 1) := by decide +kernel
theorem dX0_digestOnto_11 : decode cX0_digestOnto 11 = .ok (.ldc2_w 22, 3) := by decide +kernel
theorem dX0_digestOnto_14 : decode cX0_digestOnto 14 = .ok (.lmul, 1) := by decide +kernel
theorem dX0_digestOnto_15 : decode cX0_digestOnto 15 = .ok (.aload_n 0, 1) := by decide +kernel
theorem dX0_digestOnto_16 : decode cX0_digestOnto 16 = .ok (.getfield 13, 3) := by decide +kernel
theorem dX0_digestOnto_19 : decode cX0_digestOnto 19 = .ok (.i2l, 1) := by decide +kernel
theorem dX0_digestOnto_20 : decode cX0_digestOnto 20 = .ok (.ladd, 1) := by decide +kernel
theorem dX0_digestOnto_21 : decode cX0_digestOnto 21 = .ok (.ldc2_w 22, 3) := by decide +kernel
theorem dX0_digestOnto_24 : decode cX0_digestOnto 24 = .ok (.lmul, 1) := by decide +kernel
theorem dX0_digestOnto_25 : decode cX0_digestOnto 25 = .ok (.aload_n 0, 1) := by decide +kernel
theorem dX0_digestOnto_26 : decode cX0_digestOnto 26 = .ok (.getfield 16, 3) := by decide +kernel
theorem dX0_digestOnto_29 : decode cX0_digestOnto 29 = .ok (.i2l, 1) := by decide +kernel
theorem dX0_digestOnto_30 : decode cX0_digestOnto 30 = .ok (.ladd, 1) := by decide +kernel
theorem dX0_digestOnto_31 : decode cX0_digestOnto 31 = .ok (.ldc2_w 22, 3) := by decide +kernel
theorem dX0_digestOnto_34 : decode cX0_digestOnto 34 = .ok (.lmul, 1) := by decide +kernel
theorem dX0_digestOnto_35 : decode cX0_digestOnto 35 = .ok (.aload_n 0, 1) := by decide +kernel
theorem dX0_digestOnto_36 : decode cX0_digestOnto 36 = .ok (.getfield 19, 3) := by decide +kernel
theorem dX0_digestOnto_39 : decode cX0_digestOnto 39 = .ok (.i2l, 1) := by decide +kernel
theorem dX0_digestOnto_40 : decode cX0_digestOnto 40 = .ok (.ladd, 1) := by decide +kernel
theorem dX0_digestOnto_41 : decode cX0_digestOnto 41 = .ok (.lreturn, 1) := by decide +kernel
theorem dX1_init_0 : decode cX1_init 0 = .ok (.aload_n 0, 1) := by decide +kernel
theorem dX1_init_1 : decode cX1_init 1 = .ok (.invokespecial 3, 3) := by decide +kernel
theorem dX1_init_4 : decode cX1_init 4 = .ok (.return_, 1) := by decide +kernel
theorem dX1_span_0 : decode cX1_span 0 = .ok (.aload_n 0, 1) := by decide +kernel
theorem dX1_span_1 : decode cX1_span 1 = .ok (.iload_n 1, 1) := by decide +kernel
theorem dX1_span_2 : decode cX1_span 2 = .ok (.iload_n 2, 1) := by decide +kernel
theorem dX1_span_3 : decode cX1_span 3 = .ok (.invokestatic 9, 3) := by decide +kernel
theorem dX1_span_6 : decode cX1_span 6 = .ok (.putfield 15, 3) := by decide +kernel
theorem dX1_span_9 : decode cX1_span 9 = .ok (.aload_n 0, 1) := by decide +kernel
theorem dX1_span_10 : decode cX1_span 10 = .ok (.iload_n 1, 1) := by decide +kernel
theorem dX1_span_11 : decode cX1_span 11 = .ok (.iload_n 2, 1) := by decide +kernel
theorem dX1_span_12 : decode cX1_span 12 = .ok (.invokestatic 21, 3) := by decide +kernel
theorem dX1_span_15 : decode cX1_span 15 = .ok (.putfield 24, 3) := by decide +kernel
theorem dX1_span_18 : decode cX1_span 18 = .ok (.return_, 1) := by decide +kernel
theorem dX1_crosses_0 : decode cX1_crosses 0 = .ok (.aload_n 1, 1) := by decide +kernel
theorem dX1_crosses_1 : decode cX1_crosses 1 = .ok (.aload_n 0, 1) := by decide +kernel
theorem dX1_crosses_2 : decode cX1_crosses 2 = .ok (.if_acmp .eq 19, 3) := by decide +kernel
theorem dX1_crosses_5 : decode cX1_crosses 5 = .ok (.aload_n 0, 1) := by decide +kernel
theorem dX1_crosses_6 : decode cX1_crosses 6 = .ok (.getfield 27, 3) := by decide +kernel
theorem dX1_crosses_9 : decode cX1_crosses 9 = .ok (.iconst 2, 1) := by decide +kernel
theorem dX1_crosses_10 : decode cX1_crosses 10 = .ok (.if_icmp .eq 11, 3) := by decide +kernel
theorem dX1_crosses_13 : decode cX1_crosses 13 = .ok (.aload_n 1, 1) := by decide +kernel
theorem dX1_crosses_14 : decode cX1_crosses 14 = .ok (.getfield 27, 3) := by decide +kernel
theorem dX1_crosses_17 : decode cX1_crosses 17 = .ok (.iconst 2, 1) := by decide +kernel
theorem dX1_crosses_18 : decode cX1_crosses 18 = .ok (.if_icmp .ne 5, 3) := by decide +kernel
theorem dX1_crosses_21 : decode cX1_crosses 21 = .ok (.iconst 0, 1) := by decide +kernel
theorem dX1_crosses_22 : decode cX1_crosses 22 = .ok (.ireturn, 1) := by decide +kernel
theorem dX1_crosses_23 : decode cX1_crosses 23 = .ok (.aload_n 0, 1) := by decide +kernel
theorem dX1_crosses_24 : decode cX1_crosses 24 = .ok (.getfield 15, 3) := by decide +kernel
theorem dX1_crosses_27 : decode cX1_crosses 27 = .ok (.aload_n 1, 1) := by decide +kernel
theorem dX1_crosses_28 : decode cX1_crosses 28 = .ok (.getfield 15, 3) := by decide +kernel
theorem dX1_crosses_31 : decode cX1_crosses 31 = .ok (.invokestatic 21, 3) := by decide +kernel
theorem dX1_crosses_34 : decode cX1_crosses 34 = .ok (.aload_n 0, 1) := by decide +kernel
theorem dX1_crosses_35 : decode cX1_crosses 35 = .ok (.getfield 24, 3) := by decide +kernel
theorem dX1_crosses_38 : decode cX1_crosses 38 = .ok (.aload_n 1, 1) := by decide +kernel
theorem dX1_crosses_39 : decode cX1_crosses 39 = .ok (.getfield 24, 3) := by decide +kernel
theorem dX1_crosses_42 : decode cX1_crosses 42 = .ok (.invokestatic 9, 3) := by decide +kernel
theorem dX1_crosses_45 : decode cX1_crosses 45 = .ok (.if_icmp .ge 7, 3) := by decide +kernel
theorem dX1_crosses_48 : decode cX1_crosses 48 = .ok (.iconst 1, 1) := by decide +kernel
theorem dX1_crosses_49 : decode cX1_crosses 49 = .ok (.goto 4, 3) := by decide +kernel
theorem dX1_crosses_52 : decode cX1_crosses 52 = .ok (.iconst 0, 1) := by decide +kernel
theorem dX1_crosses_53 : decode cX1_crosses 53 = .ok (.ireturn, 1) := by decide +kernel
theorem dX1_wear_0 : decode cX1_wear 0 = .ok (.aload_n 0, 1) := by decide +kernel
theorem dX1_wear_1 : decode cX1_wear 1 = .ok (.dup, 1) := by decide +kernel
theorem dX1_wear_2 : decode cX1_wear 2 = .ok (.getfield 30, 3) := by decide +kernel
theorem dX1_wear_5 : decode cX1_wear 5 = .ok (.iconst 1, 1) := by decide +kernel
theorem dX1_wear_6 : decode cX1_wear 6 = .ok (.isub, 1) := by decide +kernel
theorem dX1_wear_7 : decode cX1_wear 7 = .ok (.putfield 30, 3) := by decide +kernel
theorem dX1_wear_10 : decode cX1_wear 10 = .ok (.aload_n 0, 1) := by decide +kernel
theorem dX1_wear_11 : decode cX1_wear 11 = .ok (.getfield 30, 3) := by decide +kernel
theorem dX1_wear_14 : decode cX1_wear 14 = .ok (.ifCond .ne 8, 3) := by decide +kernel
theorem dX1_wear_17 : decode cX1_wear 17 = .ok (.aload_n 0, 1) := by decide +kernel
theorem dX1_wear_18 : decode cX1_wear 18 = .ok (.iconst 2, 1) := by decide +kernel
theorem dX1_wear_19 : decode cX1_wear 19 = .ok (.putfield 27, 3) := by decide +kernel
theorem dX1_wear_22 : decode cX1_wear 22 = .ok (.return_, 1) := by decide +kernel
theorem dX2_init_0 : decode cX2_init 0 = .ok (.aload_n 0, 1) := by decide +kernel
theorem dX2_init_1 : decode cX2_init 1 = .ok (.invokespecial 1, 3) := by decide +kernel
theorem dX2_init_4 : decode cX2_init 4 = .ok (.aload_n 0, 1) := by decide +kernel
theorem dX2_init_5 : decode cX2_init 5 = .ok (.bipush 40, 2) := by decide +kernel
theorem dX2_init_7 : decode cX2_init 7 = .ok (.putfield 7, 3) := by decide +kernel
theorem dX2_init_10 : decode cX2_init 10 = .ok (.aload_n 0, 1) := by decide +kernel
theorem dX2_init_11 : decode cX2_init 11 = .ok (.iconst 4, 1) := by decide +kernel
theorem dX2_init_12 : decode cX2_init 12 = .ok (.putfield 13, 3) := by decide +kernel
theorem dX2_init_15 : decode cX2_init 15 = .ok (.aload_n 0, 1) := by decide +kernel
theorem dX2_init_16 : decode cX2_init 16 = .ok (.iconst 5, 1) := by decide +kernel
theorem dX2_init_17 : decode cX2_init 17 = .ok (.putfield 16, 3) := by decide +kernel
theorem dX2_init_20 : decode cX2_init 20 = .ok (.return_, 1) := by decide +kernel
theorem dX2_digestOnto_0 : decode cX2_digestOnto 0 = .ok (.lload_n 1, 1) := by decide +kernel
theorem dX2_digestOnto_1 : decode cX2_digestOnto 1 = .ok (.ldc2_w 19, 3) := by decide +kernel
theorem dX2_digestOnto_4 : decode cX2_digestOnto 4 = .ok (.lmul, 1) := by decide +kernel
theorem dX2_digestOnto_5 : decode cX2_digestOnto 5 = .ok (.aload_n 0, 1) := by decide +kernel
theorem dX2_digestOnto_6 : decode cX2_digestOnto 6 = .ok (.getfield 7, 3) := by decide +kernel
theorem dX2_digestOnto_9 : decode cX2_digestOnto 9 = .ok (.i2l, 1) := by decide +kernel
theorem dX2_digestOnto_10 : decode cX2_digestOnto 10 = .ok (.ladd, 1) := by decide +kernel
theorem dX2_digestOnto_11 : decode cX2_digestOnto 11 = .ok (.ldc2_w 19, 3) := by decide +kernel
theorem dX2_digestOnto_14 : decode cX2_digestOnto 14 = .ok (.lmul, 1) := by decide +kernel
theorem dX2_digestOnto_15 : decode cX2_digestOnto 15 = .ok (.aload_n 0, 1) := by decide +kernel
theorem dX2_digestOnto_16 : decode cX2_digestOnto 16 = .ok (.getfield 13, 3) := by decide +kernel
theorem dX2_digestOnto_19 : decode cX2_digestOnto 19 = .ok (.i2l, 1) := by decide +kernel
theorem dX2_digestOnto_20 : decode cX2_digestOnto 20 = .ok (.ladd, 1) := by decide +kernel
theorem dX2_digestOnto_21 : decode cX2_digestOnto 21 = .ok (.ldc2_w 19, 3) := by decide +kernel
theorem dX2_digestOnto_24 : decode cX2_digestOnto 24 = .ok (.lmul, 1) := by decide +kernel
theorem dX2_digestOnto_25 : decode cX2_digestOnto 25 = .ok (.aload_n 0, 1) := by decide +kernel
theorem dX2_digestOnto_26 : decode cX2_digestOnto 26 = .ok (.getfield 16, 3) := by decide +kernel
theorem dX2_digestOnto_29 : decode cX2_digestOnto 29 = .ok (.i2l, 1) := by decide +kernel
theorem dX2_digestOnto_30 : decode cX2_digestOnto 30 = .ok (.ladd, 1) := by decide +kernel
theorem dX2_digestOnto_31 : decode cX2_digestOnto 31 = .ok (.lreturn, 1) := by decide +kernel
theorem dX3_init_0 : decode cX3_init 0 = .ok (.aload_n 0, 1) := by decide +kernel
theorem dX3_init_1 : decode cX3_init 1 = .ok (.invokespecial 3, 3) := by decide +kernel
theorem dX3_init_4 : decode cX3_init 4 = .ok (.aload_n 0, 1) := by decide +kernel
theorem dX3_init_5 : decode cX3_init 5 = .ok (.iconst 3, 1) := by decide +kernel
theorem dX3_init_6 : decode cX3_init 6 = .ok (.newarray .int, 2) := by decide +kernel
theorem dX3_init_8 : decode cX3_init 8 = .ok (.putfield 9, 3) := by decide +kernel
theorem dX3_init_11 : decode cX3_init 11 = .ok (.return_, 1) := by decide +kernel
theorem dX3_standing_0 : decode cX3_standing 0 = .ok (.aload_n 0, 1) := by decide +kernel
theorem dX3_standing_1 : decode cX3_standing 1 = .ok (.getfield 15, 3) := by decide +kernel
theorem dX3_standing_4 : decode cX3_standing 4 = .ok (.bipush 9, 2) := by decide +kernel
theorem dX3_standing_6 : decode cX3_standing 6 = .ok (.iload_n 1, 1) := by decide +kernel
theorem dX3_standing_7 : decode cX3_standing 7 = .ok (.isub, 1) := by decide +kernel
theorem dX3_standing_8 : decode cX3_standing 8 = .ok (.imul, 1) := by decide +kernel
theorem dX3_standing_9 : decode cX3_standing 9 = .ok (.bipush 9, 2) := by decide +kernel
theorem dX3_standing_11 : decode cX3_standing 11 = .ok (.idiv, 1) := by decide +kernel
theorem dX3_standing_12 : decode cX3_standing 12 = .ok (.ireturn, 1) := by decide +kernel
theorem dX3_reach_0 : decode cX3_reach 0 = .ok (.aload_n 0, 1) := by decide +kernel
theorem dX3_reach_1 : decode cX3_reach 1 = .ok (.getfield 15, 3) := by decide +kernel
theorem dX3_reach_4 : decode cX3_reach 4 = .ok (.iload_n 1, 1) := by decide +kernel
theorem dX3_reach_5 : decode cX3_reach 5 = .ok (.imul, 1) := by decide +kernel
theorem dX3_reach_6 : decode cX3_reach 6 = .ok (.bipush 9, 2) := by decide +kernel
theorem dX3_reach_8 : decode cX3_reach 8 = .ok (.idiv, 1) := by decide +kernel
theorem dX3_reach_9 : decode cX3_reach 9 = .ok (.ireturn, 1) := by decide +kernel
theorem dX3_widestYard_0 : decode cX3_widestYard 0 = .ok (.iconst 0, 1) := by decide +kernel
theorem dX3_widestYard_1 : decode cX3_widestYard 1 = .ok (.istore_n 1, 1) := by decide +kernel
theorem dX3_widestYard_2 : decode cX3_widestYard 2 = .ok (.iconst 0, 1) := by decide +kernel
theorem dX3_widestYard_3 : decode cX3_widestYard 3 = .ok (.istore_n 2, 1) := by decide +kernel
theorem dX3_widestYard_4 : decode cX3_widestYard 4 = .ok (.iload_n 2, 1) := by decide +kernel
theorem dX3_widestYard_5 : decode cX3_widestYard 5 = .ok (.aload_n 0, 1) := by decide +kernel
theorem dX3_widestYard_6 : decode cX3_widestYard 6 = .ok (.getfield 19, 3) := by decide +kernel
theorem dX3_widestYard_9 : decode cX3_widestYard 9 = .ok (.if_icmp .ge 20, 3) := by decide +kernel
theorem dX3_widestYard_12 : decode cX3_widestYard 12 = .ok (.iload_n 1, 1) := by decide +kernel
theorem dX3_widestYard_13 : decode cX3_widestYard 13 = .ok (.aload_n 0, 1) := by decide +kernel
theorem dX3_widestYard_14 : decode cX3_widestYard 14 = .ok (.getfield 9, 3) := by decide +kernel
theorem dX3_widestYard_17 : decode cX3_widestYard 17 = .ok (.iload_n 2, 1) := by decide +kernel
theorem dX3_widestYard_18 : decode cX3_widestYard 18 = .ok (.iaload, 1) := by decide +kernel
theorem dX3_widestYard_19 : decode cX3_widestYard 19 = .ok (.invokestatic 22, 3) := by decide +kernel
theorem dX3_widestYard_22 : decode cX3_widestYard 22 = .ok (.istore_n 1, 1) := by decide +kernel
theorem dX3_widestYard_23 : decode cX3_widestYard 23 = .ok (.iinc 2 1, 3) := by decide +kernel
theorem dX3_widestYard_26 : decode cX3_widestYard 26 = .ok (.goto (-22), 3) := by decide +kernel
theorem dX3_widestYard_29 : decode cX3_widestYard 29 = .ok (.iload_n 1, 1) := by decide +kernel
theorem dX3_widestYard_30 : decode cX3_widestYard 30 = .ok (.ireturn, 1) := by decide +kernel
theorem dX3_digestYardsOnto_0 : decode cX3_digestYardsOnto 0 = .ok (.lload_n 1, 1) := by decide +kernel
theorem dX3_digestYardsOnto_1 : decode cX3_digestYardsOnto 1 = .ok (.lstore_n 3, 1) := by decide +kernel
theorem dX3_digestYardsOnto_2 : decode cX3_digestYardsOnto 2 = .ok (.iconst 0, 1) := by decide +kernel
theorem dX3_digestYardsOnto_3 : decode cX3_digestYardsOnto 3 = .ok (.istore 5, 2) := by decide +kernel
theorem dX3_digestYardsOnto_5 : decode cX3_digestYardsOnto 5 = .ok (.iload 5, 2) := by decide +kernel
theorem dX3_digestYardsOnto_7 : decode cX3_digestYardsOnto 7 = .ok (.aload_n 0, 1) := by decide +kernel
theorem dX3_digestYardsOnto_8 : decode cX3_digestYardsOnto 8 = .ok (.getfield 19, 3) := by decide +kernel
theorem dX3_digestYardsOnto_11 : decode cX3_digestYardsOnto 11 = .ok (.if_icmp .ge 24, 3) := by decide +kernel
theorem dX3_digestYardsOnto_14 : decode cX3_digestYardsOnto 14 = .ok (.lload_n 3, 1) := by decide +kernel
theorem dX3_digestYardsOnto_15 : decode cX3_digestYardsOnto 15 = .ok (.ldc2_w 28, 3) := by decide +kernel
theorem dX3_digestYardsOnto_18 : decode cX3_digestYardsOnto 18 = .ok (.lmul, 1) := by decide +kernel
theorem dX3_digestYardsOnto_19 : decode cX3_digestYardsOnto 19 = .ok (.aload_n 0, 1) := by decide +kernel
theorem dX3_digestYardsOnto_20 : decode cX3_digestYardsOnto 20 = .ok (.getfield 9, 3) := by decide +kernel
theorem dX3_digestYardsOnto_23 : decode cX3_digestYardsOnto 23 = .ok (.iload 5, 2) := by decide +kernel
theorem dX3_digestYardsOnto_25 : decode cX3_digestYardsOnto 25 = .ok (.iaload, 1) := by decide +kernel
theorem dX3_digestYardsOnto_26 : decode cX3_digestYardsOnto 26 = .ok (.i2l, 1) := by decide +kernel
theorem dX3_digestYardsOnto_27 : decode cX3_digestYardsOnto 27 = .ok (.ladd, 1) := by decide +kernel
theorem dX3_digestYardsOnto_28 : decode cX3_digestYardsOnto 28 = .ok (.lstore_n 3, 1) := by decide +kernel
theorem dX3_digestYardsOnto_29 : decode cX3_digestYardsOnto 29 = .ok (.iinc 5 1, 3) := by decide +kernel
theorem dX3_digestYardsOnto_32 : decode cX3_digestYardsOnto 32 = .ok (.goto (-27), 3) := by decide +kernel
theorem dX3_digestYardsOnto_35 : decode cX3_digestYardsOnto 35 = .ok (.lload_n 3, 1) := by decide +kernel
theorem dX3_digestYardsOnto_36 : decode cX3_digestYardsOnto 36 = .ok (.lreturn, 1) := by decide +kernel
theorem dX4_init_0 : decode cX4_init 0 = .ok (.aload_n 0, 1) := by decide +kernel
theorem dX4_init_1 : decode cX4_init 1 = .ok (.invokespecial 3, 3) := by decide +kernel
theorem dX4_init_4 : decode cX4_init 4 = .ok (.aload_n 0, 1) := by decide +kernel
theorem dX4_init_5 : decode cX4_init 5 = .ok (.iconst 3, 1) := by decide +kernel
theorem dX4_init_6 : decode cX4_init 6 = .ok (.newarray .int, 2) := by decide +kernel
theorem dX4_init_8 : decode cX4_init 8 = .ok (.putfield 9, 3) := by decide +kernel
theorem dX4_init_11 : decode cX4_init 11 = .ok (.aload_n 0, 1) := by decide +kernel
theorem dX4_init_12 : decode cX4_init 12 = .ok (.iconst 3, 1) := by decide +kernel
theorem dX4_init_13 : decode cX4_init 13 = .ok (.newarray .int, 2) := by decide +kernel
theorem dX4_init_15 : decode cX4_init 15 = .ok (.putfield 15, 3) := by decide +kernel
theorem dX4_init_18 : decode cX4_init 18 = .ok (.aload_n 0, 1) := by decide +kernel
theorem dX4_init_19 : decode cX4_init 19 = .ok (.sipush 1000, 3) := by decide +kernel
theorem dX4_init_22 : decode cX4_init 22 = .ok (.newarray .int, 2) := by decide +kernel
theorem dX4_init_24 : decode cX4_init 24 = .ok (.putfield 18, 3) := by decide +kernel
theorem dX4_init_27 : decode cX4_init 27 = .ok (.aload_n 0, 1) := by decide +kernel
theorem dX4_init_28 : decode cX4_init 28 = .ok (.sipush 1000, 3) := by decide +kernel
theorem dX4_init_31 : decode cX4_init 31 = .ok (.newarray .int, 2) := by decide +kernel
theorem dX4_init_33 : decode cX4_init 33 = .ok (.putfield 21, 3) := by decide +kernel
theorem dX4_init_36 : decode cX4_init 36 = .ok (.aload_n 0, 1) := by decide +kernel
theorem dX4_init_37 : decode cX4_init 37 = .ok (.sipush 1000, 3) := by decide +kernel
theorem dX4_init_40 : decode cX4_init 40 = .ok (.newarray .int, 2) := by decide +kernel
theorem dX4_init_42 : decode cX4_init 42 = .ok (.putfield 24, 3) := by decide +kernel
theorem dX4_init_45 : decode cX4_init 45 = .ok (.return_, 1) := by decide +kernel
theorem dX4_encode_0 : decode cX4_encode 0 = .ok (.aload_n 0, 1) := by decide +kernel
theorem dX4_encode_1 : decode cX4_encode 1 = .ok (.iconst 0, 1) := by decide +kernel
theorem dX4_encode_2 : decode cX4_encode 2 = .ok (.iaload, 1) := by decide +kernel
theorem dX4_encode_3 : decode cX4_encode 3 = .ok (.bipush 10, 2) := by decide +kernel
theorem dX4_encode_5 : decode cX4_encode 5 = .ok (.aload_n 0, 1) := by decide +kernel
theorem dX4_encode_6 : decode cX4_encode 6 = .ok (.iconst 1, 1) := by decide +kernel
theorem dX4_encode_7 : decode cX4_encode 7 = .ok (.iaload, 1) := by decide +kernel
theorem dX4_encode_8 : decode cX4_encode 8 = .ok (.imul, 1) := by decide +kernel
theorem dX4_encode_9 : decode cX4_encode 9 = .ok (.iadd, 1) := by decide +kernel
theorem dX4_encode_10 : decode cX4_encode 10 = .ok (.bipush 100, 2) := by decide +kernel
theorem dX4_encode_12 : decode cX4_encode 12 = .ok (.aload_n 0, 1) := by decide +kernel
theorem dX4_encode_13 : decode cX4_encode 13 = .ok (.iconst 2, 1) := by decide +kernel
theorem dX4_encode_14 : decode cX4_encode 14 = .ok (.iaload, 1) := by decide +kernel
theorem dX4_encode_15 : decode cX4_encode 15 = .ok (.imul, 1) := by decide +kernel
theorem dX4_encode_16 : decode cX4_encode 16 = .ok (.iadd, 1) := by decide +kernel
theorem dX4_encode_17 : decode cX4_encode 17 = .ok (.ireturn, 1) := by decide +kernel
theorem dX4_decode_0 : decode cX4_decode 0 = .ok (.aload_n 1, 1) := by decide +kernel
theorem dX4_decode_1 : decode cX4_decode 1 = .ok (.iconst 0, 1) := by decide +kernel
theorem dX4_decode_2 : decode cX4_decode 2 = .ok (.iload_n 0, 1) := by decide +kernel
theorem dX4_decode_3 : decode cX4_decode 3 = .ok (.bipush 10, 2) := by decide +kernel
theorem dX4_decode_5 : decode cX4_decode 5 = .ok (.irem, 1) := by decide +kernel
theorem dX4_decode_6 : decode cX4_decode 6 = .ok (.iastore, 1) := by decide +kernel
theorem dX4_decode_7 : decode cX4_decode 7 = .ok (.aload_n 1, 1) := by decide +kernel
theorem dX4_decode_8 : decode cX4_decode 8 = .ok (.iconst 1, 1) := by decide +kernel
theorem dX4_decode_9 : decode cX4_decode 9 = .ok (.iload_n 0, 1) := by decide +kernel
theorem dX4_decode_10 : decode cX4_decode 10 = .ok (.bipush 10, 2) := by decide +kernel
theorem dX4_decode_12 : decode cX4_decode 12 = .ok (.idiv, 1) := by decide +kernel
theorem dX4_decode_13 : decode cX4_decode 13 = .ok (.bipush 10, 2) := by decide +kernel
theorem dX4_decode_15 : decode cX4_decode 15 = .ok (.irem, 1) := by decide +kernel
theorem dX4_decode_16 : decode cX4_decode 16 = .ok (.iastore, 1) := by decide +kernel
theorem dX4_decode_17 : decode cX4_decode 17 = .ok (.aload_n 1, 1) := by decide +kernel
theorem dX4_decode_18 : decode cX4_decode 18 = .ok (.iconst 2, 1) := by decide +kernel
theorem dX4_decode_19 : decode cX4_decode 19 = .ok (.iload_n 0, 1) := by decide +kernel
theorem dX4_decode_20 : decode cX4_decode 20 = .ok (.bipush 100, 2) := by decide +kernel
theorem dX4_decode_22 : decode cX4_decode 22 = .ok (.idiv, 1) := by decide +kernel
theorem dX4_decode_23 : decode cX4_decode 23 = .ok (.iastore, 1) := by decide +kernel
theorem dX4_decode_24 : decode cX4_decode 24 = .ok (.return_, 1) := by decide +kernel
set_option maxRecDepth 20000 in
theorem ggX4_begin_J7_fill_53178 : GoodIn wsX4_begin wsJ7_fill_53178 := goodIn_r _ [8] (by decide +kernel) (by decide +kernel)
set_option maxRecDepth 20000 in
theorem gX4_begin_J7_fill_53178 : GoodIn wsX4_begin (va_wsS RX4 27 yJ7_fill_53178 wsJ7_fill_53178) := goodIn_app (goodIn_of _ (by decide +kernel)) ggX4_begin_J7_fill_53178
theorem dX4_begin_0 : decode cX4_begin 0 = .ok (.aload_n 0, 1) := by decide +kernel
theorem dX4_begin_1 : decode cX4_begin 1 = .ok (.getfield 21, 3) := by decide +kernel
theorem dX4_begin_4 : decode cX4_begin 4 = .ok (.iconst (-1), 1) := by decide +kernel
theorem dX4_begin_5 : decode cX4_begin 5 = .ok (.invokestatic 27, 3) := by decide +kernel
theorem dX4_begin_8 : decode cX4_begin 8 = .ok (.aload_n 0, 1) := by decide +kernel
theorem dX4_begin_9 : decode cX4_begin 9 = .ok (.getfield 24, 3) := by decide +kernel
theorem dX4_begin_12 : decode cX4_begin 12 = .ok (.iconst (-1), 1) := by decide +kernel
theorem dX4_begin_13 : decode cX4_begin 13 = .ok (.invokestatic 27, 3) := by decide +kernel
theorem dX4_begin_16 : decode cX4_begin 16 = .ok (.aload_n 0, 1) := by decide +kernel
theorem dX4_begin_17 : decode cX4_begin 17 = .ok (.getfield 21, 3) := by decide +kernel
theorem dX4_begin_20 : decode cX4_begin 20 = .ok (.iload_n 1, 1) := by decide +kernel
theorem dX4_begin_21 : decode cX4_begin 21 = .ok (.iconst 0, 1) := by decide +kernel
theorem dX4_begin_22 : decode cX4_begin 22 = .ok (.iastore, 1) := by decide +kernel
theorem dX4_begin_23 : decode cX4_begin 23 = .ok (.aload_n 0, 1) := by decide +kernel
theorem dX4_begin_24 : decode cX4_begin 24 = .ok (.getfield 18, 3) := by decide +kernel
theorem dX4_begin_27 : decode cX4_begin 27 = .ok (.iconst 0, 1) := by decide +kernel
theorem dX4_begin_28 : decode cX4_begin 28 = .ok (.iload_n 1, 1) := by decide +kernel
theorem dX4_begin_29 : decode cX4_begin 29 = .ok (.iastore, 1) := by decide +kernel
theorem dX4_begin_30 : decode cX4_begin 30 = .ok (.aload_n 0, 1) := by decide +kernel
theorem dX4_begin_31 : decode cX4_begin 31 = .ok (.iconst 1, 1) := by decide +kernel
theorem dX4_begin_32 : decode cX4_begin 32 = .ok (.putfield 33, 3) := by decide +kernel
theorem dX4_begin_35 : decode cX4_begin 35 = .ok (.return_, 1) := by decide +kernel
theorem dX4_reach_0 : decode cX4_reach 0 = .ok (.aload_n 0, 1) := by decide +kernel
theorem dX4_reach_1 : decode cX4_reach 1 = .ok (.getfield 21, 3) := by decide +kernel
theorem dX4_reach_4 : decode cX4_reach 4 = .ok (.iload_n 1, 1) := by decide +kernel
theorem dX4_reach_5 : decode cX4_reach 5 = .ok (.iaload, 1) := by decide +kernel
theorem dX4_reach_6 : decode cX4_reach 6 = .ok (.ifCond .ne 7, 3) := by decide +kernel
theorem dX4_reach_9 : decode cX4_reach 9 = .ok (.iload_n 3, 1) := by decide +kernel
theorem dX4_reach_10 : decode cX4_reach 10 = .ok (.goto 9, 3) := by decide +kernel
theorem dX4_reach_13 : decode cX4_reach 13 = .ok (.aload_n 0, 1) := by decide +kernel
theorem dX4_reach_14 : decode cX4_reach 14 = .ok (.getfield 24, 3) := by decide +kernel
theorem dX4_reach_17 : decode cX4_reach 17 = .ok (.iload_n 1, 1) := by decide +kernel
theorem dX4_reach_18 : decode cX4_reach 18 = .ok (.iaload, 1) := by decide +kernel
theorem dX4_reach_19 : decode cX4_reach 19 = .ok (.istore 4, 2) := by decide +kernel
theorem dX4_reach_21 : decode cX4_reach 21 = .ok (.aload_n 0, 1) := by decide +kernel
theorem dX4_reach_22 : decode cX4_reach 22 = .ok (.getfield 21, 3) := by decide +kernel
theorem dX4_reach_25 : decode cX4_reach 25 = .ok (.iload_n 2, 1) := by decide +kernel
theorem dX4_reach_26 : decode cX4_reach 26 = .ok (.iaload, 1) := by decide +kernel
theorem dX4_reach_27 : decode cX4_reach 27 = .ok (.iconst (-1), 1) := by decide +kernel
theorem dX4_reach_28 : decode cX4_reach 28 = .ok (.if_icmp .ne 48, 3) := by decide +kernel
theorem dX4_reach_31 : decode cX4_reach 31 = .ok (.aload_n 0, 1) := by decide +kernel
theorem dX4_reach_32 : decode cX4_reach 32 = .ok (.getfield 21, 3) := by decide +kernel
theorem dX4_reach_35 : decode cX4_reach 35 = .ok (.iload_n 2, 1) := by decide +kernel
theorem dX4_reach_36 : decode cX4_reach 36 = .ok (.aload_n 0, 1) := by decide +kernel
theorem dX4_reach_37 : decode cX4_reach 37 = .ok (.getfield 21, 3) := by decide +kernel
theorem dX4_reach_40 : decode cX4_reach 40 = .ok (.iload_n 1, 1) := by decide +kernel
theorem dX4_reach_41 : decode cX4_reach 41 = .ok (.iaload, 1) := by decide +kernel
theorem dX4_reach_42 : decode cX4_reach 42 = .ok (.iconst 1, 1) := by decide +kernel
theorem dX4_reach_43 : decode cX4_reach 43 = .ok (.iadd, 1) := by decide +kernel
theorem dX4_reach_44 : decode cX4_reach 44 = .ok (.iastore, 1) := by decide +kernel
theorem dX4_reach_45 : decode cX4_reach 45 = .ok (.aload_n 0, 1) := by decide +kernel
theorem dX4_reach_46 : decode cX4_reach 46 = .ok (.getfield 24, 3) := by decide +kernel
theorem dX4_reach_49 : decode cX4_reach 49 = .ok (.iload_n 2, 1) := by decide +kernel
theorem dX4_reach_50 : decode cX4_reach 50 = .ok (.iload 4, 2) := by decide +kernel
theorem dX4_reach_52 : decode cX4_reach 52 = .ok (.iastore, 1) := by decide +kernel
theorem dX4_reach_53 : decode cX4_reach 53 = .ok (.aload_n 0, 1) := by decide +kernel
theorem dX4_reach_54 : decode cX4_reach 54 = .ok (.getfield 18, 3) := by decide +kernel
theorem dX4_reach_57 : decode cX4_reach 57 = .ok (.aload_n 0, 1) := by decide +kernel
theorem dX4_reach_58 : decode cX4_reach 58 = .ok (.getfield 33, 3) := by decide +kernel
theorem dX4_reach_61 : decode cX4_reach 61 = .ok (.iload_n 2, 1) := by decide +kernel
theorem dX4_reach_62 : decode cX4_reach 62 = .ok (.iastore, 1) := by decide +kernel
theorem dX4_reach_63 : decode cX4_reach 63 = .ok (.aload_n 0, 1) := by decide +kernel
theorem dX4_reach_64 : decode cX4_reach 64 = .ok (.dup, 1) := by decide +kernel
theorem dX4_reach_65 : decode cX4_reach 65 = .ok (.getfield 33, 3) := by decide +kernel
theorem dX4_reach_68 : decode cX4_reach 68 = .ok (.iconst 1, 1) := by decide +kernel
theorem dX4_reach_69 : decode cX4_reach 69 = .ok (.iadd, 1) := by decide +kernel
theorem dX4_reach_70 : decode cX4_reach 70 = .ok (.putfield 33, 3) := by decide +kernel
theorem dX4_reach_73 : decode cX4_reach 73 = .ok (.goto 37, 3) := by decide +kernel
theorem dX4_reach_76 : decode cX4_reach 76 = .ok (.aload_n 0, 1) := by decide +kernel
theorem dX4_reach_77 : decode cX4_reach 77 = .ok (.getfield 21, 3) := by decide +kernel
theorem dX4_reach_80 : decode cX4_reach 80 = .ok (.iload_n 2, 1) := by decide +kernel
theorem dX4_reach_81 : decode cX4_reach 81 = .ok (.iaload, 1) := by decide +kernel
theorem dX4_reach_82 : decode cX4_reach 82 = .ok (.aload_n 0, 1) := by decide +kernel
theorem dX4_reach_83 : decode cX4_reach 83 = .ok (.getfield 21, 3) := by decide +kernel
theorem dX4_reach_86 : decode cX4_reach 86 = .ok (.iload_n 1, 1) := by decide +kernel
theorem dX4_reach_87 : decode cX4_reach 87 = .ok (.iaload, 1) := by decide +kernel
theorem dX4_reach_88 : decode cX4_reach 88 = .ok (.iconst 1, 1) := by decide +kernel
theorem dX4_reach_89 : decode cX4_reach 89 = .ok (.iadd, 1) := by decide +kernel
theorem dX4_reach_90 : decode cX4_reach 90 = .ok (.if_icmp .ne 20, 3) := by decide +kernel
theorem dX4_reach_93 : decode cX4_reach 93 = .ok (.aload_n 0, 1) := by decide +kernel
theorem dX4_reach_94 : decode cX4_reach 94 = .ok (.getfield 24, 3) := by decide +kernel
theorem dX4_reach_97 : decode cX4_reach 97 = .ok (.iload_n 2, 1) := by decide +kernel
theorem dX4_reach_98 : decode cX4_reach 98 = .ok (.aload_n 0, 1) := by decide +kernel
theorem dX4_reach_99 : decode cX4_reach 99 = .ok (.getfield 24, 3) := by decide +kernel
theorem dX4_reach_102 : decode cX4_reach 102 = .ok (.iload_n 2, 1) := by decide +kernel
theorem dX4_reach_103 : decode cX4_reach 103 = .ok (.iaload, 1) := by decide +kernel
theorem dX4_reach_104 : decode cX4_reach 104 = .ok (.iload 4, 2) := by decide +kernel
theorem dX4_reach_106 : decode cX4_reach 106 = .ok (.invokestatic 37, 3) := by decide +kernel
theorem dX4_reach_109 : decode cX4_reach 109 = .ok (.iastore, 1) := by decide +kernel
theorem dX4_reach_110 : decode cX4_reach 110 = .ok (.return_, 1) := by decide +kernel
set_option maxRecDepth 20000 in
theorem ggX5_init_X0_init : GoodIn wsX5_init wsX0_init := goodIn_r _ [29, 30, 2, 3, 31, 32, 33, 34, 56, 57, 58, 59] (by decide +kernel) (by decide +kernel)
set_option maxRecDepth 20000 in
theorem gX5_init_X0_init_n9 : GoodIn wsX5_init (wsX0_init) := ggX5_init_X0_init
set_option maxRecDepth 20000 in
theorem ggX5_init_X2_init : GoodIn wsX5_init wsX2_init := goodIn_r _ [36, 37, 2, 3, 38, 39, 40, 74, 75, 76] (by decide +kernel) (by decide +kernel)
set_option maxRecDepth 20000 in
theorem gX5_init_X2_init_n18 : GoodIn wsX5_init (wsX2_init) := ggX5_init_X2_init
set_option maxRecDepth 20000 in
theorem ggX5_init_X4_init : GoodIn wsX5_init wsX4_init := goodIn_r _ [42, 43, 2, 3, 20, 44, 45, 46, 47, 48, 77, 78, 79, 80, 81, 82] (by decide +kernel) (by decide +kernel)
set_option maxRecDepth 20000 in
theorem gX5_init_X4_init_n37 : GoodIn wsX5_init (wsX4_init) := ggX5_init_X4_init
set_option maxRecDepth 20000 in
theorem ggX5_init_X3_init : GoodIn wsX5_init wsX3_init := goodIn_r _ [50, 51, 2, 3, 20, 52, 83, 84, 85, 86] (by decide +kernel) (by decide +kernel)
set_option maxRecDepth 20000 in
theorem gX5_init_X3_init_n52 : GoodIn wsX5_init (wsX3_init) := ggX5_init_X3_init
set_option maxRecDepth 20000 in
theorem ggX5_init_X1_init : GoodIn wsX5_init wsX1_init := goodIn_r _ [54, 55, 2, 3] (by decide +kernel) (by decide +kernel)
set_option maxRecDepth 20000 in
theorem gX5_init_X1_init_n53 : GoodIn wsX5_init (wsX1_init) := ggX5_init_X1_init
theorem dX5_init_0 : decode cX5_init 0 = .ok (.aload_n 0, 1) := by decide +kernel
theorem dX5_init_1 : decode cX5_init 1 = .ok (.invokespecial 1, 3) := by decide +kernel
theorem dX5_init_4 : decode cX5_init 4 = .ok (.aload_n 0, 1) := by decide +kernel
theorem dX5_init_5 : decode cX5_init 5 = .ok (.new 7, 3) := by decide +kernel
theorem dX5_init_8 : decode cX5_init 8 = .ok (.dup, 1) := by decide +kernel
theorem dX5_init_9 : decode cX5_init 9 = .ok (.invokespecial 9, 3) := by decide +kernel
theorem dX5_init_12 : decode cX5_init 12 = .ok (.putfield 10, 3) := by decide +kernel
theorem dX5_init_15 : decode cX5_init 15 = .ok (.aload_n 0, 1) := by decide +kernel
theorem dX5_init_16 : decode cX5_init 16 = .ok (.new 16, 3) := by decide +kernel
theorem dX5_init_19 : decode cX5_init 19 = .ok (.dup, 1) := by decide +kernel
theorem dX5_init_20 : decode cX5_init 20 = .ok (.invokespecial 18, 3) := by decide +kernel
theorem dX5_init_23 : decode cX5_init 23 = .ok (.putfield 19, 3) := by decide +kernel
theorem dX5_init_26 : decode cX5_init 26 = .ok (.aload_n 0, 1) := by decide +kernel
theorem dX5_init_27 : decode cX5_init 27 = .ok (.iconst 3, 1) := by decide +kernel
theorem dX5_init_28 : decode cX5_init 28 = .ok (.anewarray 23, 3) := by decide +kernel
theorem dX5_init_31 : decode cX5_init 31 = .ok (.putfield 25, 3) := by decide +kernel
theorem dX5_init_34 : decode cX5_init 34 = .ok (.aload_n 0, 1) := by decide +kernel
theorem dX5_init_35 : decode cX5_init 35 = .ok (.bipush 8, 2) := by decide +kernel
theorem dX5_init_37 : decode cX5_init 37 = .ok (.anewarray 29, 3) := by decide +kernel
theorem dX5_init_40 : decode cX5_init 40 = .ok (.putfield 31, 3) := by decide +kernel
theorem dX5_init_43 : decode cX5_init 43 = .ok (.aload_n 0, 1) := by decide +kernel
theorem dX5_init_44 : decode cX5_init 44 = .ok (.new 35, 3) := by decide +kernel
theorem dX5_init_47 : decode cX5_init 47 = .ok (.dup, 1) := by decide +kernel
theorem dX5_init_48 : decode cX5_init 48 = .ok (.invokespecial 37, 3) := by decide +kernel
theorem dX5_init_51 : decode cX5_init 51 = .ok (.putfield 38, 3) := by decide +kernel
theorem dX5_init_54 : decode cX5_init 54 = .ok (.aload_n 0, 1) := by decide +kernel
theorem dX5_init_55 : decode cX5_init 55 = .ok (.iconst 3, 1) := by decide +kernel
theorem dX5_init_56 : decode cX5_init 56 = .ok (.newarray .int, 2) := by decide +kernel
theorem dX5_init_58 : decode cX5_init 58 = .ok (.putfield 42, 3) := by decide +kernel
theorem dX5_init_61 : decode cX5_init 61 = .ok (.aload_n 0, 1) := by decide +kernel
theorem dX5_init_62 : decode cX5_init 62 = .ok (.iconst 3, 1) := by decide +kernel
theorem dX5_init_63 : decode cX5_init 63 = .ok (.newarray .int, 2) := by decide +kernel
theorem dX5_init_65 : decode cX5_init 65 = .ok (.putfield 46, 3) := by decide +kernel
theorem dX5_init_68 : decode cX5_init 68 = .ok (.aload_n 0, 1) := by decide +kernel
theorem dX5_init_69 : decode cX5_init 69 = .ok (.iconst 3, 1) := by decide +kernel
theorem dX5_init_70 : decode cX5_init 70 = .ok (.newarray .int, 2) := by decide +kernel
theorem dX5_init_72 : decode cX5_init 72 = .ok (.putfield 49, 3) := by decide +kernel
theorem dX5_init_75 : decode cX5_init 75 = .ok (.iconst 0, 1) := by decide +kernel
theorem dX5_init_76 : decode cX5_init 76 = .ok (.istore_n 1, 1) := by decide +kernel
theorem dX5_init_77 : decode cX5_init 77 = .ok (.iload_n 1, 1) := by decide +kernel
theorem dX5_init_78 : decode cX5_init 78 = .ok (.iconst 3, 1) := by decide +kernel
theorem dX5_init_79 : decode cX5_init 79 = .ok (.if_icmp .ge 22, 3) := by decide +kernel
theorem dX5_init_82 : decode cX5_init 82 = .ok (.aload_n 0, 1) := by decide +kernel
theorem dX5_init_83 : decode cX5_init 83 = .ok (.getfield 25, 3) := by decide +kernel
theorem dX5_init_86 : decode cX5_init 86 = .ok (.iload_n 1, 1) := by decide +kernel
theorem dX5_init_87 : decode cX5_init 87 = .ok (.new 23, 3) := by decide +kernel
theorem dX5_init_90 : decode cX5_init 90 = .ok (.dup, 1) := by decide +kernel
theorem dX5_init_91 : decode cX5_init 91 = .ok (.invokespecial 52, 3) := by decide +kernel
theorem dX5_init_94 : decode cX5_init 94 = .ok (.aastore, 1) := by decide +kernel
theorem dX5_init_95 : decode cX5_init 95 = .ok (.iinc 1 1, 3) := by decide +kernel
theorem dX5_init_98 : decode cX5_init 98 = .ok (.goto (-21), 3) := by decide +kernel
theorem dX5_init_101 : decode cX5_init 101 = .ok (.iconst 0, 1) := by decide +kernel
theorem dX5_init_102 : decode cX5_init 102 = .ok (.istore_n 1, 1) := by decide +kernel
theorem dX5_init_103 : decode cX5_init 103 = .ok (.iload_n 1, 1) := by decide +kernel
theorem dX5_init_104 : decode cX5_init 104 = .ok (.bipush 8, 2) := by decide +kernel
theorem dX5_init_106 : decode cX5_init 106 = .ok (.if_icmp .ge 22, 3) := by decide +kernel
theorem dX5_init_109 : decode cX5_init 109 = .ok (.aload_n 0, 1) := by decide +kernel
theorem dX5_init_110 : decode cX5_init 110 = .ok (.getfield 31, 3) := by decide +kernel
theorem dX5_init_113 : decode cX5_init 113 = .ok (.iload_n 1, 1) := by decide +kernel
theorem dX5_init_114 : decode cX5_init 114 = .ok (.new 29, 3) := by decide +kernel
theorem dX5_init_117 : decode cX5_init 117 = .ok (.dup, 1) := by decide +kernel
theorem dX5_init_118 : decode cX5_init 118 = .ok (.invokespecial 53, 3) := by decide +kernel
theorem dX5_init_121 : decode cX5_init 121 = .ok (.aastore, 1) := by decide +kernel
theorem dX5_init_122 : decode cX5_init 122 = .ok (.iinc 1 1, 3) := by decide +kernel
theorem dX5_init_125 : decode cX5_init 125 = .ok (.goto (-22), 3) := by decide +kernel
theorem dX5_init_128 : decode cX5_init 128 = .ok (.return_, 1) := by decide +kernel
set_option maxRecDepth 20000 in
theorem ggX5_setBottle_X5_isWithin : GoodIn wsX5_setBottle wsX5_isWithin := goodIn_r _ [14] (by decide +kernel) (by decide +kernel)
set_option maxRecDepth 20000 in
theorem gX5_setBottle_X5_isWithin : GoodIn wsX5_setBottle (va_wsS RX5 54 yX5_isWithin wsX5_isWithin) := goodIn_app (goodIn_of _ (by decide +kernel)) ggX5_setBottle_X5_isWithin
theorem dX5_setBottle_0 : decode cX5_setBottle 0 = .ok (.iload_n 1, 1) := by decide +kernel
theorem dX5_setBottle_1 : decode cX5_setBottle 1 = .ok (.iconst 1, 1) := by decide +kernel
theorem dX5_setBottle_2 : decode cX5_setBottle 2 = .ok (.bipush 20, 2) := by decide +kernel
theorem dX5_setBottle_4 : decode cX5_setBottle 4 = .ok (.invokestatic 54, 3) := by decide +kernel
theorem dX5_setBottle_7 : decode cX5_setBottle 7 = .ok (.ifCond .eq 35, 3) := by decide +kernel
theorem dX5_setBottle_10 : decode cX5_setBottle 10 = .ok (.iload_n 2, 1) := by decide +kernel
theorem dX5_setBottle_11 : decode cX5_setBottle 11 = .ok (.iconst 5, 1) := by decide +kernel
theorem dX5_setBottle_12 : decode cX5_setBottle 12 = .ok (.bipush 60, 2) := by decide +kernel
theorem dX5_setBottle_14 : decode cX5_setBottle 14 = .ok (.invokestatic 54, 3) := by decide +kernel
theorem dX5_setBottle_17 : decode cX5_setBottle 17 = .ok (.ifCond .eq 25, 3) := by decide +kernel
theorem dX5_setBottle_20 : decode cX5_setBottle 20 = .ok (.iload_n 3, 1) := by decide +kernel
theorem dX5_setBottle_21 : decode cX5_setBottle 21 = .ok (.bipush 10, 2) := by decide +kernel
theorem dX5_setBottle_23 : decode cX5_setBottle 23 = .ok (.bipush 90, 2) := by decide +kernel
theorem dX5_setBottle_25 : decode cX5_setBottle 25 = .ok (.invokestatic 54, 3) := by decide +kernel
theorem dX5_setBottle_28 : decode cX5_setBottle 28 = .ok (.ifCond .eq 14, 3) := by decide +kernel
theorem dX5_setBottle_31 : decode cX5_setBottle 31 = .ok (.iload 4, 2) := by decide +kernel
theorem dX5_setBottle_33 : decode cX5_setBottle 33 = .ok (.iconst 0, 1) := by decide +kernel
theorem dX5_setBottle_34 : decode cX5_setBottle 34 = .ok (.bipush 20, 2) := by decide +kernel
theorem dX5_setBottle_36 : decode cX5_setBottle 36 = .ok (.invokestatic 54, 3) := by decide +kernel
theorem dX5_setBottle_39 : decode cX5_setBottle 39 = .ok (.ifCond .ne 13, 3) := by decide +kernel
theorem dX5_setBottle_42 : decode cX5_setBottle 42 = .ok (.new 58, 3) := by decide +kernel
theorem dX5_setBottle_45 : decode cX5_setBottle 45 = .ok (.dup, 1) := by decide +kernel
theorem dX5_setBottle_46 : decode cX5_setBottle 46 = .ok (.ldc 60, 2) := by decide +kernel
theorem dX5_setBottle_48 : decode cX5_setBottle 48 = .ok (.invokespecial 62, 3) := by decide +kernel
theorem dX5_setBottle_51 : decode cX5_setBottle 51 = .ok (.athrow, 1) := by decide +kernel
theorem dX5_setBottle_52 : decode cX5_setBottle 52 = .ok (.aload_n 0, 1) := by decide +kernel
theorem dX5_setBottle_53 : decode cX5_setBottle 53 = .ok (.getfield 65, 3) := by decide +kernel
theorem dX5_setBottle_56 : decode cX5_setBottle 56 = .ok (.ifCond .eq 13, 3) := by decide +kernel
theorem dX5_setBottle_59 : decode cX5_setBottle 59 = .ok (.new 69, 3) := by decide +kernel
theorem dX5_setBottle_62 : decode cX5_setBottle 62 = .ok (.dup, 1) := by decide +kernel
theorem dX5_setBottle_63 : decode cX5_setBottle 63 = .ok (.ldc 71, 2) := by decide +kernel
theorem dX5_setBottle_65 : decode cX5_setBottle 65 = .ok (.invokespecial 73, 3) := by decide +kernel
theorem dX5_setBottle_68 : decode cX5_setBottle 68 = .ok (.athrow, 1) := by decide +kernel
theorem dX5_setBottle_69 : decode cX5_setBottle 69 = .ok (.aload_n 0, 1) := by decide +kernel
theorem dX5_setBottle_70 : decode cX5_setBottle 70 = .ok (.getfield 10, 3) := by decide +kernel
theorem dX5_setBottle_73 : decode cX5_setBottle 73 = .ok (.getfield 74, 3) := by decide +kernel
theorem dX5_setBottle_76 : decode cX5_setBottle 76 = .ok (.istore 5, 2) := by decide +kernel
theorem dX5_setBottle_78 : decode cX5_setBottle 78 = .ok (.aload_n 0, 1) := by decide +kernel
theorem dX5_setBottle_79 : decode cX5_setBottle 79 = .ok (.getfield 10, 3) := by decide +kernel
theorem dX5_setBottle_82 : decode cX5_setBottle 82 = .ok (.iload_n 1, 1) := by decide +kernel
theorem dX5_setBottle_83 : decode cX5_setBottle 83 = .ok (.putfield 74, 3) := by decide +kernel
theorem dX5_setBottle_86 : decode cX5_setBottle 86 = .ok (.aload_n 0, 1) := by decide +kernel
theorem dX5_setBottle_87 : decode cX5_setBottle 87 = .ok (.getfield 10, 3) := by decide +kernel
theorem dX5_setBottle_90 : decode cX5_setBottle 90 = .ok (.iload_n 2, 1) := by decide +kernel
theorem dX5_setBottle_91 : decode cX5_setBottle 91 = .ok (.putfield 78, 3) := by decide +kernel
theorem dX5_setBottle_94 : decode cX5_setBottle 94 = .ok (.aload_n 0, 1) := by decide +kernel
theorem dX5_setBottle_95 : decode cX5_setBottle 95 = .ok (.getfield 10, 3) := by decide +kernel
theorem dX5_setBottle_98 : decode cX5_setBottle 98 = .ok (.iload_n 3, 1) := by decide +kernel
theorem dX5_setBottle_99 : decode cX5_setBottle 99 = .ok (.putfield 81, 3) := by decide +kernel
theorem dX5_setBottle_102 : decode cX5_setBottle 102 = .ok (.aload_n 0, 1) := by decide +kernel
theorem dX5_setBottle_103 : decode cX5_setBottle 103 = .ok (.getfield 10, 3) := by decide +kernel
theorem dX5_setBottle_106 : decode cX5_setBottle 106 = .ok (.iload 4, 2) := by decide +kernel
theorem dX5_setBottle_108 : decode cX5_setBottle 108 = .ok (.putfield 84, 3) := by decide +kernel
theorem dX5_setBottle_111 : decode cX5_setBottle 111 = .ok (.iload 5, 2) := by decide +kernel
theorem dX5_setBottle_113 : decode cX5_setBottle 113 = .ok (.ireturn, 1) := by decide +kernel
set_option maxRecDepth 20000 in
theorem ggX5_setHull_X5_isWithin : GoodIn wsX5_setHull wsX5_isWithin := goodIn_r _ [14] (by decide +kernel) (by decide +kernel)
set_option maxRecDepth 20000 in
theorem gX5_setHull_X5_isWithin : GoodIn wsX5_setHull (va_wsS RX5 54 yX5_isWithin wsX5_isWithin) := goodIn_app (goodIn_of _ (by decide +kernel)) ggX5_setHull_X5_isWithin
theorem dX5_setHull_0 : decode cX5_setHull 0 = .ok (.iload_n 1, 1) := by decide +kernel
theorem dX5_setHull_1 : decode cX5_setHull 1 = .ok (.iconst 5, 1) := by decide +kernel
theorem dX5_setHull_2 : decode cX5_setHull 2 = .ok (.bipush 80, 2) := by decide +kernel
theorem dX5_setHull_4 : decode cX5_setHull 4 = .ok (.invokestatic 54, 3) := by decide +kernel
theorem dX5_setHull_7 : decode cX5_setHull 7 = .ok (.ifCond .eq 23, 3) := by decide +kernel
theorem dX5_setHull_10 : decode cX5_setHull 10 = .ok (.iload_n 2, 1) := by decide +kernel
theorem dX5_setHull_11 : decode cX5_setHull 11 = .ok (.iconst 1, 1) := by decide +kernel
theorem dX5_setHull_12 : decode cX5_setHull 12 = .ok (.bipush 15, 2) := by decide +kernel
theorem dX5_setHull_14 : decode cX5_setHull 14 = .ok (.invokestatic 54, 3) := by decide +kernel
theorem dX5_setHull_17 : decode cX5_setHull 17 = .ok (.ifCond .eq 13, 3) := by decide +kernel
theorem dX5_setHull_20 : decode cX5_setHull 20 = .ok (.iload_n 3, 1) := by decide +kernel
theorem dX5_setHull_21 : decode cX5_setHull 21 = .ok (.iconst 1, 1) := by decide +kernel
theorem dX5_setHull_22 : decode cX5_setHull 22 = .ok (.bipush 15, 2) := by decide +kernel
theorem dX5_setHull_24 : decode cX5_setHull 24 = .ok (.invokestatic 54, 3) := by decide +kernel
theorem dX5_setHull_27 : decode cX5_setHull 27 = .ok (.ifCond .ne 13, 3) := by decide +kernel
theorem dX5_setHull_30 : decode cX5_setHull 30 = .ok (.new 58, 3) := by decide +kernel
theorem dX5_setHull_33 : decode cX5_setHull 33 = .ok (.dup, 1) := by decide +kernel
theorem dX5_setHull_34 : decode cX5_setHull 34 = .ok (.ldc 87, 2) := by decide +kernel
theorem dX5_setHull_36 : decode cX5_setHull 36 = .ok (.invokespecial 62, 3) := by decide +kernel
theorem dX5_setHull_39 : decode cX5_setHull 39 = .ok (.athrow, 1) := by decide +kernel
theorem dX5_setHull_40 : decode cX5_setHull 40 = .ok (.aload_n 0, 1) := by decide +kernel
theorem dX5_setHull_41 : decode cX5_setHull 41 = .ok (.getfield 89, 3) := by decide +kernel
theorem dX5_setHull_44 : decode cX5_setHull 44 = .ok (.ifCond .gt 10, 3) := by decide +kernel
theorem dX5_setHull_47 : decode cX5_setHull 47 = .ok (.aload_n 0, 1) := by decide +kernel
theorem dX5_setHull_48 : decode cX5_setHull 48 = .ok (.getfield 65, 3) := by decide +kernel
theorem dX5_setHull_51 : decode cX5_setHull 51 = .ok (.ifCond .eq 13, 3) := by decide +kernel
theorem dX5_setHull_54 : decode cX5_setHull 54 = .ok (.new 69, 3) := by decide +kernel
theorem dX5_setHull_57 : decode cX5_setHull 57 = .ok (.dup, 1) := by decide +kernel
theorem dX5_setHull_58 : decode cX5_setHull 58 = .ok (.ldc 92, 2) := by decide +kernel
theorem dX5_setHull_60 : decode cX5_setHull 60 = .ok (.invokespecial 73, 3) := by decide +kernel
theorem dX5_setHull_63 : decode cX5_setHull 63 = .ok (.athrow, 1) := by decide +kernel
theorem dX5_setHull_64 : decode cX5_setHull 64 = .ok (.aload_n 0, 1) := by decide +kernel
theorem dX5_setHull_65 : decode cX5_setHull 65 = .ok (.getfield 19, 3) := by decide +kernel
theorem dX5_setHull_68 : decode cX5_setHull 68 = .ok (.getfield 94, 3) := by decide +kernel
theorem dX5_setHull_71 : decode cX5_setHull 71 = .ok (.istore 4, 2) := by decide +kernel
theorem dX5_setHull_73 : decode cX5_setHull 73 = .ok (.aload_n 0, 1) := by decide +kernel
theorem dX5_setHull_74 : decode cX5_setHull 74 = .ok (.getfield 19, 3) := by decide +kernel
theorem dX5_setHull_77 : decode cX5_setHull 77 = .ok (.iload_n 1, 1) := by decide +kernel
theorem dX5_setHull_78 : decode cX5_setHull 78 = .ok (.putfield 94, 3) := by decide +kernel
theorem dX5_setHull_81 : decode cX5_setHull 81 = .ok (.aload_n 0, 1) := by decide +kernel
theorem dX5_setHull_82 : decode cX5_setHull 82 = .ok (.getfield 19, 3) := by decide +kernel
theorem dX5_setHull_85 : decode cX5_setHull 85 = .ok (.iload_n 2, 1) := by decide +kernel
theorem dX5_setHull_86 : decode cX5_setHull 86 = .ok (.putfield 95, 3) := by decide +kernel
theorem dX5_setHull_89 : decode cX5_setHull 89 = .ok (.aload_n 0, 1) := by decide +kernel
theorem dX5_setHull_90 : decode cX5_setHull 90 = .ok (.getfield 19, 3) := by decide +kernel
theorem dX5_setHull_93 : decode cX5_setHull 93 = .ok (.iload_n 3, 1) := by decide +kernel
theorem dX5_setHull_94 : decode cX5_setHull 94 = .ok (.putfield 98, 3) := by decide +kernel
theorem dX5_setHull_97 : decode cX5_setHull 97 = .ok (.iload 4, 2) := by decide +kernel
theorem dX5_setHull_99 : decode cX5_setHull 99 = .ok (.ireturn, 1) := by decide +kernel
set_option maxRecDepth 20000 in
theorem ggX5_step_X5_isWithin : GoodIn wsX5_step wsX5_isWithin := goodIn_r _ [16] (by decide +kernel) (by decide +kernel)
set_option maxRecDepth 20000 in
theorem gX5_step_X5_isWithin : GoodIn wsX5_step (va_wsS RX5 54 yX5_isWithin wsX5_isWithin) := goodIn_app (goodIn_of _ (by decide +kernel)) ggX5_step_X5_isWithin
set_option maxRecDepth 20000 in
theorem ggX5_step_X5_hasMastAt : GoodIn wsX5_step wsX5_hasMastAt := goodIn_r _ [20, 8, 9, 10, 21, 22, 23, 24, 25, 26, 27, 28, 29, 30, 31, 32, 33, 34, 38, 39, 40, 41] (by decide +kernel) (by decide +kernel)
set_option maxRecDepth 20000 in
theorem gX5_step_X5_hasMastAt : GoodIn wsX5_step (wsV RX5 103 RX5 yX5_hasMastAt wsX5_hasMastAt) := goodIn_app (goodIn_of _ (by decide +kernel)) ggX5_step_X5_hasMastAt
theorem dX5_step_0 : decode cX5_step 0 = .ok (.iload_n 1, 1) := by decide +kernel
theorem dX5_step_1 : decode cX5_step 1 = .ok (.iconst 0, 1) := by decide +kernel
theorem dX5_step_2 : decode cX5_step 2 = .ok (.aload_n 0, 1) := by decide +kernel
theorem dX5_step_3 : decode cX5_step 3 = .ok (.getfield 19, 3) := by decide +kernel
theorem dX5_step_6 : decode cX5_step 6 = .ok (.getfield 94, 3) := by decide +kernel
theorem dX5_step_9 : decode cX5_step 9 = .ok (.invokestatic 54, 3) := by decide +kernel
theorem dX5_step_12 : decode cX5_step 12 = .ok (.ifCond .eq 13, 3) := by decide +kernel
theorem dX5_step_15 : decode cX5_step 15 = .ok (.iload_n 2, 1) := by decide +kernel
theorem dX5_step_16 : decode cX5_step 16 = .ok (.iconst 1, 1) := by decide +kernel
theorem dX5_step_17 : decode cX5_step 17 = .ok (.bipush 50, 2) := by decide +kernel
theorem dX5_step_19 : decode cX5_step 19 = .ok (.invokestatic 54, 3) := by decide +kernel
theorem dX5_step_22 : decode cX5_step 22 = .ok (.ifCond .ne 13, 3) := by decide +kernel
theorem dX5_step_25 : decode cX5_step 25 = .ok (.new 58, 3) := by decide +kernel
theorem dX5_step_28 : decode cX5_step 28 = .ok (.dup, 1) := by decide +kernel
theorem dX5_step_29 : decode cX5_step 29 = .ok (.ldc 101, 2) := by decide +kernel
theorem dX5_step_31 : decode cX5_step 31 = .ok (.invokespecial 62, 3) := by decide +kernel
theorem dX5_step_34 : decode cX5_step 34 = .ok (.athrow, 1) := by decide +kernel
theorem dX5_step_35 : decode cX5_step 35 = .ok (.aload_n 0, 1) := by decide +kernel
theorem dX5_step_36 : decode cX5_step 36 = .ok (.getfield 65, 3) := by decide +kernel
theorem dX5_step_39 : decode cX5_step 39 = .ok (.ifCond .ne 19, 3) := by decide +kernel
theorem dX5_step_42 : decode cX5_step 42 = .ok (.aload_n 0, 1) := by decide +kernel
theorem dX5_step_43 : decode cX5_step 43 = .ok (.getfield 89, 3) := by decide +kernel
theorem dX5_step_46 : decode cX5_step 46 = .ok (.iconst 3, 1) := by decide +kernel
theorem dX5_step_47 : decode cX5_step 47 = .ok (.if_icmp .ge 11, 3) := by decide +kernel
theorem dX5_step_50 : decode cX5_step 50 = .ok (.aload_n 0, 1) := by decide +kernel
theorem dX5_step_51 : decode cX5_step 51 = .ok (.iload_n 1, 1) := by decide +kernel
theorem dX5_step_52 : decode cX5_step 52 = .ok (.invokevirtual 103, 3) := by decide +kernel
theorem dX5_step_55 : decode cX5_step 55 = .ok (.ifCond .eq 13, 3) := by decide +kernel
theorem dX5_step_58 : decode cX5_step 58 = .ok (.new 69, 3) := by decide +kernel
theorem dX5_step_61 : decode cX5_step 61 = .ok (.dup, 1) := by decide +kernel
theorem dX5_step_62 : decode cX5_step 62 = .ok (.ldc 107, 2) := by decide +kernel
theorem dX5_step_64 : decode cX5_step 64 = .ok (.invokespecial 73, 3) := by decide +kernel
theorem dX5_step_67 : decode cX5_step 67 = .ok (.athrow, 1) := by decide +kernel
theorem dX5_step_68 : decode cX5_step 68 = .ok (.aload_n 0, 1) := by decide +kernel
theorem dX5_step_69 : decode cX5_step 69 = .ok (.getfield 89, 3) := by decide +kernel
theorem dX5_step_72 : decode cX5_step 72 = .ok (.istore_n 3, 1) := by decide +kernel
theorem dX5_step_73 : decode cX5_step 73 = .ok (.aload_n 0, 1) := by decide +kernel
theorem dX5_step_74 : decode cX5_step 74 = .ok (.getfield 25, 3) := by decide +kernel
theorem dX5_step_77 : decode cX5_step 77 = .ok (.iload_n 3, 1) := by decide +kernel
theorem dX5_step_78 : decode cX5_step 78 = .ok (.aaload, 1) := by decide +kernel
theorem dX5_step_79 : decode cX5_step 79 = .ok (.iload_n 1, 1) := by decide +kernel
theorem dX5_step_80 : decode cX5_step 80 = .ok (.putfield 109, 3) := by decide +kernel
theorem dX5_step_83 : decode cX5_step 83 = .ok (.aload_n 0, 1) := by decide +kernel
theorem dX5_step_84 : decode cX5_step 84 = .ok (.getfield 25, 3) := by decide +kernel
theorem dX5_step_87 : decode cX5_step 87 = .ok (.iload_n 3, 1) := by decide +kernel
end
section
theorem dX5_step_88 : decode cX5_step 88 = .ok (.aaload, 1) := by decide +kernel
theorem dX5_step_89 : decode cX5_step 89 = .ok (.iload_n 2, 1) := by decide +kernel
theorem dX5_step_90 : decode cX5_step 90 = .ok (.putfield 112, 3) := by decide +kernel
theorem dX5_step_93 : decode cX5_step 93 = .ok (.aload_n 0, 1) := by decide +kernel
theorem dX5_step_94 : decode cX5_step 94 = .ok (.getfield 42, 3) := by decide +kernel
theorem dX5_step_97 : decode cX5_step 97 = .ok (.iload_n 3, 1) := by decide +kernel
theorem dX5_step_98 : decode cX5_step 98 = .ok (.bipush 9, 2) := by decide +kernel
theorem dX5_step_100 : decode cX5_step 100 = .ok (.iastore, 1) := by decide +kernel
theorem dX5_step_101 : decode cX5_step 101 = .ok (.aload_n 0, 1) := by decide +kernel
theorem dX5_step_102 : decode cX5_step 102 = .ok (.dup, 1) := by decide +kernel
theorem dX5_step_103 : decode cX5_step 103 = .ok (.getfield 89, 3) := by decide +kernel
theorem dX5_step_106 : decode cX5_step 106 = .ok (.iconst 1, 1) := by decide +kernel
theorem dX5_step_107 : decode cX5_step 107 = .ok (.iadd, 1) := by decide +kernel
theorem dX5_step_108 : decode cX5_step 108 = .ok (.putfield 89, 3) := by decide +kernel
theorem dX5_step_111 : decode cX5_step 111 = .ok (.iload_n 3, 1) := by decide +kernel
theorem dX5_step_112 : decode cX5_step 112 = .ok (.ireturn, 1) := by decide +kernel
set_option maxRecDepth 20000 in
theorem ggX5_yard_X5_isMast : GoodIn wsX5_yard wsX5_isMast := goodIn_r _ [15, 16, 20, 21, 22, 23, 24, 25, 26, 27, 28, 29, 30, 31, 32, 33] (by decide +kernel) (by decide +kernel)
set_option maxRecDepth 20000 in
theorem gX5_yard_X5_isMast : GoodIn wsX5_yard (wsV RX5 113 RX5 yX5_isMast wsX5_isMast) := goodIn_app (goodIn_of _ (by decide +kernel)) ggX5_yard_X5_isMast
set_option maxRecDepth 20000 in
theorem ggX5_yard_X5_isWithin : GoodIn wsX5_yard wsX5_isWithin := goodIn_r _ [19] (by decide +kernel) (by decide +kernel)
set_option maxRecDepth 20000 in
theorem gX5_yard_X5_isWithin : GoodIn wsX5_yard (va_wsS RX5 54 yX5_isWithin wsX5_isWithin) := goodIn_app (goodIn_of _ (by decide +kernel)) ggX5_yard_X5_isWithin
theorem dX5_yard_0 : decode cX5_yard 0 = .ok (.aload_n 0, 1) := by decide +kernel
theorem dX5_yard_1 : decode cX5_yard 1 = .ok (.iload_n 1, 1) := by decide +kernel
theorem dX5_yard_2 : decode cX5_yard 2 = .ok (.invokevirtual 113, 3) := by decide +kernel
theorem dX5_yard_5 : decode cX5_yard 5 = .ok (.ifCond .ne 13, 3) := by decide +kernel
theorem dX5_yard_8 : decode cX5_yard 8 = .ok (.new 116, 3) := by decide +kernel
theorem dX5_yard_11 : decode cX5_yard 11 = .ok (.dup, 1) := by decide +kernel
theorem dX5_yard_12 : decode cX5_yard 12 = .ok (.ldc 118, 2) := by decide +kernel
theorem dX5_yard_14 : decode cX5_yard 14 = .ok (.invokespecial 120, 3) := by decide +kernel
theorem dX5_yard_17 : decode cX5_yard 17 = .ok (.athrow, 1) := by decide +kernel
theorem dX5_yard_18 : decode cX5_yard 18 = .ok (.iload_n 2, 1) := by decide +kernel
theorem dX5_yard_19 : decode cX5_yard 19 = .ok (.iconst 1, 1) := by decide +kernel
theorem dX5_yard_20 : decode cX5_yard 20 = .ok (.bipush 20, 2) := by decide +kernel
theorem dX5_yard_22 : decode cX5_yard 22 = .ok (.invokestatic 54, 3) := by decide +kernel
theorem dX5_yard_25 : decode cX5_yard 25 = .ok (.ifCond .ne 13, 3) := by decide +kernel
theorem dX5_yard_28 : decode cX5_yard 28 = .ok (.new 58, 3) := by decide +kernel
theorem dX5_yard_31 : decode cX5_yard 31 = .ok (.dup, 1) := by decide +kernel
theorem dX5_yard_32 : decode cX5_yard 32 = .ok (.ldc 121, 2) := by decide +kernel
theorem dX5_yard_34 : decode cX5_yard 34 = .ok (.invokespecial 62, 3) := by decide +kernel
theorem dX5_yard_37 : decode cX5_yard 37 = .ok (.athrow, 1) := by decide +kernel
theorem dX5_yard_38 : decode cX5_yard 38 = .ok (.aload_n 0, 1) := by decide +kernel
theorem dX5_yard_39 : decode cX5_yard 39 = .ok (.getfield 25, 3) := by decide +kernel
theorem dX5_yard_42 : decode cX5_yard 42 = .ok (.iload_n 1, 1) := by decide +kernel
theorem dX5_yard_43 : decode cX5_yard 43 = .ok (.aaload, 1) := by decide +kernel
theorem dX5_yard_44 : decode cX5_yard 44 = .ok (.astore_n 3, 1) := by decide +kernel
theorem dX5_yard_45 : decode cX5_yard 45 = .ok (.aload_n 0, 1) := by decide +kernel
theorem dX5_yard_46 : decode cX5_yard 46 = .ok (.getfield 65, 3) := by decide +kernel
theorem dX5_yard_49 : decode cX5_yard 49 = .ok (.ifCond .ne 11, 3) := by decide +kernel
theorem dX5_yard_52 : decode cX5_yard 52 = .ok (.aload_n 3, 1) := by decide +kernel
theorem dX5_yard_53 : decode cX5_yard 53 = .ok (.getfield 123, 3) := by decide +kernel
theorem dX5_yard_56 : decode cX5_yard 56 = .ok (.iconst 3, 1) := by decide +kernel
theorem dX5_yard_57 : decode cX5_yard 57 = .ok (.if_icmp .lt 13, 3) := by decide +kernel
theorem dX5_yard_60 : decode cX5_yard 60 = .ok (.new 69, 3) := by decide +kernel
theorem dX5_yard_63 : decode cX5_yard 63 = .ok (.dup, 1) := by decide +kernel
theorem dX5_yard_64 : decode cX5_yard 64 = .ok (.ldc 126, 2) := by decide +kernel
theorem dX5_yard_66 : decode cX5_yard 66 = .ok (.invokespecial 73, 3) := by decide +kernel
theorem dX5_yard_69 : decode cX5_yard 69 = .ok (.athrow, 1) := by decide +kernel
theorem dX5_yard_70 : decode cX5_yard 70 = .ok (.aload_n 3, 1) := by decide +kernel
theorem dX5_yard_71 : decode cX5_yard 71 = .ok (.getfield 128, 3) := by decide +kernel
theorem dX5_yard_74 : decode cX5_yard 74 = .ok (.aload_n 3, 1) := by decide +kernel
theorem dX5_yard_75 : decode cX5_yard 75 = .ok (.getfield 123, 3) := by decide +kernel
theorem dX5_yard_78 : decode cX5_yard 78 = .ok (.iload_n 2, 1) := by decide +kernel
theorem dX5_yard_79 : decode cX5_yard 79 = .ok (.iastore, 1) := by decide +kernel
theorem dX5_yard_80 : decode cX5_yard 80 = .ok (.aload_n 3, 1) := by decide +kernel
theorem dX5_yard_81 : decode cX5_yard 81 = .ok (.dup, 1) := by decide +kernel
theorem dX5_yard_82 : decode cX5_yard 82 = .ok (.getfield 123, 3) := by decide +kernel
theorem dX5_yard_85 : decode cX5_yard 85 = .ok (.iconst 1, 1) := by decide +kernel
theorem dX5_yard_86 : decode cX5_yard 86 = .ok (.iadd, 1) := by decide +kernel
theorem dX5_yard_87 : decode cX5_yard 87 = .ok (.putfield 123, 3) := by decide +kernel
theorem dX5_yard_90 : decode cX5_yard 90 = .ok (.aload_n 3, 1) := by decide +kernel
theorem dX5_yard_91 : decode cX5_yard 91 = .ok (.getfield 123, 3) := by decide +kernel
theorem dX5_yard_94 : decode cX5_yard 94 = .ok (.ireturn, 1) := by decide +kernel
set_option maxRecDepth 20000 in
theorem ggX5_lead_X5_isMast : GoodIn wsX5_lead wsX5_isMast := goodIn_r _ [18, 19, 37, 38, 39, 40, 41, 42, 43, 44, 45, 46, 47, 48, 49, 50] (by decide +kernel) (by decide +kernel)
set_option maxRecDepth 20000 in
theorem gX5_lead_X5_isMast : GoodIn wsX5_lead (wsV RX5 113 RX5 yX5_isMast wsX5_isMast) := goodIn_app (goodIn_of _ (by decide +kernel)) ggX5_lead_X5_isMast
set_option maxRecDepth 20000 in
theorem ggX5_lead_X5_isWithin : GoodIn wsX5_lead wsX5_isWithin := goodIn_r _ [22] (by decide +kernel) (by decide +kernel)
set_option maxRecDepth 20000 in
theorem gX5_lead_X5_isWithin : GoodIn wsX5_lead (va_wsS RX5 54 yX5_isWithin wsX5_isWithin) := goodIn_app (goodIn_of _ (by decide +kernel)) ggX5_lead_X5_isWithin
set_option maxRecDepth 20000 in
theorem ggX5_lead_X1_span : GoodIn wsX5_lead wsX1_span := goodIn_r _ [27, 28, 29, 30, 31, 32, 33, 34, 35, 36, 51, 52, 53, 54, 55, 56] (by decide +kernel) (by decide +kernel)
set_option maxRecDepth 20000 in
theorem gX5_lead_X1_span : GoodIn wsX5_lead (wsV RX5 147 RX1 yX1_span wsX1_span) := goodIn_app (goodIn_of _ (by decide +kernel)) ggX5_lead_X1_span
theorem dX5_lead_0 : decode cX5_lead 0 = .ok (.aload_n 0, 1) := by decide +kernel
theorem dX5_lead_1 : decode cX5_lead 1 = .ok (.iload_n 1, 1) := by decide +kernel
theorem dX5_lead_2 : decode cX5_lead 2 = .ok (.invokevirtual 113, 3) := by decide +kernel
theorem dX5_lead_5 : decode cX5_lead 5 = .ok (.ifCond .eq 16, 3) := by decide +kernel
theorem dX5_lead_8 : decode cX5_lead 8 = .ok (.iload_n 2, 1) := by decide +kernel
theorem dX5_lead_9 : decode cX5_lead 9 = .ok (.iconst (-1), 1) := by decide +kernel
theorem dX5_lead_10 : decode cX5_lead 10 = .ok (.if_icmp .eq 21, 3) := by decide +kernel
theorem dX5_lead_13 : decode cX5_lead 13 = .ok (.aload_n 0, 1) := by decide +kernel
theorem dX5_lead_14 : decode cX5_lead 14 = .ok (.iload_n 2, 1) := by decide +kernel
theorem dX5_lead_15 : decode cX5_lead 15 = .ok (.invokevirtual 113, 3) := by decide +kernel
theorem dX5_lead_18 : decode cX5_lead 18 = .ok (.ifCond .ne 13, 3) := by decide +kernel
theorem dX5_lead_21 : decode cX5_lead 21 = .ok (.new 116, 3) := by decide +kernel
theorem dX5_lead_24 : decode cX5_lead 24 = .ok (.dup, 1) := by decide +kernel
theorem dX5_lead_25 : decode cX5_lead 25 = .ok (.ldc 118, 2) := by decide +kernel
theorem dX5_lead_27 : decode cX5_lead 27 = .ok (.invokespecial 120, 3) := by decide +kernel
theorem dX5_lead_30 : decode cX5_lead 30 = .ok (.athrow, 1) := by decide +kernel
theorem dX5_lead_31 : decode cX5_lead 31 = .ok (.iload_n 1, 1) := by decide +kernel
theorem dX5_lead_32 : decode cX5_lead 32 = .ok (.iload_n 2, 1) := by decide +kernel
theorem dX5_lead_33 : decode cX5_lead 33 = .ok (.if_icmp .eq 13, 3) := by decide +kernel
theorem dX5_lead_36 : decode cX5_lead 36 = .ok (.iload_n 3, 1) := by decide +kernel
theorem dX5_lead_37 : decode cX5_lead 37 = .ok (.iconst 1, 1) := by decide +kernel
theorem dX5_lead_38 : decode cX5_lead 38 = .ok (.bipush 9, 2) := by decide +kernel
theorem dX5_lead_40 : decode cX5_lead 40 = .ok (.invokestatic 54, 3) := by decide +kernel
theorem dX5_lead_43 : decode cX5_lead 43 = .ok (.ifCond .ne 13, 3) := by decide +kernel
theorem dX5_lead_46 : decode cX5_lead 46 = .ok (.new 58, 3) := by decide +kernel
theorem dX5_lead_49 : decode cX5_lead 49 = .ok (.dup, 1) := by decide +kernel
theorem dX5_lead_50 : decode cX5_lead 50 = .ok (.ldc 131, 2) := by decide +kernel
theorem dX5_lead_52 : decode cX5_lead 52 = .ok (.invokespecial 62, 3) := by decide +kernel
theorem dX5_lead_55 : decode cX5_lead 55 = .ok (.athrow, 1) := by decide +kernel
theorem dX5_lead_56 : decode cX5_lead 56 = .ok (.aload_n 0, 1) := by decide +kernel
theorem dX5_lead_57 : decode cX5_lead 57 = .ok (.getfield 133, 3) := by decide +kernel
theorem dX5_lead_60 : decode cX5_lead 60 = .ok (.bipush 8, 2) := by decide +kernel
theorem dX5_lead_62 : decode cX5_lead 62 = .ok (.if_icmp .lt 13, 3) := by decide +kernel
theorem dX5_lead_65 : decode cX5_lead 65 = .ok (.new 69, 3) := by decide +kernel
theorem dX5_lead_68 : decode cX5_lead 68 = .ok (.dup, 1) := by decide +kernel
theorem dX5_lead_69 : decode cX5_lead 69 = .ok (.ldc 136, 2) := by decide +kernel
theorem dX5_lead_71 : decode cX5_lead 71 = .ok (.invokespecial 73, 3) := by decide +kernel
theorem dX5_lead_74 : decode cX5_lead 74 = .ok (.athrow, 1) := by decide +kernel
theorem dX5_lead_75 : decode cX5_lead 75 = .ok (.aload_n 0, 1) := by decide +kernel
theorem dX5_lead_76 : decode cX5_lead 76 = .ok (.getfield 133, 3) := by decide +kernel
theorem dX5_lead_79 : decode cX5_lead 79 = .ok (.istore 4, 2) := by decide +kernel
theorem dX5_lead_81 : decode cX5_lead 81 = .ok (.aload_n 0, 1) := by decide +kernel
theorem dX5_lead_82 : decode cX5_lead 82 = .ok (.getfield 31, 3) := by decide +kernel
theorem dX5_lead_85 : decode cX5_lead 85 = .ok (.iload 4, 2) := by decide +kernel
theorem dX5_lead_87 : decode cX5_lead 87 = .ok (.aaload, 1) := by decide +kernel
theorem dX5_lead_88 : decode cX5_lead 88 = .ok (.iload_n 1, 1) := by decide +kernel
theorem dX5_lead_89 : decode cX5_lead 89 = .ok (.putfield 138, 3) := by decide +kernel
theorem dX5_lead_92 : decode cX5_lead 92 = .ok (.aload_n 0, 1) := by decide +kernel
theorem dX5_lead_93 : decode cX5_lead 93 = .ok (.getfield 31, 3) := by decide +kernel
theorem dX5_lead_96 : decode cX5_lead 96 = .ok (.iload 4, 2) := by decide +kernel
theorem dX5_lead_98 : decode cX5_lead 98 = .ok (.aaload, 1) := by decide +kernel
theorem dX5_lead_99 : decode cX5_lead 99 = .ok (.iload_n 2, 1) := by decide +kernel
theorem dX5_lead_100 : decode cX5_lead 100 = .ok (.putfield 141, 3) := by decide +kernel
theorem dX5_lead_103 : decode cX5_lead 103 = .ok (.aload_n 0, 1) := by decide +kernel
theorem dX5_lead_104 : decode cX5_lead 104 = .ok (.getfield 31, 3) := by decide +kernel
theorem dX5_lead_107 : decode cX5_lead 107 = .ok (.iload 4, 2) := by decide +kernel
theorem dX5_lead_109 : decode cX5_lead 109 = .ok (.aaload, 1) := by decide +kernel
theorem dX5_lead_110 : decode cX5_lead 110 = .ok (.iload_n 3, 1) := by decide +kernel
theorem dX5_lead_111 : decode cX5_lead 111 = .ok (.putfield 144, 3) := by decide +kernel
theorem dX5_lead_114 : decode cX5_lead 114 = .ok (.aload_n 0, 1) := by decide +kernel
theorem dX5_lead_115 : decode cX5_lead 115 = .ok (.getfield 31, 3) := by decide +kernel
theorem dX5_lead_118 : decode cX5_lead 118 = .ok (.iload 4, 2) := by decide +kernel
theorem dX5_lead_120 : decode cX5_lead 120 = .ok (.aaload, 1) := by decide +kernel
theorem dX5_lead_121 : decode cX5_lead 121 = .ok (.aload_n 0, 1) := by decide +kernel
theorem dX5_lead_122 : decode cX5_lead 122 = .ok (.getfield 25, 3) := by decide +kernel
theorem dX5_lead_125 : decode cX5_lead 125 = .ok (.iload_n 1, 1) := by decide +kernel
theorem dX5_lead_126 : decode cX5_lead 126 = .ok (.aaload, 1) := by decide +kernel
theorem dX5_lead_127 : decode cX5_lead 127 = .ok (.getfield 109, 3) := by decide +kernel
theorem dX5_lead_130 : decode cX5_lead 130 = .ok (.iload_n 2, 1) := by decide +kernel
theorem dX5_lead_131 : decode cX5_lead 131 = .ok (.iconst (-1), 1) := by decide +kernel
theorem dX5_lead_132 : decode cX5_lead 132 = .ok (.if_icmp .ne 7, 3) := by decide +kernel
theorem dX5_lead_135 : decode cX5_lead 135 = .ok (.iconst 0, 1) := by decide +kernel
theorem dX5_lead_136 : decode cX5_lead 136 = .ok (.goto 12, 3) := by decide +kernel
theorem dX5_lead_139 : decode cX5_lead 139 = .ok (.aload_n 0, 1) := by decide +kernel
theorem dX5_lead_140 : decode cX5_lead 140 = .ok (.getfield 25, 3) := by decide +kernel
theorem dX5_lead_143 : decode cX5_lead 143 = .ok (.iload_n 2, 1) := by decide +kernel
theorem dX5_lead_144 : decode cX5_lead 144 = .ok (.aaload, 1) := by decide +kernel
theorem dX5_lead_145 : decode cX5_lead 145 = .ok (.getfield 109, 3) := by decide +kernel
theorem dX5_lead_148 : decode cX5_lead 148 = .ok (.invokevirtual 147, 3) := by decide +kernel
theorem dX5_lead_151 : decode cX5_lead 151 = .ok (.aload_n 0, 1) := by decide +kernel
theorem dX5_lead_152 : decode cX5_lead 152 = .ok (.dup, 1) := by decide +kernel
theorem dX5_lead_153 : decode cX5_lead 153 = .ok (.getfield 133, 3) := by decide +kernel
theorem dX5_lead_156 : decode cX5_lead 156 = .ok (.iconst 1, 1) := by decide +kernel
theorem dX5_lead_157 : decode cX5_lead 157 = .ok (.iadd, 1) := by decide +kernel
theorem dX5_lead_158 : decode cX5_lead 158 = .ok (.putfield 133, 3) := by decide +kernel
theorem dX5_lead_161 : decode cX5_lead 161 = .ok (.iload 4, 2) := by decide +kernel
theorem dX5_lead_163 : decode cX5_lead 163 = .ok (.ireturn, 1) := by decide +kernel
set_option maxRecDepth 20000 in
theorem ggX5_enter_X5_goesThroughNeck : GoodIn wsX5_enter wsX5_goesThroughNeck := goodIn_r _ [7, 8, 9, 2, 10, 11, 12, 6, 13, 14, 15, 16, 17, 18, 19, 20, 21, 22, 23, 24, 25, 26, 27, 28, 29, 30, 31, 32, 33, 34, 35, 36, 37, 38, 39, 57, 58, 59, 60, 61, 62, 63, 64, 65, 66, 67, 68, 69, 70, 71, 72, 73, 74, 75, 76, 77, 78, 79, 80, 81] (by decide +kernel) (by decide +kernel)
set_option maxRecDepth 20000 in
theorem gX5_enter_X5_goesThroughNeck : GoodIn wsX5_enter (wsV RX5 151 RX5 yX5_goesThroughNeck wsX5_goesThroughNeck) := goodIn_app (goodIn_of _ (by decide +kernel)) ggX5_enter_X5_goesThroughNeck
set_option maxRecDepth 20000 in
theorem ggX5_enter_X5_fitsWith : GoodIn wsX5_enter wsX5_fitsWith := goodIn_r _ [43, 8, 44, 45, 46, 47, 48, 49, 6, 50, 14, 51, 16, 17, 52, 18, 19, 20, 21, 53, 54, 55, 25, 56, 39, 30, 31, 32, 33, 34, 35, 36, 37, 38, 57, 58, 59, 60, 61, 62, 63, 64, 65, 66, 67, 68, 69, 70, 71, 72, 73, 74, 75, 76, 77, 78, 79, 80, 81] (by decide +kernel) (by decide +kernel)
set_option maxRecDepth 20000 in
theorem gX5_enter_X5_fitsWith : GoodIn wsX5_enter (wsV RX5 155 RX5 yX5_fitsWith wsX5_fitsWith) := goodIn_app (goodIn_of _ (by decide +kernel)) ggX5_enter_X5_fitsWith
theorem dX5_enter_0 : decode cX5_enter 0 = .ok (.aload_n 0, 1) := by decide +kernel
theorem dX5_enter_1 : decode cX5_enter 1 = .ok (.getfield 65, 3) := by decide +kernel
theorem dX5_enter_4 : decode cX5_enter 4 = .ok (.ifCond .ne 21, 3) := by decide +kernel
theorem dX5_enter_7 : decode cX5_enter 7 = .ok (.aload_n 0, 1) := by decide +kernel
theorem dX5_enter_8 : decode cX5_enter 8 = .ok (.invokevirtual 151, 3) := by decide +kernel
theorem dX5_enter_11 : decode cX5_enter 11 = .ok (.ifCond .eq 14, 3) := by decide +kernel
theorem dX5_enter_14 : decode cX5_enter 14 = .ok (.aload_n 0, 1) := by decide +kernel
theorem dX5_enter_15 : decode cX5_enter 15 = .ok (.aload_n 0, 1) := by decide +kernel
theorem dX5_enter_16 : decode cX5_enter 16 = .ok (.getfield 42, 3) := by decide +kernel
theorem dX5_enter_19 : decode cX5_enter 19 = .ok (.invokevirtual 155, 3) := by decide +kernel
theorem dX5_enter_22 : decode cX5_enter 22 = .ok (.ifCond .ne 5, 3) := by decide +kernel
theorem dX5_enter_25 : decode cX5_enter 25 = .ok (.iconst 0, 1) := by decide +kernel
theorem dX5_enter_26 : decode cX5_enter 26 = .ok (.ireturn, 1) := by decide +kernel
theorem dX5_enter_27 : decode cX5_enter 27 = .ok (.aload_n 0, 1) := by decide +kernel
theorem dX5_enter_28 : decode cX5_enter 28 = .ok (.iconst 1, 1) := by decide +kernel
theorem dX5_enter_29 : decode cX5_enter 29 = .ok (.putfield 65, 3) := by decide +kernel
theorem dX5_enter_32 : decode cX5_enter 32 = .ok (.iconst 1, 1) := by decide +kernel
theorem dX5_enter_33 : decode cX5_enter 33 = .ok (.ireturn, 1) := by decide +kernel
set_option maxRecDepth 20000 in
theorem ggX5_leave_X5_goesThroughNeck : GoodIn wsX5_leave wsX5_goesThroughNeck := goodIn_r _ [6, 7, 8, 9, 10, 11, 12, 5, 13, 14, 15, 16, 17, 18, 19, 20, 21, 22, 23, 24, 25, 26, 27, 28, 29, 30, 31, 32, 33, 34, 35, 36, 37, 38, 39, 40, 41, 42, 43, 44, 45, 46, 47, 48, 49, 50, 51, 52, 53, 54, 55, 56, 57, 58, 59, 60, 61, 62, 63, 64] (by decide +kernel) (by decide +kernel)
set_option maxRecDepth 20000 in
theorem gX5_leave_X5_goesThroughNeck : GoodIn wsX5_leave (wsV RX5 151 RX5 yX5_goesThroughNeck wsX5_goesThroughNeck) := goodIn_app (goodIn_of _ (by decide +kernel)) ggX5_leave_X5_goesThroughNeck
theorem dX5_leave_0 : decode cX5_leave 0 = .ok (.aload_n 0, 1) := by decide +kernel
theorem dX5_leave_1 : decode cX5_leave 1 = .ok (.getfield 65, 3) := by decide +kernel
theorem dX5_leave_4 : decode cX5_leave 4 = .ok (.ifCond .eq 10, 3) := by decide +kernel
theorem dX5_leave_7 : decode cX5_leave 7 = .ok (.aload_n 0, 1) := by decide +kernel
theorem dX5_leave_8 : decode cX5_leave 8 = .ok (.invokevirtual 151, 3) := by decide +kernel
theorem dX5_leave_11 : decode cX5_leave 11 = .ok (.ifCond .ne 5, 3) := by decide +kernel
theorem dX5_leave_14 : decode cX5_leave 14 = .ok (.iconst 0, 1) := by decide +kernel
theorem dX5_leave_15 : decode cX5_leave 15 = .ok (.ireturn, 1) := by decide +kernel
theorem dX5_leave_16 : decode cX5_leave 16 = .ok (.aload_n 0, 1) := by decide +kernel
theorem dX5_leave_17 : decode cX5_leave 17 = .ok (.iconst 0, 1) := by decide +kernel
theorem dX5_leave_18 : decode cX5_leave 18 = .ok (.putfield 65, 3) := by decide +kernel
theorem dX5_leave_21 : decode cX5_leave 21 = .ok (.iconst 1, 1) := by decide +kernel
theorem dX5_leave_22 : decode cX5_leave 22 = .ok (.ireturn, 1) := by decide +kernel
set_option maxRecDepth 20000 in
theorem ggX5_pull_X5_isThread : GoodIn wsX5_pull wsX5_isThread := goodIn_r _ [20, 21, 101, 102, 103, 104, 105, 106, 107, 108, 109, 110, 111, 112, 113, 114] (by decide +kernel) (by decide +kernel)
set_option maxRecDepth 20000 in
theorem gX5_pull_X5_isThread : GoodIn wsX5_pull (wsV RX5 159 RX5 yX5_isThread wsX5_isThread) := goodIn_app (goodIn_of _ (by decide +kernel)) ggX5_pull_X5_isThread
set_option maxRecDepth 20000 in
theorem ggX5_pull_X5_hindranceOf : GoodIn wsX5_pull wsX5_hindranceOf := goodIn_r _ [25, 9, 10, 11, 26, 27, 28, 29, 19, 30, 31, 32, 33, 34, 21, 5, 6, 35, 36, 37, 38, 39, 40, 41, 42, 43, 44, 45, 46, 47, 48, 49, 50, 51, 52, 53, 54, 55, 56, 57, 58, 59, 60, 61, 62, 63, 64, 65, 66, 67, 68, 69, 70, 71, 72, 73, 74, 75, 76, 77, 78, 79, 80, 81, 82, 83, 84, 85, 86, 87, 88, 89, 90, 91, 92, 93, 94, 95, 115, 116, 117, 118, 119, 120, 101, 102, 103, 104, 105, 106, 107, 108, 109, 110, 111, 112, 113, 114, 121, 122, 123, 124, 125, 126, 127, 128, 129, 130, 131] (by decide +kernel) (by decide +kernel)
set_option maxRecDepth 20000 in
theorem gX5_pull_X5_hindranceOf : GoodIn wsX5_pull (wsV RX5 169 RX5 yX5_hindranceOf wsX5_hindranceOf) := goodIn_app (goodIn_of _ (by decide +kernel)) ggX5_pull_X5_hindranceOf
set_option maxRecDepth 20000 in
theorem ggX5_pull_X1_wear : GoodIn wsX5_pull wsX1_wear := goodIn_r _ [99, 100, 45, 115, 116, 117, 118, 119, 120] (by decide +kernel) (by decide +kernel)
set_option maxRecDepth 20000 in
theorem gX5_pull_X1_wear : GoodIn wsX5_pull (wsV RX5 176 RX1 yX1_wear wsX1_wear) := goodIn_app (goodIn_of _ (by decide +kernel)) ggX5_pull_X1_wear
set_option maxRecDepth 20000 in
theorem ggX5_pull_X5_loweredBy : GoodIn wsX5_pull wsX5_loweredBy := goodIn_r _ [58, 21, 5, 9, 6, 59, 27, 28, 29, 19, 30, 31, 32, 33, 34, 101, 102, 103, 104, 105, 106, 107, 108, 109, 110, 111, 112, 113, 114, 115, 116, 117, 118, 119, 120] (by decide +kernel) (by decide +kernel)
set_option maxRecDepth 20000 in
theorem gX5_pull_X5_loweredBy : GoodIn wsX5_pull (wsV RX5 182 RX5 yX5_loweredBy wsX5_loweredBy) := goodIn_app (goodIn_of _ (by decide +kernel)) ggX5_pull_X5_loweredBy
set_option maxRecDepth 20000 in
theorem ggX5_pull_X5_raise : GoodIn wsX5_pull wsX5_raise := goodIn_r _ [62] (by decide +kernel) (by decide +kernel)
set_option maxRecDepth 20000 in
theorem gX5_pull_X5_raise : GoodIn wsX5_pull (va_wsS RX5 186 yX5_raise wsX5_raise) := goodIn_app (goodIn_of _ (by decide +kernel)) ggX5_pull_X5_raise
theorem dX5_pull_0 : decode cX5_pull 0 = .ok (.aload_n 0, 1) := by decide +kernel
theorem dX5_pull_1 : decode cX5_pull 1 = .ok (.iload_n 1, 1) := by decide +kernel
theorem dX5_pull_2 : decode cX5_pull 2 = .ok (.invokevirtual 159, 3) := by decide +kernel
theorem dX5_pull_5 : decode cX5_pull 5 = .ok (.ifCond .ne 13, 3) := by decide +kernel
theorem dX5_pull_8 : decode cX5_pull 8 = .ok (.new 116, 3) := by decide +kernel
theorem dX5_pull_11 : decode cX5_pull 11 = .ok (.dup, 1) := by decide +kernel
theorem dX5_pull_12 : decode cX5_pull 12 = .ok (.ldc 162, 2) := by decide +kernel
theorem dX5_pull_14 : decode cX5_pull 14 = .ok (.invokespecial 120, 3) := by decide +kernel
theorem dX5_pull_17 : decode cX5_pull 17 = .ok (.athrow, 1) := by decide +kernel
theorem dX5_pull_18 : decode cX5_pull 18 = .ok (.aload_n 0, 1) := by decide +kernel
theorem dX5_pull_19 : decode cX5_pull 19 = .ok (.getfield 31, 3) := by decide +kernel
theorem dX5_pull_22 : decode cX5_pull 22 = .ok (.iload_n 1, 1) := by decide +kernel
theorem dX5_pull_23 : decode cX5_pull 23 = .ok (.aaload, 1) := by decide +kernel
theorem dX5_pull_24 : decode cX5_pull 24 = .ok (.astore_n 2, 1) := by decide +kernel
theorem dX5_pull_25 : decode cX5_pull 25 = .ok (.aload_n 2, 1) := by decide +kernel
theorem dX5_pull_26 : decode cX5_pull 26 = .ok (.getfield 164, 3) := by decide +kernel
theorem dX5_pull_29 : decode cX5_pull 29 = .ok (.ifCond .eq 13, 3) := by decide +kernel
theorem dX5_pull_32 : decode cX5_pull 32 = .ok (.new 69, 3) := by decide +kernel
theorem dX5_pull_35 : decode cX5_pull 35 = .ok (.dup, 1) := by decide +kernel
theorem dX5_pull_36 : decode cX5_pull 36 = .ok (.ldc 167, 2) := by decide +kernel
theorem dX5_pull_38 : decode cX5_pull 38 = .ok (.invokespecial 73, 3) := by decide +kernel
theorem dX5_pull_41 : decode cX5_pull 41 = .ok (.athrow, 1) := by decide +kernel
theorem dX5_pull_42 : decode cX5_pull 42 = .ok (.aload_n 0, 1) := by decide +kernel
theorem dX5_pull_43 : decode cX5_pull 43 = .ok (.aload_n 2, 1) := by decide +kernel
theorem dX5_pull_44 : decode cX5_pull 44 = .ok (.invokevirtual 169, 3) := by decide +kernel
theorem dX5_pull_47 : decode cX5_pull 47 = .ok (.istore_n 3, 1) := by decide +kernel
theorem dX5_pull_48 : decode cX5_pull 48 = .ok (.iload_n 3, 1) := by decide +kernel
theorem dX5_pull_49 : decode cX5_pull 49 = .ok (.ifCond .eq 24, 3) := by decide +kernel
theorem dX5_pull_52 : decode cX5_pull 52 = .ok (.aload_n 0, 1) := by decide +kernel
theorem dX5_pull_53 : decode cX5_pull 53 = .ok (.dup, 1) := by decide +kernel
theorem dX5_pull_54 : decode cX5_pull 54 = .ok (.getfield 173, 3) := by decide +kernel
theorem dX5_pull_57 : decode cX5_pull 57 = .ok (.iconst 1, 1) := by decide +kernel
theorem dX5_pull_58 : decode cX5_pull 58 = .ok (.iadd, 1) := by decide +kernel
theorem dX5_pull_59 : decode cX5_pull 59 = .ok (.putfield 173, 3) := by decide +kernel
theorem dX5_pull_62 : decode cX5_pull 62 = .ok (.iload_n 3, 1) := by decide +kernel
theorem dX5_pull_63 : decode cX5_pull 63 = .ok (.iconst (-1), 1) := by decide +kernel
theorem dX5_pull_64 : decode cX5_pull 64 = .ok (.if_icmp .eq 7, 3) := by decide +kernel
theorem dX5_pull_67 : decode cX5_pull 67 = .ok (.aload_n 2, 1) := by decide +kernel
theorem dX5_pull_68 : decode cX5_pull 68 = .ok (.invokevirtual 176, 3) := by decide +kernel
theorem dX5_pull_71 : decode cX5_pull 71 = .ok (.iload_n 3, 1) := by decide +kernel
theorem dX5_pull_72 : decode cX5_pull 72 = .ok (.ireturn, 1) := by decide +kernel
theorem dX5_pull_73 : decode cX5_pull 73 = .ok (.aload_n 0, 1) := by decide +kernel
theorem dX5_pull_74 : decode cX5_pull 74 = .ok (.dup, 1) := by decide +kernel
theorem dX5_pull_75 : decode cX5_pull 75 = .ok (.getfield 179, 3) := by decide +kernel
theorem dX5_pull_78 : decode cX5_pull 78 = .ok (.iconst 1, 1) := by decide +kernel
theorem dX5_pull_79 : decode cX5_pull 79 = .ok (.iadd, 1) := by decide +kernel
theorem dX5_pull_80 : decode cX5_pull 80 = .ok (.putfield 179, 3) := by decide +kernel
theorem dX5_pull_83 : decode cX5_pull 83 = .ok (.aload_n 2, 1) := by decide +kernel
theorem dX5_pull_84 : decode cX5_pull 84 = .ok (.getfield 138, 3) := by decide +kernel
theorem dX5_pull_87 : decode cX5_pull 87 = .ok (.aload_n 0, 1) := by decide +kernel
theorem dX5_pull_88 : decode cX5_pull 88 = .ok (.aload_n 2, 1) := by decide +kernel
theorem dX5_pull_89 : decode cX5_pull 89 = .ok (.getfield 138, 3) := by decide +kernel
theorem dX5_pull_92 : decode cX5_pull 92 = .ok (.invokevirtual 182, 3) := by decide +kernel
theorem dX5_pull_95 : decode cX5_pull 95 = .ok (.aload_n 0, 1) := by decide +kernel
theorem dX5_pull_96 : decode cX5_pull 96 = .ok (.getfield 42, 3) := by decide +kernel
theorem dX5_pull_99 : decode cX5_pull 99 = .ok (.aload_n 0, 1) := by decide +kernel
theorem dX5_pull_100 : decode cX5_pull 100 = .ok (.getfield 49, 3) := by decide +kernel
theorem dX5_pull_103 : decode cX5_pull 103 = .ok (.invokestatic 186, 3) := by decide +kernel
theorem dX5_pull_106 : decode cX5_pull 106 = .ok (.aload_n 0, 1) := by decide +kernel
theorem dX5_pull_107 : decode cX5_pull 107 = .ok (.getfield 49, 3) := by decide +kernel
theorem dX5_pull_110 : decode cX5_pull 110 = .ok (.iconst 0, 1) := by decide +kernel
theorem dX5_pull_111 : decode cX5_pull 111 = .ok (.aload_n 0, 1) := by decide +kernel
theorem dX5_pull_112 : decode cX5_pull 112 = .ok (.getfield 42, 3) := by decide +kernel
theorem dX5_pull_115 : decode cX5_pull 115 = .ok (.iconst 0, 1) := by decide +kernel
theorem dX5_pull_116 : decode cX5_pull 116 = .ok (.iconst 3, 1) := by decide +kernel
theorem dX5_pull_117 : decode cX5_pull 117 = .ok (.invokestatic 190, 3) := by decide +kernel
theorem dX5_pull_120 : decode cX5_pull 120 = .ok (.aload_n 0, 1) := by decide +kernel
theorem dX5_pull_121 : decode cX5_pull 121 = .ok (.getfield 42, 3) := by decide +kernel
theorem dX5_pull_124 : decode cX5_pull 124 = .ok (.aload_n 2, 1) := by decide +kernel
theorem dX5_pull_125 : decode cX5_pull 125 = .ok (.getfield 138, 3) := by decide +kernel
theorem dX5_pull_128 : decode cX5_pull 128 = .ok (.iaload, 1) := by decide +kernel
theorem dX5_pull_129 : decode cX5_pull 129 = .ok (.ireturn, 1) := by decide +kernel
set_option maxRecDepth 20000 in
theorem ggX5_glue_X5_isThread : GoodIn wsX5_glue wsX5_isThread := goodIn_r _ [11, 12, 13, 14, 15, 16, 17, 18, 19, 20, 21, 22, 23, 24, 25, 26] (by decide +kernel) (by decide +kernel)
set_option maxRecDepth 20000 in
theorem gX5_glue_X5_isThread : GoodIn wsX5_glue (wsV RX5 159 RX5 yX5_isThread wsX5_isThread) := goodIn_app (goodIn_of _ (by decide +kernel)) ggX5_glue_X5_isThread
theorem dX5_glue_0 : decode cX5_glue 0 = .ok (.aload_n 0, 1) := by decide +kernel
theorem dX5_glue_1 : decode cX5_glue 1 = .ok (.iload_n 1, 1) := by decide +kernel
theorem dX5_glue_2 : decode cX5_glue 2 = .ok (.invokevirtual 159, 3) := by decide +kernel
theorem dX5_glue_5 : decode cX5_glue 5 = .ok (.ifCond .ne 13, 3) := by decide +kernel
theorem dX5_glue_8 : decode cX5_glue 8 = .ok (.new 116, 3) := by decide +kernel
theorem dX5_glue_11 : decode cX5_glue 11 = .ok (.dup, 1) := by decide +kernel
theorem dX5_glue_12 : decode cX5_glue 12 = .ok (.ldc 162, 2) := by decide +kernel
theorem dX5_glue_14 : decode cX5_glue 14 = .ok (.invokespecial 120, 3) := by decide +kernel
theorem dX5_glue_17 : decode cX5_glue 17 = .ok (.athrow, 1) := by decide +kernel
theorem dX5_glue_18 : decode cX5_glue 18 = .ok (.aload_n 0, 1) := by decide +kernel
theorem dX5_glue_19 : decode cX5_glue 19 = .ok (.getfield 31, 3) := by decide +kernel
theorem dX5_glue_22 : decode cX5_glue 22 = .ok (.iload_n 1, 1) := by decide +kernel
theorem dX5_glue_23 : decode cX5_glue 23 = .ok (.aaload, 1) := by decide +kernel
theorem dX5_glue_24 : decode cX5_glue 24 = .ok (.astore_n 2, 1) := by decide +kernel
theorem dX5_glue_25 : decode cX5_glue 25 = .ok (.aload_n 2, 1) := by decide +kernel
theorem dX5_glue_26 : decode cX5_glue 26 = .ok (.getfield 164, 3) := by decide +kernel
theorem dX5_glue_29 : decode cX5_glue 29 = .ok (.iconst 2, 1) := by decide +kernel
theorem dX5_glue_30 : decode cX5_glue 30 = .ok (.if_icmp .ne 13, 3) := by decide +kernel
theorem dX5_glue_33 : decode cX5_glue 33 = .ok (.new 69, 3) := by decide +kernel
theorem dX5_glue_36 : decode cX5_glue 36 = .ok (.dup, 1) := by decide +kernel
theorem dX5_glue_37 : decode cX5_glue 37 = .ok (.ldc 196, 2) := by decide +kernel
theorem dX5_glue_39 : decode cX5_glue 39 = .ok (.invokespecial 73, 3) := by decide +kernel
theorem dX5_glue_42 : decode cX5_glue 42 = .ok (.athrow, 1) := by decide +kernel
theorem dX5_glue_43 : decode cX5_glue 43 = .ok (.aload_n 2, 1) := by decide +kernel
theorem dX5_glue_44 : decode cX5_glue 44 = .ok (.aload_n 2, 1) := by decide +kernel
theorem dX5_glue_45 : decode cX5_glue 45 = .ok (.getfield 164, 3) := by decide +kernel
theorem dX5_glue_48 : decode cX5_glue 48 = .ok (.ifCond .ne 7, 3) := by decide +kernel
theorem dX5_glue_51 : decode cX5_glue 51 = .ok (.iconst 1, 1) := by decide +kernel
theorem dX5_glue_52 : decode cX5_glue 52 = .ok (.goto 4, 3) := by decide +kernel
theorem dX5_glue_55 : decode cX5_glue 55 = .ok (.iconst 0, 1) := by decide +kernel
theorem dX5_glue_56 : decode cX5_glue 56 = .ok (.putfield 164, 3) := by decide +kernel
theorem dX5_glue_59 : decode cX5_glue 59 = .ok (.aload_n 2, 1) := by decide +kernel
theorem dX5_glue_60 : decode cX5_glue 60 = .ok (.getfield 164, 3) := by decide +kernel
theorem dX5_glue_63 : decode cX5_glue 63 = .ok (.iconst 1, 1) := by decide +kernel
theorem dX5_glue_64 : decode cX5_glue 64 = .ok (.if_icmp .ne 7, 3) := by decide +kernel
theorem dX5_glue_67 : decode cX5_glue 67 = .ok (.iconst 1, 1) := by decide +kernel
theorem dX5_glue_68 : decode cX5_glue 68 = .ok (.goto 4, 3) := by decide +kernel
theorem dX5_glue_71 : decode cX5_glue 71 = .ok (.iconst 0, 1) := by decide +kernel
theorem dX5_glue_72 : decode cX5_glue 72 = .ok (.ireturn, 1) := by decide +kernel
set_option maxRecDepth 20000 in
theorem ggX5_cross_X5_isThread : GoodIn wsX5_cross wsX5_isThread := goodIn_r _ [8, 9, 25, 26, 27, 28, 29, 30, 31, 32, 33, 34, 35, 36, 37, 38] (by decide +kernel) (by decide +kernel)
set_option maxRecDepth 20000 in
theorem gX5_cross_X5_isThread : GoodIn wsX5_cross (wsV RX5 159 RX5 yX5_isThread wsX5_isThread) := goodIn_app (goodIn_of _ (by decide +kernel)) ggX5_cross_X5_isThread
set_option maxRecDepth 20000 in
theorem ggX5_cross_X1_crosses : GoodIn wsX5_cross wsX1_crosses := goodIn_r _ [14, 15, 16, 17, 18, 19, 20, 21, 22, 23, 24, 39, 40, 41, 42, 43, 44] (by decide +kernel) (by decide +kernel)
set_option maxRecDepth 20000 in
theorem gX5_cross_X1_crosses : GoodIn wsX5_cross (wsV RX5 198 RX1 yX1_crosses wsX1_crosses) := goodIn_app (goodIn_of _ (by decide +kernel)) ggX5_cross_X1_crosses
theorem dX5_cross_0 : decode cX5_cross 0 = .ok (.aload_n 0, 1) := by decide +kernel
theorem dX5_cross_1 : decode cX5_cross 1 = .ok (.iload_n 1, 1) := by decide +kernel
theorem dX5_cross_2 : decode cX5_cross 2 = .ok (.invokevirtual 159, 3) := by decide +kernel
theorem dX5_cross_5 : decode cX5_cross 5 = .ok (.ifCond .eq 11, 3) := by decide +kernel
theorem dX5_cross_8 : decode cX5_cross 8 = .ok (.aload_n 0, 1) := by decide +kernel
theorem dX5_cross_9 : decode cX5_cross 9 = .ok (.iload_n 2, 1) := by decide +kernel
theorem dX5_cross_10 : decode cX5_cross 10 = .ok (.invokevirtual 159, 3) := by decide +kernel
theorem dX5_cross_13 : decode cX5_cross 13 = .ok (.ifCond .ne 13, 3) := by decide +kernel
theorem dX5_cross_16 : decode cX5_cross 16 = .ok (.new 116, 3) := by decide +kernel
theorem dX5_cross_19 : decode cX5_cross 19 = .ok (.dup, 1) := by decide +kernel
theorem dX5_cross_20 : decode cX5_cross 20 = .ok (.ldc 162, 2) := by decide +kernel
theorem dX5_cross_22 : decode cX5_cross 22 = .ok (.invokespecial 120, 3) := by decide +kernel
theorem dX5_cross_25 : decode cX5_cross 25 = .ok (.athrow, 1) := by decide +kernel
theorem dX5_cross_26 : decode cX5_cross 26 = .ok (.aload_n 0, 1) := by decide +kernel
theorem dX5_cross_27 : decode cX5_cross 27 = .ok (.getfield 31, 3) := by decide +kernel
theorem dX5_cross_30 : decode cX5_cross 30 = .ok (.iload_n 1, 1) := by decide +kernel
theorem dX5_cross_31 : decode cX5_cross 31 = .ok (.aaload, 1) := by decide +kernel
theorem dX5_cross_32 : decode cX5_cross 32 = .ok (.aload_n 0, 1) := by decide +kernel
theorem dX5_cross_33 : decode cX5_cross 33 = .ok (.getfield 31, 3) := by decide +kernel
theorem dX5_cross_36 : decode cX5_cross 36 = .ok (.iload_n 2, 1) := by decide +kernel
theorem dX5_cross_37 : decode cX5_cross 37 = .ok (.aaload, 1) := by decide +kernel
theorem dX5_cross_38 : decode cX5_cross 38 = .ok (.invokevirtual 198, 3) := by decide +kernel
theorem dX5_cross_41 : decode cX5_cross 41 = .ok (.ireturn, 1) := by decide +kernel
set_option maxRecDepth 20000 in
theorem ggX5_mast_X5_isMast : GoodIn wsX5_mast wsX5_isMast := goodIn_r _ [12, 13, 40, 41, 42, 43, 44, 45, 46, 47, 48, 49, 50, 51, 52, 53] (by decide +kernel) (by decide +kernel)
set_option maxRecDepth 20000 in
theorem gX5_mast_X5_isMast : GoodIn wsX5_mast (wsV RX5 113 RX5 yX5_isMast wsX5_isMast) := goodIn_app (goodIn_of _ (by decide +kernel)) ggX5_mast_X5_isMast
set_option maxRecDepth 20000 in
theorem ggX5_mast_X3_standing : GoodIn wsX5_mast wsX3_standing := goodIn_r _ [18, 19, 54, 55, 56, 57] (by decide +kernel) (by decide +kernel)
set_option maxRecDepth 20000 in
theorem gX5_mast_X3_standing : GoodIn wsX5_mast (wsV RX5 202 RX3 yX3_standing wsX3_standing) := goodIn_app (goodIn_of _ (by decide +kernel)) ggX5_mast_X3_standing
set_option maxRecDepth 20000 in
theorem ggX5_mast_X3_reach : GoodIn wsX5_mast wsX3_reach := goodIn_r _ [23, 19, 54, 55, 56, 57] (by decide +kernel) (by decide +kernel)
set_option maxRecDepth 20000 in
theorem gX5_mast_X3_reach : GoodIn wsX5_mast (wsV RX5 205 RX3 yX3_reach wsX3_reach) := goodIn_app (goodIn_of _ (by decide +kernel)) ggX5_mast_X3_reach
set_option maxRecDepth 20000 in
theorem ggX5_mast_X5_isHeld : GoodIn wsX5_mast wsX5_isHeld := goodIn_r _ [27, 28, 29, 30, 11, 31, 32, 33, 34, 35, 40, 41, 42, 43, 44, 45, 46, 47, 48, 49, 50, 51, 52, 53, 58, 59, 60, 61, 62, 63] (by decide +kernel) (by decide +kernel)
set_option maxRecDepth 20000 in
theorem gX5_mast_X5_isHeld : GoodIn wsX5_mast (wsV RX5 208 RX5 yX5_isHeld wsX5_isHeld) := goodIn_app (goodIn_of _ (by decide +kernel)) ggX5_mast_X5_isHeld
set_option maxRecDepth 20000 in
theorem ggX5_mast_X5_looseThreadsFrom : GoodIn wsX5_mast wsX5_looseThreadsFrom := goodIn_r _ [39, 28, 29, 30, 11, 31, 32, 33, 34, 35, 40, 41, 42, 43, 44, 45, 46, 47, 48, 49, 50, 51, 52, 53, 58, 59, 60, 61, 62, 63] (by decide +kernel) (by decide +kernel)
set_option maxRecDepth 20000 in
theorem gX5_mast_X5_looseThreadsFrom : GoodIn wsX5_mast (wsV RX5 211 RX5 yX5_looseThreadsFrom wsX5_looseThreadsFrom) := goodIn_app (goodIn_of _ (by decide +kernel)) ggX5_mast_X5_looseThreadsFrom
theorem dX5_mast_0 : decode cX5_mast 0 = .ok (.aload_n 0, 1) := by decide +kernel
theorem dX5_mast_1 : decode cX5_mast 1 = .ok (.iload_n 1, 1) := by decide +kernel
theorem dX5_mast_2 : decode cX5_mast 2 = .ok (.invokevirtual 113, 3) := by decide +kernel
theorem dX5_mast_5 : decode cX5_mast 5 = .ok (.ifCond .ne 13, 3) := by decide +kernel
theorem dX5_mast_8 : decode cX5_mast 8 = .ok (.new 116, 3) := by decide +kernel
theorem dX5_mast_11 : decode cX5_mast 11 = .ok (.dup, 1) := by decide +kernel
theorem dX5_mast_12 : decode cX5_mast 12 = .ok (.ldc 118, 2) := by decide +kernel
theorem dX5_mast_14 : decode cX5_mast 14 = .ok (.invokespecial 120, 3) := by decide +kernel
theorem dX5_mast_17 : decode cX5_mast 17 = .ok (.athrow, 1) := by decide +kernel
theorem dX5_mast_18 : decode cX5_mast 18 = .ok (.iload_n 2, 1) := by decide +kernel
theorem dX5_mast_19 : decode cX5_mast 19 = .ok (.tableswitch 134 0 7 #[45, 55, 65, 72, 88, 104, 114, 128], 45) := by decide +kernel
theorem dX5_mast_64 : decode cX5_mast 64 = .ok (.aload_n 0, 1) := by decide +kernel
theorem dX5_mast_65 : decode cX5_mast 65 = .ok (.getfield 25, 3) := by decide +kernel
theorem dX5_mast_68 : decode cX5_mast 68 = .ok (.iload_n 1, 1) := by decide +kernel
theorem dX5_mast_69 : decode cX5_mast 69 = .ok (.aaload, 1) := by decide +kernel
theorem dX5_mast_70 : decode cX5_mast 70 = .ok (.getfield 109, 3) := by decide +kernel
theorem dX5_mast_73 : decode cX5_mast 73 = .ok (.ireturn, 1) := by decide +kernel
theorem dX5_mast_74 : decode cX5_mast 74 = .ok (.aload_n 0, 1) := by decide +kernel
theorem dX5_mast_75 : decode cX5_mast 75 = .ok (.getfield 25, 3) := by decide +kernel
theorem dX5_mast_78 : decode cX5_mast 78 = .ok (.iload_n 1, 1) := by decide +kernel
theorem dX5_mast_79 : decode cX5_mast 79 = .ok (.aaload, 1) := by decide +kernel
theorem dX5_mast_80 : decode cX5_mast 80 = .ok (.getfield 112, 3) := by decide +kernel
theorem dX5_mast_83 : decode cX5_mast 83 = .ok (.ireturn, 1) := by decide +kernel
theorem dX5_mast_84 : decode cX5_mast 84 = .ok (.aload_n 0, 1) := by decide +kernel
theorem dX5_mast_85 : decode cX5_mast 85 = .ok (.getfield 42, 3) := by decide +kernel
theorem dX5_mast_88 : decode cX5_mast 88 = .ok (.iload_n 1, 1) := by decide +kernel
theorem dX5_mast_89 : decode cX5_mast 89 = .ok (.iaload, 1) := by decide +kernel
theorem dX5_mast_90 : decode cX5_mast 90 = .ok (.ireturn, 1) := by decide +kernel
theorem dX5_mast_91 : decode cX5_mast 91 = .ok (.aload_n 0, 1) := by decide +kernel
theorem dX5_mast_92 : decode cX5_mast 92 = .ok (.getfield 25, 3) := by decide +kernel
theorem dX5_mast_95 : decode cX5_mast 95 = .ok (.iload_n 1, 1) := by decide +kernel
theorem dX5_mast_96 : decode cX5_mast 96 = .ok (.aaload, 1) := by decide +kernel
theorem dX5_mast_97 : decode cX5_mast 97 = .ok (.aload_n 0, 1) := by decide +kernel
theorem dX5_mast_98 : decode cX5_mast 98 = .ok (.getfield 42, 3) := by decide +kernel
theorem dX5_mast_101 : decode cX5_mast 101 = .ok (.iload_n 1, 1) := by decide +kernel
theorem dX5_mast_102 : decode cX5_mast 102 = .ok (.iaload, 1) := by decide +kernel
theorem dX5_mast_103 : decode cX5_mast 103 = .ok (.invokevirtual 202, 3) := by decide +kernel
theorem dX5_mast_106 : decode cX5_mast 106 = .ok (.ireturn, 1) := by decide +kernel
theorem dX5_mast_107 : decode cX5_mast 107 = .ok (.aload_n 0, 1) := by decide +kernel
theorem dX5_mast_108 : decode cX5_mast 108 = .ok (.getfield 25, 3) := by decide +kernel
theorem dX5_mast_111 : decode cX5_mast 111 = .ok (.iload_n 1, 1) := by decide +kernel
theorem dX5_mast_112 : decode cX5_mast 112 = .ok (.aaload, 1) := by decide +kernel
theorem dX5_mast_113 : decode cX5_mast 113 = .ok (.aload_n 0, 1) := by decide +kernel
theorem dX5_mast_114 : decode cX5_mast 114 = .ok (.getfield 42, 3) := by decide +kernel
theorem dX5_mast_117 : decode cX5_mast 117 = .ok (.iload_n 1, 1) := by decide +kernel
theorem dX5_mast_118 : decode cX5_mast 118 = .ok (.iaload, 1) := by decide +kernel
theorem dX5_mast_119 : decode cX5_mast 119 = .ok (.invokevirtual 205, 3) := by decide +kernel
theorem dX5_mast_122 : decode cX5_mast 122 = .ok (.ireturn, 1) := by decide +kernel
theorem dX5_mast_123 : decode cX5_mast 123 = .ok (.aload_n 0, 1) := by decide +kernel
theorem dX5_mast_124 : decode cX5_mast 124 = .ok (.getfield 25, 3) := by decide +kernel
theorem dX5_mast_127 : decode cX5_mast 127 = .ok (.iload_n 1, 1) := by decide +kernel
theorem dX5_mast_128 : decode cX5_mast 128 = .ok (.aaload, 1) := by decide +kernel
theorem dX5_mast_129 : decode cX5_mast 129 = .ok (.getfield 123, 3) := by decide +kernel
theorem dX5_mast_132 : decode cX5_mast 132 = .ok (.ireturn, 1) := by decide +kernel
theorem dX5_mast_133 : decode cX5_mast 133 = .ok (.aload_n 0, 1) := by decide +kernel
theorem dX5_mast_134 : decode cX5_mast 134 = .ok (.iload_n 1, 1) := by decide +kernel
theorem dX5_mast_135 : decode cX5_mast 135 = .ok (.invokevirtual 208, 3) := by decide +kernel
theorem dX5_mast_138 : decode cX5_mast 138 = .ok (.ifCond .eq 7, 3) := by decide +kernel
theorem dX5_mast_141 : decode cX5_mast 141 = .ok (.iconst 1, 1) := by decide +kernel
theorem dX5_mast_142 : decode cX5_mast 142 = .ok (.goto 4, 3) := by decide +kernel
theorem dX5_mast_145 : decode cX5_mast 145 = .ok (.iconst 0, 1) := by decide +kernel
theorem dX5_mast_146 : decode cX5_mast 146 = .ok (.ireturn, 1) := by decide +kernel
theorem dX5_mast_147 : decode cX5_mast 147 = .ok (.aload_n 0, 1) := by decide +kernel
theorem dX5_mast_148 : decode cX5_mast 148 = .ok (.iload_n 1, 1) := by decide +kernel
theorem dX5_mast_149 : decode cX5_mast 149 = .ok (.invokevirtual 211, 3) := by decide +kernel
theorem dX5_mast_152 : decode cX5_mast 152 = .ok (.ireturn, 1) := by decide +kernel
theorem dX5_mast_153 : decode cX5_mast 153 = .ok (.new 116, 3) := by decide +kernel
theorem dX5_mast_156 : decode cX5_mast 156 = .ok (.dup, 1) := by decide +kernel
theorem dX5_mast_157 : decode cX5_mast 157 = .ok (.ldc 214, 2) := by decide +kernel
theorem dX5_mast_159 : decode cX5_mast 159 = .ok (.invokespecial 120, 3) := by decide +kernel
theorem dX5_mast_162 : decode cX5_mast 162 = .ok (.athrow, 1) := by decide +kernel
set_option maxRecDepth 20000 in
theorem ggX5_thread_X5_isThread : GoodIn wsX5_thread wsX5_isThread := goodIn_r _ [12, 13, 33, 34, 35, 36, 37, 38, 39, 40, 41, 42, 43, 44, 45, 46] (by decide +kernel) (by decide +kernel)
set_option maxRecDepth 20000 in
theorem gX5_thread_X5_isThread : GoodIn wsX5_thread (wsV RX5 159 RX5 yX5_isThread wsX5_isThread) := goodIn_app (goodIn_of _ (by decide +kernel)) ggX5_thread_X5_isThread
set_option maxRecDepth 20000 in
theorem ggX5_thread_X5_crossingsOf : GoodIn wsX5_thread wsX5_crossingsOf := goodIn_r _ [17, 13, 3, 18, 19, 20, 21, 22, 23, 24, 25, 26, 27, 28, 29, 30, 31, 32, 33, 34, 35, 36, 37, 38, 39, 40, 41, 42, 43, 44, 45, 46, 47, 48, 49, 50, 51, 52] (by decide +kernel) (by decide +kernel)
set_option maxRecDepth 20000 in
theorem gX5_thread_X5_crossingsOf : GoodIn wsX5_thread (wsV RX5 216 RX5 yX5_crossingsOf wsX5_crossingsOf) := goodIn_app (goodIn_of _ (by decide +kernel)) ggX5_thread_X5_crossingsOf
theorem dX5_thread_0 : decode cX5_thread 0 = .ok (.aload_n 0, 1) := by decide +kernel
theorem dX5_thread_1 : decode cX5_thread 1 = .ok (.iload_n 1, 1) := by decide +kernel
theorem dX5_thread_2 : decode cX5_thread 2 = .ok (.invokevirtual 159, 3) := by decide +kernel
theorem dX5_thread_5 : decode cX5_thread 5 = .ok (.ifCond .ne 13, 3) := by decide +kernel
theorem dX5_thread_8 : decode cX5_thread 8 = .ok (.new 116, 3) := by decide +kernel
theorem dX5_thread_11 : decode cX5_thread 11 = .ok (.dup, 1) := by decide +kernel
theorem dX5_thread_12 : decode cX5_thread 12 = .ok (.ldc 162, 2) := by decide +kernel
theorem dX5_thread_14 : decode cX5_thread 14 = .ok (.invokespecial 120, 3) := by decide +kernel
theorem dX5_thread_17 : decode cX5_thread 17 = .ok (.athrow, 1) := by decide +kernel
theorem dX5_thread_18 : decode cX5_thread 18 = .ok (.aload_n 0, 1) := by decide +kernel
theorem dX5_thread_19 : decode cX5_thread 19 = .ok (.getfield 31, 3) := by decide +kernel
theorem dX5_thread_22 : decode cX5_thread 22 = .ok (.iload_n 1, 1) := by decide +kernel
theorem dX5_thread_23 : decode cX5_thread 23 = .ok (.aaload, 1) := by decide +kernel
theorem dX5_thread_24 : decode cX5_thread 24 = .ok (.astore_n 3, 1) := by decide +kernel
theorem dX5_thread_25 : decode cX5_thread 25 = .ok (.iload_n 2, 1) := by decide +kernel
theorem dX5_thread_26 : decode cX5_thread 26 = .ok (.tableswitch 60 0 4 #[34, 39, 44, 49, 54], 34) := by decide +kernel
theorem dX5_thread_60 : decode cX5_thread 60 = .ok (.aload_n 3, 1) := by decide +kernel
theorem dX5_thread_61 : decode cX5_thread 61 = .ok (.getfield 138, 3) := by decide +kernel
theorem dX5_thread_64 : decode cX5_thread 64 = .ok (.ireturn, 1) := by decide +kernel
theorem dX5_thread_65 : decode cX5_thread 65 = .ok (.aload_n 3, 1) := by decide +kernel
theorem dX5_thread_66 : decode cX5_thread 66 = .ok (.getfield 141, 3) := by decide +kernel
theorem dX5_thread_69 : decode cX5_thread 69 = .ok (.ireturn, 1) := by decide +kernel
theorem dX5_thread_70 : decode cX5_thread 70 = .ok (.aload_n 3, 1) := by decide +kernel
theorem dX5_thread_71 : decode cX5_thread 71 = .ok (.getfield 144, 3) := by decide +kernel
theorem dX5_thread_74 : decode cX5_thread 74 = .ok (.ireturn, 1) := by decide +kernel
theorem dX5_thread_75 : decode cX5_thread 75 = .ok (.aload_n 3, 1) := by decide +kernel
theorem dX5_thread_76 : decode cX5_thread 76 = .ok (.getfield 164, 3) := by decide +kernel
theorem dX5_thread_79 : decode cX5_thread 79 = .ok (.ireturn, 1) := by decide +kernel
theorem dX5_thread_80 : decode cX5_thread 80 = .ok (.aload_n 0, 1) := by decide +kernel
theorem dX5_thread_81 : decode cX5_thread 81 = .ok (.aload_n 3, 1) := by decide +kernel
theorem dX5_thread_82 : decode cX5_thread 82 = .ok (.invokevirtual 216, 3) := by decide +kernel
theorem dX5_thread_85 : decode cX5_thread 85 = .ok (.ireturn, 1) := by decide +kernel
theorem dX5_thread_86 : decode cX5_thread 86 = .ok (.new 116, 3) := by decide +kernel
theorem dX5_thread_89 : decode cX5_thread 89 = .ok (.dup, 1) := by decide +kernel
theorem dX5_thread_90 : decode cX5_thread 90 = .ok (.ldc 219, 2) := by decide +kernel
theorem dX5_thread_92 : decode cX5_thread 92 = .ok (.invokespecial 120, 3) := by decide +kernel
theorem dX5_thread_95 : decode cX5_thread 95 = .ok (.athrow, 1) := by decide +kernel
set_option maxRecDepth 20000 in
theorem ggX5_ship_X5_breadth : GoodIn wsX5_ship wsX5_breadth := goodIn_r _ [9, 10, 11, 12, 3, 13, 14, 15, 16, 17, 18, 19, 20, 21, 22, 23, 24, 25, 59, 60, 61, 62, 63, 64, 65, 66, 67, 68, 69, 70, 71, 72, 73, 74, 75, 76, 77, 78, 79] (by decide +kernel) (by decide +kernel)
set_option maxRecDepth 20000 in
theorem gX5_ship_X5_breadth : GoodIn wsX5_ship (wsV RX5 221 RX5 yX5_breadth wsX5_breadth) := goodIn_app (goodIn_of _ (by decide +kernel)) ggX5_ship_X5_breadth
set_option maxRecDepth 20000 in
theorem ggX5_ship_X5_topWith : GoodIn wsX5_ship wsX5_topWith := goodIn_r _ [29, 12, 13, 14, 15, 16, 17, 10, 30, 31, 32, 33, 21, 34, 35, 59, 60, 61, 62, 63, 64, 65, 66, 67, 68, 69, 70, 71, 72, 73, 74, 75, 76, 77, 78, 79] (by decide +kernel) (by decide +kernel)
set_option maxRecDepth 20000 in
theorem gX5_ship_X5_topWith : GoodIn wsX5_ship (wsV RX5 225 RX5 yX5_topWith wsX5_topWith) := goodIn_app (goodIn_of _ (by decide +kernel)) ggX5_ship_X5_topWith
set_option maxRecDepth 20000 in
theorem ggX5_ship_X5_endWith : GoodIn wsX5_ship wsX5_endWith := goodIn_r _ [39, 10, 40, 12, 13, 41, 14, 15, 16, 17, 42, 43, 44, 21, 45, 35, 59, 60, 61, 62, 63, 64, 65, 66, 67, 68, 69, 70, 71, 72, 73, 74, 75, 76, 77, 78, 79] (by decide +kernel) (by decide +kernel)
set_option maxRecDepth 20000 in
theorem gX5_ship_X5_endWith : GoodIn wsX5_ship (wsV RX5 229 RX5 yX5_endWith wsX5_endWith) := goodIn_app (goodIn_of _ (by decide +kernel)) ggX5_ship_X5_endWith
set_option maxRecDepth 20000 in
theorem ggX5_ship_X5_goesThroughNeck : GoodIn wsX5_ship wsX5_goesThroughNeck := goodIn_r _ [49, 50, 51, 3, 5, 6, 7, 8, 9, 10, 11, 12, 13, 14, 15, 16, 17, 18, 19, 20, 21, 22, 23, 24, 25, 26, 27, 28, 29, 30, 31, 32, 33, 34, 35, 59, 60, 61, 62, 63, 64, 65, 66, 67, 68, 69, 70, 71, 72, 80, 81, 82, 83, 73, 74, 75, 76, 77, 78, 79] (by decide +kernel) (by decide +kernel)
set_option maxRecDepth 20000 in
theorem gX5_ship_X5_goesThroughNeck : GoodIn wsX5_ship (wsV RX5 151 RX5 yX5_goesThroughNeck wsX5_goesThroughNeck) := goodIn_app (goodIn_of _ (by decide +kernel)) ggX5_ship_X5_goesThroughNeck
set_option maxRecDepth 20000 in
theorem ggX5_ship_X5_fitsWith : GoodIn wsX5_ship wsX5_fitsWith := goodIn_r _ [55, 50, 56, 57, 58, 36, 37, 38, 8, 39, 10, 40, 12, 13, 41, 14, 15, 16, 17, 42, 43, 44, 21, 45, 35, 26, 27, 28, 29, 30, 31, 32, 33, 34, 59, 60, 61, 62, 63, 64, 65, 66, 67, 68, 69, 70, 71, 72, 80, 81, 82, 83, 73, 74, 75, 76, 77, 78, 79] (by decide +kernel) (by decide +kernel)
set_option maxRecDepth 20000 in
theorem gX5_ship_X5_fitsWith : GoodIn wsX5_ship (wsV RX5 155 RX5 yX5_fitsWith wsX5_fitsWith) := goodIn_app (goodIn_of _ (by decide +kernel)) ggX5_ship_X5_fitsWith
theorem dX5_ship_0 : decode cX5_ship 0 = .ok (.iload_n 1, 1) := by decide +kernel
theorem dX5_ship_1 : decode cX5_ship 1 = .ok (.tableswitch 105 0 5 #[39, 44, 53, 62, 75, 92], 39) := by decide +kernel
theorem dX5_ship_40 : decode cX5_ship 40 = .ok (.aload_n 0, 1) := by decide +kernel
theorem dX5_ship_41 : decode cX5_ship 41 = .ok (.invokevirtual 221, 3) := by decide +kernel
theorem dX5_ship_44 : decode cX5_ship 44 = .ok (.ireturn, 1) := by decide +kernel
theorem dX5_ship_45 : decode cX5_ship 45 = .ok (.aload_n 0, 1) := by decide +kernel
theorem dX5_ship_46 : decode cX5_ship 46 = .ok (.aload_n 0, 1) := by decide +kernel
theorem dX5_ship_47 : decode cX5_ship 47 = .ok (.getfield 42, 3) := by decide +kernel
theorem dX5_ship_50 : decode cX5_ship 50 = .ok (.invokevirtual 225, 3) := by decide +kernel
theorem dX5_ship_53 : decode cX5_ship 53 = .ok (.ireturn, 1) := by decide +kernel
theorem dX5_ship_54 : decode cX5_ship 54 = .ok (.aload_n 0, 1) := by decide +kernel
theorem dX5_ship_55 : decode cX5_ship 55 = .ok (.aload_n 0, 1) := by decide +kernel
theorem dX5_ship_56 : decode cX5_ship 56 = .ok (.getfield 42, 3) := by decide +kernel
theorem dX5_ship_59 : decode cX5_ship 59 = .ok (.invokevirtual 229, 3) := by decide +kernel
theorem dX5_ship_62 : decode cX5_ship 62 = .ok (.ireturn, 1) := by decide +kernel
theorem dX5_ship_63 : decode cX5_ship 63 = .ok (.aload_n 0, 1) := by decide +kernel
theorem dX5_ship_64 : decode cX5_ship 64 = .ok (.invokevirtual 151, 3) := by decide +kernel
theorem dX5_ship_67 : decode cX5_ship 67 = .ok (.ifCond .eq 7, 3) := by decide +kernel
theorem dX5_ship_70 : decode cX5_ship 70 = .ok (.iconst 1, 1) := by decide +kernel
theorem dX5_ship_71 : decode cX5_ship 71 = .ok (.goto 4, 3) := by decide +kernel
theorem dX5_ship_74 : decode cX5_ship 74 = .ok (.iconst 0, 1) := by decide +kernel
theorem dX5_ship_75 : decode cX5_ship 75 = .ok (.ireturn, 1) := by decide +kernel
theorem dX5_ship_76 : decode cX5_ship 76 = .ok (.aload_n 0, 1) := by decide +kernel
theorem dX5_ship_77 : decode cX5_ship 77 = .ok (.aload_n 0, 1) := by decide +kernel
theorem dX5_ship_78 : decode cX5_ship 78 = .ok (.getfield 42, 3) := by decide +kernel
theorem dX5_ship_81 : decode cX5_ship 81 = .ok (.invokevirtual 155, 3) := by decide +kernel
theorem dX5_ship_84 : decode cX5_ship 84 = .ok (.ifCond .eq 7, 3) := by decide +kernel
theorem dX5_ship_87 : decode cX5_ship 87 = .ok (.iconst 1, 1) := by decide +kernel
theorem dX5_ship_88 : decode cX5_ship 88 = .ok (.goto 4, 3) := by decide +kernel
theorem dX5_ship_91 : decode cX5_ship 91 = .ok (.iconst 0, 1) := by decide +kernel
theorem dX5_ship_92 : decode cX5_ship 92 = .ok (.ireturn, 1) := by decide +kernel
theorem dX5_ship_93 : decode cX5_ship 93 = .ok (.aload_n 0, 1) := by decide +kernel
theorem dX5_ship_94 : decode cX5_ship 94 = .ok (.getfield 65, 3) := by decide +kernel
theorem dX5_ship_97 : decode cX5_ship 97 = .ok (.ifCond .eq 7, 3) := by decide +kernel
theorem dX5_ship_100 : decode cX5_ship 100 = .ok (.iconst 1, 1) := by decide +kernel
theorem dX5_ship_101 : decode cX5_ship 101 = .ok (.goto 4, 3) := by decide +kernel
theorem dX5_ship_104 : decode cX5_ship 104 = .ok (.iconst 0, 1) := by decide +kernel
theorem dX5_ship_105 : decode cX5_ship 105 = .ok (.ireturn, 1) := by decide +kernel
theorem dX5_ship_106 : decode cX5_ship 106 = .ok (.new 116, 3) := by decide +kernel
theorem dX5_ship_109 : decode cX5_ship 109 = .ok (.dup, 1) := by decide +kernel
theorem dX5_ship_110 : decode cX5_ship 110 = .ok (.ldc 232, 2) := by decide +kernel
theorem dX5_ship_112 : decode cX5_ship 112 = .ok (.invokespecial 120, 3) := by decide +kernel
theorem dX5_ship_115 : decode cX5_ship 115 = .ok (.athrow, 1) := by decide +kernel
set_option maxRecDepth 20000 in
theorem ggX5_count_X5_mastsLeaning : GoodIn wsX5_count wsX5_mastsLeaning := goodIn_r _ [12, 4, 13, 20, 21, 22, 23, 24, 25, 26, 27, 28, 29, 30, 31, 32, 33] (by decide +kernel) (by decide +kernel)
set_option maxRecDepth 20000 in
theorem gX5_count_X5_mastsLeaning : GoodIn wsX5_count (wsV RX5 237 RX5 yX5_mastsLeaning wsX5_mastsLeaning) := goodIn_app (goodIn_of _ (by decide +kernel)) ggX5_count_X5_mastsLeaning
set_option maxRecDepth 20000 in
theorem ggX5_count_X5_threadsThatAre : GoodIn wsX5_count wsX5_threadsThatAre := goodIn_r _ [17, 5, 18, 19, 20, 21, 22, 23, 24, 25, 26, 27, 28, 29, 30, 31, 32, 33, 34, 35, 36, 37, 38, 39] (by decide +kernel) (by decide +kernel)
set_option maxRecDepth 20000 in
theorem gX5_count_X5_threadsThatAre : GoodIn wsX5_count (wsV RX5 240 RX5 yX5_threadsThatAre wsX5_threadsThatAre) := goodIn_app (goodIn_of _ (by decide +kernel)) ggX5_count_X5_threadsThatAre
theorem dX5_count_0 : decode cX5_count 0 = .ok (.iload_n 1, 1) := by decide +kernel
theorem dX5_count_1 : decode cX5_count 1 = .ok (.tableswitch 90 0 7 #[47, 52, 57, 63, 68, 74, 80, 85], 47) := by decide +kernel
theorem dX5_count_48 : decode cX5_count 48 = .ok (.aload_n 0, 1) := by decide +kernel
theorem dX5_count_49 : decode cX5_count 49 = .ok (.getfield 234, 3) := by decide +kernel
theorem dX5_count_52 : decode cX5_count 52 = .ok (.ireturn, 1) := by decide +kernel
theorem dX5_count_53 : decode cX5_count 53 = .ok (.aload_n 0, 1) := by decide +kernel
theorem dX5_count_54 : decode cX5_count 54 = .ok (.getfield 89, 3) := by decide +kernel
theorem dX5_count_57 : decode cX5_count 57 = .ok (.ireturn, 1) := by decide +kernel
theorem dX5_count_58 : decode cX5_count 58 = .ok (.aload_n 0, 1) := by decide +kernel
theorem dX5_count_59 : decode cX5_count 59 = .ok (.iconst 0, 1) := by decide +kernel
theorem dX5_count_60 : decode cX5_count 60 = .ok (.invokevirtual 237, 3) := by decide +kernel
theorem dX5_count_63 : decode cX5_count 63 = .ok (.ireturn, 1) := by decide +kernel
theorem dX5_count_64 : decode cX5_count 64 = .ok (.aload_n 0, 1) := by decide +kernel
theorem dX5_count_65 : decode cX5_count 65 = .ok (.getfield 133, 3) := by decide +kernel
theorem dX5_count_68 : decode cX5_count 68 = .ok (.ireturn, 1) := by decide +kernel
theorem dX5_count_69 : decode cX5_count 69 = .ok (.aload_n 0, 1) := by decide +kernel
theorem dX5_count_70 : decode cX5_count 70 = .ok (.iconst 0, 1) := by decide +kernel
theorem dX5_count_71 : decode cX5_count 71 = .ok (.invokevirtual 240, 3) := by decide +kernel
theorem dX5_count_74 : decode cX5_count 74 = .ok (.ireturn, 1) := by decide +kernel
theorem dX5_count_75 : decode cX5_count 75 = .ok (.aload_n 0, 1) := by decide +kernel
theorem dX5_count_76 : decode cX5_count 76 = .ok (.iconst 2, 1) := by decide +kernel
theorem dX5_count_77 : decode cX5_count 77 = .ok (.invokevirtual 240, 3) := by decide +kernel
theorem dX5_count_80 : decode cX5_count 80 = .ok (.ireturn, 1) := by decide +kernel
theorem dX5_count_81 : decode cX5_count 81 = .ok (.aload_n 0, 1) := by decide +kernel
theorem dX5_count_82 : decode cX5_count 82 = .ok (.getfield 179, 3) := by decide +kernel
theorem dX5_count_85 : decode cX5_count 85 = .ok (.ireturn, 1) := by decide +kernel
theorem dX5_count_86 : decode cX5_count 86 = .ok (.aload_n 0, 1) := by decide +kernel
theorem dX5_count_87 : decode cX5_count 87 = .ok (.getfield 173, 3) := by decide +kernel
theorem dX5_count_90 : decode cX5_count 90 = .ok (.ireturn, 1) := by decide +kernel
theorem dX5_count_91 : decode cX5_count 91 = .ok (.new 116, 3) := by decide +kernel
theorem dX5_count_94 : decode cX5_count 94 = .ok (.dup, 1) := by decide +kernel
theorem dX5_count_95 : decode cX5_count 95 = .ok (.ldc 214, 2) := by decide +kernel
theorem dX5_count_97 : decode cX5_count 97 = .ok (.invokespecial 120, 3) := by decide +kernel
theorem dX5_count_100 : decode cX5_count 100 = .ok (.athrow, 1) := by decide +kernel
set_option maxRecDepth 20000 in
theorem ggX5_pass_X5_isWithin : GoodIn wsX5_pass wsX5_isWithin := goodIn_r _ [13] (by decide +kernel) (by decide +kernel)
set_option maxRecDepth 20000 in
theorem gX5_pass_X5_isWithin : GoodIn wsX5_pass (va_wsS RX5 54 yX5_isWithin wsX5_isWithin) := goodIn_app (goodIn_of _ (by decide +kernel)) ggX5_pass_X5_isWithin
set_option maxRecDepth 20000 in
theorem ggX5_pass_X5_mastsLeaning : GoodIn wsX5_pass wsX5_mastsLeaning := goodIn_r _ [17, 3, 4, 40, 41, 42, 43, 44, 45, 46, 47, 48, 49, 50, 51, 52, 53] (by decide +kernel) (by decide +kernel)
set_option maxRecDepth 20000 in
theorem gX5_pass_X5_mastsLeaning : GoodIn wsX5_pass (wsV RX5 237 RX5 yX5_mastsLeaning wsX5_mastsLeaning) := goodIn_app (goodIn_of _ (by decide +kernel)) ggX5_pass_X5_mastsLeaning
set_option maxRecDepth 20000 in
theorem ggX5_pass_X5_fallInAnHour : GoodIn wsX5_pass wsX5_fallInAnHour := goodIn_r _ [21, 22, 23, 24, 25, 26, 12, 27, 28, 29, 30, 31, 32, 33, 34, 35, 36, 37, 38, 39, 40, 41, 42, 43, 44, 45, 46, 47, 48, 49, 50, 51, 52, 53, 54, 55, 56, 57, 58, 59, 60, 61, 62, 63] (by decide +kernel) (by decide +kernel)
set_option maxRecDepth 20000 in
theorem gX5_pass_X5_fallInAnHour : GoodIn wsX5_pass (wsV RX5 245 RX5 yX5_fallInAnHour wsX5_fallInAnHour) := goodIn_app (goodIn_of _ (by decide +kernel)) ggX5_pass_X5_fallInAnHour
theorem dX5_pass_0 : decode cX5_pass 0 = .ok (.iload_n 1, 1) := by decide +kernel
theorem dX5_pass_1 : decode cX5_pass 1 = .ok (.iconst 1, 1) := by decide +kernel
theorem dX5_pass_2 : decode cX5_pass 2 = .ok (.bipush 50, 2) := by decide +kernel
theorem dX5_pass_4 : decode cX5_pass 4 = .ok (.invokestatic 54, 3) := by decide +kernel
theorem dX5_pass_7 : decode cX5_pass 7 = .ok (.ifCond .ne 13, 3) := by decide +kernel
theorem dX5_pass_10 : decode cX5_pass 10 = .ok (.new 58, 3) := by decide +kernel
theorem dX5_pass_13 : decode cX5_pass 13 = .ok (.dup, 1) := by decide +kernel
theorem dX5_pass_14 : decode cX5_pass 14 = .ok (.ldc 243, 2) := by decide +kernel
theorem dX5_pass_16 : decode cX5_pass 16 = .ok (.invokespecial 62, 3) := by decide +kernel
theorem dX5_pass_19 : decode cX5_pass 19 = .ok (.athrow, 1) := by decide +kernel
theorem dX5_pass_20 : decode cX5_pass 20 = .ok (.aload_n 0, 1) := by decide +kernel
theorem dX5_pass_21 : decode cX5_pass 21 = .ok (.bipush 9, 2) := by decide +kernel
theorem dX5_pass_23 : decode cX5_pass 23 = .ok (.invokevirtual 237, 3) := by decide +kernel
theorem dX5_pass_26 : decode cX5_pass 26 = .ok (.istore_n 2, 1) := by decide +kernel
theorem dX5_pass_27 : decode cX5_pass 27 = .ok (.iconst 0, 1) := by decide +kernel
theorem dX5_pass_28 : decode cX5_pass 28 = .ok (.istore_n 3, 1) := by decide +kernel
theorem dX5_pass_29 : decode cX5_pass 29 = .ok (.iload_n 3, 1) := by decide +kernel
theorem dX5_pass_30 : decode cX5_pass 30 = .ok (.aload_n 0, 1) := by decide +kernel
theorem dX5_pass_31 : decode cX5_pass 31 = .ok (.getfield 89, 3) := by decide +kernel
theorem dX5_pass_34 : decode cX5_pass 34 = .ok (.if_icmp .ge 51, 3) := by decide +kernel
theorem dX5_pass_37 : decode cX5_pass 37 = .ok (.aload_n 0, 1) := by decide +kernel
theorem dX5_pass_38 : decode cX5_pass 38 = .ok (.iload_n 3, 1) := by decide +kernel
theorem dX5_pass_39 : decode cX5_pass 39 = .ok (.invokevirtual 245, 3) := by decide +kernel
theorem dX5_pass_42 : decode cX5_pass 42 = .ok (.istore 4, 2) := by decide +kernel
theorem dX5_pass_44 : decode cX5_pass 44 = .ok (.iconst 0, 1) := by decide +kernel
theorem dX5_pass_45 : decode cX5_pass 45 = .ok (.istore 5, 2) := by decide +kernel
theorem dX5_pass_47 : decode cX5_pass 47 = .ok (.iload 5, 2) := by decide +kernel
theorem dX5_pass_49 : decode cX5_pass 49 = .ok (.iload_n 1, 1) := by decide +kernel
theorem dX5_pass_50 : decode cX5_pass 50 = .ok (.if_icmp .ge 29, 3) := by decide +kernel
theorem dX5_pass_53 : decode cX5_pass 53 = .ok (.aload_n 0, 1) := by decide +kernel
theorem dX5_pass_54 : decode cX5_pass 54 = .ok (.getfield 42, 3) := by decide +kernel
theorem dX5_pass_57 : decode cX5_pass 57 = .ok (.iload_n 3, 1) := by decide +kernel
theorem dX5_pass_58 : decode cX5_pass 58 = .ok (.bipush 9, 2) := by decide +kernel
theorem dX5_pass_60 : decode cX5_pass 60 = .ok (.aload_n 0, 1) := by decide +kernel
theorem dX5_pass_61 : decode cX5_pass 61 = .ok (.getfield 42, 3) := by decide +kernel
theorem dX5_pass_64 : decode cX5_pass 64 = .ok (.iload_n 3, 1) := by decide +kernel
theorem dX5_pass_65 : decode cX5_pass 65 = .ok (.iaload, 1) := by decide +kernel
theorem dX5_pass_66 : decode cX5_pass 66 = .ok (.iload 4, 2) := by decide +kernel
theorem dX5_pass_68 : decode cX5_pass 68 = .ok (.iadd, 1) := by decide +kernel
theorem dX5_pass_69 : decode cX5_pass 69 = .ok (.invokestatic 248, 3) := by decide +kernel
theorem dX5_pass_72 : decode cX5_pass 72 = .ok (.iastore, 1) := by decide +kernel
theorem dX5_pass_73 : decode cX5_pass 73 = .ok (.iinc 5 1, 3) := by decide +kernel
theorem dX5_pass_76 : decode cX5_pass 76 = .ok (.goto (-29), 3) := by decide +kernel
theorem dX5_pass_79 : decode cX5_pass 79 = .ok (.iinc 3 1, 3) := by decide +kernel
theorem dX5_pass_82 : decode cX5_pass 82 = .ok (.goto (-53), 3) := by decide +kernel
theorem dX5_pass_85 : decode cX5_pass 85 = .ok (.aload_n 0, 1) := by decide +kernel
theorem dX5_pass_86 : decode cX5_pass 86 = .ok (.dup, 1) := by decide +kernel
theorem dX5_pass_87 : decode cX5_pass 87 = .ok (.getfield 234, 3) := by decide +kernel
theorem dX5_pass_90 : decode cX5_pass 90 = .ok (.iload_n 1, 1) := by decide +kernel
theorem dX5_pass_91 : decode cX5_pass 91 = .ok (.iadd, 1) := by decide +kernel
theorem dX5_pass_92 : decode cX5_pass 92 = .ok (.putfield 234, 3) := by decide +kernel
theorem dX5_pass_95 : decode cX5_pass 95 = .ok (.aload_n 0, 1) := by decide +kernel
theorem dX5_pass_96 : decode cX5_pass 96 = .ok (.bipush 9, 2) := by decide +kernel
theorem dX5_pass_98 : decode cX5_pass 98 = .ok (.invokevirtual 237, 3) := by decide +kernel
theorem dX5_pass_101 : decode cX5_pass 101 = .ok (.iload_n 2, 1) := by decide +kernel
theorem dX5_pass_102 : decode cX5_pass 102 = .ok (.isub, 1) := by decide +kernel
theorem dX5_pass_103 : decode cX5_pass 103 = .ok (.ireturn, 1) := by decide +kernel
set_option maxRecDepth 20000 in
theorem ggX5_fewest_X5_explore : GoodIn wsX5_fewest wsX5_explore := goodIn_r _ [7, 8, 1, 9, 10, 11, 12, 13, 14, 15, 16, 6, 17, 18, 19, 20, 21, 22, 23, 24, 25, 26, 27, 28, 29, 30, 31, 32, 33, 34, 35, 36, 37, 38, 39, 40, 41, 42, 43, 44, 45, 46, 47, 48, 49, 50, 51, 52, 53, 54, 55, 56, 57, 58, 59, 60, 61, 62, 63, 64, 65, 66, 67, 68, 69, 70, 71, 72, 73, 74, 75, 76, 77, 78, 79, 80, 81, 82, 83, 84, 85, 86, 87, 88, 89, 90, 91, 92, 93, 94, 95, 96, 97, 98, 99, 100, 101, 102, 103, 104, 105, 106, 107, 108, 109, 110, 111, 112, 113, 114, 115, 116, 117, 118, 119, 120, 121, 122, 123, 124, 125, 126, 127, 128, 129, 130, 131, 132, 133, 134, 135, 136, 137, 138, 139, 140, 141, 142, 143, 144, 145, 146, 147, 148, 149, 150, 151, 152, 153, 154, 155, 156, 157] (by decide +kernel) (by decide +kernel)
set_option maxRecDepth 20000 in
theorem gX5_fewest_X5_explore : GoodIn wsX5_fewest (wsV RX5 254 RX5 yX5_explore wsX5_explore) := goodIn_app (goodIn_of _ (by decide +kernel)) ggX5_fewest_X5_explore
theorem dX5_fewest_0 : decode cX5_fewest 0 = .ok (.aload_n 0, 1) := by decide +kernel
theorem dX5_fewest_1 : decode cX5_fewest 1 = .ok (.invokevirtual 254, 3) := by decide +kernel
theorem dX5_fewest_4 : decode cX5_fewest 4 = .ok (.aload_n 0, 1) := by decide +kernel
end
section
theorem dX5_fewest_5 : decode cX5_fewest 5 = .ok (.getfield 38, 3) := by decide +kernel
theorem dX5_fewest_8 : decode cX5_fewest 8 = .ok (.getfield 257, 3) := by decide +kernel
theorem dX5_fewest_11 : decode cX5_fewest 11 = .ok (.iconst 0, 1) := by decide +kernel
theorem dX5_fewest_12 : decode cX5_fewest 12 = .ok (.iaload, 1) := by decide +kernel
theorem dX5_fewest_13 : decode cX5_fewest 13 = .ok (.ireturn, 1) := by decide +kernel
set_option maxRecDepth 20000 in
theorem ggX5_first_X5_explore : GoodIn wsX5_first wsX5_explore := goodIn_r _ [7, 8, 1, 9, 10, 11, 12, 13, 14, 15, 16, 6, 17, 18, 19, 20, 21, 22, 23, 24, 25, 26, 27, 28, 29, 30, 31, 32, 33, 34, 35, 36, 37, 38, 39, 40, 41, 42, 43, 44, 45, 46, 47, 48, 49, 50, 51, 52, 53, 54, 55, 56, 57, 58, 59, 60, 61, 62, 63, 64, 65, 66, 67, 68, 69, 70, 71, 72, 73, 74, 75, 76, 77, 78, 79, 80, 81, 82, 83, 84, 85, 86, 87, 88, 89, 90, 91, 92, 93, 94, 95, 96, 97, 98, 99, 100, 101, 102, 103, 104, 105, 106, 107, 108, 109, 110, 111, 112, 113, 114, 115, 116, 117, 118, 119, 120, 121, 122, 123, 124, 125, 126, 127, 128, 129, 130, 131, 132, 133, 134, 135, 136, 137, 138, 139, 140, 141, 142, 143, 144, 145, 146, 147, 148, 149, 150, 151, 152, 153, 154, 155, 156, 157] (by decide +kernel) (by decide +kernel)
set_option maxRecDepth 20000 in
theorem gX5_first_X5_explore : GoodIn wsX5_first (wsV RX5 254 RX5 yX5_explore wsX5_explore) := goodIn_app (goodIn_of _ (by decide +kernel)) ggX5_first_X5_explore
theorem dX5_first_0 : decode cX5_first 0 = .ok (.aload_n 0, 1) := by decide +kernel
theorem dX5_first_1 : decode cX5_first 1 = .ok (.invokevirtual 254, 3) := by decide +kernel
theorem dX5_first_4 : decode cX5_first 4 = .ok (.aload_n 0, 1) := by decide +kernel
theorem dX5_first_5 : decode cX5_first 5 = .ok (.getfield 38, 3) := by decide +kernel
theorem dX5_first_8 : decode cX5_first 8 = .ok (.getfield 260, 3) := by decide +kernel
theorem dX5_first_11 : decode cX5_first 11 = .ok (.iconst 0, 1) := by decide +kernel
theorem dX5_first_12 : decode cX5_first 12 = .ok (.iaload, 1) := by decide +kernel
theorem dX5_first_13 : decode cX5_first 13 = .ok (.ireturn, 1) := by decide +kernel
set_option maxRecDepth 20000 in
theorem ggX5_least_X5_isMast : GoodIn wsX5_least wsX5_isMast := goodIn_r _ [16, 17, 127, 128, 129, 130, 131, 132, 133, 134, 135, 136, 137, 138, 139, 140] (by decide +kernel) (by decide +kernel)
set_option maxRecDepth 20000 in
theorem gX5_least_X5_isMast : GoodIn wsX5_least (wsV RX5 113 RX5 yX5_isMast wsX5_isMast) := goodIn_app (goodIn_of _ (by decide +kernel)) ggX5_least_X5_isMast
set_option maxRecDepth 20000 in
theorem ggX5_least_X5_explore : GoodIn wsX5_least wsX5_explore := goodIn_r _ [21, 17, 4, 22, 23, 3, 5, 6, 24, 25, 26, 15, 27, 28, 29, 30, 31, 32, 33, 34, 35, 36, 37, 38, 39, 40, 41, 42, 43, 44, 45, 46, 47, 48, 49, 50, 51, 52, 53, 10, 54, 55, 56, 9, 11, 57, 58, 59, 60, 61, 62, 63, 64, 65, 66, 67, 68, 69, 70, 71, 72, 73, 74, 75, 76, 77, 78, 79, 80, 81, 82, 7, 83, 84, 85, 86, 87, 88, 89, 90, 91, 92, 93, 94, 95, 96, 97, 98, 99, 100, 101, 102, 103, 104, 105, 106, 107, 108, 109, 110, 111, 112, 113, 114, 115, 116, 117, 118, 119, 120, 121, 122, 123, 124, 125, 126, 127, 128, 129, 130, 131, 132, 133, 134, 135, 136, 137, 138, 139, 140, 141, 142, 143, 144, 145, 146, 147, 148, 149, 150, 151, 152, 153, 154, 155, 156, 157, 158, 159, 160, 161, 162, 163] (by decide +kernel) (by decide +kernel)
set_option maxRecDepth 20000 in
theorem gX5_least_X5_explore : GoodIn wsX5_least (wsV RX5 254 RX5 yX5_explore wsX5_explore) := goodIn_app (goodIn_of _ (by decide +kernel)) ggX5_least_X5_explore
set_option maxRecDepth 20000 in
theorem ggX5_least_X4_decode : GoodIn wsX5_least wsX4_decode := goodIn_r _ [86] (by decide +kernel) (by decide +kernel)
set_option maxRecDepth 20000 in
theorem gX5_least_X4_decode : GoodIn wsX5_least (va_wsS RX5 269 yX4_decode wsX4_decode) := goodIn_app (goodIn_of _ (by decide +kernel)) ggX5_least_X4_decode
theorem dX5_least_0 : decode cX5_least 0 = .ok (.aload_n 0, 1) := by decide +kernel
theorem dX5_least_1 : decode cX5_least 1 = .ok (.iload_n 1, 1) := by decide +kernel
theorem dX5_least_2 : decode cX5_least 2 = .ok (.invokevirtual 113, 3) := by decide +kernel
theorem dX5_least_5 : decode cX5_least 5 = .ok (.ifCond .ne 13, 3) := by decide +kernel
theorem dX5_least_8 : decode cX5_least 8 = .ok (.new 116, 3) := by decide +kernel
theorem dX5_least_11 : decode cX5_least 11 = .ok (.dup, 1) := by decide +kernel
theorem dX5_least_12 : decode cX5_least 12 = .ok (.ldc 118, 2) := by decide +kernel
theorem dX5_least_14 : decode cX5_least 14 = .ok (.invokespecial 120, 3) := by decide +kernel
theorem dX5_least_17 : decode cX5_least 17 = .ok (.athrow, 1) := by decide +kernel
theorem dX5_least_18 : decode cX5_least 18 = .ok (.aload_n 0, 1) := by decide +kernel
theorem dX5_least_19 : decode cX5_least 19 = .ok (.invokevirtual 254, 3) := by decide +kernel
theorem dX5_least_22 : decode cX5_least 22 = .ok (.aload_n 0, 1) := by decide +kernel
theorem dX5_least_23 : decode cX5_least 23 = .ok (.getfield 42, 3) := by decide +kernel
theorem dX5_least_26 : decode cX5_least 26 = .ok (.iload_n 1, 1) := by decide +kernel
theorem dX5_least_27 : decode cX5_least 27 = .ok (.iaload, 1) := by decide +kernel
theorem dX5_least_28 : decode cX5_least 28 = .ok (.istore_n 2, 1) := by decide +kernel
theorem dX5_least_29 : decode cX5_least 29 = .ok (.iconst 0, 1) := by decide +kernel
theorem dX5_least_30 : decode cX5_least 30 = .ok (.istore_n 3, 1) := by decide +kernel
theorem dX5_least_31 : decode cX5_least 31 = .ok (.iload_n 3, 1) := by decide +kernel
theorem dX5_least_32 : decode cX5_least 32 = .ok (.aload_n 0, 1) := by decide +kernel
theorem dX5_least_33 : decode cX5_least 33 = .ok (.getfield 38, 3) := by decide +kernel
theorem dX5_least_36 : decode cX5_least 36 = .ok (.getfield 263, 3) := by decide +kernel
theorem dX5_least_39 : decode cX5_least 39 = .ok (.if_icmp .ge 43, 3) := by decide +kernel
theorem dX5_least_42 : decode cX5_least 42 = .ok (.iload_n 3, 1) := by decide +kernel
theorem dX5_least_43 : decode cX5_least 43 = .ok (.sipush 1000, 3) := by decide +kernel
theorem dX5_least_46 : decode cX5_least 46 = .ok (.if_icmp .ge 36, 3) := by decide +kernel
theorem dX5_least_49 : decode cX5_least 49 = .ok (.aload_n 0, 1) := by decide +kernel
theorem dX5_least_50 : decode cX5_least 50 = .ok (.getfield 38, 3) := by decide +kernel
theorem dX5_least_53 : decode cX5_least 53 = .ok (.getfield 266, 3) := by decide +kernel
theorem dX5_least_56 : decode cX5_least 56 = .ok (.iload_n 3, 1) := by decide +kernel
theorem dX5_least_57 : decode cX5_least 57 = .ok (.iaload, 1) := by decide +kernel
theorem dX5_least_58 : decode cX5_least 58 = .ok (.aload_n 0, 1) := by decide +kernel
theorem dX5_least_59 : decode cX5_least 59 = .ok (.getfield 49, 3) := by decide +kernel
theorem dX5_least_62 : decode cX5_least 62 = .ok (.invokestatic 269, 3) := by decide +kernel
theorem dX5_least_65 : decode cX5_least 65 = .ok (.iload_n 2, 1) := by decide +kernel
theorem dX5_least_66 : decode cX5_least 66 = .ok (.aload_n 0, 1) := by decide +kernel
theorem dX5_least_67 : decode cX5_least 67 = .ok (.getfield 49, 3) := by decide +kernel
theorem dX5_least_70 : decode cX5_least 70 = .ok (.iload_n 1, 1) := by decide +kernel
theorem dX5_least_71 : decode cX5_least 71 = .ok (.iaload, 1) := by decide +kernel
theorem dX5_least_72 : decode cX5_least 72 = .ok (.invokestatic 248, 3) := by decide +kernel
theorem dX5_least_75 : decode cX5_least 75 = .ok (.istore_n 2, 1) := by decide +kernel
theorem dX5_least_76 : decode cX5_least 76 = .ok (.iinc 3 1, 3) := by decide +kernel
theorem dX5_least_79 : decode cX5_least 79 = .ok (.goto (-48), 3) := by decide +kernel
theorem dX5_least_82 : decode cX5_least 82 = .ok (.iload_n 2, 1) := by decide +kernel
theorem dX5_least_83 : decode cX5_least 83 = .ok (.ireturn, 1) := by decide +kernel
set_option maxRecDepth 20000 in
theorem ggX5_falls_X5_hoursUntilFlat : GoodIn wsX5_falls wsX5_hoursUntilFlat := goodIn_r _ [10, 11, 12, 13, 14, 9, 15, 16, 17, 18, 19, 20, 21, 22, 23, 24, 25, 26, 27, 28, 29, 30, 31, 32, 33, 34, 35, 36, 37, 38, 39, 40, 41, 42, 43, 44, 45, 46, 47, 48, 49, 50, 51, 52, 53, 54, 55, 56, 57] (by decide +kernel) (by decide +kernel)
set_option maxRecDepth 20000 in
theorem gX5_falls_X5_hoursUntilFlat : GoodIn wsX5_falls (wsV RX5 273 RX5 yX5_hoursUntilFlat wsX5_hoursUntilFlat) := goodIn_app (goodIn_of _ (by decide +kernel)) ggX5_falls_X5_hoursUntilFlat
theorem dX5_falls_0 : decode cX5_falls 0 = .ok (.iconst 0, 1) := by decide +kernel
theorem dX5_falls_1 : decode cX5_falls 1 = .ok (.istore_n 1, 1) := by decide +kernel
theorem dX5_falls_2 : decode cX5_falls 2 = .ok (.iconst 0, 1) := by decide +kernel
theorem dX5_falls_3 : decode cX5_falls 3 = .ok (.istore_n 2, 1) := by decide +kernel
theorem dX5_falls_4 : decode cX5_falls 4 = .ok (.iload_n 2, 1) := by decide +kernel
theorem dX5_falls_5 : decode cX5_falls 5 = .ok (.aload_n 0, 1) := by decide +kernel
theorem dX5_falls_6 : decode cX5_falls 6 = .ok (.getfield 89, 3) := by decide +kernel
theorem dX5_falls_9 : decode cX5_falls 9 = .ok (.if_icmp .ge 28, 3) := by decide +kernel
theorem dX5_falls_12 : decode cX5_falls 12 = .ok (.aload_n 0, 1) := by decide +kernel
theorem dX5_falls_13 : decode cX5_falls 13 = .ok (.iload_n 2, 1) := by decide +kernel
theorem dX5_falls_14 : decode cX5_falls 14 = .ok (.invokevirtual 273, 3) := by decide +kernel
theorem dX5_falls_17 : decode cX5_falls 17 = .ok (.istore_n 3, 1) := by decide +kernel
theorem dX5_falls_18 : decode cX5_falls 18 = .ok (.iload_n 3, 1) := by decide +kernel
theorem dX5_falls_19 : decode cX5_falls 19 = .ok (.iconst (-1), 1) := by decide +kernel
theorem dX5_falls_20 : decode cX5_falls 20 = .ok (.if_icmp .ne 5, 3) := by decide +kernel
theorem dX5_falls_23 : decode cX5_falls 23 = .ok (.iconst (-1), 1) := by decide +kernel
theorem dX5_falls_24 : decode cX5_falls 24 = .ok (.ireturn, 1) := by decide +kernel
theorem dX5_falls_25 : decode cX5_falls 25 = .ok (.iload_n 1, 1) := by decide +kernel
theorem dX5_falls_26 : decode cX5_falls 26 = .ok (.iload_n 3, 1) := by decide +kernel
theorem dX5_falls_27 : decode cX5_falls 27 = .ok (.invokestatic 276, 3) := by decide +kernel
theorem dX5_falls_30 : decode cX5_falls 30 = .ok (.istore_n 1, 1) := by decide +kernel
theorem dX5_falls_31 : decode cX5_falls 31 = .ok (.iinc 2 1, 3) := by decide +kernel
theorem dX5_falls_34 : decode cX5_falls 34 = .ok (.goto (-30), 3) := by decide +kernel
theorem dX5_falls_37 : decode cX5_falls 37 = .ok (.iload_n 1, 1) := by decide +kernel
theorem dX5_falls_38 : decode cX5_falls 38 = .ok (.ireturn, 1) := by decide +kernel
theorem dX5_mean_0 : decode cX5_mean 0 = .ok (.aload_n 0, 1) := by decide +kernel
theorem dX5_mean_1 : decode cX5_mean 1 = .ok (.getfield 89, 3) := by decide +kernel
theorem dX5_mean_4 : decode cX5_mean 4 = .ok (.ifCond .ne 5, 3) := by decide +kernel
theorem dX5_mean_7 : decode cX5_mean 7 = .ok (.dconst 0, 1) := by decide +kernel
theorem dX5_mean_8 : decode cX5_mean 8 = .ok (.dreturn, 1) := by decide +kernel
theorem dX5_mean_9 : decode cX5_mean 9 = .ok (.iconst 0, 1) := by decide +kernel
theorem dX5_mean_10 : decode cX5_mean 10 = .ok (.istore_n 1, 1) := by decide +kernel
theorem dX5_mean_11 : decode cX5_mean 11 = .ok (.iconst 0, 1) := by decide +kernel
theorem dX5_mean_12 : decode cX5_mean 12 = .ok (.istore_n 2, 1) := by decide +kernel
theorem dX5_mean_13 : decode cX5_mean 13 = .ok (.iload_n 2, 1) := by decide +kernel
theorem dX5_mean_14 : decode cX5_mean 14 = .ok (.aload_n 0, 1) := by decide +kernel
theorem dX5_mean_15 : decode cX5_mean 15 = .ok (.getfield 89, 3) := by decide +kernel
theorem dX5_mean_18 : decode cX5_mean 18 = .ok (.if_icmp .ge 18, 3) := by decide +kernel
theorem dX5_mean_21 : decode cX5_mean 21 = .ok (.iload_n 1, 1) := by decide +kernel
theorem dX5_mean_22 : decode cX5_mean 22 = .ok (.aload_n 0, 1) := by decide +kernel
theorem dX5_mean_23 : decode cX5_mean 23 = .ok (.getfield 42, 3) := by decide +kernel
theorem dX5_mean_26 : decode cX5_mean 26 = .ok (.iload_n 2, 1) := by decide +kernel
theorem dX5_mean_27 : decode cX5_mean 27 = .ok (.iaload, 1) := by decide +kernel
theorem dX5_mean_28 : decode cX5_mean 28 = .ok (.iadd, 1) := by decide +kernel
theorem dX5_mean_29 : decode cX5_mean 29 = .ok (.istore_n 1, 1) := by decide +kernel
theorem dX5_mean_30 : decode cX5_mean 30 = .ok (.iinc 2 1, 3) := by decide +kernel
theorem dX5_mean_33 : decode cX5_mean 33 = .ok (.goto (-20), 3) := by decide +kernel
theorem dX5_mean_36 : decode cX5_mean 36 = .ok (.iload_n 1, 1) := by decide +kernel
theorem dX5_mean_37 : decode cX5_mean 37 = .ok (.i2d, 1) := by decide +kernel
theorem dX5_mean_38 : decode cX5_mean 38 = .ok (.aload_n 0, 1) := by decide +kernel
theorem dX5_mean_39 : decode cX5_mean 39 = .ok (.getfield 89, 3) := by decide +kernel
theorem dX5_mean_42 : decode cX5_mean 42 = .ok (.i2d, 1) := by decide +kernel
theorem dX5_mean_43 : decode cX5_mean 43 = .ok (.ddiv, 1) := by decide +kernel
theorem dX5_mean_44 : decode cX5_mean 44 = .ok (.dreturn, 1) := by decide +kernel
set_option maxRecDepth 20000 in
theorem ggX5_digest_X5_count : GoodIn wsX5_digest wsX5_count := goodIn_ca (goodIn_r _ [12, 13, 14, 15, 5, 7, 16, 17, 18, 19, 20, 11, 21, 22, 23, 24, 25, 26, 27, 28, 156, 157, 158, 159, 160, 161, 162, 163, 164, 165, 166, 167, 168, 169, 170, 171, 172, 173, 174, 175] (by decide +kernel) (by decide +kernel)) (goodIn_sub (fun _ h => List.mem_cons_of_mem _ (List.mem_append_right _ h)) (by decide +kernel))
set_option maxRecDepth 20000 in
theorem gX5_digest_X5_count : GoodIn wsX5_digest (wsV RX5 283 RX5 yX5_count wsX5_count) := goodIn_app (goodIn_of _ (by decide +kernel)) ggX5_digest_X5_count
set_option maxRecDepth 20000 in
theorem ggX5_digest_X5_ship : GoodIn wsX5_digest wsX5_ship := goodIn_ca (goodIn_r _ [32, 13, 14, 22, 33, 34, 35, 36, 11, 37, 3, 38, 5, 6, 39, 40, 41, 42, 43, 44, 45, 46, 47, 48, 49, 50, 51, 52, 53, 54, 55, 56, 57, 58, 59, 60, 61, 62, 63, 64, 65, 66, 67, 68, 69, 70, 71, 72, 73, 74, 4, 75, 76, 77, 78, 79, 80, 81, 82, 156, 157, 158, 159, 160, 161, 162, 163, 164, 165, 166, 167, 168, 169, 176, 177, 178, 179, 180, 181, 182, 183, 184, 185, 186] (by decide +kernel) (by decide +kernel)) (goodIn_sub (fun _ h => List.mem_cons_of_mem _ (List.mem_append_right _ h)) (by decide +kernel))
set_option maxRecDepth 20000 in
theorem gX5_digest_X5_ship : GoodIn wsX5_digest (wsV RX5 286 RX5 yX5_ship wsX5_ship) := goodIn_app (goodIn_of _ (by decide +kernel)) ggX5_digest_X5_ship
set_option maxRecDepth 20000 in
theorem ggX5_digest_X0_digestOnto : GoodIn wsX5_digest wsX0_digestOnto := goodIn_r _ [87, 88, 89, 90, 91, 92, 183, 184, 185, 186] (by decide +kernel) (by decide +kernel)
set_option maxRecDepth 20000 in
theorem gX5_digest_X0_digestOnto : GoodIn wsX5_digest (wsV RX5 289 RX0 yX0_digestOnto wsX0_digestOnto) := goodIn_app (goodIn_of _ (by decide +kernel)) ggX5_digest_X0_digestOnto
set_option maxRecDepth 20000 in
theorem ggX5_digest_X2_digestOnto : GoodIn wsX5_digest wsX2_digestOnto := goodIn_r _ [97, 98, 99, 100, 101, 176, 177, 178] (by decide +kernel) (by decide +kernel)
set_option maxRecDepth 20000 in
theorem gX5_digest_X2_digestOnto : GoodIn wsX5_digest (wsV RX5 293 RX2 yX2_digestOnto wsX2_digestOnto) := goodIn_app (goodIn_of _ (by decide +kernel)) ggX5_digest_X2_digestOnto
set_option maxRecDepth 20000 in
theorem ggX5_digest_X5_mast : GoodIn wsX5_digest wsX5_mast := goodIn_ca (goodIn_r _ [105, 13, 14, 6, 66, 106, 22, 107, 108, 109, 110, 11, 111, 5, 56, 57, 58, 46, 59, 60, 67, 68, 69, 70, 112, 113, 114, 115, 116, 117, 118, 119, 7, 27, 120, 28, 121, 122, 123, 124, 156, 157, 158, 159, 160, 161, 162, 163, 164, 165, 166, 167, 168, 169, 179, 180, 181, 182, 170, 171, 172, 173, 174, 175] (by decide +kernel) (by decide +kernel)) (goodIn_sub (fun _ h => List.mem_cons_of_mem _ (List.mem_append_right _ h)) (by decide +kernel))
set_option maxRecDepth 20000 in
theorem gX5_digest_X5_mast : GoodIn wsX5_digest (wsV RX5 294 RX5 yX5_mast wsX5_mast) := goodIn_app (goodIn_of _ (by decide +kernel)) ggX5_digest_X5_mast
set_option maxRecDepth 20000 in
theorem ggX5_digest_X3_digestYardsOnto : GoodIn wsX5_digest wsX3_digestYardsOnto := goodIn_r _ [128, 48, 129, 49, 179, 180, 181, 182] (by decide +kernel) (by decide +kernel)
set_option maxRecDepth 20000 in
theorem gX5_digest_X3_digestYardsOnto : GoodIn wsX5_digest (wsV RX5 296 RX3 yX3_digestYardsOnto wsX3_digestYardsOnto) := goodIn_app (goodIn_of _ (by decide +kernel)) ggX5_digest_X3_digestYardsOnto
set_option maxRecDepth 20000 in
theorem ggX5_digest_X5_thread : GoodIn wsX5_digest wsX5_thread := goodIn_ca (goodIn_r _ [133, 13, 14, 27, 120, 134, 135, 28, 136, 137, 138, 11, 139, 7, 140, 141, 142, 143, 144, 145, 146, 147, 148, 149, 150, 151, 40, 41, 42, 152, 153, 154, 155, 156, 157, 158, 159, 160, 161, 162, 163, 164, 165, 166, 167, 168, 169, 170, 171, 172, 173, 174, 175] (by decide +kernel) (by decide +kernel)) (goodIn_sub (fun _ h => List.mem_cons_of_mem _ (List.mem_append_right _ h)) (by decide +kernel))
set_option maxRecDepth 20000 in
theorem gX5_digest_X5_thread : GoodIn wsX5_digest (wsV RX5 299 RX5 yX5_thread wsX5_thread) := goodIn_app (goodIn_of _ (by decide +kernel)) ggX5_digest_X5_thread
theorem dX5_digest_0 : decode cX5_digest 0 = .ok (.ldc2_w 279, 3) := by decide +kernel
theorem dX5_digest_3 : decode cX5_digest 3 = .ok (.lstore_n 1, 1) := by decide +kernel
theorem dX5_digest_4 : decode cX5_digest 4 = .ok (.iconst 0, 1) := by decide +kernel
theorem dX5_digest_5 : decode cX5_digest 5 = .ok (.istore_n 3, 1) := by decide +kernel
theorem dX5_digest_6 : decode cX5_digest 6 = .ok (.iload_n 3, 1) := by decide +kernel
theorem dX5_digest_7 : decode cX5_digest 7 = .ok (.bipush 8, 2) := by decide +kernel
theorem dX5_digest_9 : decode cX5_digest 9 = .ok (.if_icmp .ge 22, 3) := by decide +kernel
theorem dX5_digest_12 : decode cX5_digest 12 = .ok (.lload_n 1, 1) := by decide +kernel
theorem dX5_digest_13 : decode cX5_digest 13 = .ok (.ldc2_w 281, 3) := by decide +kernel
theorem dX5_digest_16 : decode cX5_digest 16 = .ok (.lmul, 1) := by decide +kernel
theorem dX5_digest_17 : decode cX5_digest 17 = .ok (.aload_n 0, 1) := by decide +kernel
theorem dX5_digest_18 : decode cX5_digest 18 = .ok (.iload_n 3, 1) := by decide +kernel
theorem dX5_digest_19 : decode cX5_digest 19 = .ok (.invokevirtual 283, 3) := by decide +kernel
theorem dX5_digest_22 : decode cX5_digest 22 = .ok (.i2l, 1) := by decide +kernel
theorem dX5_digest_23 : decode cX5_digest 23 = .ok (.ladd, 1) := by decide +kernel
theorem dX5_digest_24 : decode cX5_digest 24 = .ok (.lstore_n 1, 1) := by decide +kernel
theorem dX5_digest_25 : decode cX5_digest 25 = .ok (.iinc 3 1, 3) := by decide +kernel
theorem dX5_digest_28 : decode cX5_digest 28 = .ok (.goto (-22), 3) := by decide +kernel
theorem dX5_digest_31 : decode cX5_digest 31 = .ok (.iconst 0, 1) := by decide +kernel
theorem dX5_digest_32 : decode cX5_digest 32 = .ok (.istore_n 3, 1) := by decide +kernel
theorem dX5_digest_33 : decode cX5_digest 33 = .ok (.iload_n 3, 1) := by decide +kernel
theorem dX5_digest_34 : decode cX5_digest 34 = .ok (.bipush 6, 2) := by decide +kernel
theorem dX5_digest_36 : decode cX5_digest 36 = .ok (.if_icmp .ge 22, 3) := by decide +kernel
theorem dX5_digest_39 : decode cX5_digest 39 = .ok (.lload_n 1, 1) := by decide +kernel
theorem dX5_digest_40 : decode cX5_digest 40 = .ok (.ldc2_w 281, 3) := by decide +kernel
theorem dX5_digest_43 : decode cX5_digest 43 = .ok (.lmul, 1) := by decide +kernel
theorem dX5_digest_44 : decode cX5_digest 44 = .ok (.aload_n 0, 1) := by decide +kernel
theorem dX5_digest_45 : decode cX5_digest 45 = .ok (.iload_n 3, 1) := by decide +kernel
theorem dX5_digest_46 : decode cX5_digest 46 = .ok (.invokevirtual 286, 3) := by decide +kernel
theorem dX5_digest_49 : decode cX5_digest 49 = .ok (.i2l, 1) := by decide +kernel
theorem dX5_digest_50 : decode cX5_digest 50 = .ok (.ladd, 1) := by decide +kernel
theorem dX5_digest_51 : decode cX5_digest 51 = .ok (.lstore_n 1, 1) := by decide +kernel
theorem dX5_digest_52 : decode cX5_digest 52 = .ok (.iinc 3 1, 3) := by decide +kernel
theorem dX5_digest_55 : decode cX5_digest 55 = .ok (.goto (-22), 3) := by decide +kernel
theorem dX5_digest_58 : decode cX5_digest 58 = .ok (.aload_n 0, 1) := by decide +kernel
theorem dX5_digest_59 : decode cX5_digest 59 = .ok (.getfield 19, 3) := by decide +kernel
theorem dX5_digest_62 : decode cX5_digest 62 = .ok (.aload_n 0, 1) := by decide +kernel
theorem dX5_digest_63 : decode cX5_digest 63 = .ok (.getfield 10, 3) := by decide +kernel
theorem dX5_digest_66 : decode cX5_digest 66 = .ok (.lload_n 1, 1) := by decide +kernel
theorem dX5_digest_67 : decode cX5_digest 67 = .ok (.invokevirtual 289, 3) := by decide +kernel
theorem dX5_digest_70 : decode cX5_digest 70 = .ok (.invokevirtual 293, 3) := by decide +kernel
theorem dX5_digest_73 : decode cX5_digest 73 = .ok (.lstore_n 1, 1) := by decide +kernel
theorem dX5_digest_74 : decode cX5_digest 74 = .ok (.iconst 0, 1) := by decide +kernel
theorem dX5_digest_75 : decode cX5_digest 75 = .ok (.istore_n 3, 1) := by decide +kernel
theorem dX5_digest_76 : decode cX5_digest 76 = .ok (.iload_n 3, 1) := by decide +kernel
theorem dX5_digest_77 : decode cX5_digest 77 = .ok (.aload_n 0, 1) := by decide +kernel
theorem dX5_digest_78 : decode cX5_digest 78 = .ok (.getfield 89, 3) := by decide +kernel
theorem dX5_digest_81 : decode cX5_digest 81 = .ok (.if_icmp .ge 51, 3) := by decide +kernel
theorem dX5_digest_84 : decode cX5_digest 84 = .ok (.iconst 0, 1) := by decide +kernel
theorem dX5_digest_85 : decode cX5_digest 85 = .ok (.istore 4, 2) := by decide +kernel
theorem dX5_digest_87 : decode cX5_digest 87 = .ok (.iload 4, 2) := by decide +kernel
theorem dX5_digest_89 : decode cX5_digest 89 = .ok (.bipush 8, 2) := by decide +kernel
theorem dX5_digest_91 : decode cX5_digest 91 = .ok (.if_icmp .ge 24, 3) := by decide +kernel
theorem dX5_digest_94 : decode cX5_digest 94 = .ok (.lload_n 1, 1) := by decide +kernel
theorem dX5_digest_95 : decode cX5_digest 95 = .ok (.ldc2_w 281, 3) := by decide +kernel
theorem dX5_digest_98 : decode cX5_digest 98 = .ok (.lmul, 1) := by decide +kernel
theorem dX5_digest_99 : decode cX5_digest 99 = .ok (.aload_n 0, 1) := by decide +kernel
theorem dX5_digest_100 : decode cX5_digest 100 = .ok (.iload_n 3, 1) := by decide +kernel
theorem dX5_digest_101 : decode cX5_digest 101 = .ok (.iload 4, 2) := by decide +kernel
theorem dX5_digest_103 : decode cX5_digest 103 = .ok (.invokevirtual 294, 3) := by decide +kernel
theorem dX5_digest_106 : decode cX5_digest 106 = .ok (.i2l, 1) := by decide +kernel
theorem dX5_digest_107 : decode cX5_digest 107 = .ok (.ladd, 1) := by decide +kernel
theorem dX5_digest_108 : decode cX5_digest 108 = .ok (.lstore_n 1, 1) := by decide +kernel
theorem dX5_digest_109 : decode cX5_digest 109 = .ok (.iinc 4 1, 3) := by decide +kernel
theorem dX5_digest_112 : decode cX5_digest 112 = .ok (.goto (-25), 3) := by decide +kernel
theorem dX5_digest_115 : decode cX5_digest 115 = .ok (.aload_n 0, 1) := by decide +kernel
theorem dX5_digest_116 : decode cX5_digest 116 = .ok (.getfield 25, 3) := by decide +kernel
theorem dX5_digest_119 : decode cX5_digest 119 = .ok (.iload_n 3, 1) := by decide +kernel
theorem dX5_digest_120 : decode cX5_digest 120 = .ok (.aaload, 1) := by decide +kernel
theorem dX5_digest_121 : decode cX5_digest 121 = .ok (.lload_n 1, 1) := by decide +kernel
theorem dX5_digest_122 : decode cX5_digest 122 = .ok (.invokevirtual 296, 3) := by decide +kernel
theorem dX5_digest_125 : decode cX5_digest 125 = .ok (.lstore_n 1, 1) := by decide +kernel
theorem dX5_digest_126 : decode cX5_digest 126 = .ok (.iinc 3 1, 3) := by decide +kernel
theorem dX5_digest_129 : decode cX5_digest 129 = .ok (.goto (-53), 3) := by decide +kernel
theorem dX5_digest_132 : decode cX5_digest 132 = .ok (.iconst 0, 1) := by decide +kernel
theorem dX5_digest_133 : decode cX5_digest 133 = .ok (.istore_n 3, 1) := by decide +kernel
theorem dX5_digest_134 : decode cX5_digest 134 = .ok (.iload_n 3, 1) := by decide +kernel
theorem dX5_digest_135 : decode cX5_digest 135 = .ok (.aload_n 0, 1) := by decide +kernel
theorem dX5_digest_136 : decode cX5_digest 136 = .ok (.getfield 133, 3) := by decide +kernel
theorem dX5_digest_139 : decode cX5_digest 139 = .ok (.if_icmp .ge 39, 3) := by decide +kernel
theorem dX5_digest_142 : decode cX5_digest 142 = .ok (.iconst 0, 1) := by decide +kernel
theorem dX5_digest_143 : decode cX5_digest 143 = .ok (.istore 4, 2) := by decide +kernel
theorem dX5_digest_145 : decode cX5_digest 145 = .ok (.iload 4, 2) := by decide +kernel
theorem dX5_digest_147 : decode cX5_digest 147 = .ok (.iconst 5, 1) := by decide +kernel
theorem dX5_digest_148 : decode cX5_digest 148 = .ok (.if_icmp .ge 24, 3) := by decide +kernel
theorem dX5_digest_151 : decode cX5_digest 151 = .ok (.lload_n 1, 1) := by decide +kernel
theorem dX5_digest_152 : decode cX5_digest 152 = .ok (.ldc2_w 281, 3) := by decide +kernel
theorem dX5_digest_155 : decode cX5_digest 155 = .ok (.lmul, 1) := by decide +kernel
theorem dX5_digest_156 : decode cX5_digest 156 = .ok (.aload_n 0, 1) := by decide +kernel
theorem dX5_digest_157 : decode cX5_digest 157 = .ok (.iload_n 3, 1) := by decide +kernel
theorem dX5_digest_158 : decode cX5_digest 158 = .ok (.iload 4, 2) := by decide +kernel
theorem dX5_digest_160 : decode cX5_digest 160 = .ok (.invokevirtual 299, 3) := by decide +kernel
theorem dX5_digest_163 : decode cX5_digest 163 = .ok (.i2l, 1) := by decide +kernel
theorem dX5_digest_164 : decode cX5_digest 164 = .ok (.ladd, 1) := by decide +kernel
theorem dX5_digest_165 : decode cX5_digest 165 = .ok (.lstore_n 1, 1) := by decide +kernel
theorem dX5_digest_166 : decode cX5_digest 166 = .ok (.iinc 4 1, 3) := by decide +kernel
theorem dX5_digest_169 : decode cX5_digest 169 = .ok (.goto (-24), 3) := by decide +kernel
theorem dX5_digest_172 : decode cX5_digest 172 = .ok (.iinc 3 1, 3) := by decide +kernel
theorem dX5_digest_175 : decode cX5_digest 175 = .ok (.goto (-41), 3) := by decide +kernel
theorem dX5_digest_178 : decode cX5_digest 178 = .ok (.lload_n 1, 1) := by decide +kernel
theorem dX5_digest_179 : decode cX5_digest 179 = .ok (.lreturn, 1) := by decide +kernel
theorem dX5_isWithin_0 : decode cX5_isWithin 0 = .ok (.iload_n 0, 1) := by decide +kernel
theorem dX5_isWithin_1 : decode cX5_isWithin 1 = .ok (.iload_n 1, 1) := by decide +kernel
theorem dX5_isWithin_2 : decode cX5_isWithin 2 = .ok (.if_icmp .lt 12, 3) := by decide +kernel
theorem dX5_isWithin_5 : decode cX5_isWithin 5 = .ok (.iload_n 0, 1) := by decide +kernel
theorem dX5_isWithin_6 : decode cX5_isWithin 6 = .ok (.iload_n 2, 1) := by decide +kernel
theorem dX5_isWithin_7 : decode cX5_isWithin 7 = .ok (.if_icmp .gt 7, 3) := by decide +kernel
theorem dX5_isWithin_10 : decode cX5_isWithin 10 = .ok (.iconst 1, 1) := by decide +kernel
theorem dX5_isWithin_11 : decode cX5_isWithin 11 = .ok (.goto 4, 3) := by decide +kernel
theorem dX5_isWithin_14 : decode cX5_isWithin 14 = .ok (.iconst 0, 1) := by decide +kernel
theorem dX5_isWithin_15 : decode cX5_isWithin 15 = .ok (.ireturn, 1) := by decide +kernel
theorem dX5_isMast_0 : decode cX5_isMast 0 = .ok (.iload_n 1, 1) := by decide +kernel
theorem dX5_isMast_1 : decode cX5_isMast 1 = .ok (.ifCond .lt 15, 3) := by decide +kernel
theorem dX5_isMast_4 : decode cX5_isMast 4 = .ok (.iload_n 1, 1) := by decide +kernel
theorem dX5_isMast_5 : decode cX5_isMast 5 = .ok (.aload_n 0, 1) := by decide +kernel
theorem dX5_isMast_6 : decode cX5_isMast 6 = .ok (.getfield 89, 3) := by decide +kernel
theorem dX5_isMast_9 : decode cX5_isMast 9 = .ok (.if_icmp .ge 7, 3) := by decide +kernel
theorem dX5_isMast_12 : decode cX5_isMast 12 = .ok (.iconst 1, 1) := by decide +kernel
theorem dX5_isMast_13 : decode cX5_isMast 13 = .ok (.goto 4, 3) := by decide +kernel
theorem dX5_isMast_16 : decode cX5_isMast 16 = .ok (.iconst 0, 1) := by decide +kernel
theorem dX5_isMast_17 : decode cX5_isMast 17 = .ok (.ireturn, 1) := by decide +kernel
theorem dX5_isThread_0 : decode cX5_isThread 0 = .ok (.iload_n 1, 1) := by decide +kernel
theorem dX5_isThread_1 : decode cX5_isThread 1 = .ok (.ifCond .lt 15, 3) := by decide +kernel
theorem dX5_isThread_4 : decode cX5_isThread 4 = .ok (.iload_n 1, 1) := by decide +kernel
theorem dX5_isThread_5 : decode cX5_isThread 5 = .ok (.aload_n 0, 1) := by decide +kernel
theorem dX5_isThread_6 : decode cX5_isThread 6 = .ok (.getfield 133, 3) := by decide +kernel
theorem dX5_isThread_9 : decode cX5_isThread 9 = .ok (.if_icmp .ge 7, 3) := by decide +kernel
theorem dX5_isThread_12 : decode cX5_isThread 12 = .ok (.iconst 1, 1) := by decide +kernel
theorem dX5_isThread_13 : decode cX5_isThread 13 = .ok (.goto 4, 3) := by decide +kernel
theorem dX5_isThread_16 : decode cX5_isThread 16 = .ok (.iconst 0, 1) := by decide +kernel
theorem dX5_isThread_17 : decode cX5_isThread 17 = .ok (.ireturn, 1) := by decide +kernel
theorem dX5_hasMastAt_0 : decode cX5_hasMastAt 0 = .ok (.iconst 0, 1) := by decide +kernel
theorem dX5_hasMastAt_1 : decode cX5_hasMastAt 1 = .ok (.istore_n 2, 1) := by decide +kernel
theorem dX5_hasMastAt_2 : decode cX5_hasMastAt 2 = .ok (.iload_n 2, 1) := by decide +kernel
theorem dX5_hasMastAt_3 : decode cX5_hasMastAt 3 = .ok (.aload_n 0, 1) := by decide +kernel
theorem dX5_hasMastAt_4 : decode cX5_hasMastAt 4 = .ok (.getfield 89, 3) := by decide +kernel
theorem dX5_hasMastAt_7 : decode cX5_hasMastAt 7 = .ok (.if_icmp .ge 24, 3) := by decide +kernel
theorem dX5_hasMastAt_10 : decode cX5_hasMastAt 10 = .ok (.aload_n 0, 1) := by decide +kernel
theorem dX5_hasMastAt_11 : decode cX5_hasMastAt 11 = .ok (.getfield 25, 3) := by decide +kernel
theorem dX5_hasMastAt_14 : decode cX5_hasMastAt 14 = .ok (.iload_n 2, 1) := by decide +kernel
theorem dX5_hasMastAt_15 : decode cX5_hasMastAt 15 = .ok (.aaload, 1) := by decide +kernel
theorem dX5_hasMastAt_16 : decode cX5_hasMastAt 16 = .ok (.getfield 109, 3) := by decide +kernel
theorem dX5_hasMastAt_19 : decode cX5_hasMastAt 19 = .ok (.iload_n 1, 1) := by decide +kernel
theorem dX5_hasMastAt_20 : decode cX5_hasMastAt 20 = .ok (.if_icmp .ne 5, 3) := by decide +kernel
theorem dX5_hasMastAt_23 : decode cX5_hasMastAt 23 = .ok (.iconst 1, 1) := by decide +kernel
theorem dX5_hasMastAt_24 : decode cX5_hasMastAt 24 = .ok (.ireturn, 1) := by decide +kernel
theorem dX5_hasMastAt_25 : decode cX5_hasMastAt 25 = .ok (.iinc 2 1, 3) := by decide +kernel
theorem dX5_hasMastAt_28 : decode cX5_hasMastAt 28 = .ok (.goto (-26), 3) := by decide +kernel
theorem dX5_hasMastAt_31 : decode cX5_hasMastAt 31 = .ok (.iconst 0, 1) := by decide +kernel
theorem dX5_hasMastAt_32 : decode cX5_hasMastAt 32 = .ok (.ireturn, 1) := by decide +kernel
theorem dX5_mastsLeaning_0 : decode cX5_mastsLeaning 0 = .ok (.iconst 0, 1) := by decide +kernel
theorem dX5_mastsLeaning_1 : decode cX5_mastsLeaning 1 = .ok (.istore_n 2, 1) := by decide +kernel
theorem dX5_mastsLeaning_2 : decode cX5_mastsLeaning 2 = .ok (.iconst 0, 1) := by decide +kernel
theorem dX5_mastsLeaning_3 : decode cX5_mastsLeaning 3 = .ok (.istore_n 3, 1) := by decide +kernel
theorem dX5_mastsLeaning_4 : decode cX5_mastsLeaning 4 = .ok (.iload_n 3, 1) := by decide +kernel
theorem dX5_mastsLeaning_5 : decode cX5_mastsLeaning 5 = .ok (.aload_n 0, 1) := by decide +kernel
theorem dX5_mastsLeaning_6 : decode cX5_mastsLeaning 6 = .ok (.getfield 89, 3) := by decide +kernel
theorem dX5_mastsLeaning_9 : decode cX5_mastsLeaning 9 = .ok (.if_icmp .ge 22, 3) := by decide +kernel
theorem dX5_mastsLeaning_12 : decode cX5_mastsLeaning 12 = .ok (.aload_n 0, 1) := by decide +kernel
theorem dX5_mastsLeaning_13 : decode cX5_mastsLeaning 13 = .ok (.getfield 42, 3) := by decide +kernel
theorem dX5_mastsLeaning_16 : decode cX5_mastsLeaning 16 = .ok (.iload_n 3, 1) := by decide +kernel
theorem dX5_mastsLeaning_17 : decode cX5_mastsLeaning 17 = .ok (.iaload, 1) := by decide +kernel
theorem dX5_mastsLeaning_18 : decode cX5_mastsLeaning 18 = .ok (.iload_n 1, 1) := by decide +kernel
theorem dX5_mastsLeaning_19 : decode cX5_mastsLeaning 19 = .ok (.if_icmp .ne 6, 3) := by decide +kernel
theorem dX5_mastsLeaning_22 : decode cX5_mastsLeaning 22 = .ok (.iinc 2 1, 3) := by decide +kernel
theorem dX5_mastsLeaning_25 : decode cX5_mastsLeaning 25 = .ok (.iinc 3 1, 3) := by decide +kernel
theorem dX5_mastsLeaning_28 : decode cX5_mastsLeaning 28 = .ok (.goto (-24), 3) := by decide +kernel
theorem dX5_mastsLeaning_31 : decode cX5_mastsLeaning 31 = .ok (.iload_n 2, 1) := by decide +kernel
theorem dX5_mastsLeaning_32 : decode cX5_mastsLeaning 32 = .ok (.ireturn, 1) := by decide +kernel
theorem dX5_threadsThatAre_0 : decode cX5_threadsThatAre 0 = .ok (.iconst 0, 1) := by decide +kernel
theorem dX5_threadsThatAre_1 : decode cX5_threadsThatAre 1 = .ok (.istore_n 2, 1) := by decide +kernel
theorem dX5_threadsThatAre_2 : decode cX5_threadsThatAre 2 = .ok (.iconst 0, 1) := by decide +kernel
theorem dX5_threadsThatAre_3 : decode cX5_threadsThatAre 3 = .ok (.istore_n 3, 1) := by decide +kernel
theorem dX5_threadsThatAre_4 : decode cX5_threadsThatAre 4 = .ok (.iload_n 3, 1) := by decide +kernel
theorem dX5_threadsThatAre_5 : decode cX5_threadsThatAre 5 = .ok (.aload_n 0, 1) := by decide +kernel
theorem dX5_threadsThatAre_6 : decode cX5_threadsThatAre 6 = .ok (.getfield 133, 3) := by decide +kernel
theorem dX5_threadsThatAre_9 : decode cX5_threadsThatAre 9 = .ok (.if_icmp .ge 25, 3) := by decide +kernel
theorem dX5_threadsThatAre_12 : decode cX5_threadsThatAre 12 = .ok (.aload_n 0, 1) := by decide +kernel
theorem dX5_threadsThatAre_13 : decode cX5_threadsThatAre 13 = .ok (.getfield 31, 3) := by decide +kernel
theorem dX5_threadsThatAre_16 : decode cX5_threadsThatAre 16 = .ok (.iload_n 3, 1) := by decide +kernel
theorem dX5_threadsThatAre_17 : decode cX5_threadsThatAre 17 = .ok (.aaload, 1) := by decide +kernel
theorem dX5_threadsThatAre_18 : decode cX5_threadsThatAre 18 = .ok (.getfield 164, 3) := by decide +kernel
theorem dX5_threadsThatAre_21 : decode cX5_threadsThatAre 21 = .ok (.iload_n 1, 1) := by decide +kernel
theorem dX5_threadsThatAre_22 : decode cX5_threadsThatAre 22 = .ok (.if_icmp .ne 6, 3) := by decide +kernel
theorem dX5_threadsThatAre_25 : decode cX5_threadsThatAre 25 = .ok (.iinc 2 1, 3) := by decide +kernel
theorem dX5_threadsThatAre_28 : decode cX5_threadsThatAre 28 = .ok (.iinc 3 1, 3) := by decide +kernel
theorem dX5_threadsThatAre_31 : decode cX5_threadsThatAre 31 = .ok (.goto (-27), 3) := by decide +kernel
theorem dX5_threadsThatAre_34 : decode cX5_threadsThatAre 34 = .ok (.iload_n 2, 1) := by decide +kernel
theorem dX5_threadsThatAre_35 : decode cX5_threadsThatAre 35 = .ok (.ireturn, 1) := by decide +kernel
theorem dX5_threadsFrom_0 : decode cX5_threadsFrom 0 = .ok (.iconst 0, 1) := by decide +kernel
theorem dX5_threadsFrom_1 : decode cX5_threadsFrom 1 = .ok (.istore_n 3, 1) := by decide +kernel
theorem dX5_threadsFrom_2 : decode cX5_threadsFrom 2 = .ok (.iconst 0, 1) := by decide +kernel
theorem dX5_threadsFrom_3 : decode cX5_threadsFrom 3 = .ok (.istore 4, 2) := by decide +kernel
theorem dX5_threadsFrom_5 : decode cX5_threadsFrom 5 = .ok (.iload 4, 2) := by decide +kernel
theorem dX5_threadsFrom_7 : decode cX5_threadsFrom 7 = .ok (.aload_n 0, 1) := by decide +kernel
theorem dX5_threadsFrom_8 : decode cX5_threadsFrom 8 = .ok (.getfield 133, 3) := by decide +kernel
theorem dX5_threadsFrom_11 : decode cX5_threadsFrom 11 = .ok (.if_icmp .ge 40, 3) := by decide +kernel
theorem dX5_threadsFrom_14 : decode cX5_threadsFrom 14 = .ok (.aload_n 0, 1) := by decide +kernel
theorem dX5_threadsFrom_15 : decode cX5_threadsFrom 15 = .ok (.getfield 31, 3) := by decide +kernel
theorem dX5_threadsFrom_18 : decode cX5_threadsFrom 18 = .ok (.iload 4, 2) := by decide +kernel
theorem dX5_threadsFrom_20 : decode cX5_threadsFrom 20 = .ok (.aaload, 1) := by decide +kernel
theorem dX5_threadsFrom_21 : decode cX5_threadsFrom 21 = .ok (.getfield 138, 3) := by decide +kernel
theorem dX5_threadsFrom_24 : decode cX5_threadsFrom 24 = .ok (.iload_n 1, 1) := by decide +kernel
theorem dX5_threadsFrom_25 : decode cX5_threadsFrom 25 = .ok (.if_icmp .ne 20, 3) := by decide +kernel
theorem dX5_threadsFrom_28 : decode cX5_threadsFrom 28 = .ok (.aload_n 0, 1) := by decide +kernel
theorem dX5_threadsFrom_29 : decode cX5_threadsFrom 29 = .ok (.getfield 31, 3) := by decide +kernel
theorem dX5_threadsFrom_32 : decode cX5_threadsFrom 32 = .ok (.iload 4, 2) := by decide +kernel
theorem dX5_threadsFrom_34 : decode cX5_threadsFrom 34 = .ok (.aaload, 1) := by decide +kernel
theorem dX5_threadsFrom_35 : decode cX5_threadsFrom 35 = .ok (.getfield 164, 3) := by decide +kernel
theorem dX5_threadsFrom_38 : decode cX5_threadsFrom 38 = .ok (.iload_n 2, 1) := by decide +kernel
theorem dX5_threadsFrom_39 : decode cX5_threadsFrom 39 = .ok (.if_icmp .ne 6, 3) := by decide +kernel
theorem dX5_threadsFrom_42 : decode cX5_threadsFrom 42 = .ok (.iinc 3 1, 3) := by decide +kernel
theorem dX5_threadsFrom_45 : decode cX5_threadsFrom 45 = .ok (.iinc 4 1, 3) := by decide +kernel
theorem dX5_threadsFrom_48 : decode cX5_threadsFrom 48 = .ok (.goto (-43), 3) := by decide +kernel
theorem dX5_threadsFrom_51 : decode cX5_threadsFrom 51 = .ok (.iload_n 3, 1) := by decide +kernel
theorem dX5_threadsFrom_52 : decode cX5_threadsFrom 52 = .ok (.ireturn, 1) := by decide +kernel
set_option maxRecDepth 20000 in
theorem ggX5_isHeld_X5_threadsFrom : GoodIn wsX5_isHeld wsX5_threadsFrom := goodIn_r _ [5, 6, 7, 8, 9, 10, 11, 12, 13, 14, 15, 16, 17, 18, 19, 20, 21, 22, 23, 24, 25, 26, 27, 28, 29] (by decide +kernel) (by decide +kernel)
set_option maxRecDepth 20000 in
theorem gX5_isHeld_X5_threadsFrom : GoodIn wsX5_isHeld (wsV RX5 302 RX5 yX5_threadsFrom wsX5_threadsFrom) := goodIn_app (goodIn_of _ (by decide +kernel)) ggX5_isHeld_X5_threadsFrom
theorem dX5_isHeld_0 : decode cX5_isHeld 0 = .ok (.aload_n 0, 1) := by decide +kernel
theorem dX5_isHeld_1 : decode cX5_isHeld 1 = .ok (.iload_n 1, 1) := by decide +kernel
theorem dX5_isHeld_2 : decode cX5_isHeld 2 = .ok (.iconst 1, 1) := by decide +kernel
theorem dX5_isHeld_3 : decode cX5_isHeld 3 = .ok (.invokevirtual 302, 3) := by decide +kernel
theorem dX5_isHeld_6 : decode cX5_isHeld 6 = .ok (.ifCond .le 7, 3) := by decide +kernel
theorem dX5_isHeld_9 : decode cX5_isHeld 9 = .ok (.iconst 1, 1) := by decide +kernel
theorem dX5_isHeld_10 : decode cX5_isHeld 10 = .ok (.goto 4, 3) := by decide +kernel
theorem dX5_isHeld_13 : decode cX5_isHeld 13 = .ok (.iconst 0, 1) := by decide +kernel
theorem dX5_isHeld_14 : decode cX5_isHeld 14 = .ok (.ireturn, 1) := by decide +kernel
set_option maxRecDepth 20000 in
theorem ggX5_looseThreadsFrom_X5_threadsFrom : GoodIn wsX5_looseThreadsFrom wsX5_threadsFrom := goodIn_r _ [5, 6, 7, 8, 9, 10, 11, 12, 13, 14, 15, 16, 17, 18, 19, 20, 21, 22, 23, 24, 25, 26, 27, 28, 29] (by decide +kernel) (by decide +kernel)
set_option maxRecDepth 20000 in
theorem gX5_looseThreadsFrom_X5_threadsFrom : GoodIn wsX5_looseThreadsFrom (wsV RX5 302 RX5 yX5_threadsFrom wsX5_threadsFrom) := goodIn_app (goodIn_of _ (by decide +kernel)) ggX5_looseThreadsFrom_X5_threadsFrom
theorem dX5_looseThreadsFrom_0 : decode cX5_looseThreadsFrom 0 = .ok (.aload_n 0, 1) := by decide +kernel
theorem dX5_looseThreadsFrom_1 : decode cX5_looseThreadsFrom 1 = .ok (.iload_n 1, 1) := by decide +kernel
theorem dX5_looseThreadsFrom_2 : decode cX5_looseThreadsFrom 2 = .ok (.iconst 0, 1) := by decide +kernel
theorem dX5_looseThreadsFrom_3 : decode cX5_looseThreadsFrom 3 = .ok (.invokevirtual 302, 3) := by decide +kernel
theorem dX5_looseThreadsFrom_6 : decode cX5_looseThreadsFrom 6 = .ok (.ireturn, 1) := by decide +kernel
set_option maxRecDepth 20000 in
theorem ggX5_crossingsOf_X1_crosses : GoodIn wsX5_crossingsOf wsX1_crosses := goodIn_r _ [7, 8, 9, 10, 11, 12, 13, 14, 15, 16, 17, 32, 33, 34, 35, 36, 37] (by decide +kernel) (by decide +kernel)
set_option maxRecDepth 20000 in
theorem gX5_crossingsOf_X1_crosses : GoodIn wsX5_crossingsOf (wsV RX5 198 RX1 yX1_crosses wsX1_crosses) := goodIn_app (goodIn_of _ (by decide +kernel)) ggX5_crossingsOf_X1_crosses
theorem dX5_crossingsOf_0 : decode cX5_crossingsOf 0 = .ok (.iconst 0, 1) := by decide +kernel
theorem dX5_crossingsOf_1 : decode cX5_crossingsOf 1 = .ok (.istore_n 2, 1) := by decide +kernel
theorem dX5_crossingsOf_2 : decode cX5_crossingsOf 2 = .ok (.iconst 0, 1) := by decide +kernel
theorem dX5_crossingsOf_3 : decode cX5_crossingsOf 3 = .ok (.istore_n 3, 1) := by decide +kernel
theorem dX5_crossingsOf_4 : decode cX5_crossingsOf 4 = .ok (.iload_n 3, 1) := by decide +kernel
theorem dX5_crossingsOf_5 : decode cX5_crossingsOf 5 = .ok (.aload_n 0, 1) := by decide +kernel
theorem dX5_crossingsOf_6 : decode cX5_crossingsOf 6 = .ok (.getfield 133, 3) := by decide +kernel
theorem dX5_crossingsOf_9 : decode cX5_crossingsOf 9 = .ok (.if_icmp .ge 25, 3) := by decide +kernel
theorem dX5_crossingsOf_12 : decode cX5_crossingsOf 12 = .ok (.aload_n 1, 1) := by decide +kernel
theorem dX5_crossingsOf_13 : decode cX5_crossingsOf 13 = .ok (.aload_n 0, 1) := by decide +kernel
theorem dX5_crossingsOf_14 : decode cX5_crossingsOf 14 = .ok (.getfield 31, 3) := by decide +kernel
theorem dX5_crossingsOf_17 : decode cX5_crossingsOf 17 = .ok (.iload_n 3, 1) := by decide +kernel
theorem dX5_crossingsOf_18 : decode cX5_crossingsOf 18 = .ok (.aaload, 1) := by decide +kernel
theorem dX5_crossingsOf_19 : decode cX5_crossingsOf 19 = .ok (.invokevirtual 198, 3) := by decide +kernel
theorem dX5_crossingsOf_22 : decode cX5_crossingsOf 22 = .ok (.ifCond .eq 6, 3) := by decide +kernel
theorem dX5_crossingsOf_25 : decode cX5_crossingsOf 25 = .ok (.iinc 2 1, 3) := by decide +kernel
theorem dX5_crossingsOf_28 : decode cX5_crossingsOf 28 = .ok (.iinc 3 1, 3) := by decide +kernel
theorem dX5_crossingsOf_31 : decode cX5_crossingsOf 31 = .ok (.goto (-27), 3) := by decide +kernel
theorem dX5_crossingsOf_34 : decode cX5_crossingsOf 34 = .ok (.iload_n 2, 1) := by decide +kernel
theorem dX5_crossingsOf_35 : decode cX5_crossingsOf 35 = .ok (.ireturn, 1) := by decide +kernel
set_option maxRecDepth 20000 in
theorem ggX5_isCrossedByStronger_X1_crosses : GoodIn wsX5_isCrossedByStronger wsX1_crosses := goodIn_r _ [9, 10, 11, 12, 13, 14, 15, 16, 17, 18, 19, 34, 35, 36, 37, 38, 39] (by decide +kernel) (by decide +kernel)
set_option maxRecDepth 20000 in
theorem gX5_isCrossedByStronger_X1_crosses : GoodIn wsX5_isCrossedByStronger (wsV RX5 198 RX1 yX1_crosses wsX1_crosses) := goodIn_app (goodIn_of _ (by decide +kernel)) ggX5_isCrossedByStronger_X1_crosses
theorem dX5_isCrossedByStronger_0 : decode cX5_isCrossedByStronger 0 = .ok (.iconst 0, 1) := by decide +kernel
theorem dX5_isCrossedByStronger_1 : decode cX5_isCrossedByStronger 1 = .ok (.istore_n 2, 1) := by decide +kernel
theorem dX5_isCrossedByStronger_2 : decode cX5_isCrossedByStronger 2 = .ok (.iload_n 2, 1) := by decide +kernel
theorem dX5_isCrossedByStronger_3 : decode cX5_isCrossedByStronger 3 = .ok (.aload_n 0, 1) := by decide +kernel
theorem dX5_isCrossedByStronger_4 : decode cX5_isCrossedByStronger 4 = .ok (.getfield 133, 3) := by decide +kernel
theorem dX5_isCrossedByStronger_7 : decode cX5_isCrossedByStronger 7 = .ok (.if_icmp .ge 44, 3) := by decide +kernel
theorem dX5_isCrossedByStronger_10 : decode cX5_isCrossedByStronger 10 = .ok (.aload_n 0, 1) := by decide +kernel
theorem dX5_isCrossedByStronger_11 : decode cX5_isCrossedByStronger 11 = .ok (.getfield 31, 3) := by decide +kernel
theorem dX5_isCrossedByStronger_14 : decode cX5_isCrossedByStronger 14 = .ok (.iload_n 2, 1) := by decide +kernel
theorem dX5_isCrossedByStronger_15 : decode cX5_isCrossedByStronger 15 = .ok (.aaload, 1) := by decide +kernel
theorem dX5_isCrossedByStronger_16 : decode cX5_isCrossedByStronger 16 = .ok (.astore_n 3, 1) := by decide +kernel
theorem dX5_isCrossedByStronger_17 : decode cX5_isCrossedByStronger 17 = .ok (.aload_n 3, 1) := by decide +kernel
theorem dX5_isCrossedByStronger_18 : decode cX5_isCrossedByStronger 18 = .ok (.getfield 164, 3) := by decide +kernel
theorem dX5_isCrossedByStronger_21 : decode cX5_isCrossedByStronger 21 = .ok (.ifCond .ne 24, 3) := by decide +kernel
theorem dX5_isCrossedByStronger_24 : decode cX5_isCrossedByStronger 24 = .ok (.aload_n 3, 1) := by decide +kernel
theorem dX5_isCrossedByStronger_25 : decode cX5_isCrossedByStronger 25 = .ok (.getfield 144, 3) := by decide +kernel
theorem dX5_isCrossedByStronger_28 : decode cX5_isCrossedByStronger 28 = .ok (.aload_n 1, 1) := by decide +kernel
theorem dX5_isCrossedByStronger_29 : decode cX5_isCrossedByStronger 29 = .ok (.getfield 144, 3) := by decide +kernel
theorem dX5_isCrossedByStronger_32 : decode cX5_isCrossedByStronger 32 = .ok (.if_icmp .le 13, 3) := by decide +kernel
theorem dX5_isCrossedByStronger_35 : decode cX5_isCrossedByStronger 35 = .ok (.aload_n 1, 1) := by decide +kernel
theorem dX5_isCrossedByStronger_36 : decode cX5_isCrossedByStronger 36 = .ok (.aload_n 3, 1) := by decide +kernel
theorem dX5_isCrossedByStronger_37 : decode cX5_isCrossedByStronger 37 = .ok (.invokevirtual 198, 3) := by decide +kernel
theorem dX5_isCrossedByStronger_40 : decode cX5_isCrossedByStronger 40 = .ok (.ifCond .eq 5, 3) := by decide +kernel
theorem dX5_isCrossedByStronger_43 : decode cX5_isCrossedByStronger 43 = .ok (.iconst 1, 1) := by decide +kernel
theorem dX5_isCrossedByStronger_44 : decode cX5_isCrossedByStronger 44 = .ok (.ireturn, 1) := by decide +kernel
theorem dX5_isCrossedByStronger_45 : decode cX5_isCrossedByStronger 45 = .ok (.iinc 2 1, 3) := by decide +kernel
theorem dX5_isCrossedByStronger_48 : decode cX5_isCrossedByStronger 48 = .ok (.goto (-46), 3) := by decide +kernel
theorem dX5_isCrossedByStronger_51 : decode cX5_isCrossedByStronger 51 = .ok (.iconst 0, 1) := by decide +kernel
theorem dX5_isCrossedByStronger_52 : decode cX5_isCrossedByStronger 52 = .ok (.ireturn, 1) := by decide +kernel
set_option maxRecDepth 20000 in
theorem ggX5_breadth_X3_widestYard : GoodIn wsX5_breadth wsX3_widestYard := goodIn_r _ [14, 15, 16, 17, 7, 8, 9, 35, 36, 37, 38] (by decide +kernel) (by decide +kernel)
set_option maxRecDepth 20000 in
theorem gX5_breadth_X3_widestYard : GoodIn wsX5_breadth (wsV RX5 305 RX3 yX3_widestYard wsX3_widestYard) := goodIn_app (goodIn_of _ (by decide +kernel)) ggX5_breadth_X3_widestYard
theorem dX5_breadth_0 : decode cX5_breadth 0 = .ok (.aload_n 0, 1) := by decide +kernel
theorem dX5_breadth_1 : decode cX5_breadth 1 = .ok (.getfield 19, 3) := by decide +kernel
theorem dX5_breadth_4 : decode cX5_breadth 4 = .ok (.getfield 98, 3) := by decide +kernel
theorem dX5_breadth_7 : decode cX5_breadth 7 = .ok (.istore_n 1, 1) := by decide +kernel
theorem dX5_breadth_8 : decode cX5_breadth 8 = .ok (.iconst 0, 1) := by decide +kernel
theorem dX5_breadth_9 : decode cX5_breadth 9 = .ok (.istore_n 2, 1) := by decide +kernel
theorem dX5_breadth_10 : decode cX5_breadth 10 = .ok (.iload_n 2, 1) := by decide +kernel
theorem dX5_breadth_11 : decode cX5_breadth 11 = .ok (.aload_n 0, 1) := by decide +kernel
theorem dX5_breadth_12 : decode cX5_breadth 12 = .ok (.getfield 89, 3) := by decide +kernel
theorem dX5_breadth_15 : decode cX5_breadth 15 = .ok (.if_icmp .ge 34, 3) := by decide +kernel
theorem dX5_breadth_18 : decode cX5_breadth 18 = .ok (.aload_n 0, 1) := by decide +kernel
theorem dX5_breadth_19 : decode cX5_breadth 19 = .ok (.getfield 42, 3) := by decide +kernel
theorem dX5_breadth_22 : decode cX5_breadth 22 = .ok (.iload_n 2, 1) := by decide +kernel
theorem dX5_breadth_23 : decode cX5_breadth 23 = .ok (.iaload, 1) := by decide +kernel
theorem dX5_breadth_24 : decode cX5_breadth 24 = .ok (.bipush 9, 2) := by decide +kernel
theorem dX5_breadth_26 : decode cX5_breadth 26 = .ok (.if_icmp .eq 17, 3) := by decide +kernel
theorem dX5_breadth_29 : decode cX5_breadth 29 = .ok (.iload_n 1, 1) := by decide +kernel
theorem dX5_breadth_30 : decode cX5_breadth 30 = .ok (.aload_n 0, 1) := by decide +kernel
theorem dX5_breadth_31 : decode cX5_breadth 31 = .ok (.getfield 25, 3) := by decide +kernel
theorem dX5_breadth_34 : decode cX5_breadth 34 = .ok (.iload_n 2, 1) := by decide +kernel
theorem dX5_breadth_35 : decode cX5_breadth 35 = .ok (.aaload, 1) := by decide +kernel
theorem dX5_breadth_36 : decode cX5_breadth 36 = .ok (.invokevirtual 305, 3) := by decide +kernel
theorem dX5_breadth_39 : decode cX5_breadth 39 = .ok (.invokestatic 276, 3) := by decide +kernel
theorem dX5_breadth_42 : decode cX5_breadth 42 = .ok (.istore_n 1, 1) := by decide +kernel
theorem dX5_breadth_43 : decode cX5_breadth 43 = .ok (.iinc 2 1, 3) := by decide +kernel
theorem dX5_breadth_46 : decode cX5_breadth 46 = .ok (.goto (-36), 3) := by decide +kernel
theorem dX5_breadth_49 : decode cX5_breadth 49 = .ok (.iload_n 1, 1) := by decide +kernel
theorem dX5_breadth_50 : decode cX5_breadth 50 = .ok (.ireturn, 1) := by decide +kernel
set_option maxRecDepth 20000 in
theorem ggX5_topWith_X3_standing : GoodIn wsX5_topWith wsX3_standing := goodIn_r _ [13, 14, 32, 33, 34, 35] (by decide +kernel) (by decide +kernel)
set_option maxRecDepth 20000 in
theorem gX5_topWith_X3_standing : GoodIn wsX5_topWith (wsV RX5 202 RX3 yX3_standing wsX3_standing) := goodIn_app (goodIn_of _ (by decide +kernel)) ggX5_topWith_X3_standing
theorem dX5_topWith_0 : decode cX5_topWith 0 = .ok (.iconst 0, 1) := by decide +kernel
theorem dX5_topWith_1 : decode cX5_topWith 1 = .ok (.istore_n 2, 1) := by decide +kernel
theorem dX5_topWith_2 : decode cX5_topWith 2 = .ok (.iconst 0, 1) := by decide +kernel
theorem dX5_topWith_3 : decode cX5_topWith 3 = .ok (.istore_n 3, 1) := by decide +kernel
theorem dX5_topWith_4 : decode cX5_topWith 4 = .ok (.iload_n 3, 1) := by decide +kernel
theorem dX5_topWith_5 : decode cX5_topWith 5 = .ok (.aload_n 0, 1) := by decide +kernel
theorem dX5_topWith_6 : decode cX5_topWith 6 = .ok (.getfield 89, 3) := by decide +kernel
theorem dX5_topWith_9 : decode cX5_topWith 9 = .ok (.if_icmp .ge 26, 3) := by decide +kernel
theorem dX5_topWith_12 : decode cX5_topWith 12 = .ok (.iload_n 2, 1) := by decide +kernel
theorem dX5_topWith_13 : decode cX5_topWith 13 = .ok (.aload_n 0, 1) := by decide +kernel
theorem dX5_topWith_14 : decode cX5_topWith 14 = .ok (.getfield 25, 3) := by decide +kernel
theorem dX5_topWith_17 : decode cX5_topWith 17 = .ok (.iload_n 3, 1) := by decide +kernel
theorem dX5_topWith_18 : decode cX5_topWith 18 = .ok (.aaload, 1) := by decide +kernel
theorem dX5_topWith_19 : decode cX5_topWith 19 = .ok (.aload_n 1, 1) := by decide +kernel
theorem dX5_topWith_20 : decode cX5_topWith 20 = .ok (.iload_n 3, 1) := by decide +kernel
theorem dX5_topWith_21 : decode cX5_topWith 21 = .ok (.iaload, 1) := by decide +kernel
theorem dX5_topWith_22 : decode cX5_topWith 22 = .ok (.invokevirtual 202, 3) := by decide +kernel
theorem dX5_topWith_25 : decode cX5_topWith 25 = .ok (.invokestatic 276, 3) := by decide +kernel
theorem dX5_topWith_28 : decode cX5_topWith 28 = .ok (.istore_n 2, 1) := by decide +kernel
theorem dX5_topWith_29 : decode cX5_topWith 29 = .ok (.iinc 3 1, 3) := by decide +kernel
theorem dX5_topWith_32 : decode cX5_topWith 32 = .ok (.goto (-28), 3) := by decide +kernel
theorem dX5_topWith_35 : decode cX5_topWith 35 = .ok (.aload_n 0, 1) := by decide +kernel
theorem dX5_topWith_36 : decode cX5_topWith 36 = .ok (.getfield 19, 3) := by decide +kernel
theorem dX5_topWith_39 : decode cX5_topWith 39 = .ok (.getfield 95, 3) := by decide +kernel
theorem dX5_topWith_42 : decode cX5_topWith 42 = .ok (.iload_n 2, 1) := by decide +kernel
theorem dX5_topWith_43 : decode cX5_topWith 43 = .ok (.iadd, 1) := by decide +kernel
theorem dX5_topWith_44 : decode cX5_topWith 44 = .ok (.ireturn, 1) := by decide +kernel
set_option maxRecDepth 20000 in
theorem ggX5_endWith_X3_reach : GoodIn wsX5_endWith wsX3_reach := goodIn_r _ [14, 15, 33, 34, 35, 36] (by decide +kernel) (by decide +kernel)
set_option maxRecDepth 20000 in
theorem gX5_endWith_X3_reach : GoodIn wsX5_endWith (wsV RX5 205 RX3 yX3_reach wsX3_reach) := goodIn_app (goodIn_of _ (by decide +kernel)) ggX5_endWith_X3_reach
theorem dX5_endWith_0 : decode cX5_endWith 0 = .ok (.aload_n 0, 1) := by decide +kernel
theorem dX5_endWith_1 : decode cX5_endWith 1 = .ok (.getfield 19, 3) := by decide +kernel
theorem dX5_endWith_4 : decode cX5_endWith 4 = .ok (.getfield 94, 3) := by decide +kernel
theorem dX5_endWith_7 : decode cX5_endWith 7 = .ok (.istore_n 2, 1) := by decide +kernel
theorem dX5_endWith_8 : decode cX5_endWith 8 = .ok (.iconst 0, 1) := by decide +kernel
theorem dX5_endWith_9 : decode cX5_endWith 9 = .ok (.istore_n 3, 1) := by decide +kernel
theorem dX5_endWith_10 : decode cX5_endWith 10 = .ok (.iload_n 3, 1) := by decide +kernel
theorem dX5_endWith_11 : decode cX5_endWith 11 = .ok (.aload_n 0, 1) := by decide +kernel
theorem dX5_endWith_12 : decode cX5_endWith 12 = .ok (.getfield 89, 3) := by decide +kernel
theorem dX5_endWith_15 : decode cX5_endWith 15 = .ok (.if_icmp .ge 36, 3) := by decide +kernel
theorem dX5_endWith_18 : decode cX5_endWith 18 = .ok (.iload_n 2, 1) := by decide +kernel
theorem dX5_endWith_19 : decode cX5_endWith 19 = .ok (.aload_n 0, 1) := by decide +kernel
theorem dX5_endWith_20 : decode cX5_endWith 20 = .ok (.getfield 25, 3) := by decide +kernel
theorem dX5_endWith_23 : decode cX5_endWith 23 = .ok (.iload_n 3, 1) := by decide +kernel
theorem dX5_endWith_24 : decode cX5_endWith 24 = .ok (.aaload, 1) := by decide +kernel
theorem dX5_endWith_25 : decode cX5_endWith 25 = .ok (.getfield 109, 3) := by decide +kernel
theorem dX5_endWith_28 : decode cX5_endWith 28 = .ok (.aload_n 0, 1) := by decide +kernel
theorem dX5_endWith_29 : decode cX5_endWith 29 = .ok (.getfield 25, 3) := by decide +kernel
theorem dX5_endWith_32 : decode cX5_endWith 32 = .ok (.iload_n 3, 1) := by decide +kernel
theorem dX5_endWith_33 : decode cX5_endWith 33 = .ok (.aaload, 1) := by decide +kernel
theorem dX5_endWith_34 : decode cX5_endWith 34 = .ok (.aload_n 1, 1) := by decide +kernel
theorem dX5_endWith_35 : decode cX5_endWith 35 = .ok (.iload_n 3, 1) := by decide +kernel
theorem dX5_endWith_36 : decode cX5_endWith 36 = .ok (.iaload, 1) := by decide +kernel
theorem dX5_endWith_37 : decode cX5_endWith 37 = .ok (.invokevirtual 205, 3) := by decide +kernel
theorem dX5_endWith_40 : decode cX5_endWith 40 = .ok (.iadd, 1) := by decide +kernel
theorem dX5_endWith_41 : decode cX5_endWith 41 = .ok (.invokestatic 276, 3) := by decide +kernel
theorem dX5_endWith_44 : decode cX5_endWith 44 = .ok (.istore_n 2, 1) := by decide +kernel
theorem dX5_endWith_45 : decode cX5_endWith 45 = .ok (.iinc 3 1, 3) := by decide +kernel
theorem dX5_endWith_48 : decode cX5_endWith 48 = .ok (.goto (-38), 3) := by decide +kernel
theorem dX5_endWith_51 : decode cX5_endWith 51 = .ok (.iload_n 2, 1) := by decide +kernel
theorem dX5_endWith_52 : decode cX5_endWith 52 = .ok (.ireturn, 1) := by decide +kernel
set_option maxRecDepth 20000 in
theorem ggX5_goesThroughNeck_X5_breadth : GoodIn wsX5_goesThroughNeck wsX5_breadth := goodIn_r _ [8, 9, 10, 11, 3, 12, 13, 14, 15, 16, 17, 18, 19, 20, 21, 22, 23, 24, 35, 36, 37, 38, 39, 40, 41, 42, 43, 44, 45, 46, 47, 48, 53, 54, 55, 56, 57, 58, 59] (by decide +kernel) (by decide +kernel)
set_option maxRecDepth 20000 in
theorem gX5_goesThroughNeck_X5_breadth : GoodIn wsX5_goesThroughNeck (wsV RX5 221 RX5 yX5_breadth wsX5_breadth) := goodIn_app (goodIn_of _ (by decide +kernel)) ggX5_goesThroughNeck_X5_breadth
set_option maxRecDepth 20000 in
theorem ggX5_goesThroughNeck_X5_topWith : GoodIn wsX5_goesThroughNeck wsX5_topWith := goodIn_r _ [28, 11, 12, 13, 14, 15, 16, 9, 29, 30, 31, 32, 20, 33, 34, 35, 36, 37, 38, 39, 40, 41, 42, 43, 44, 45, 46, 47, 48, 53, 54, 55, 56, 57, 58, 59] (by decide +kernel) (by decide +kernel)
set_option maxRecDepth 20000 in
theorem gX5_goesThroughNeck_X5_topWith : GoodIn wsX5_goesThroughNeck (wsV RX5 225 RX5 yX5_topWith wsX5_topWith) := goodIn_app (goodIn_of _ (by decide +kernel)) ggX5_goesThroughNeck_X5_topWith
theorem dX5_goesThroughNeck_0 : decode cX5_goesThroughNeck 0 = .ok (.aload_n 0, 1) := by decide +kernel
theorem dX5_goesThroughNeck_1 : decode cX5_goesThroughNeck 1 = .ok (.invokevirtual 221, 3) := by decide +kernel
theorem dX5_goesThroughNeck_4 : decode cX5_goesThroughNeck 4 = .ok (.aload_n 0, 1) := by decide +kernel
theorem dX5_goesThroughNeck_5 : decode cX5_goesThroughNeck 5 = .ok (.getfield 10, 3) := by decide +kernel
theorem dX5_goesThroughNeck_8 : decode cX5_goesThroughNeck 8 = .ok (.getfield 74, 3) := by decide +kernel
theorem dX5_goesThroughNeck_11 : decode cX5_goesThroughNeck 11 = .ok (.if_icmp .gt 25, 3) := by decide +kernel
theorem dX5_goesThroughNeck_14 : decode cX5_goesThroughNeck 14 = .ok (.aload_n 0, 1) := by decide +kernel
theorem dX5_goesThroughNeck_15 : decode cX5_goesThroughNeck 15 = .ok (.aload_n 0, 1) := by decide +kernel
theorem dX5_goesThroughNeck_16 : decode cX5_goesThroughNeck 16 = .ok (.getfield 42, 3) := by decide +kernel
theorem dX5_goesThroughNeck_19 : decode cX5_goesThroughNeck 19 = .ok (.invokevirtual 225, 3) := by decide +kernel
theorem dX5_goesThroughNeck_22 : decode cX5_goesThroughNeck 22 = .ok (.aload_n 0, 1) := by decide +kernel
theorem dX5_goesThroughNeck_23 : decode cX5_goesThroughNeck 23 = .ok (.getfield 10, 3) := by decide +kernel
theorem dX5_goesThroughNeck_26 : decode cX5_goesThroughNeck 26 = .ok (.getfield 74, 3) := by decide +kernel
theorem dX5_goesThroughNeck_29 : decode cX5_goesThroughNeck 29 = .ok (.if_icmp .gt 7, 3) := by decide +kernel
theorem dX5_goesThroughNeck_32 : decode cX5_goesThroughNeck 32 = .ok (.iconst 1, 1) := by decide +kernel
theorem dX5_goesThroughNeck_33 : decode cX5_goesThroughNeck 33 = .ok (.goto 4, 3) := by decide +kernel
theorem dX5_goesThroughNeck_36 : decode cX5_goesThroughNeck 36 = .ok (.iconst 0, 1) := by decide +kernel
theorem dX5_goesThroughNeck_37 : decode cX5_goesThroughNeck 37 = .ok (.ireturn, 1) := by decide +kernel
set_option maxRecDepth 20000 in
theorem ggX5_fitsWith_X5_endWith : GoodIn wsX5_fitsWith wsX5_endWith := goodIn_r _ [9, 10, 11, 12, 13, 14, 15, 16, 17, 18, 19, 20, 21, 22, 23, 24, 34, 35, 36, 37, 38, 39, 40, 41, 42, 43, 44, 45, 46, 47, 52, 53, 54, 55, 56, 57, 58] (by decide +kernel) (by decide +kernel)
set_option maxRecDepth 20000 in
theorem gX5_fitsWith_X5_endWith : GoodIn wsX5_fitsWith (wsV RX5 229 RX5 yX5_endWith wsX5_endWith) := goodIn_app (goodIn_of _ (by decide +kernel)) ggX5_fitsWith_X5_endWith
set_option maxRecDepth 20000 in
theorem ggX5_fitsWith_X5_topWith : GoodIn wsX5_fitsWith wsX5_topWith := goodIn_r _ [28, 12, 13, 15, 16, 17, 18, 10, 29, 30, 31, 32, 22, 33, 24, 34, 35, 36, 37, 38, 39, 40, 41, 42, 43, 44, 45, 46, 47, 52, 53, 54, 55, 56, 57, 58] (by decide +kernel) (by decide +kernel)
set_option maxRecDepth 20000 in
theorem gX5_fitsWith_X5_topWith : GoodIn wsX5_fitsWith (wsV RX5 225 RX5 yX5_topWith wsX5_topWith) := goodIn_app (goodIn_of _ (by decide +kernel)) ggX5_fitsWith_X5_topWith
theorem dX5_fitsWith_0 : decode cX5_fitsWith 0 = .ok (.aload_n 0, 1) := by decide +kernel
theorem dX5_fitsWith_1 : decode cX5_fitsWith 1 = .ok (.aload_n 1, 1) := by decide +kernel
theorem dX5_fitsWith_2 : decode cX5_fitsWith 2 = .ok (.invokevirtual 229, 3) := by decide +kernel
theorem dX5_fitsWith_5 : decode cX5_fitsWith 5 = .ok (.aload_n 0, 1) := by decide +kernel
theorem dX5_fitsWith_6 : decode cX5_fitsWith 6 = .ok (.getfield 10, 3) := by decide +kernel
theorem dX5_fitsWith_9 : decode cX5_fitsWith 9 = .ok (.getfield 81, 3) := by decide +kernel
theorem dX5_fitsWith_12 : decode cX5_fitsWith 12 = .ok (.if_icmp .gt 30, 3) := by decide +kernel
theorem dX5_fitsWith_15 : decode cX5_fitsWith 15 = .ok (.aload_n 0, 1) := by decide +kernel
theorem dX5_fitsWith_16 : decode cX5_fitsWith 16 = .ok (.aload_n 1, 1) := by decide +kernel
theorem dX5_fitsWith_17 : decode cX5_fitsWith 17 = .ok (.invokevirtual 225, 3) := by decide +kernel
theorem dX5_fitsWith_20 : decode cX5_fitsWith 20 = .ok (.aload_n 0, 1) := by decide +kernel
theorem dX5_fitsWith_21 : decode cX5_fitsWith 21 = .ok (.getfield 10, 3) := by decide +kernel
theorem dX5_fitsWith_24 : decode cX5_fitsWith 24 = .ok (.getfield 84, 3) := by decide +kernel
theorem dX5_fitsWith_27 : decode cX5_fitsWith 27 = .ok (.iadd, 1) := by decide +kernel
theorem dX5_fitsWith_28 : decode cX5_fitsWith 28 = .ok (.aload_n 0, 1) := by decide +kernel
theorem dX5_fitsWith_29 : decode cX5_fitsWith 29 = .ok (.getfield 10, 3) := by decide +kernel
theorem dX5_fitsWith_32 : decode cX5_fitsWith 32 = .ok (.getfield 78, 3) := by decide +kernel
theorem dX5_fitsWith_35 : decode cX5_fitsWith 35 = .ok (.if_icmp .gt 7, 3) := by decide +kernel
theorem dX5_fitsWith_38 : decode cX5_fitsWith 38 = .ok (.iconst 1, 1) := by decide +kernel
theorem dX5_fitsWith_39 : decode cX5_fitsWith 39 = .ok (.goto 4, 3) := by decide +kernel
theorem dX5_fitsWith_42 : decode cX5_fitsWith 42 = .ok (.iconst 0, 1) := by decide +kernel
theorem dX5_fitsWith_43 : decode cX5_fitsWith 43 = .ok (.ireturn, 1) := by decide +kernel
set_option maxRecDepth 20000 in
theorem ggX5_hindranceOf_X5_isHeld : GoodIn wsX5_hindranceOf wsX5_isHeld := goodIn_r _ [9, 10, 11, 12, 8, 13, 14, 15, 1, 16, 84, 85, 86, 87, 88, 89, 90, 91, 92, 93, 94, 95, 96, 97, 78, 79, 80, 81, 82, 83] (by decide +kernel) (by decide +kernel)
set_option maxRecDepth 20000 in
theorem gX5_hindranceOf_X5_isHeld : GoodIn wsX5_hindranceOf (wsV RX5 208 RX5 yX5_isHeld wsX5_isHeld) := goodIn_app (goodIn_of _ (by decide +kernel)) ggX5_hindranceOf_X5_isHeld
set_option maxRecDepth 20000 in
theorem ggX5_hindranceOf_X5_isCrossedByStronger : GoodIn wsX5_hindranceOf wsX5_isCrossedByStronger := goodIn_r _ [20, 14, 15, 16, 21, 22, 23, 24, 25, 26, 27, 28, 29, 30, 31, 32, 33, 34, 35, 36, 84, 85, 86, 87, 88, 89, 90, 91, 92, 93, 94, 95, 96, 97, 78, 79, 80, 81, 82, 83] (by decide +kernel) (by decide +kernel)
set_option maxRecDepth 20000 in
theorem gX5_hindranceOf_X5_isCrossedByStronger : GoodIn wsX5_hindranceOf (wsV RX5 308 RX5 yX5_isCrossedByStronger wsX5_isCrossedByStronger) := goodIn_app (goodIn_of _ (by decide +kernel)) ggX5_hindranceOf_X5_isCrossedByStronger
set_option maxRecDepth 20000 in
theorem ggX5_hindranceOf_X5_loweredBy : GoodIn wsX5_hindranceOf wsX5_loweredBy := goodIn_r _ [40, 14, 15, 1, 16, 41, 5, 6, 7, 8, 9, 10, 11, 12, 13, 84, 85, 86, 87, 88, 89, 90, 91, 92, 93, 94, 95, 96, 97, 78, 79, 80, 81, 82, 83] (by decide +kernel) (by decide +kernel)
set_option maxRecDepth 20000 in
theorem gX5_hindranceOf_X5_loweredBy : GoodIn wsX5_hindranceOf (wsV RX5 182 RX5 yX5_loweredBy wsX5_loweredBy) := goodIn_app (goodIn_of _ (by decide +kernel)) ggX5_hindranceOf_X5_loweredBy
set_option maxRecDepth 20000 in
theorem ggX5_hindranceOf_X5_raise : GoodIn wsX5_hindranceOf wsX5_raise := goodIn_r _ [44] (by decide +kernel) (by decide +kernel)
set_option maxRecDepth 20000 in
theorem gX5_hindranceOf_X5_raise : GoodIn wsX5_hindranceOf (va_wsS RX5 186 yX5_raise wsX5_raise) := goodIn_app (goodIn_of _ (by decide +kernel)) ggX5_hindranceOf_X5_raise
set_option maxRecDepth 20000 in
theorem ggX5_hindranceOf_X5_fitsWith : GoodIn wsX5_hindranceOf wsX5_fitsWith := goodIn_r _ [48, 49, 50, 51, 52, 53, 54, 55, 8, 56, 57, 58, 59, 60, 61, 62, 30, 31, 32, 63, 64, 65, 66, 67, 68, 69, 70, 71, 72, 73, 74, 75, 76, 77, 84, 85, 86, 87, 88, 89, 90, 91, 92, 93, 94, 95, 96, 97, 98, 99, 100, 101, 102, 103, 104, 105, 106, 107, 108] (by decide +kernel) (by decide +kernel)
set_option maxRecDepth 20000 in
theorem gX5_hindranceOf_X5_fitsWith : GoodIn wsX5_hindranceOf (wsV RX5 155 RX5 yX5_fitsWith wsX5_fitsWith) := goodIn_app (goodIn_of _ (by decide +kernel)) ggX5_hindranceOf_X5_fitsWith
theorem dX5_hindranceOf_0 : decode cX5_hindranceOf 0 = .ok (.aload_n 0, 1) := by decide +kernel
theorem dX5_hindranceOf_1 : decode cX5_hindranceOf 1 = .ok (.aload_n 1, 1) := by decide +kernel
theorem dX5_hindranceOf_2 : decode cX5_hindranceOf 2 = .ok (.getfield 138, 3) := by decide +kernel
theorem dX5_hindranceOf_5 : decode cX5_hindranceOf 5 = .ok (.invokevirtual 208, 3) := by decide +kernel
theorem dX5_hindranceOf_8 : decode cX5_hindranceOf 8 = .ok (.ifCond .ne 15, 3) := by decide +kernel
theorem dX5_hindranceOf_11 : decode cX5_hindranceOf 11 = .ok (.aload_n 0, 1) := by decide +kernel
theorem dX5_hindranceOf_12 : decode cX5_hindranceOf 12 = .ok (.getfield 42, 3) := by decide +kernel
theorem dX5_hindranceOf_15 : decode cX5_hindranceOf 15 = .ok (.aload_n 1, 1) := by decide +kernel
theorem dX5_hindranceOf_16 : decode cX5_hindranceOf 16 = .ok (.getfield 138, 3) := by decide +kernel
theorem dX5_hindranceOf_19 : decode cX5_hindranceOf 19 = .ok (.iaload, 1) := by decide +kernel
theorem dX5_hindranceOf_20 : decode cX5_hindranceOf 20 = .ok (.ifCond .ne 5, 3) := by decide +kernel
theorem dX5_hindranceOf_23 : decode cX5_hindranceOf 23 = .ok (.iconst (-1), 1) := by decide +kernel
theorem dX5_hindranceOf_24 : decode cX5_hindranceOf 24 = .ok (.ireturn, 1) := by decide +kernel
theorem dX5_hindranceOf_25 : decode cX5_hindranceOf 25 = .ok (.aload_n 0, 1) := by decide +kernel
theorem dX5_hindranceOf_26 : decode cX5_hindranceOf 26 = .ok (.aload_n 1, 1) := by decide +kernel
theorem dX5_hindranceOf_27 : decode cX5_hindranceOf 27 = .ok (.invokevirtual 308, 3) := by decide +kernel
theorem dX5_hindranceOf_30 : decode cX5_hindranceOf 30 = .ok (.ifCond .eq 6, 3) := by decide +kernel
theorem dX5_hindranceOf_33 : decode cX5_hindranceOf 33 = .ok (.bipush (-2), 2) := by decide +kernel
theorem dX5_hindranceOf_35 : decode cX5_hindranceOf 35 = .ok (.ireturn, 1) := by decide +kernel
theorem dX5_hindranceOf_36 : decode cX5_hindranceOf 36 = .ok (.aload_n 1, 1) := by decide +kernel
theorem dX5_hindranceOf_37 : decode cX5_hindranceOf 37 = .ok (.getfield 138, 3) := by decide +kernel
theorem dX5_hindranceOf_40 : decode cX5_hindranceOf 40 = .ok (.aload_n 0, 1) := by decide +kernel
theorem dX5_hindranceOf_41 : decode cX5_hindranceOf 41 = .ok (.aload_n 1, 1) := by decide +kernel
theorem dX5_hindranceOf_42 : decode cX5_hindranceOf 42 = .ok (.getfield 138, 3) := by decide +kernel
theorem dX5_hindranceOf_45 : decode cX5_hindranceOf 45 = .ok (.invokevirtual 182, 3) := by decide +kernel
theorem dX5_hindranceOf_48 : decode cX5_hindranceOf 48 = .ok (.aload_n 0, 1) := by decide +kernel
theorem dX5_hindranceOf_49 : decode cX5_hindranceOf 49 = .ok (.getfield 42, 3) := by decide +kernel
theorem dX5_hindranceOf_52 : decode cX5_hindranceOf 52 = .ok (.aload_n 0, 1) := by decide +kernel
theorem dX5_hindranceOf_53 : decode cX5_hindranceOf 53 = .ok (.getfield 49, 3) := by decide +kernel
theorem dX5_hindranceOf_56 : decode cX5_hindranceOf 56 = .ok (.invokestatic 186, 3) := by decide +kernel
theorem dX5_hindranceOf_59 : decode cX5_hindranceOf 59 = .ok (.aload_n 0, 1) := by decide +kernel
theorem dX5_hindranceOf_60 : decode cX5_hindranceOf 60 = .ok (.getfield 65, 3) := by decide +kernel
theorem dX5_hindranceOf_63 : decode cX5_hindranceOf 63 = .ok (.ifCond .eq 19, 3) := by decide +kernel
theorem dX5_hindranceOf_66 : decode cX5_hindranceOf 66 = .ok (.aload_n 0, 1) := by decide +kernel
theorem dX5_hindranceOf_67 : decode cX5_hindranceOf 67 = .ok (.aload_n 0, 1) := by decide +kernel
theorem dX5_hindranceOf_68 : decode cX5_hindranceOf 68 = .ok (.getfield 49, 3) := by decide +kernel
theorem dX5_hindranceOf_71 : decode cX5_hindranceOf 71 = .ok (.invokevirtual 155, 3) := by decide +kernel
theorem dX5_hindranceOf_74 : decode cX5_hindranceOf 74 = .ok (.ifCond .ne 8, 3) := by decide +kernel
theorem dX5_hindranceOf_77 : decode cX5_hindranceOf 77 = .ok (.bipush (-3), 2) := by decide +kernel
theorem dX5_hindranceOf_79 : decode cX5_hindranceOf 79 = .ok (.goto 4, 3) := by decide +kernel
theorem dX5_hindranceOf_82 : decode cX5_hindranceOf 82 = .ok (.iconst 0, 1) := by decide +kernel
theorem dX5_hindranceOf_83 : decode cX5_hindranceOf 83 = .ok (.ireturn, 1) := by decide +kernel
set_option maxRecDepth 20000 in
theorem ggX5_loweredBy_X5_isHeld : GoodIn wsX5_loweredBy wsX5_isHeld := goodIn_r _ [10, 11, 12, 13, 9, 14, 1, 2, 3, 4, 15, 16, 17, 18, 19, 20, 21, 22, 23, 24, 25, 26, 27, 28, 29, 30, 31, 32, 33, 34] (by decide +kernel) (by decide +kernel)
set_option maxRecDepth 20000 in
theorem gX5_loweredBy_X5_isHeld : GoodIn wsX5_loweredBy (wsV RX5 208 RX5 yX5_isHeld wsX5_isHeld) := goodIn_app (goodIn_of _ (by decide +kernel)) ggX5_loweredBy_X5_isHeld
theorem dX5_loweredBy_0 : decode cX5_loweredBy 0 = .ok (.iconst 0, 1) := by decide +kernel
theorem dX5_loweredBy_1 : decode cX5_loweredBy 1 = .ok (.istore_n 2, 1) := by decide +kernel
theorem dX5_loweredBy_2 : decode cX5_loweredBy 2 = .ok (.iconst 0, 1) := by decide +kernel
theorem dX5_loweredBy_3 : decode cX5_loweredBy 3 = .ok (.istore_n 3, 1) := by decide +kernel
theorem dX5_loweredBy_4 : decode cX5_loweredBy 4 = .ok (.iload_n 3, 1) := by decide +kernel
theorem dX5_loweredBy_5 : decode cX5_loweredBy 5 = .ok (.aload_n 0, 1) := by decide +kernel
theorem dX5_loweredBy_6 : decode cX5_loweredBy 6 = .ok (.getfield 133, 3) := by decide +kernel
theorem dX5_loweredBy_9 : decode cX5_loweredBy 9 = .ok (.if_icmp .ge 65, 3) := by decide +kernel
theorem dX5_loweredBy_12 : decode cX5_loweredBy 12 = .ok (.aload_n 0, 1) := by decide +kernel
theorem dX5_loweredBy_13 : decode cX5_loweredBy 13 = .ok (.getfield 31, 3) := by decide +kernel
theorem dX5_loweredBy_16 : decode cX5_loweredBy 16 = .ok (.iload_n 3, 1) := by decide +kernel
theorem dX5_loweredBy_17 : decode cX5_loweredBy 17 = .ok (.aaload, 1) := by decide +kernel
theorem dX5_loweredBy_18 : decode cX5_loweredBy 18 = .ok (.astore 4, 2) := by decide +kernel
theorem dX5_loweredBy_20 : decode cX5_loweredBy 20 = .ok (.aload 4, 2) := by decide +kernel
theorem dX5_loweredBy_22 : decode cX5_loweredBy 22 = .ok (.getfield 138, 3) := by decide +kernel
theorem dX5_loweredBy_25 : decode cX5_loweredBy 25 = .ok (.iload_n 1, 1) := by decide +kernel
theorem dX5_loweredBy_26 : decode cX5_loweredBy 26 = .ok (.if_icmp .ne 42, 3) := by decide +kernel
theorem dX5_loweredBy_29 : decode cX5_loweredBy 29 = .ok (.aload 4, 2) := by decide +kernel
theorem dX5_loweredBy_31 : decode cX5_loweredBy 31 = .ok (.getfield 164, 3) := by decide +kernel
theorem dX5_loweredBy_34 : decode cX5_loweredBy 34 = .ok (.ifCond .ne 34, 3) := by decide +kernel
theorem dX5_loweredBy_37 : decode cX5_loweredBy 37 = .ok (.aload 4, 2) := by decide +kernel
theorem dX5_loweredBy_39 : decode cX5_loweredBy 39 = .ok (.getfield 141, 3) := by decide +kernel
theorem dX5_loweredBy_42 : decode cX5_loweredBy 42 = .ok (.iconst (-1), 1) := by decide +kernel
theorem dX5_loweredBy_43 : decode cX5_loweredBy 43 = .ok (.if_icmp .eq 25, 3) := by decide +kernel
theorem dX5_loweredBy_46 : decode cX5_loweredBy 46 = .ok (.aload_n 0, 1) := by decide +kernel
end
section
theorem dX5_loweredBy_47 : decode cX5_loweredBy 47 = .ok (.aload 4, 2) := by decide +kernel
theorem dX5_loweredBy_49 : decode cX5_loweredBy 49 = .ok (.getfield 141, 3) := by decide +kernel
theorem dX5_loweredBy_52 : decode cX5_loweredBy 52 = .ok (.invokevirtual 208, 3) := by decide +kernel
theorem dX5_loweredBy_55 : decode cX5_loweredBy 55 = .ok (.ifCond .ne 13, 3) := by decide +kernel
theorem dX5_loweredBy_58 : decode cX5_loweredBy 58 = .ok (.iload_n 2, 1) := by decide +kernel
theorem dX5_loweredBy_59 : decode cX5_loweredBy 59 = .ok (.iconst 1, 1) := by decide +kernel
theorem dX5_loweredBy_60 : decode cX5_loweredBy 60 = .ok (.aload 4, 2) := by decide +kernel
theorem dX5_loweredBy_62 : decode cX5_loweredBy 62 = .ok (.getfield 141, 3) := by decide +kernel
theorem dX5_loweredBy_65 : decode cX5_loweredBy 65 = .ok (.ishl, 1) := by decide +kernel
theorem dX5_loweredBy_66 : decode cX5_loweredBy 66 = .ok (.ior, 1) := by decide +kernel
theorem dX5_loweredBy_67 : decode cX5_loweredBy 67 = .ok (.istore_n 2, 1) := by decide +kernel
theorem dX5_loweredBy_68 : decode cX5_loweredBy 68 = .ok (.iinc 3 1, 3) := by decide +kernel
theorem dX5_loweredBy_71 : decode cX5_loweredBy 71 = .ok (.goto (-67), 3) := by decide +kernel
theorem dX5_loweredBy_74 : decode cX5_loweredBy 74 = .ok (.iload_n 2, 1) := by decide +kernel
theorem dX5_loweredBy_75 : decode cX5_loweredBy 75 = .ok (.ireturn, 1) := by decide +kernel
theorem dX5_raise_0 : decode cX5_raise 0 = .ok (.iconst 0, 1) := by decide +kernel
theorem dX5_raise_1 : decode cX5_raise 1 = .ok (.istore 4, 2) := by decide +kernel
theorem dX5_raise_3 : decode cX5_raise 3 = .ok (.iload 4, 2) := by decide +kernel
theorem dX5_raise_5 : decode cX5_raise 5 = .ok (.iconst 3, 1) := by decide +kernel
theorem dX5_raise_6 : decode cX5_raise 6 = .ok (.if_icmp .ge 61, 3) := by decide +kernel
theorem dX5_raise_9 : decode cX5_raise 9 = .ok (.aload_n 3, 1) := by decide +kernel
theorem dX5_raise_10 : decode cX5_raise 10 = .ok (.iload 4, 2) := by decide +kernel
theorem dX5_raise_12 : decode cX5_raise 12 = .ok (.aload_n 2, 1) := by decide +kernel
theorem dX5_raise_13 : decode cX5_raise 13 = .ok (.iload 4, 2) := by decide +kernel
theorem dX5_raise_15 : decode cX5_raise 15 = .ok (.iaload, 1) := by decide +kernel
theorem dX5_raise_16 : decode cX5_raise 16 = .ok (.iastore, 1) := by decide +kernel
theorem dX5_raise_17 : decode cX5_raise 17 = .ok (.iload 4, 2) := by decide +kernel
theorem dX5_raise_19 : decode cX5_raise 19 = .ok (.iload_n 0, 1) := by decide +kernel
theorem dX5_raise_20 : decode cX5_raise 20 = .ok (.if_icmp .ne 14, 3) := by decide +kernel
theorem dX5_raise_23 : decode cX5_raise 23 = .ok (.aload_n 3, 1) := by decide +kernel
theorem dX5_raise_24 : decode cX5_raise 24 = .ok (.iload 4, 2) := by decide +kernel
theorem dX5_raise_26 : decode cX5_raise 26 = .ok (.dup2, 1) := by decide +kernel
theorem dX5_raise_27 : decode cX5_raise 27 = .ok (.iaload, 1) := by decide +kernel
theorem dX5_raise_28 : decode cX5_raise 28 = .ok (.iconst 1, 1) := by decide +kernel
theorem dX5_raise_29 : decode cX5_raise 29 = .ok (.isub, 1) := by decide +kernel
theorem dX5_raise_30 : decode cX5_raise 30 = .ok (.iastore, 1) := by decide +kernel
theorem dX5_raise_31 : decode cX5_raise 31 = .ok (.goto 30, 3) := by decide +kernel
theorem dX5_raise_34 : decode cX5_raise 34 = .ok (.iload_n 1, 1) := by decide +kernel
theorem dX5_raise_35 : decode cX5_raise 35 = .ok (.iload 4, 2) := by decide +kernel
theorem dX5_raise_37 : decode cX5_raise 37 = .ok (.ishr, 1) := by decide +kernel
theorem dX5_raise_38 : decode cX5_raise 38 = .ok (.iconst 1, 1) := by decide +kernel
theorem dX5_raise_39 : decode cX5_raise 39 = .ok (.iand, 1) := by decide +kernel
theorem dX5_raise_40 : decode cX5_raise 40 = .ok (.iconst 1, 1) := by decide +kernel
theorem dX5_raise_41 : decode cX5_raise 41 = .ok (.if_icmp .ne 20, 3) := by decide +kernel
theorem dX5_raise_44 : decode cX5_raise 44 = .ok (.aload_n 2, 1) := by decide +kernel
theorem dX5_raise_45 : decode cX5_raise 45 = .ok (.iload 4, 2) := by decide +kernel
theorem dX5_raise_47 : decode cX5_raise 47 = .ok (.iaload, 1) := by decide +kernel
theorem dX5_raise_48 : decode cX5_raise 48 = .ok (.bipush 9, 2) := by decide +kernel
theorem dX5_raise_50 : decode cX5_raise 50 = .ok (.if_icmp .ge 11, 3) := by decide +kernel
theorem dX5_raise_53 : decode cX5_raise 53 = .ok (.aload_n 3, 1) := by decide +kernel
theorem dX5_raise_54 : decode cX5_raise 54 = .ok (.iload 4, 2) := by decide +kernel
theorem dX5_raise_56 : decode cX5_raise 56 = .ok (.dup2, 1) := by decide +kernel
theorem dX5_raise_57 : decode cX5_raise 57 = .ok (.iaload, 1) := by decide +kernel
theorem dX5_raise_58 : decode cX5_raise 58 = .ok (.iconst 1, 1) := by decide +kernel
theorem dX5_raise_59 : decode cX5_raise 59 = .ok (.iadd, 1) := by decide +kernel
theorem dX5_raise_60 : decode cX5_raise 60 = .ok (.iastore, 1) := by decide +kernel
theorem dX5_raise_61 : decode cX5_raise 61 = .ok (.iinc 4 1, 3) := by decide +kernel
theorem dX5_raise_64 : decode cX5_raise 64 = .ok (.goto (-61), 3) := by decide +kernel
theorem dX5_raise_67 : decode cX5_raise 67 = .ok (.return_, 1) := by decide +kernel
set_option maxRecDepth 20000 in
theorem ggX5_fallInAnHour_X5_isHeld : GoodIn wsX5_fallInAnHour wsX5_isHeld := goodIn_r _ [7, 8, 9, 10, 6, 11, 12, 13, 14, 15, 20, 21, 22, 23, 24, 25, 26, 27, 28, 29, 30, 31, 32, 33, 38, 39, 40, 41, 42, 43] (by decide +kernel) (by decide +kernel)
set_option maxRecDepth 20000 in
theorem gX5_fallInAnHour_X5_isHeld : GoodIn wsX5_fallInAnHour (wsV RX5 208 RX5 yX5_isHeld wsX5_isHeld) := goodIn_app (goodIn_of _ (by decide +kernel)) ggX5_fallInAnHour_X5_isHeld
set_option maxRecDepth 20000 in
theorem ggX5_fallInAnHour_X5_looseThreadsFrom : GoodIn wsX5_fallInAnHour wsX5_looseThreadsFrom := goodIn_r _ [19, 8, 9, 10, 6, 11, 12, 13, 14, 15, 20, 21, 22, 23, 24, 25, 26, 27, 28, 29, 30, 31, 32, 33, 38, 39, 40, 41, 42, 43] (by decide +kernel) (by decide +kernel)
set_option maxRecDepth 20000 in
theorem gX5_fallInAnHour_X5_looseThreadsFrom : GoodIn wsX5_fallInAnHour (wsV RX5 211 RX5 yX5_looseThreadsFrom wsX5_looseThreadsFrom) := goodIn_app (goodIn_of _ (by decide +kernel)) ggX5_fallInAnHour_X5_looseThreadsFrom
theorem dX5_fallInAnHour_0 : decode cX5_fallInAnHour 0 = .ok (.aload_n 0, 1) := by decide +kernel
theorem dX5_fallInAnHour_1 : decode cX5_fallInAnHour 1 = .ok (.iload_n 1, 1) := by decide +kernel
theorem dX5_fallInAnHour_2 : decode cX5_fallInAnHour 2 = .ok (.invokevirtual 208, 3) := by decide +kernel
theorem dX5_fallInAnHour_5 : decode cX5_fallInAnHour 5 = .ok (.ifCond .ne 11, 3) := by decide +kernel
theorem dX5_fallInAnHour_8 : decode cX5_fallInAnHour 8 = .ok (.aload_n 0, 1) := by decide +kernel
theorem dX5_fallInAnHour_9 : decode cX5_fallInAnHour 9 = .ok (.iload_n 1, 1) := by decide +kernel
theorem dX5_fallInAnHour_10 : decode cX5_fallInAnHour 10 = .ok (.invokevirtual 211, 3) := by decide +kernel
theorem dX5_fallInAnHour_13 : decode cX5_fallInAnHour 13 = .ok (.ifCond .le 5, 3) := by decide +kernel
theorem dX5_fallInAnHour_16 : decode cX5_fallInAnHour 16 = .ok (.iconst 0, 1) := by decide +kernel
theorem dX5_fallInAnHour_17 : decode cX5_fallInAnHour 17 = .ok (.ireturn, 1) := by decide +kernel
theorem dX5_fallInAnHour_18 : decode cX5_fallInAnHour 18 = .ok (.aload_n 0, 1) := by decide +kernel
theorem dX5_fallInAnHour_19 : decode cX5_fallInAnHour 19 = .ok (.getfield 25, 3) := by decide +kernel
theorem dX5_fallInAnHour_22 : decode cX5_fallInAnHour 22 = .ok (.iload_n 1, 1) := by decide +kernel
theorem dX5_fallInAnHour_23 : decode cX5_fallInAnHour 23 = .ok (.aaload, 1) := by decide +kernel
theorem dX5_fallInAnHour_24 : decode cX5_fallInAnHour 24 = .ok (.getfield 123, 3) := by decide +kernel
theorem dX5_fallInAnHour_27 : decode cX5_fallInAnHour 27 = .ok (.iconst 2, 1) := by decide +kernel
theorem dX5_fallInAnHour_28 : decode cX5_fallInAnHour 28 = .ok (.if_icmp .lt 7, 3) := by decide +kernel
theorem dX5_fallInAnHour_31 : decode cX5_fallInAnHour 31 = .ok (.iconst 2, 1) := by decide +kernel
theorem dX5_fallInAnHour_32 : decode cX5_fallInAnHour 32 = .ok (.goto 4, 3) := by decide +kernel
theorem dX5_fallInAnHour_35 : decode cX5_fallInAnHour 35 = .ok (.iconst 1, 1) := by decide +kernel
theorem dX5_fallInAnHour_36 : decode cX5_fallInAnHour 36 = .ok (.ireturn, 1) := by decide +kernel
set_option maxRecDepth 20000 in
theorem ggX5_hoursUntilFlat_X5_fallInAnHour : GoodIn wsX5_hoursUntilFlat wsX5_fallInAnHour := goodIn_r _ [6, 7, 8, 9, 10, 11, 5, 12, 13, 14, 15, 16, 17, 18, 19, 20, 21, 22, 23, 24, 25, 26, 27, 28, 29, 30, 31, 32, 33, 34, 35, 36, 37, 38, 39, 40, 41, 42, 43, 44, 45, 46, 47, 48] (by decide +kernel) (by decide +kernel)
set_option maxRecDepth 20000 in
theorem gX5_hoursUntilFlat_X5_fallInAnHour : GoodIn wsX5_hoursUntilFlat (wsV RX5 245 RX5 yX5_fallInAnHour wsX5_fallInAnHour) := goodIn_app (goodIn_of _ (by decide +kernel)) ggX5_hoursUntilFlat_X5_fallInAnHour
theorem dX5_hoursUntilFlat_0 : decode cX5_hoursUntilFlat 0 = .ok (.aload_n 0, 1) := by decide +kernel
theorem dX5_hoursUntilFlat_1 : decode cX5_hoursUntilFlat 1 = .ok (.iload_n 1, 1) := by decide +kernel
theorem dX5_hoursUntilFlat_2 : decode cX5_hoursUntilFlat 2 = .ok (.invokevirtual 245, 3) := by decide +kernel
theorem dX5_hoursUntilFlat_5 : decode cX5_hoursUntilFlat 5 = .ok (.istore_n 2, 1) := by decide +kernel
theorem dX5_hoursUntilFlat_6 : decode cX5_hoursUntilFlat 6 = .ok (.aload_n 0, 1) := by decide +kernel
theorem dX5_hoursUntilFlat_7 : decode cX5_hoursUntilFlat 7 = .ok (.getfield 42, 3) := by decide +kernel
theorem dX5_hoursUntilFlat_10 : decode cX5_hoursUntilFlat 10 = .ok (.iload_n 1, 1) := by decide +kernel
theorem dX5_hoursUntilFlat_11 : decode cX5_hoursUntilFlat 11 = .ok (.iaload, 1) := by decide +kernel
theorem dX5_hoursUntilFlat_12 : decode cX5_hoursUntilFlat 12 = .ok (.istore_n 3, 1) := by decide +kernel
theorem dX5_hoursUntilFlat_13 : decode cX5_hoursUntilFlat 13 = .ok (.iconst 0, 1) := by decide +kernel
theorem dX5_hoursUntilFlat_14 : decode cX5_hoursUntilFlat 14 = .ok (.istore 4, 2) := by decide +kernel
theorem dX5_hoursUntilFlat_16 : decode cX5_hoursUntilFlat 16 = .ok (.iload 4, 2) := by decide +kernel
theorem dX5_hoursUntilFlat_18 : decode cX5_hoursUntilFlat 18 = .ok (.bipush 50, 2) := by decide +kernel
theorem dX5_hoursUntilFlat_20 : decode cX5_hoursUntilFlat 20 = .ok (.if_icmp .gt 22, 3) := by decide +kernel
theorem dX5_hoursUntilFlat_23 : decode cX5_hoursUntilFlat 23 = .ok (.iload_n 3, 1) := by decide +kernel
theorem dX5_hoursUntilFlat_24 : decode cX5_hoursUntilFlat 24 = .ok (.bipush 9, 2) := by decide +kernel
theorem dX5_hoursUntilFlat_26 : decode cX5_hoursUntilFlat 26 = .ok (.if_icmp .lt 6, 3) := by decide +kernel
theorem dX5_hoursUntilFlat_29 : decode cX5_hoursUntilFlat 29 = .ok (.iload 4, 2) := by decide +kernel
theorem dX5_hoursUntilFlat_31 : decode cX5_hoursUntilFlat 31 = .ok (.ireturn, 1) := by decide +kernel
theorem dX5_hoursUntilFlat_32 : decode cX5_hoursUntilFlat 32 = .ok (.iload_n 3, 1) := by decide +kernel
theorem dX5_hoursUntilFlat_33 : decode cX5_hoursUntilFlat 33 = .ok (.iload_n 2, 1) := by decide +kernel
theorem dX5_hoursUntilFlat_34 : decode cX5_hoursUntilFlat 34 = .ok (.iadd, 1) := by decide +kernel
theorem dX5_hoursUntilFlat_35 : decode cX5_hoursUntilFlat 35 = .ok (.istore_n 3, 1) := by decide +kernel
theorem dX5_hoursUntilFlat_36 : decode cX5_hoursUntilFlat 36 = .ok (.iinc 4 1, 3) := by decide +kernel
theorem dX5_hoursUntilFlat_39 : decode cX5_hoursUntilFlat 39 = .ok (.goto (-23), 3) := by decide +kernel
theorem dX5_hoursUntilFlat_42 : decode cX5_hoursUntilFlat 42 = .ok (.iconst (-1), 1) := by decide +kernel
theorem dX5_hoursUntilFlat_43 : decode cX5_hoursUntilFlat 43 = .ok (.ireturn, 1) := by decide +kernel
set_option maxRecDepth 20000 in
theorem ggX5_explore_X5_firstFreeThreadOf : GoodIn wsX5_explore wsX5_firstFreeThreadOf := goodIn_r _ [12, 13, 14, 15, 16, 17, 18, 19, 11, 20, 21, 22, 23, 24, 25, 26, 27, 28, 29, 30, 31, 32, 33, 34, 35, 36, 37, 38, 39, 40, 41, 42, 43, 44, 116, 117, 118, 119, 120, 121, 122, 123, 124, 125, 126, 127, 128, 129, 136, 137, 138, 139, 140, 141] (by decide +kernel) (by decide +kernel)
set_option maxRecDepth 20000 in
theorem gX5_explore_X5_firstFreeThreadOf : GoodIn wsX5_explore (wsV RX5 314 RX5 yX5_firstFreeThreadOf wsX5_firstFreeThreadOf) := goodIn_app (goodIn_of _ (by decide +kernel)) ggX5_explore_X5_firstFreeThreadOf
set_option maxRecDepth 20000 in
theorem ggX5_explore_X5_loweredBy : GoodIn wsX5_explore wsX5_loweredBy := goodIn_r _ [48, 13, 14, 15, 16, 49, 17, 18, 19, 11, 20, 21, 22, 23, 24, 116, 117, 118, 119, 120, 121, 122, 123, 124, 125, 126, 127, 128, 129, 136, 137, 138, 139, 140, 141] (by decide +kernel) (by decide +kernel)
set_option maxRecDepth 20000 in
theorem gX5_explore_X5_loweredBy : GoodIn wsX5_explore (wsV RX5 182 RX5 yX5_loweredBy wsX5_loweredBy) := goodIn_app (goodIn_of _ (by decide +kernel)) ggX5_explore_X5_loweredBy
set_option maxRecDepth 20000 in
theorem ggX5_explore_X4_encode : GoodIn wsX5_explore wsX4_encode := goodIn_r _ [53] (by decide +kernel) (by decide +kernel)
set_option maxRecDepth 20000 in
theorem gX5_explore_X4_encode : GoodIn wsX5_explore (va_wsS RX5 320 yX4_encode wsX4_encode) := goodIn_app (goodIn_of _ (by decide +kernel)) ggX5_explore_X4_encode
set_option maxRecDepth 20000 in
theorem ggX5_explore_X4_begin : GoodIn wsX5_explore wsX4_begin := goodIn_r _ [57, 58, 59, 60, 61, 62, 63, 64, 65, 130, 131, 132, 133, 134, 135] (by decide +kernel) (by decide +kernel)
set_option maxRecDepth 20000 in
theorem gX5_explore_X4_begin : GoodIn wsX5_explore (wsV RX5 323 RX4 yX4_begin wsX4_begin) := goodIn_app (goodIn_of _ (by decide +kernel)) ggX5_explore_X4_begin
set_option maxRecDepth 20000 in
theorem ggX5_explore_X5_exploreFrom : GoodIn wsX5_explore wsX5_exploreFrom := goodIn_r _ [69, 70, 1, 2, 3, 4, 71, 72, 73, 74, 52, 75, 76, 77, 11, 78, 79, 80, 81, 82, 83, 84, 85, 86, 87, 88, 89, 90, 91, 92, 93, 94, 95, 38, 39, 40, 96, 97, 98, 99, 100, 101, 102, 103, 104, 105, 106, 107, 108, 109, 110, 50, 51, 53, 111, 112, 113, 114, 58, 59, 60, 61, 115, 43, 44, 116, 117, 118, 119, 120, 121, 122, 123, 124, 125, 126, 127, 128, 129, 130, 131, 132, 133, 134, 135, 142, 143, 144, 145, 146, 147, 148, 149, 150, 151, 152] (by decide +kernel) (by decide +kernel)
set_option maxRecDepth 20000 in
theorem gX5_explore_X5_exploreFrom : GoodIn wsX5_explore (wsV RX5 327 RX5 yX5_exploreFrom wsX5_exploreFrom) := goodIn_app (goodIn_of _ (by decide +kernel)) ggX5_explore_X5_exploreFrom
theorem dX5_explore_0 : decode cX5_explore 0 = .ok (.iconst 0, 1) := by decide +kernel
theorem dX5_explore_1 : decode cX5_explore 1 = .ok (.istore_n 1, 1) := by decide +kernel
theorem dX5_explore_2 : decode cX5_explore 2 = .ok (.iload_n 1, 1) := by decide +kernel
theorem dX5_explore_3 : decode cX5_explore 3 = .ok (.aload_n 0, 1) := by decide +kernel
theorem dX5_explore_4 : decode cX5_explore 4 = .ok (.getfield 89, 3) := by decide +kernel
theorem dX5_explore_7 : decode cX5_explore 7 = .ok (.if_icmp .ge 37, 3) := by decide +kernel
theorem dX5_explore_10 : decode cX5_explore 10 = .ok (.aload_n 0, 1) := by decide +kernel
theorem dX5_explore_11 : decode cX5_explore 11 = .ok (.getfield 38, 3) := by decide +kernel
theorem dX5_explore_14 : decode cX5_explore 14 = .ok (.getfield 311, 3) := by decide +kernel
theorem dX5_explore_17 : decode cX5_explore 17 = .ok (.iload_n 1, 1) := by decide +kernel
theorem dX5_explore_18 : decode cX5_explore 18 = .ok (.aload_n 0, 1) := by decide +kernel
theorem dX5_explore_19 : decode cX5_explore 19 = .ok (.iload_n 1, 1) := by decide +kernel
theorem dX5_explore_20 : decode cX5_explore 20 = .ok (.invokevirtual 314, 3) := by decide +kernel
theorem dX5_explore_23 : decode cX5_explore 23 = .ok (.iastore, 1) := by decide +kernel
theorem dX5_explore_24 : decode cX5_explore 24 = .ok (.aload_n 0, 1) := by decide +kernel
theorem dX5_explore_25 : decode cX5_explore 25 = .ok (.getfield 38, 3) := by decide +kernel
theorem dX5_explore_28 : decode cX5_explore 28 = .ok (.getfield 317, 3) := by decide +kernel
theorem dX5_explore_31 : decode cX5_explore 31 = .ok (.iload_n 1, 1) := by decide +kernel
theorem dX5_explore_32 : decode cX5_explore 32 = .ok (.aload_n 0, 1) := by decide +kernel
theorem dX5_explore_33 : decode cX5_explore 33 = .ok (.iload_n 1, 1) := by decide +kernel
theorem dX5_explore_34 : decode cX5_explore 34 = .ok (.invokevirtual 182, 3) := by decide +kernel
theorem dX5_explore_37 : decode cX5_explore 37 = .ok (.iastore, 1) := by decide +kernel
theorem dX5_explore_38 : decode cX5_explore 38 = .ok (.iinc 1 1, 3) := by decide +kernel
theorem dX5_explore_41 : decode cX5_explore 41 = .ok (.goto (-39), 3) := by decide +kernel
theorem dX5_explore_44 : decode cX5_explore 44 = .ok (.aload_n 0, 1) := by decide +kernel
theorem dX5_explore_45 : decode cX5_explore 45 = .ok (.getfield 38, 3) := by decide +kernel
theorem dX5_explore_48 : decode cX5_explore 48 = .ok (.aload_n 0, 1) := by decide +kernel
theorem dX5_explore_49 : decode cX5_explore 49 = .ok (.getfield 42, 3) := by decide +kernel
theorem dX5_explore_52 : decode cX5_explore 52 = .ok (.invokestatic 320, 3) := by decide +kernel
theorem dX5_explore_55 : decode cX5_explore 55 = .ok (.invokevirtual 323, 3) := by decide +kernel
theorem dX5_explore_58 : decode cX5_explore 58 = .ok (.iconst 0, 1) := by decide +kernel
theorem dX5_explore_59 : decode cX5_explore 59 = .ok (.istore_n 1, 1) := by decide +kernel
theorem dX5_explore_60 : decode cX5_explore 60 = .ok (.iload_n 1, 1) := by decide +kernel
theorem dX5_explore_61 : decode cX5_explore 61 = .ok (.aload_n 0, 1) := by decide +kernel
theorem dX5_explore_62 : decode cX5_explore 62 = .ok (.getfield 38, 3) := by decide +kernel
theorem dX5_explore_65 : decode cX5_explore 65 = .ok (.getfield 263, 3) := by decide +kernel
theorem dX5_explore_68 : decode cX5_explore 68 = .ok (.if_icmp .ge 29, 3) := by decide +kernel
theorem dX5_explore_71 : decode cX5_explore 71 = .ok (.iload_n 1, 1) := by decide +kernel
theorem dX5_explore_72 : decode cX5_explore 72 = .ok (.sipush 1000, 3) := by decide +kernel
theorem dX5_explore_75 : decode cX5_explore 75 = .ok (.if_icmp .ge 22, 3) := by decide +kernel
theorem dX5_explore_78 : decode cX5_explore 78 = .ok (.aload_n 0, 1) := by decide +kernel
theorem dX5_explore_79 : decode cX5_explore 79 = .ok (.aload_n 0, 1) := by decide +kernel
theorem dX5_explore_80 : decode cX5_explore 80 = .ok (.getfield 38, 3) := by decide +kernel
theorem dX5_explore_83 : decode cX5_explore 83 = .ok (.getfield 266, 3) := by decide +kernel
theorem dX5_explore_86 : decode cX5_explore 86 = .ok (.iload_n 1, 1) := by decide +kernel
theorem dX5_explore_87 : decode cX5_explore 87 = .ok (.iaload, 1) := by decide +kernel
theorem dX5_explore_88 : decode cX5_explore 88 = .ok (.invokevirtual 327, 3) := by decide +kernel
theorem dX5_explore_91 : decode cX5_explore 91 = .ok (.iinc 1 1, 3) := by decide +kernel
theorem dX5_explore_94 : decode cX5_explore 94 = .ok (.goto (-34), 3) := by decide +kernel
theorem dX5_explore_97 : decode cX5_explore 97 = .ok (.return_, 1) := by decide +kernel
set_option maxRecDepth 20000 in
theorem ggX5_exploreFrom_X4_decode : GoodIn wsX5_exploreFrom wsX4_decode := goodIn_r _ [11] (by decide +kernel) (by decide +kernel)
set_option maxRecDepth 20000 in
theorem gX5_exploreFrom_X4_decode : GoodIn wsX5_exploreFrom (va_wsS RX5 269 yX4_decode wsX4_decode) := goodIn_app (goodIn_of _ (by decide +kernel)) ggX5_exploreFrom_X4_decode
set_option maxRecDepth 20000 in
theorem ggX5_exploreFrom_X5_raise : GoodIn wsX5_exploreFrom wsX5_raise := goodIn_r _ [15] (by decide +kernel) (by decide +kernel)
set_option maxRecDepth 20000 in
theorem gX5_exploreFrom_X5_raise : GoodIn wsX5_exploreFrom (va_wsS RX5 186 yX5_raise wsX5_raise) := goodIn_app (goodIn_of _ (by decide +kernel)) ggX5_exploreFrom_X5_raise
set_option maxRecDepth 20000 in
theorem ggX5_exploreFrom_X5_fitsWith : GoodIn wsX5_exploreFrom wsX5_fitsWith := goodIn_r _ [19, 20, 21, 22, 23, 24, 25, 26, 14, 27, 28, 29, 2, 30, 31, 32, 33, 34, 35, 36, 37, 38, 39, 40, 41, 42, 43, 44, 45, 46, 47, 48, 49, 50, 65, 66, 67, 68, 69, 70, 71, 72, 73, 74, 75, 76, 77, 78, 85, 86, 87, 88, 89, 90, 91, 92, 93, 94, 95] (by decide +kernel) (by decide +kernel)
set_option maxRecDepth 20000 in
theorem gX5_exploreFrom_X5_fitsWith : GoodIn wsX5_exploreFrom (wsV RX5 155 RX5 yX5_fitsWith wsX5_fitsWith) := goodIn_app (goodIn_of _ (by decide +kernel)) ggX5_exploreFrom_X5_fitsWith
set_option maxRecDepth 20000 in
theorem ggX5_exploreFrom_X4_encode : GoodIn wsX5_exploreFrom wsX4_encode := goodIn_r _ [53] (by decide +kernel) (by decide +kernel)
set_option maxRecDepth 20000 in
theorem gX5_exploreFrom_X4_encode : GoodIn wsX5_exploreFrom (va_wsS RX5 320 yX4_encode wsX4_encode) := goodIn_app (goodIn_of _ (by decide +kernel)) ggX5_exploreFrom_X4_encode
set_option maxRecDepth 20000 in
theorem ggX5_exploreFrom_X4_reach : GoodIn wsX5_exploreFrom wsX4_reach := goodIn_r _ [57, 58, 59, 60, 61, 62, 63, 34, 64, 79, 80, 81, 82, 83, 84] (by decide +kernel) (by decide +kernel)
set_option maxRecDepth 20000 in
theorem gX5_exploreFrom_X4_reach : GoodIn wsX5_exploreFrom (wsV RX5 330 RX4 yX4_reach wsX4_reach) := goodIn_app (goodIn_of _ (by decide +kernel)) ggX5_exploreFrom_X4_reach
theorem dX5_exploreFrom_0 : decode cX5_exploreFrom 0 = .ok (.iload_n 1, 1) := by decide +kernel
theorem dX5_exploreFrom_1 : decode cX5_exploreFrom 1 = .ok (.aload_n 0, 1) := by decide +kernel
theorem dX5_exploreFrom_2 : decode cX5_exploreFrom 2 = .ok (.getfield 46, 3) := by decide +kernel
theorem dX5_exploreFrom_5 : decode cX5_exploreFrom 5 = .ok (.invokestatic 269, 3) := by decide +kernel
theorem dX5_exploreFrom_8 : decode cX5_exploreFrom 8 = .ok (.iconst 0, 1) := by decide +kernel
theorem dX5_exploreFrom_9 : decode cX5_exploreFrom 9 = .ok (.istore_n 2, 1) := by decide +kernel
theorem dX5_exploreFrom_10 : decode cX5_exploreFrom 10 = .ok (.iload_n 2, 1) := by decide +kernel
theorem dX5_exploreFrom_11 : decode cX5_exploreFrom 11 = .ok (.aload_n 0, 1) := by decide +kernel
theorem dX5_exploreFrom_12 : decode cX5_exploreFrom 12 = .ok (.getfield 89, 3) := by decide +kernel
theorem dX5_exploreFrom_15 : decode cX5_exploreFrom 15 = .ok (.if_icmp .ge 97, 3) := by decide +kernel
theorem dX5_exploreFrom_18 : decode cX5_exploreFrom 18 = .ok (.aload_n 0, 1) := by decide +kernel
theorem dX5_exploreFrom_19 : decode cX5_exploreFrom 19 = .ok (.getfield 38, 3) := by decide +kernel
theorem dX5_exploreFrom_22 : decode cX5_exploreFrom 22 = .ok (.getfield 311, 3) := by decide +kernel
theorem dX5_exploreFrom_25 : decode cX5_exploreFrom 25 = .ok (.iload_n 2, 1) := by decide +kernel
theorem dX5_exploreFrom_26 : decode cX5_exploreFrom 26 = .ok (.iaload, 1) := by decide +kernel
theorem dX5_exploreFrom_27 : decode cX5_exploreFrom 27 = .ok (.iconst (-1), 1) := by decide +kernel
theorem dX5_exploreFrom_28 : decode cX5_exploreFrom 28 = .ok (.if_icmp .eq 78, 3) := by decide +kernel
theorem dX5_exploreFrom_31 : decode cX5_exploreFrom 31 = .ok (.aload_n 0, 1) := by decide +kernel
theorem dX5_exploreFrom_32 : decode cX5_exploreFrom 32 = .ok (.getfield 46, 3) := by decide +kernel
theorem dX5_exploreFrom_35 : decode cX5_exploreFrom 35 = .ok (.iload_n 2, 1) := by decide +kernel
theorem dX5_exploreFrom_36 : decode cX5_exploreFrom 36 = .ok (.iaload, 1) := by decide +kernel
theorem dX5_exploreFrom_37 : decode cX5_exploreFrom 37 = .ok (.ifCond .ne 6, 3) := by decide +kernel
theorem dX5_exploreFrom_40 : decode cX5_exploreFrom 40 = .ok (.goto 66, 3) := by decide +kernel
theorem dX5_exploreFrom_43 : decode cX5_exploreFrom 43 = .ok (.iload_n 2, 1) := by decide +kernel
theorem dX5_exploreFrom_44 : decode cX5_exploreFrom 44 = .ok (.aload_n 0, 1) := by decide +kernel
theorem dX5_exploreFrom_45 : decode cX5_exploreFrom 45 = .ok (.getfield 38, 3) := by decide +kernel
theorem dX5_exploreFrom_48 : decode cX5_exploreFrom 48 = .ok (.getfield 317, 3) := by decide +kernel
theorem dX5_exploreFrom_51 : decode cX5_exploreFrom 51 = .ok (.iload_n 2, 1) := by decide +kernel
theorem dX5_exploreFrom_52 : decode cX5_exploreFrom 52 = .ok (.iaload, 1) := by decide +kernel
theorem dX5_exploreFrom_53 : decode cX5_exploreFrom 53 = .ok (.aload_n 0, 1) := by decide +kernel
theorem dX5_exploreFrom_54 : decode cX5_exploreFrom 54 = .ok (.getfield 46, 3) := by decide +kernel
theorem dX5_exploreFrom_57 : decode cX5_exploreFrom 57 = .ok (.aload_n 0, 1) := by decide +kernel
theorem dX5_exploreFrom_58 : decode cX5_exploreFrom 58 = .ok (.getfield 49, 3) := by decide +kernel
theorem dX5_exploreFrom_61 : decode cX5_exploreFrom 61 = .ok (.invokestatic 186, 3) := by decide +kernel
theorem dX5_exploreFrom_64 : decode cX5_exploreFrom 64 = .ok (.aload_n 0, 1) := by decide +kernel
theorem dX5_exploreFrom_65 : decode cX5_exploreFrom 65 = .ok (.getfield 65, 3) := by decide +kernel
theorem dX5_exploreFrom_68 : decode cX5_exploreFrom 68 = .ok (.ifCond .eq 14, 3) := by decide +kernel
theorem dX5_exploreFrom_71 : decode cX5_exploreFrom 71 = .ok (.aload_n 0, 1) := by decide +kernel
theorem dX5_exploreFrom_72 : decode cX5_exploreFrom 72 = .ok (.aload_n 0, 1) := by decide +kernel
theorem dX5_exploreFrom_73 : decode cX5_exploreFrom 73 = .ok (.getfield 49, 3) := by decide +kernel
theorem dX5_exploreFrom_76 : decode cX5_exploreFrom 76 = .ok (.invokevirtual 155, 3) := by decide +kernel
theorem dX5_exploreFrom_79 : decode cX5_exploreFrom 79 = .ok (.ifCond .eq 27, 3) := by decide +kernel
theorem dX5_exploreFrom_82 : decode cX5_exploreFrom 82 = .ok (.aload_n 0, 1) := by decide +kernel
theorem dX5_exploreFrom_83 : decode cX5_exploreFrom 83 = .ok (.getfield 38, 3) := by decide +kernel
theorem dX5_exploreFrom_86 : decode cX5_exploreFrom 86 = .ok (.iload_n 1, 1) := by decide +kernel
theorem dX5_exploreFrom_87 : decode cX5_exploreFrom 87 = .ok (.aload_n 0, 1) := by decide +kernel
theorem dX5_exploreFrom_88 : decode cX5_exploreFrom 88 = .ok (.getfield 49, 3) := by decide +kernel
theorem dX5_exploreFrom_91 : decode cX5_exploreFrom 91 = .ok (.invokestatic 320, 3) := by decide +kernel
theorem dX5_exploreFrom_94 : decode cX5_exploreFrom 94 = .ok (.aload_n 0, 1) := by decide +kernel
theorem dX5_exploreFrom_95 : decode cX5_exploreFrom 95 = .ok (.getfield 38, 3) := by decide +kernel
theorem dX5_exploreFrom_98 : decode cX5_exploreFrom 98 = .ok (.getfield 311, 3) := by decide +kernel
theorem dX5_exploreFrom_101 : decode cX5_exploreFrom 101 = .ok (.iload_n 2, 1) := by decide +kernel
theorem dX5_exploreFrom_102 : decode cX5_exploreFrom 102 = .ok (.iaload, 1) := by decide +kernel
theorem dX5_exploreFrom_103 : decode cX5_exploreFrom 103 = .ok (.invokevirtual 330, 3) := by decide +kernel
theorem dX5_exploreFrom_106 : decode cX5_exploreFrom 106 = .ok (.iinc 2 1, 3) := by decide +kernel
theorem dX5_exploreFrom_109 : decode cX5_exploreFrom 109 = .ok (.goto (-99), 3) := by decide +kernel
theorem dX5_exploreFrom_112 : decode cX5_exploreFrom 112 = .ok (.return_, 1) := by decide +kernel
set_option maxRecDepth 20000 in
theorem ggX5_firstFreeThreadOf_X5_isHeld : GoodIn wsX5_firstFreeThreadOf wsX5_isHeld := goodIn_r _ [9, 10, 11, 12, 8, 13, 1, 2, 3, 4, 34, 35, 36, 37, 38, 39, 40, 41, 42, 43, 44, 45, 46, 47, 48, 49, 50, 51, 52, 53] (by decide +kernel) (by decide +kernel)
set_option maxRecDepth 20000 in
theorem gX5_firstFreeThreadOf_X5_isHeld : GoodIn wsX5_firstFreeThreadOf (wsV RX5 208 RX5 yX5_isHeld wsX5_isHeld) := goodIn_app (goodIn_of _ (by decide +kernel)) ggX5_firstFreeThreadOf_X5_isHeld
set_option maxRecDepth 20000 in
theorem ggX5_firstFreeThreadOf_X5_isCrossedByStronger : GoodIn wsX5_firstFreeThreadOf wsX5_isCrossedByStronger := goodIn_r _ [17, 1, 2, 4, 18, 19, 20, 21, 22, 23, 24, 25, 26, 27, 28, 29, 30, 31, 32, 33, 34, 35, 36, 37, 38, 39, 40, 41, 42, 43, 44, 45, 46, 47, 48, 49, 50, 51, 52, 53] (by decide +kernel) (by decide +kernel)
set_option maxRecDepth 20000 in
theorem gX5_firstFreeThreadOf_X5_isCrossedByStronger : GoodIn wsX5_firstFreeThreadOf (wsV RX5 308 RX5 yX5_isCrossedByStronger wsX5_isCrossedByStronger) := goodIn_app (goodIn_of _ (by decide +kernel)) ggX5_firstFreeThreadOf_X5_isCrossedByStronger
theorem dX5_firstFreeThreadOf_0 : decode cX5_firstFreeThreadOf 0 = .ok (.aload_n 0, 1) := by decide +kernel
theorem dX5_firstFreeThreadOf_1 : decode cX5_firstFreeThreadOf 1 = .ok (.iload_n 1, 1) := by decide +kernel
theorem dX5_firstFreeThreadOf_2 : decode cX5_firstFreeThreadOf 2 = .ok (.invokevirtual 208, 3) := by decide +kernel
theorem dX5_firstFreeThreadOf_5 : decode cX5_firstFreeThreadOf 5 = .ok (.ifCond .eq 5, 3) := by decide +kernel
theorem dX5_firstFreeThreadOf_8 : decode cX5_firstFreeThreadOf 8 = .ok (.iconst (-1), 1) := by decide +kernel
theorem dX5_firstFreeThreadOf_9 : decode cX5_firstFreeThreadOf 9 = .ok (.ireturn, 1) := by decide +kernel
theorem dX5_firstFreeThreadOf_10 : decode cX5_firstFreeThreadOf 10 = .ok (.iconst 0, 1) := by decide +kernel
theorem dX5_firstFreeThreadOf_11 : decode cX5_firstFreeThreadOf 11 = .ok (.istore_n 2, 1) := by decide +kernel
theorem dX5_firstFreeThreadOf_12 : decode cX5_firstFreeThreadOf 12 = .ok (.iload_n 2, 1) := by decide +kernel
theorem dX5_firstFreeThreadOf_13 : decode cX5_firstFreeThreadOf 13 = .ok (.aload_n 0, 1) := by decide +kernel
theorem dX5_firstFreeThreadOf_14 : decode cX5_firstFreeThreadOf 14 = .ok (.getfield 133, 3) := by decide +kernel
theorem dX5_firstFreeThreadOf_17 : decode cX5_firstFreeThreadOf 17 = .ok (.if_icmp .ge 49, 3) := by decide +kernel
theorem dX5_firstFreeThreadOf_20 : decode cX5_firstFreeThreadOf 20 = .ok (.aload_n 0, 1) := by decide +kernel
theorem dX5_firstFreeThreadOf_21 : decode cX5_firstFreeThreadOf 21 = .ok (.getfield 31, 3) := by decide +kernel
theorem dX5_firstFreeThreadOf_24 : decode cX5_firstFreeThreadOf 24 = .ok (.iload_n 2, 1) := by decide +kernel
theorem dX5_firstFreeThreadOf_25 : decode cX5_firstFreeThreadOf 25 = .ok (.aaload, 1) := by decide +kernel
theorem dX5_firstFreeThreadOf_26 : decode cX5_firstFreeThreadOf 26 = .ok (.getfield 138, 3) := by decide +kernel
theorem dX5_firstFreeThreadOf_29 : decode cX5_firstFreeThreadOf 29 = .ok (.iload_n 1, 1) := by decide +kernel
theorem dX5_firstFreeThreadOf_30 : decode cX5_firstFreeThreadOf 30 = .ok (.if_icmp .ne 30, 3) := by decide +kernel
theorem dX5_firstFreeThreadOf_33 : decode cX5_firstFreeThreadOf 33 = .ok (.aload_n 0, 1) := by decide +kernel
theorem dX5_firstFreeThreadOf_34 : decode cX5_firstFreeThreadOf 34 = .ok (.getfield 31, 3) := by decide +kernel
theorem dX5_firstFreeThreadOf_37 : decode cX5_firstFreeThreadOf 37 = .ok (.iload_n 2, 1) := by decide +kernel
theorem dX5_firstFreeThreadOf_38 : decode cX5_firstFreeThreadOf 38 = .ok (.aaload, 1) := by decide +kernel
theorem dX5_firstFreeThreadOf_39 : decode cX5_firstFreeThreadOf 39 = .ok (.getfield 164, 3) := by decide +kernel
theorem dX5_firstFreeThreadOf_42 : decode cX5_firstFreeThreadOf 42 = .ok (.ifCond .ne 18, 3) := by decide +kernel
theorem dX5_firstFreeThreadOf_45 : decode cX5_firstFreeThreadOf 45 = .ok (.aload_n 0, 1) := by decide +kernel
theorem dX5_firstFreeThreadOf_46 : decode cX5_firstFreeThreadOf 46 = .ok (.aload_n 0, 1) := by decide +kernel
theorem dX5_firstFreeThreadOf_47 : decode cX5_firstFreeThreadOf 47 = .ok (.getfield 31, 3) := by decide +kernel
theorem dX5_firstFreeThreadOf_50 : decode cX5_firstFreeThreadOf 50 = .ok (.iload_n 2, 1) := by decide +kernel
theorem dX5_firstFreeThreadOf_51 : decode cX5_firstFreeThreadOf 51 = .ok (.aaload, 1) := by decide +kernel
theorem dX5_firstFreeThreadOf_52 : decode cX5_firstFreeThreadOf 52 = .ok (.invokevirtual 308, 3) := by decide +kernel
theorem dX5_firstFreeThreadOf_55 : decode cX5_firstFreeThreadOf 55 = .ok (.ifCond .ne 5, 3) := by decide +kernel
theorem dX5_firstFreeThreadOf_58 : decode cX5_firstFreeThreadOf 58 = .ok (.iload_n 2, 1) := by decide +kernel
theorem dX5_firstFreeThreadOf_59 : decode cX5_firstFreeThreadOf 59 = .ok (.ireturn, 1) := by decide +kernel
theorem dX5_firstFreeThreadOf_60 : decode cX5_firstFreeThreadOf 60 = .ok (.iinc 2 1, 3) := by decide +kernel
theorem dX5_firstFreeThreadOf_63 : decode cX5_firstFreeThreadOf 63 = .ok (.goto (-51), 3) := by decide +kernel
theorem dX5_firstFreeThreadOf_66 : decode cX5_firstFreeThreadOf 66 = .ok (.iconst (-1), 1) := by decide +kernel
theorem dX5_firstFreeThreadOf_67 : decode cX5_firstFreeThreadOf 67 = .ok (.ireturn, 1) := by decide +kernel
theorem dX6_init_0 : decode cX6_init 0 = .ok (.aload_n 0, 1) := by decide +kernel
theorem dX6_init_1 : decode cX6_init 1 = .ok (.invokespecial 1, 3) := by decide +kernel
theorem dX6_init_4 : decode cX6_init 4 = .ok (.aload_n 0, 1) := by decide +kernel
theorem dX6_init_5 : decode cX6_init 5 = .ok (.bipush 8, 2) := by decide +kernel
theorem dX6_init_7 : decode cX6_init 7 = .ok (.putfield 7, 3) := by decide +kernel
theorem dX6_init_10 : decode cX6_init 10 = .ok (.aload_n 0, 1) := by decide +kernel
theorem dX6_init_11 : decode cX6_init 11 = .ok (.bipush 30, 2) := by decide +kernel
theorem dX6_init_13 : decode cX6_init 13 = .ok (.putfield 13, 3) := by decide +kernel
theorem dX6_init_16 : decode cX6_init 16 = .ok (.aload_n 0, 1) := by decide +kernel
theorem dX6_init_17 : decode cX6_init 17 = .ok (.bipush 60, 2) := by decide +kernel
theorem dX6_init_19 : decode cX6_init 19 = .ok (.putfield 16, 3) := by decide +kernel
theorem dX6_init_22 : decode cX6_init 22 = .ok (.aload_n 0, 1) := by decide +kernel
theorem dX6_init_23 : decode cX6_init 23 = .ok (.bipush 40, 2) := by decide +kernel
theorem dX6_init_25 : decode cX6_init 25 = .ok (.putfield 19, 3) := by decide +kernel
theorem dX6_init_28 : decode cX6_init 28 = .ok (.aload_n 0, 1) := by decide +kernel
theorem dX6_init_29 : decode cX6_init 29 = .ok (.iconst 4, 1) := by decide +kernel
theorem dX6_init_30 : decode cX6_init 30 = .ok (.putfield 22, 3) := by decide +kernel
theorem dX6_init_33 : decode cX6_init 33 = .ok (.aload_n 0, 1) := by decide +kernel
theorem dX6_init_34 : decode cX6_init 34 = .ok (.iconst 5, 1) := by decide +kernel
theorem dX6_init_35 : decode cX6_init 35 = .ok (.putfield 25, 3) := by decide +kernel
theorem dX6_init_38 : decode cX6_init 38 = .ok (.aload_n 0, 1) := by decide +kernel
theorem dX6_init_39 : decode cX6_init 39 = .ok (.iconst 3, 1) := by decide +kernel
theorem dX6_init_40 : decode cX6_init 40 = .ok (.newarray .int, 2) := by decide +kernel
theorem dX6_init_42 : decode cX6_init 42 = .ok (.putfield 28, 3) := by decide +kernel
theorem dX6_init_45 : decode cX6_init 45 = .ok (.aload_n 0, 1) := by decide +kernel
theorem dX6_init_46 : decode cX6_init 46 = .ok (.iconst 3, 1) := by decide +kernel
theorem dX6_init_47 : decode cX6_init 47 = .ok (.newarray .int, 2) := by decide +kernel
theorem dX6_init_49 : decode cX6_init 49 = .ok (.putfield 32, 3) := by decide +kernel
theorem dX6_init_52 : decode cX6_init 52 = .ok (.aload_n 0, 1) := by decide +kernel
theorem dX6_init_53 : decode cX6_init 53 = .ok (.iconst 3, 1) := by decide +kernel
theorem dX6_init_54 : decode cX6_init 54 = .ok (.newarray .int, 2) := by decide +kernel
theorem dX6_init_56 : decode cX6_init 56 = .ok (.putfield 35, 3) := by decide +kernel
theorem dX6_init_59 : decode cX6_init 59 = .ok (.aload_n 0, 1) := by decide +kernel
theorem dX6_init_60 : decode cX6_init 60 = .ok (.bipush 9, 2) := by decide +kernel
theorem dX6_init_62 : decode cX6_init 62 = .ok (.newarray .int, 2) := by decide +kernel
theorem dX6_init_64 : decode cX6_init 64 = .ok (.putfield 38, 3) := by decide +kernel
theorem dX6_init_67 : decode cX6_init 67 = .ok (.aload_n 0, 1) := by decide +kernel
theorem dX6_init_68 : decode cX6_init 68 = .ok (.bipush 8, 2) := by decide +kernel
theorem dX6_init_70 : decode cX6_init 70 = .ok (.newarray .int, 2) := by decide +kernel
theorem dX6_init_72 : decode cX6_init 72 = .ok (.putfield 41, 3) := by decide +kernel
theorem dX6_init_75 : decode cX6_init 75 = .ok (.aload_n 0, 1) := by decide +kernel
theorem dX6_init_76 : decode cX6_init 76 = .ok (.bipush 8, 2) := by decide +kernel
theorem dX6_init_78 : decode cX6_init 78 = .ok (.newarray .int, 2) := by decide +kernel
theorem dX6_init_80 : decode cX6_init 80 = .ok (.putfield 44, 3) := by decide +kernel
theorem dX6_init_83 : decode cX6_init 83 = .ok (.aload_n 0, 1) := by decide +kernel
theorem dX6_init_84 : decode cX6_init 84 = .ok (.bipush 8, 2) := by decide +kernel
theorem dX6_init_86 : decode cX6_init 86 = .ok (.newarray .int, 2) := by decide +kernel
theorem dX6_init_88 : decode cX6_init 88 = .ok (.putfield 47, 3) := by decide +kernel
theorem dX6_init_91 : decode cX6_init 91 = .ok (.aload_n 0, 1) := by decide +kernel
theorem dX6_init_92 : decode cX6_init 92 = .ok (.bipush 8, 2) := by decide +kernel
theorem dX6_init_94 : decode cX6_init 94 = .ok (.newarray .int, 2) := by decide +kernel
theorem dX6_init_96 : decode cX6_init 96 = .ok (.putfield 50, 3) := by decide +kernel
theorem dX6_init_99 : decode cX6_init 99 = .ok (.aload_n 0, 1) := by decide +kernel
theorem dX6_init_100 : decode cX6_init 100 = .ok (.sipush 1000, 3) := by decide +kernel
theorem dX6_init_103 : decode cX6_init 103 = .ok (.newarray .int, 2) := by decide +kernel
theorem dX6_init_105 : decode cX6_init 105 = .ok (.putfield 53, 3) := by decide +kernel
theorem dX6_init_108 : decode cX6_init 108 = .ok (.aload_n 0, 1) := by decide +kernel
theorem dX6_init_109 : decode cX6_init 109 = .ok (.sipush 1000, 3) := by decide +kernel
theorem dX6_init_112 : decode cX6_init 112 = .ok (.newarray .int, 2) := by decide +kernel
theorem dX6_init_114 : decode cX6_init 114 = .ok (.putfield 56, 3) := by decide +kernel
theorem dX6_init_117 : decode cX6_init 117 = .ok (.return_, 1) := by decide +kernel
theorem dX6_thrown_0 : decode cX6_thrown 0 = .ok (.aload_n 0, 1) := by decide +kernel
theorem dX6_thrown_1 : decode cX6_thrown 1 = .ok (.getfield 59, 3) := by decide +kernel
theorem dX6_thrown_4 : decode cX6_thrown 4 = .ok (.ireturn, 1) := by decide +kernel
theorem dX6_no_0 : decode cX6_no 0 = .ok (.aload_n 0, 1) := by decide +kernel
theorem dX6_no_1 : decode cX6_no 1 = .ok (.iload_n 1, 1) := by decide +kernel
theorem dX6_no_2 : decode cX6_no 2 = .ok (.putfield 59, 3) := by decide +kernel
theorem dX6_no_5 : decode cX6_no 5 = .ok (.iconst 0, 1) := by decide +kernel
theorem dX6_no_6 : decode cX6_no 6 = .ok (.ireturn, 1) := by decide +kernel
theorem dX6_isBetween_0 : decode cX6_isBetween 0 = .ok (.iload_n 0, 1) := by decide +kernel
theorem dX6_isBetween_1 : decode cX6_isBetween 1 = .ok (.iload_n 1, 1) := by decide +kernel
theorem dX6_isBetween_2 : decode cX6_isBetween 2 = .ok (.if_icmp .lt 12, 3) := by decide +kernel
theorem dX6_isBetween_5 : decode cX6_isBetween 5 = .ok (.iload_n 0, 1) := by decide +kernel
theorem dX6_isBetween_6 : decode cX6_isBetween 6 = .ok (.iload_n 2, 1) := by decide +kernel
theorem dX6_isBetween_7 : decode cX6_isBetween 7 = .ok (.if_icmp .gt 7, 3) := by decide +kernel
theorem dX6_isBetween_10 : decode cX6_isBetween 10 = .ok (.iconst 1, 1) := by decide +kernel
theorem dX6_isBetween_11 : decode cX6_isBetween 11 = .ok (.goto 4, 3) := by decide +kernel
theorem dX6_isBetween_14 : decode cX6_isBetween 14 = .ok (.iconst 0, 1) := by decide +kernel
theorem dX6_isBetween_15 : decode cX6_isBetween 15 = .ok (.ireturn, 1) := by decide +kernel
set_option maxRecDepth 20000 in
theorem ggX6_isMast_X6_isBetween : GoodIn wsX6_isMast wsX6_isBetween := goodIn_r _ [5] (by decide +kernel) (by decide +kernel)
set_option maxRecDepth 20000 in
theorem gX6_isMast_X6_isBetween : GoodIn wsX6_isMast (va_wsS RX6 65 yX6_isBetween wsX6_isBetween) := goodIn_app (goodIn_of _ (by decide +kernel)) ggX6_isMast_X6_isBetween
theorem dX6_isMast_0 : decode cX6_isMast 0 = .ok (.iload_n 1, 1) := by decide +kernel
theorem dX6_isMast_1 : decode cX6_isMast 1 = .ok (.iconst 0, 1) := by decide +kernel
theorem dX6_isMast_2 : decode cX6_isMast 2 = .ok (.aload_n 0, 1) := by decide +kernel
theorem dX6_isMast_3 : decode cX6_isMast 3 = .ok (.getfield 62, 3) := by decide +kernel
theorem dX6_isMast_6 : decode cX6_isMast 6 = .ok (.iconst 1, 1) := by decide +kernel
theorem dX6_isMast_7 : decode cX6_isMast 7 = .ok (.isub, 1) := by decide +kernel
theorem dX6_isMast_8 : decode cX6_isMast 8 = .ok (.invokestatic 65, 3) := by decide +kernel
theorem dX6_isMast_11 : decode cX6_isMast 11 = .ok (.ireturn, 1) := by decide +kernel
set_option maxRecDepth 20000 in
theorem ggX6_isThread_X6_isBetween : GoodIn wsX6_isThread wsX6_isBetween := goodIn_r _ [5] (by decide +kernel) (by decide +kernel)
set_option maxRecDepth 20000 in
theorem gX6_isThread_X6_isBetween : GoodIn wsX6_isThread (va_wsS RX6 65 yX6_isBetween wsX6_isBetween) := goodIn_app (goodIn_of _ (by decide +kernel)) ggX6_isThread_X6_isBetween
theorem dX6_isThread_0 : decode cX6_isThread 0 = .ok (.iload_n 1, 1) := by decide +kernel
theorem dX6_isThread_1 : decode cX6_isThread 1 = .ok (.iconst 0, 1) := by decide +kernel
theorem dX6_isThread_2 : decode cX6_isThread 2 = .ok (.aload_n 0, 1) := by decide +kernel
theorem dX6_isThread_3 : decode cX6_isThread 3 = .ok (.getfield 69, 3) := by decide +kernel
theorem dX6_isThread_6 : decode cX6_isThread 6 = .ok (.iconst 1, 1) := by decide +kernel
theorem dX6_isThread_7 : decode cX6_isThread 7 = .ok (.isub, 1) := by decide +kernel
theorem dX6_isThread_8 : decode cX6_isThread 8 = .ok (.invokestatic 65, 3) := by decide +kernel
theorem dX6_isThread_11 : decode cX6_isThread 11 = .ok (.ireturn, 1) := by decide +kernel
theorem dX6_unit_0 : decode cX6_unit 0 = .ok (.iload_n 0, 1) := by decide +kernel
theorem dX6_unit_1 : decode cX6_unit 1 = .ok (.ifCond .ne 7, 3) := by decide +kernel
theorem dX6_unit_4 : decode cX6_unit 4 = .ok (.iconst 1, 1) := by decide +kernel
theorem dX6_unit_5 : decode cX6_unit 5 = .ok (.goto 15, 3) := by decide +kernel
theorem dX6_unit_8 : decode cX6_unit 8 = .ok (.iload_n 0, 1) := by decide +kernel
theorem dX6_unit_9 : decode cX6_unit 9 = .ok (.iconst 1, 1) := by decide +kernel
theorem dX6_unit_10 : decode cX6_unit 10 = .ok (.if_icmp .ne 8, 3) := by decide +kernel
theorem dX6_unit_13 : decode cX6_unit 13 = .ok (.bipush 10, 2) := by decide +kernel
theorem dX6_unit_15 : decode cX6_unit 15 = .ok (.goto 5, 3) := by decide +kernel
theorem dX6_unit_18 : decode cX6_unit 18 = .ok (.bipush 100, 2) := by decide +kernel
theorem dX6_unit_20 : decode cX6_unit 20 = .ok (.ireturn, 1) := by decide +kernel
set_option maxRecDepth 20000 in
theorem ggX6_lean_X6_unit : GoodIn wsX6_lean wsX6_unit := goodIn_r _ [4] (by decide +kernel) (by decide +kernel)
set_option maxRecDepth 20000 in
theorem gX6_lean_X6_unit : GoodIn wsX6_lean (va_wsS RX6 72 yX6_unit wsX6_unit) := goodIn_app (goodIn_of _ (by decide +kernel)) ggX6_lean_X6_unit
theorem dX6_lean_0 : decode cX6_lean 0 = .ok (.iload_n 0, 1) := by decide +kernel
theorem dX6_lean_1 : decode cX6_lean 1 = .ok (.iload_n 1, 1) := by decide +kernel
theorem dX6_lean_2 : decode cX6_lean 2 = .ok (.invokestatic 72, 3) := by decide +kernel
theorem dX6_lean_5 : decode cX6_lean 5 = .ok (.idiv, 1) := by decide +kernel
theorem dX6_lean_6 : decode cX6_lean 6 = .ok (.bipush 10, 2) := by decide +kernel
theorem dX6_lean_8 : decode cX6_lean 8 = .ok (.irem, 1) := by decide +kernel
theorem dX6_lean_9 : decode cX6_lean 9 = .ok (.ireturn, 1) := by decide +kernel
set_option maxRecDepth 20000 in
theorem ggX6_stands_X6_lean : GoodIn wsX6_stands wsX6_lean := goodIn_r _ [5, 6, 7, 4, 8] (by decide +kernel) (by decide +kernel)
set_option maxRecDepth 20000 in
theorem gX6_stands_X6_lean : GoodIn wsX6_stands (va_wsS RX6 76 yX6_lean wsX6_lean) := goodIn_app (goodIn_of _ (by decide +kernel)) ggX6_stands_X6_lean
theorem dX6_stands_0 : decode cX6_stands 0 = .ok (.aload_n 0, 1) := by decide +kernel
theorem dX6_stands_1 : decode cX6_stands 1 = .ok (.getfield 32, 3) := by decide +kernel
theorem dX6_stands_4 : decode cX6_stands 4 = .ok (.iload_n 2, 1) := by decide +kernel
theorem dX6_stands_5 : decode cX6_stands 5 = .ok (.iaload, 1) := by decide +kernel
theorem dX6_stands_6 : decode cX6_stands 6 = .ok (.bipush 9, 2) := by decide +kernel
theorem dX6_stands_8 : decode cX6_stands 8 = .ok (.iload_n 1, 1) := by decide +kernel
theorem dX6_stands_9 : decode cX6_stands 9 = .ok (.iload_n 2, 1) := by decide +kernel
theorem dX6_stands_10 : decode cX6_stands 10 = .ok (.invokestatic 76, 3) := by decide +kernel
theorem dX6_stands_13 : decode cX6_stands 13 = .ok (.isub, 1) := by decide +kernel
theorem dX6_stands_14 : decode cX6_stands 14 = .ok (.imul, 1) := by decide +kernel
theorem dX6_stands_15 : decode cX6_stands 15 = .ok (.bipush 9, 2) := by decide +kernel
theorem dX6_stands_17 : decode cX6_stands 17 = .ok (.idiv, 1) := by decide +kernel
theorem dX6_stands_18 : decode cX6_stands 18 = .ok (.ireturn, 1) := by decide +kernel
set_option maxRecDepth 20000 in
theorem ggX6_reach_X6_lean : GoodIn wsX6_reach wsX6_lean := goodIn_r _ [5, 6, 7, 4, 8] (by decide +kernel) (by decide +kernel)
set_option maxRecDepth 20000 in
theorem gX6_reach_X6_lean : GoodIn wsX6_reach (va_wsS RX6 76 yX6_lean wsX6_lean) := goodIn_app (goodIn_of _ (by decide +kernel)) ggX6_reach_X6_lean
theorem dX6_reach_0 : decode cX6_reach 0 = .ok (.aload_n 0, 1) := by decide +kernel
theorem dX6_reach_1 : decode cX6_reach 1 = .ok (.getfield 32, 3) := by decide +kernel
theorem dX6_reach_4 : decode cX6_reach 4 = .ok (.iload_n 2, 1) := by decide +kernel
theorem dX6_reach_5 : decode cX6_reach 5 = .ok (.iaload, 1) := by decide +kernel
theorem dX6_reach_6 : decode cX6_reach 6 = .ok (.iload_n 1, 1) := by decide +kernel
theorem dX6_reach_7 : decode cX6_reach 7 = .ok (.iload_n 2, 1) := by decide +kernel
theorem dX6_reach_8 : decode cX6_reach 8 = .ok (.invokestatic 76, 3) := by decide +kernel
theorem dX6_reach_11 : decode cX6_reach 11 = .ok (.imul, 1) := by decide +kernel
theorem dX6_reach_12 : decode cX6_reach 12 = .ok (.bipush 9, 2) := by decide +kernel
theorem dX6_reach_14 : decode cX6_reach 14 = .ok (.idiv, 1) := by decide +kernel
theorem dX6_reach_15 : decode cX6_reach 15 = .ok (.ireturn, 1) := by decide +kernel
set_option maxRecDepth 20000 in
theorem ggX6_top_X6_stands : GoodIn wsX6_top wsX6_stands := goodIn_r _ [11, 12, 13, 14, 10, 15, 16, 17, 18, 19, 20, 21, 22, 23, 24, 25, 26, 27, 28, 29, 30, 31, 32, 33, 34, 35, 36, 37, 38, 39, 40, 41, 42, 43] (by decide +kernel) (by decide +kernel)
set_option maxRecDepth 20000 in
theorem gX6_top_X6_stands : GoodIn wsX6_top (wsV RX6 80 RX6 yX6_stands wsX6_stands) := goodIn_app (goodIn_of _ (by decide +kernel)) ggX6_top_X6_stands
theorem dX6_top_0 : decode cX6_top 0 = .ok (.iconst 0, 1) := by decide +kernel
theorem dX6_top_1 : decode cX6_top 1 = .ok (.istore_n 2, 1) := by decide +kernel
theorem dX6_top_2 : decode cX6_top 2 = .ok (.iconst 0, 1) := by decide +kernel
theorem dX6_top_3 : decode cX6_top 3 = .ok (.istore_n 3, 1) := by decide +kernel
theorem dX6_top_4 : decode cX6_top 4 = .ok (.iload_n 3, 1) := by decide +kernel
theorem dX6_top_5 : decode cX6_top 5 = .ok (.aload_n 0, 1) := by decide +kernel
theorem dX6_top_6 : decode cX6_top 6 = .ok (.getfield 62, 3) := by decide +kernel
theorem dX6_top_9 : decode cX6_top 9 = .ok (.if_icmp .ge 20, 3) := by decide +kernel
theorem dX6_top_12 : decode cX6_top 12 = .ok (.iload_n 2, 1) := by decide +kernel
theorem dX6_top_13 : decode cX6_top 13 = .ok (.aload_n 0, 1) := by decide +kernel
theorem dX6_top_14 : decode cX6_top 14 = .ok (.iload_n 1, 1) := by decide +kernel
theorem dX6_top_15 : decode cX6_top 15 = .ok (.iload_n 3, 1) := by decide +kernel
theorem dX6_top_16 : decode cX6_top 16 = .ok (.invokevirtual 80, 3) := by decide +kernel
theorem dX6_top_19 : decode cX6_top 19 = .ok (.invokestatic 83, 3) := by decide +kernel
theorem dX6_top_22 : decode cX6_top 22 = .ok (.istore_n 2, 1) := by decide +kernel
theorem dX6_top_23 : decode cX6_top 23 = .ok (.iinc 3 1, 3) := by decide +kernel
theorem dX6_top_26 : decode cX6_top 26 = .ok (.goto (-22), 3) := by decide +kernel
theorem dX6_top_29 : decode cX6_top 29 = .ok (.aload_n 0, 1) := by decide +kernel
theorem dX6_top_30 : decode cX6_top 30 = .ok (.getfield 22, 3) := by decide +kernel
theorem dX6_top_33 : decode cX6_top 33 = .ok (.iload_n 2, 1) := by decide +kernel
theorem dX6_top_34 : decode cX6_top 34 = .ok (.iadd, 1) := by decide +kernel
theorem dX6_top_35 : decode cX6_top 35 = .ok (.ireturn, 1) := by decide +kernel
set_option maxRecDepth 20000 in
theorem ggX6_end_X6_reach : GoodIn wsX6_end wsX6_reach := goodIn_r _ [12, 13, 14, 15, 11, 16, 17, 18, 19, 20, 21, 22, 23, 24, 25, 26, 27, 28, 29, 30, 31, 32, 33, 34, 35, 36, 37, 38, 39, 40, 41, 42, 43, 44] (by decide +kernel) (by decide +kernel)
set_option maxRecDepth 20000 in
theorem gX6_end_X6_reach : GoodIn wsX6_end (wsV RX6 88 RX6 yX6_reach wsX6_reach) := goodIn_app (goodIn_of _ (by decide +kernel)) ggX6_end_X6_reach
theorem dX6_end_0 : decode cX6_end 0 = .ok (.aload_n 0, 1) := by decide +kernel
theorem dX6_end_1 : decode cX6_end 1 = .ok (.getfield 19, 3) := by decide +kernel
theorem dX6_end_4 : decode cX6_end 4 = .ok (.istore_n 2, 1) := by decide +kernel
theorem dX6_end_5 : decode cX6_end 5 = .ok (.iconst 0, 1) := by decide +kernel
theorem dX6_end_6 : decode cX6_end 6 = .ok (.istore_n 3, 1) := by decide +kernel
theorem dX6_end_7 : decode cX6_end 7 = .ok (.iload_n 3, 1) := by decide +kernel
theorem dX6_end_8 : decode cX6_end 8 = .ok (.aload_n 0, 1) := by decide +kernel
theorem dX6_end_9 : decode cX6_end 9 = .ok (.getfield 62, 3) := by decide +kernel
theorem dX6_end_12 : decode cX6_end 12 = .ok (.if_icmp .ge 27, 3) := by decide +kernel
theorem dX6_end_15 : decode cX6_end 15 = .ok (.iload_n 2, 1) := by decide +kernel
theorem dX6_end_16 : decode cX6_end 16 = .ok (.aload_n 0, 1) := by decide +kernel
theorem dX6_end_17 : decode cX6_end 17 = .ok (.getfield 28, 3) := by decide +kernel
theorem dX6_end_20 : decode cX6_end 20 = .ok (.iload_n 3, 1) := by decide +kernel
theorem dX6_end_21 : decode cX6_end 21 = .ok (.iaload, 1) := by decide +kernel
theorem dX6_end_22 : decode cX6_end 22 = .ok (.aload_n 0, 1) := by decide +kernel
theorem dX6_end_23 : decode cX6_end 23 = .ok (.iload_n 1, 1) := by decide +kernel
theorem dX6_end_24 : decode cX6_end 24 = .ok (.iload_n 3, 1) := by decide +kernel
theorem dX6_end_25 : decode cX6_end 25 = .ok (.invokevirtual 88, 3) := by decide +kernel
theorem dX6_end_28 : decode cX6_end 28 = .ok (.iadd, 1) := by decide +kernel
theorem dX6_end_29 : decode cX6_end 29 = .ok (.invokestatic 83, 3) := by decide +kernel
theorem dX6_end_32 : decode cX6_end 32 = .ok (.istore_n 2, 1) := by decide +kernel
theorem dX6_end_33 : decode cX6_end 33 = .ok (.iinc 3 1, 3) := by decide +kernel
theorem dX6_end_36 : decode cX6_end 36 = .ok (.goto (-29), 3) := by decide +kernel
theorem dX6_end_39 : decode cX6_end 39 = .ok (.iload_n 2, 1) := by decide +kernel
theorem dX6_end_40 : decode cX6_end 40 = .ok (.ireturn, 1) := by decide +kernel
set_option maxRecDepth 20000 in
theorem ggX6_breadth_X6_lean : GoodIn wsX6_breadth wsX6_lean := goodIn_r _ [12, 13, 14, 11, 15] (by decide +kernel) (by decide +kernel)
set_option maxRecDepth 20000 in
theorem gX6_breadth_X6_lean : GoodIn wsX6_breadth (va_wsS RX6 76 yX6_lean wsX6_lean) := goodIn_app (goodIn_of _ (by decide +kernel)) ggX6_breadth_X6_lean
theorem dX6_breadth_0 : decode cX6_breadth 0 = .ok (.aload_n 0, 1) := by decide +kernel
theorem dX6_breadth_1 : decode cX6_breadth 1 = .ok (.getfield 25, 3) := by decide +kernel
theorem dX6_breadth_4 : decode cX6_breadth 4 = .ok (.istore_n 2, 1) := by decide +kernel
theorem dX6_breadth_5 : decode cX6_breadth 5 = .ok (.iconst 0, 1) := by decide +kernel
theorem dX6_breadth_6 : decode cX6_breadth 6 = .ok (.istore_n 3, 1) := by decide +kernel
theorem dX6_breadth_7 : decode cX6_breadth 7 = .ok (.iload_n 3, 1) := by decide +kernel
theorem dX6_breadth_8 : decode cX6_breadth 8 = .ok (.aload_n 0, 1) := by decide +kernel
theorem dX6_breadth_9 : decode cX6_breadth 9 = .ok (.getfield 62, 3) := by decide +kernel
theorem dX6_breadth_12 : decode cX6_breadth 12 = .ok (.if_icmp .ge 55, 3) := by decide +kernel
theorem dX6_breadth_15 : decode cX6_breadth 15 = .ok (.iconst 0, 1) := by decide +kernel
theorem dX6_breadth_16 : decode cX6_breadth 16 = .ok (.istore 4, 2) := by decide +kernel
theorem dX6_breadth_18 : decode cX6_breadth 18 = .ok (.iload 4, 2) := by decide +kernel
theorem dX6_breadth_20 : decode cX6_breadth 20 = .ok (.aload_n 0, 1) := by decide +kernel
theorem dX6_breadth_21 : decode cX6_breadth 21 = .ok (.getfield 35, 3) := by decide +kernel
theorem dX6_breadth_24 : decode cX6_breadth 24 = .ok (.iload_n 3, 1) := by decide +kernel
theorem dX6_breadth_25 : decode cX6_breadth 25 = .ok (.iaload, 1) := by decide +kernel
theorem dX6_breadth_26 : decode cX6_breadth 26 = .ok (.if_icmp .ge 35, 3) := by decide +kernel
theorem dX6_breadth_29 : decode cX6_breadth 29 = .ok (.iload_n 1, 1) := by decide +kernel
theorem dX6_breadth_30 : decode cX6_breadth 30 = .ok (.iload_n 3, 1) := by decide +kernel
theorem dX6_breadth_31 : decode cX6_breadth 31 = .ok (.invokestatic 76, 3) := by decide +kernel
theorem dX6_breadth_34 : decode cX6_breadth 34 = .ok (.bipush 9, 2) := by decide +kernel
theorem dX6_breadth_36 : decode cX6_breadth 36 = .ok (.if_icmp .ge 25, 3) := by decide +kernel
theorem dX6_breadth_39 : decode cX6_breadth 39 = .ok (.iload_n 2, 1) := by decide +kernel
theorem dX6_breadth_40 : decode cX6_breadth 40 = .ok (.aload_n 0, 1) := by decide +kernel
theorem dX6_breadth_41 : decode cX6_breadth 41 = .ok (.getfield 38, 3) := by decide +kernel
theorem dX6_breadth_44 : decode cX6_breadth 44 = .ok (.iconst 3, 1) := by decide +kernel
theorem dX6_breadth_45 : decode cX6_breadth 45 = .ok (.iload_n 3, 1) := by decide +kernel
theorem dX6_breadth_46 : decode cX6_breadth 46 = .ok (.imul, 1) := by decide +kernel
theorem dX6_breadth_47 : decode cX6_breadth 47 = .ok (.iload 4, 2) := by decide +kernel
theorem dX6_breadth_49 : decode cX6_breadth 49 = .ok (.iadd, 1) := by decide +kernel
theorem dX6_breadth_50 : decode cX6_breadth 50 = .ok (.iaload, 1) := by decide +kernel
theorem dX6_breadth_51 : decode cX6_breadth 51 = .ok (.invokestatic 83, 3) := by decide +kernel
theorem dX6_breadth_54 : decode cX6_breadth 54 = .ok (.istore_n 2, 1) := by decide +kernel
theorem dX6_breadth_55 : decode cX6_breadth 55 = .ok (.iinc 4 1, 3) := by decide +kernel
theorem dX6_breadth_58 : decode cX6_breadth 58 = .ok (.goto (-40), 3) := by decide +kernel
theorem dX6_breadth_61 : decode cX6_breadth 61 = .ok (.iinc 3 1, 3) := by decide +kernel
theorem dX6_breadth_64 : decode cX6_breadth 64 = .ok (.goto (-57), 3) := by decide +kernel
theorem dX6_breadth_67 : decode cX6_breadth 67 = .ok (.iload_n 2, 1) := by decide +kernel
theorem dX6_breadth_68 : decode cX6_breadth 68 = .ok (.ireturn, 1) := by decide +kernel
set_option maxRecDepth 20000 in
theorem ggX6_goesThrough_X6_breadth : GoodIn wsX6_goesThrough wsX6_breadth := goodIn_r _ [7, 8, 9, 10, 11, 12, 13, 14, 15, 16, 17, 6, 18, 19, 20, 21, 32, 33, 34, 35, 36, 37, 38, 39, 40, 41, 42, 43, 44, 45, 46, 47, 48, 49, 50, 51, 52, 53, 54, 55, 56] (by decide +kernel) (by decide +kernel)
set_option maxRecDepth 20000 in
theorem gX6_goesThrough_X6_breadth : GoodIn wsX6_goesThrough (wsV RX6 94 RX6 yX6_breadth wsX6_breadth) := goodIn_app (goodIn_of _ (by decide +kernel)) ggX6_goesThrough_X6_breadth
set_option maxRecDepth 20000 in
theorem ggX6_goesThrough_X6_top : GoodIn wsX6_goesThrough wsX6_top := goodIn_r _ [25, 9, 12, 13, 14, 15, 26, 27, 28, 29, 6, 30, 31, 16, 17, 18, 19, 20, 21, 32, 33, 34, 35, 36, 37, 38, 39, 40, 41, 42, 43, 44, 45, 46, 47, 48, 49, 50, 51, 52, 53, 54, 55, 56] (by decide +kernel) (by decide +kernel)
set_option maxRecDepth 20000 in
theorem gX6_goesThrough_X6_top : GoodIn wsX6_goesThrough (wsV RX6 97 RX6 yX6_top wsX6_top) := goodIn_app (goodIn_of _ (by decide +kernel)) ggX6_goesThrough_X6_top
theorem dX6_goesThrough_0 : decode cX6_goesThrough 0 = .ok (.aload_n 0, 1) := by decide +kernel
theorem dX6_goesThrough_1 : decode cX6_goesThrough 1 = .ok (.aload_n 0, 1) := by decide +kernel
theorem dX6_goesThrough_2 : decode cX6_goesThrough 2 = .ok (.getfield 91, 3) := by decide +kernel
theorem dX6_goesThrough_5 : decode cX6_goesThrough 5 = .ok (.invokevirtual 94, 3) := by decide +kernel
theorem dX6_goesThrough_8 : decode cX6_goesThrough 8 = .ok (.aload_n 0, 1) := by decide +kernel
theorem dX6_goesThrough_9 : decode cX6_goesThrough 9 = .ok (.getfield 7, 3) := by decide +kernel
theorem dX6_goesThrough_12 : decode cX6_goesThrough 12 = .ok (.if_icmp .gt 22, 3) := by decide +kernel
theorem dX6_goesThrough_15 : decode cX6_goesThrough 15 = .ok (.aload_n 0, 1) := by decide +kernel
theorem dX6_goesThrough_16 : decode cX6_goesThrough 16 = .ok (.aload_n 0, 1) := by decide +kernel
theorem dX6_goesThrough_17 : decode cX6_goesThrough 17 = .ok (.getfield 91, 3) := by decide +kernel
theorem dX6_goesThrough_20 : decode cX6_goesThrough 20 = .ok (.invokevirtual 97, 3) := by decide +kernel
theorem dX6_goesThrough_23 : decode cX6_goesThrough 23 = .ok (.aload_n 0, 1) := by decide +kernel
theorem dX6_goesThrough_24 : decode cX6_goesThrough 24 = .ok (.getfield 7, 3) := by decide +kernel
theorem dX6_goesThrough_27 : decode cX6_goesThrough 27 = .ok (.if_icmp .gt 7, 3) := by decide +kernel
theorem dX6_goesThrough_30 : decode cX6_goesThrough 30 = .ok (.iconst 1, 1) := by decide +kernel
theorem dX6_goesThrough_31 : decode cX6_goesThrough 31 = .ok (.goto 4, 3) := by decide +kernel
theorem dX6_goesThrough_34 : decode cX6_goesThrough 34 = .ok (.iconst 0, 1) := by decide +kernel
theorem dX6_goesThrough_35 : decode cX6_goesThrough 35 = .ok (.ireturn, 1) := by decide +kernel
set_option maxRecDepth 20000 in
theorem ggX6_fits_X6_end : GoodIn wsX6_fits wsX6_end := goodIn_r _ [8, 9, 10, 11, 12, 13, 14, 15, 16, 17, 18, 7, 19, 20, 21, 22, 23, 24, 25, 26, 36, 37, 38, 39, 40, 41, 42, 43, 44, 45, 46, 47, 48, 49, 50, 51, 52, 53, 54, 55, 56, 57, 58, 59, 60] (by decide +kernel) (by decide +kernel)
set_option maxRecDepth 20000 in
theorem gX6_fits_X6_end : GoodIn wsX6_fits (wsV RX6 100 RX6 yX6_end wsX6_end) := goodIn_app (goodIn_of _ (by decide +kernel)) ggX6_fits_X6_end
set_option maxRecDepth 20000 in
theorem ggX6_fits_X6_top : GoodIn wsX6_fits wsX6_top := goodIn_r _ [30, 10, 12, 13, 14, 15, 31, 32, 33, 34, 7, 35, 20, 21, 22, 23, 24, 25, 26, 36, 37, 38, 39, 40, 41, 42, 43, 44, 45, 46, 47, 48, 49, 50, 51, 52, 53, 54, 55, 56, 57, 58, 59, 60] (by decide +kernel) (by decide +kernel)
set_option maxRecDepth 20000 in
theorem gX6_fits_X6_top : GoodIn wsX6_fits (wsV RX6 97 RX6 yX6_top wsX6_top) := goodIn_app (goodIn_of _ (by decide +kernel)) ggX6_fits_X6_top
theorem dX6_fits_0 : decode cX6_fits 0 = .ok (.aload_n 0, 1) := by decide +kernel
theorem dX6_fits_1 : decode cX6_fits 1 = .ok (.iload_n 1, 1) := by decide +kernel
theorem dX6_fits_2 : decode cX6_fits 2 = .ok (.invokevirtual 100, 3) := by decide +kernel
theorem dX6_fits_5 : decode cX6_fits 5 = .ok (.aload_n 0, 1) := by decide +kernel
theorem dX6_fits_6 : decode cX6_fits 6 = .ok (.getfield 16, 3) := by decide +kernel
theorem dX6_fits_9 : decode cX6_fits 9 = .ok (.if_icmp .gt 24, 3) := by decide +kernel
theorem dX6_fits_12 : decode cX6_fits 12 = .ok (.aload_n 0, 1) := by decide +kernel
theorem dX6_fits_13 : decode cX6_fits 13 = .ok (.iload_n 1, 1) := by decide +kernel
theorem dX6_fits_14 : decode cX6_fits 14 = .ok (.invokevirtual 97, 3) := by decide +kernel
theorem dX6_fits_17 : decode cX6_fits 17 = .ok (.aload_n 0, 1) := by decide +kernel
theorem dX6_fits_18 : decode cX6_fits 18 = .ok (.getfield 103, 3) := by decide +kernel
theorem dX6_fits_21 : decode cX6_fits 21 = .ok (.iadd, 1) := by decide +kernel
theorem dX6_fits_22 : decode cX6_fits 22 = .ok (.aload_n 0, 1) := by decide +kernel
theorem dX6_fits_23 : decode cX6_fits 23 = .ok (.getfield 13, 3) := by decide +kernel
theorem dX6_fits_26 : decode cX6_fits 26 = .ok (.if_icmp .gt 7, 3) := by decide +kernel
theorem dX6_fits_29 : decode cX6_fits 29 = .ok (.iconst 1, 1) := by decide +kernel
theorem dX6_fits_30 : decode cX6_fits 30 = .ok (.goto 4, 3) := by decide +kernel
theorem dX6_fits_33 : decode cX6_fits 33 = .ok (.iconst 0, 1) := by decide +kernel
theorem dX6_fits_34 : decode cX6_fits 34 = .ok (.ireturn, 1) := by decide +kernel
theorem dX6_isHeld_0 : decode cX6_isHeld 0 = .ok (.iconst 0, 1) := by decide +kernel
theorem dX6_isHeld_1 : decode cX6_isHeld 1 = .ok (.istore_n 2, 1) := by decide +kernel
theorem dX6_isHeld_2 : decode cX6_isHeld 2 = .ok (.iload_n 2, 1) := by decide +kernel
theorem dX6_isHeld_3 : decode cX6_isHeld 3 = .ok (.aload_n 0, 1) := by decide +kernel
theorem dX6_isHeld_4 : decode cX6_isHeld 4 = .ok (.getfield 69, 3) := by decide +kernel
theorem dX6_isHeld_7 : decode cX6_isHeld 7 = .ok (.if_icmp .ge 31, 3) := by decide +kernel
theorem dX6_isHeld_10 : decode cX6_isHeld 10 = .ok (.aload_n 0, 1) := by decide +kernel
theorem dX6_isHeld_11 : decode cX6_isHeld 11 = .ok (.getfield 41, 3) := by decide +kernel
theorem dX6_isHeld_14 : decode cX6_isHeld 14 = .ok (.iload_n 2, 1) := by decide +kernel
theorem dX6_isHeld_15 : decode cX6_isHeld 15 = .ok (.iaload, 1) := by decide +kernel
theorem dX6_isHeld_16 : decode cX6_isHeld 16 = .ok (.iload_n 1, 1) := by decide +kernel
theorem dX6_isHeld_17 : decode cX6_isHeld 17 = .ok (.if_icmp .ne 15, 3) := by decide +kernel
theorem dX6_isHeld_20 : decode cX6_isHeld 20 = .ok (.aload_n 0, 1) := by decide +kernel
theorem dX6_isHeld_21 : decode cX6_isHeld 21 = .ok (.getfield 50, 3) := by decide +kernel
theorem dX6_isHeld_24 : decode cX6_isHeld 24 = .ok (.iload_n 2, 1) := by decide +kernel
theorem dX6_isHeld_25 : decode cX6_isHeld 25 = .ok (.iaload, 1) := by decide +kernel
theorem dX6_isHeld_26 : decode cX6_isHeld 26 = .ok (.iconst 1, 1) := by decide +kernel
theorem dX6_isHeld_27 : decode cX6_isHeld 27 = .ok (.if_icmp .ne 5, 3) := by decide +kernel
theorem dX6_isHeld_30 : decode cX6_isHeld 30 = .ok (.iconst 1, 1) := by decide +kernel
theorem dX6_isHeld_31 : decode cX6_isHeld 31 = .ok (.ireturn, 1) := by decide +kernel
theorem dX6_isHeld_32 : decode cX6_isHeld 32 = .ok (.iinc 2 1, 3) := by decide +kernel
theorem dX6_isHeld_35 : decode cX6_isHeld 35 = .ok (.goto (-33), 3) := by decide +kernel
theorem dX6_isHeld_38 : decode cX6_isHeld 38 = .ok (.iconst 0, 1) := by decide +kernel
theorem dX6_isHeld_39 : decode cX6_isHeld 39 = .ok (.ireturn, 1) := by decide +kernel
theorem dX6_loose_0 : decode cX6_loose 0 = .ok (.iconst 0, 1) := by decide +kernel
theorem dX6_loose_1 : decode cX6_loose 1 = .ok (.istore_n 2, 1) := by decide +kernel
theorem dX6_loose_2 : decode cX6_loose 2 = .ok (.iconst 0, 1) := by decide +kernel
theorem dX6_loose_3 : decode cX6_loose 3 = .ok (.istore_n 3, 1) := by decide +kernel
theorem dX6_loose_4 : decode cX6_loose 4 = .ok (.iload_n 3, 1) := by decide +kernel
theorem dX6_loose_5 : decode cX6_loose 5 = .ok (.aload_n 0, 1) := by decide +kernel
theorem dX6_loose_6 : decode cX6_loose 6 = .ok (.getfield 69, 3) := by decide +kernel
theorem dX6_loose_9 : decode cX6_loose 9 = .ok (.if_icmp .ge 36, 3) := by decide +kernel
theorem dX6_loose_12 : decode cX6_loose 12 = .ok (.iload_n 2, 1) := by decide +kernel
theorem dX6_loose_13 : decode cX6_loose 13 = .ok (.aload_n 0, 1) := by decide +kernel
theorem dX6_loose_14 : decode cX6_loose 14 = .ok (.getfield 41, 3) := by decide +kernel
theorem dX6_loose_17 : decode cX6_loose 17 = .ok (.iload_n 3, 1) := by decide +kernel
theorem dX6_loose_18 : decode cX6_loose 18 = .ok (.iaload, 1) := by decide +kernel
theorem dX6_loose_19 : decode cX6_loose 19 = .ok (.iload_n 1, 1) := by decide +kernel
theorem dX6_loose_20 : decode cX6_loose 20 = .ok (.if_icmp .ne 16, 3) := by decide +kernel
theorem dX6_loose_23 : decode cX6_loose 23 = .ok (.aload_n 0, 1) := by decide +kernel
theorem dX6_loose_24 : decode cX6_loose 24 = .ok (.getfield 50, 3) := by decide +kernel
theorem dX6_loose_27 : decode cX6_loose 27 = .ok (.iload_n 3, 1) := by decide +kernel
theorem dX6_loose_28 : decode cX6_loose 28 = .ok (.iaload, 1) := by decide +kernel
theorem dX6_loose_29 : decode cX6_loose 29 = .ok (.ifCond .ne 7, 3) := by decide +kernel
theorem dX6_loose_32 : decode cX6_loose 32 = .ok (.iconst 1, 1) := by decide +kernel
theorem dX6_loose_33 : decode cX6_loose 33 = .ok (.goto 4, 3) := by decide +kernel
theorem dX6_loose_36 : decode cX6_loose 36 = .ok (.iconst 0, 1) := by decide +kernel
theorem dX6_loose_37 : decode cX6_loose 37 = .ok (.iadd, 1) := by decide +kernel
theorem dX6_loose_38 : decode cX6_loose 38 = .ok (.istore_n 2, 1) := by decide +kernel
theorem dX6_loose_39 : decode cX6_loose 39 = .ok (.iinc 3 1, 3) := by decide +kernel
theorem dX6_loose_42 : decode cX6_loose 42 = .ok (.goto (-38), 3) := by decide +kernel
theorem dX6_loose_45 : decode cX6_loose 45 = .ok (.iload_n 2, 1) := by decide +kernel
theorem dX6_loose_46 : decode cX6_loose 46 = .ok (.ireturn, 1) := by decide +kernel
theorem dX6_placeOf_0 : decode cX6_placeOf 0 = .ok (.iload_n 1, 1) := by decide +kernel
theorem dX6_placeOf_1 : decode cX6_placeOf 1 = .ok (.iconst (-1), 1) := by decide +kernel
theorem dX6_placeOf_2 : decode cX6_placeOf 2 = .ok (.if_icmp .ne 7, 3) := by decide +kernel
theorem dX6_placeOf_5 : decode cX6_placeOf 5 = .ok (.iconst 0, 1) := by decide +kernel
theorem dX6_placeOf_6 : decode cX6_placeOf 6 = .ok (.goto 9, 3) := by decide +kernel
theorem dX6_placeOf_9 : decode cX6_placeOf 9 = .ok (.aload_n 0, 1) := by decide +kernel
theorem dX6_placeOf_10 : decode cX6_placeOf 10 = .ok (.getfield 28, 3) := by decide +kernel
theorem dX6_placeOf_13 : decode cX6_placeOf 13 = .ok (.iload_n 1, 1) := by decide +kernel
theorem dX6_placeOf_14 : decode cX6_placeOf 14 = .ok (.iaload, 1) := by decide +kernel
theorem dX6_placeOf_15 : decode cX6_placeOf 15 = .ok (.ireturn, 1) := by decide +kernel
set_option maxRecDepth 20000 in
theorem ggX6_crosses_X6_placeOf : GoodIn wsX6_crosses wsX6_placeOf := goodIn_r _ [15, 16, 17, 18, 19, 20, 21, 22, 23, 24, 25, 26, 27, 28, 29, 30, 31, 32, 33, 34, 35, 36, 37, 38, 39, 40, 41] (by decide +kernel) (by decide +kernel)
set_option maxRecDepth 20000 in
theorem gX6_crosses_X6_placeOf : GoodIn wsX6_crosses (wsV RX6 106 RX6 yX6_placeOf wsX6_placeOf) := goodIn_app (goodIn_of _ (by decide +kernel)) ggX6_crosses_X6_placeOf
theorem dX6_crosses_0 : decode cX6_crosses 0 = .ok (.iload_n 1, 1) := by decide +kernel
theorem dX6_crosses_1 : decode cX6_crosses 1 = .ok (.iload_n 2, 1) := by decide +kernel
theorem dX6_crosses_2 : decode cX6_crosses 2 = .ok (.if_icmp .eq 23, 3) := by decide +kernel
theorem dX6_crosses_5 : decode cX6_crosses 5 = .ok (.aload_n 0, 1) := by decide +kernel
theorem dX6_crosses_6 : decode cX6_crosses 6 = .ok (.getfield 50, 3) := by decide +kernel
theorem dX6_crosses_9 : decode cX6_crosses 9 = .ok (.iload_n 1, 1) := by decide +kernel
theorem dX6_crosses_10 : decode cX6_crosses 10 = .ok (.iaload, 1) := by decide +kernel
theorem dX6_crosses_11 : decode cX6_crosses 11 = .ok (.iconst 2, 1) := by decide +kernel
theorem dX6_crosses_12 : decode cX6_crosses 12 = .ok (.if_icmp .eq 13, 3) := by decide +kernel
theorem dX6_crosses_15 : decode cX6_crosses 15 = .ok (.aload_n 0, 1) := by decide +kernel
theorem dX6_crosses_16 : decode cX6_crosses 16 = .ok (.getfield 50, 3) := by decide +kernel
theorem dX6_crosses_19 : decode cX6_crosses 19 = .ok (.iload_n 2, 1) := by decide +kernel
theorem dX6_crosses_20 : decode cX6_crosses 20 = .ok (.iaload, 1) := by decide +kernel
end
section
theorem dX6_crosses_21 : decode cX6_crosses 21 = .ok (.iconst 2, 1) := by decide +kernel
theorem dX6_crosses_22 : decode cX6_crosses 22 = .ok (.if_icmp .ne 5, 3) := by decide +kernel
theorem dX6_crosses_25 : decode cX6_crosses 25 = .ok (.iconst 0, 1) := by decide +kernel
theorem dX6_crosses_26 : decode cX6_crosses 26 = .ok (.ireturn, 1) := by decide +kernel
theorem dX6_crosses_27 : decode cX6_crosses 27 = .ok (.aload_n 0, 1) := by decide +kernel
theorem dX6_crosses_28 : decode cX6_crosses 28 = .ok (.aload_n 0, 1) := by decide +kernel
theorem dX6_crosses_29 : decode cX6_crosses 29 = .ok (.getfield 41, 3) := by decide +kernel
theorem dX6_crosses_32 : decode cX6_crosses 32 = .ok (.iload_n 1, 1) := by decide +kernel
theorem dX6_crosses_33 : decode cX6_crosses 33 = .ok (.iaload, 1) := by decide +kernel
theorem dX6_crosses_34 : decode cX6_crosses 34 = .ok (.invokevirtual 106, 3) := by decide +kernel
theorem dX6_crosses_37 : decode cX6_crosses 37 = .ok (.aload_n 0, 1) := by decide +kernel
theorem dX6_crosses_38 : decode cX6_crosses 38 = .ok (.aload_n 0, 1) := by decide +kernel
theorem dX6_crosses_39 : decode cX6_crosses 39 = .ok (.getfield 44, 3) := by decide +kernel
theorem dX6_crosses_42 : decode cX6_crosses 42 = .ok (.iload_n 1, 1) := by decide +kernel
theorem dX6_crosses_43 : decode cX6_crosses 43 = .ok (.iaload, 1) := by decide +kernel
theorem dX6_crosses_44 : decode cX6_crosses 44 = .ok (.invokevirtual 106, 3) := by decide +kernel
theorem dX6_crosses_47 : decode cX6_crosses 47 = .ok (.invokestatic 109, 3) := by decide +kernel
theorem dX6_crosses_50 : decode cX6_crosses 50 = .ok (.aload_n 0, 1) := by decide +kernel
theorem dX6_crosses_51 : decode cX6_crosses 51 = .ok (.aload_n 0, 1) := by decide +kernel
theorem dX6_crosses_52 : decode cX6_crosses 52 = .ok (.getfield 41, 3) := by decide +kernel
theorem dX6_crosses_55 : decode cX6_crosses 55 = .ok (.iload_n 2, 1) := by decide +kernel
theorem dX6_crosses_56 : decode cX6_crosses 56 = .ok (.iaload, 1) := by decide +kernel
theorem dX6_crosses_57 : decode cX6_crosses 57 = .ok (.invokevirtual 106, 3) := by decide +kernel
theorem dX6_crosses_60 : decode cX6_crosses 60 = .ok (.aload_n 0, 1) := by decide +kernel
theorem dX6_crosses_61 : decode cX6_crosses 61 = .ok (.aload_n 0, 1) := by decide +kernel
theorem dX6_crosses_62 : decode cX6_crosses 62 = .ok (.getfield 44, 3) := by decide +kernel
theorem dX6_crosses_65 : decode cX6_crosses 65 = .ok (.iload_n 2, 1) := by decide +kernel
theorem dX6_crosses_66 : decode cX6_crosses 66 = .ok (.iaload, 1) := by decide +kernel
theorem dX6_crosses_67 : decode cX6_crosses 67 = .ok (.invokevirtual 106, 3) := by decide +kernel
theorem dX6_crosses_70 : decode cX6_crosses 70 = .ok (.invokestatic 109, 3) := by decide +kernel
theorem dX6_crosses_73 : decode cX6_crosses 73 = .ok (.invokestatic 83, 3) := by decide +kernel
theorem dX6_crosses_76 : decode cX6_crosses 76 = .ok (.istore_n 3, 1) := by decide +kernel
theorem dX6_crosses_77 : decode cX6_crosses 77 = .ok (.aload_n 0, 1) := by decide +kernel
theorem dX6_crosses_78 : decode cX6_crosses 78 = .ok (.aload_n 0, 1) := by decide +kernel
theorem dX6_crosses_79 : decode cX6_crosses 79 = .ok (.getfield 41, 3) := by decide +kernel
theorem dX6_crosses_82 : decode cX6_crosses 82 = .ok (.iload_n 1, 1) := by decide +kernel
theorem dX6_crosses_83 : decode cX6_crosses 83 = .ok (.iaload, 1) := by decide +kernel
theorem dX6_crosses_84 : decode cX6_crosses 84 = .ok (.invokevirtual 106, 3) := by decide +kernel
theorem dX6_crosses_87 : decode cX6_crosses 87 = .ok (.aload_n 0, 1) := by decide +kernel
theorem dX6_crosses_88 : decode cX6_crosses 88 = .ok (.aload_n 0, 1) := by decide +kernel
theorem dX6_crosses_89 : decode cX6_crosses 89 = .ok (.getfield 44, 3) := by decide +kernel
theorem dX6_crosses_92 : decode cX6_crosses 92 = .ok (.iload_n 1, 1) := by decide +kernel
theorem dX6_crosses_93 : decode cX6_crosses 93 = .ok (.iaload, 1) := by decide +kernel
theorem dX6_crosses_94 : decode cX6_crosses 94 = .ok (.invokevirtual 106, 3) := by decide +kernel
theorem dX6_crosses_97 : decode cX6_crosses 97 = .ok (.invokestatic 83, 3) := by decide +kernel
theorem dX6_crosses_100 : decode cX6_crosses 100 = .ok (.aload_n 0, 1) := by decide +kernel
theorem dX6_crosses_101 : decode cX6_crosses 101 = .ok (.aload_n 0, 1) := by decide +kernel
theorem dX6_crosses_102 : decode cX6_crosses 102 = .ok (.getfield 41, 3) := by decide +kernel
theorem dX6_crosses_105 : decode cX6_crosses 105 = .ok (.iload_n 2, 1) := by decide +kernel
theorem dX6_crosses_106 : decode cX6_crosses 106 = .ok (.iaload, 1) := by decide +kernel
theorem dX6_crosses_107 : decode cX6_crosses 107 = .ok (.invokevirtual 106, 3) := by decide +kernel
theorem dX6_crosses_110 : decode cX6_crosses 110 = .ok (.aload_n 0, 1) := by decide +kernel
theorem dX6_crosses_111 : decode cX6_crosses 111 = .ok (.aload_n 0, 1) := by decide +kernel
theorem dX6_crosses_112 : decode cX6_crosses 112 = .ok (.getfield 44, 3) := by decide +kernel
theorem dX6_crosses_115 : decode cX6_crosses 115 = .ok (.iload_n 2, 1) := by decide +kernel
theorem dX6_crosses_116 : decode cX6_crosses 116 = .ok (.iaload, 1) := by decide +kernel
theorem dX6_crosses_117 : decode cX6_crosses 117 = .ok (.invokevirtual 106, 3) := by decide +kernel
theorem dX6_crosses_120 : decode cX6_crosses 120 = .ok (.invokestatic 83, 3) := by decide +kernel
theorem dX6_crosses_123 : decode cX6_crosses 123 = .ok (.invokestatic 109, 3) := by decide +kernel
theorem dX6_crosses_126 : decode cX6_crosses 126 = .ok (.istore 4, 2) := by decide +kernel
theorem dX6_crosses_128 : decode cX6_crosses 128 = .ok (.iload_n 3, 1) := by decide +kernel
theorem dX6_crosses_129 : decode cX6_crosses 129 = .ok (.iload 4, 2) := by decide +kernel
theorem dX6_crosses_131 : decode cX6_crosses 131 = .ok (.if_icmp .ge 7, 3) := by decide +kernel
theorem dX6_crosses_134 : decode cX6_crosses 134 = .ok (.iconst 1, 1) := by decide +kernel
theorem dX6_crosses_135 : decode cX6_crosses 135 = .ok (.goto 4, 3) := by decide +kernel
theorem dX6_crosses_138 : decode cX6_crosses 138 = .ok (.iconst 0, 1) := by decide +kernel
theorem dX6_crosses_139 : decode cX6_crosses 139 = .ok (.ireturn, 1) := by decide +kernel
set_option maxRecDepth 20000 in
theorem ggX6_behind_X6_lean : GoodIn wsX6_behind wsX6_lean := goodIn_r _ [10, 11, 12, 9, 13] (by decide +kernel) (by decide +kernel)
set_option maxRecDepth 20000 in
theorem gX6_behind_X6_lean : GoodIn wsX6_behind (va_wsS RX6 76 yX6_lean wsX6_lean) := goodIn_app (goodIn_of _ (by decide +kernel)) ggX6_behind_X6_lean
set_option maxRecDepth 20000 in
theorem ggX6_behind_X6_isHeld : GoodIn wsX6_behind wsX6_isHeld := goodIn_r _ [17, 2, 1, 3, 65, 66, 67, 68, 69, 70, 71, 72, 73, 74, 75, 76, 77, 78, 79, 80, 81, 82, 83, 84, 85, 86, 87, 88, 89] (by decide +kernel) (by decide +kernel)
set_option maxRecDepth 20000 in
theorem gX6_behind_X6_isHeld : GoodIn wsX6_behind (wsV RX6 112 RX6 yX6_isHeld wsX6_isHeld) := goodIn_app (goodIn_of _ (by decide +kernel)) ggX6_behind_X6_isHeld
set_option maxRecDepth 20000 in
theorem ggX6_behind_X6_crosses : GoodIn wsX6_behind wsX6_crosses := goodIn_r _ [21, 3, 1, 22, 23, 24, 25, 26, 27, 28, 29, 30, 31, 32, 9, 33, 34, 65, 66, 67, 68, 69, 70, 71, 72, 73, 74, 75, 76, 77, 78, 79, 80, 81, 82, 83, 84, 85, 86, 87, 88, 89] (by decide +kernel) (by decide +kernel)
set_option maxRecDepth 20000 in
theorem gX6_behind_X6_crosses : GoodIn wsX6_behind (wsV RX6 116 RX6 yX6_crosses wsX6_crosses) := goodIn_app (goodIn_of _ (by decide +kernel)) ggX6_behind_X6_crosses
set_option maxRecDepth 20000 in
theorem ggX6_behind_X6_unit : GoodIn wsX6_behind wsX6_unit := goodIn_r _ [13] (by decide +kernel) (by decide +kernel)
set_option maxRecDepth 20000 in
theorem gX6_behind_X6_unit : GoodIn wsX6_behind (va_wsS RX6 72 yX6_unit wsX6_unit) := goodIn_app (goodIn_of _ (by decide +kernel)) ggX6_behind_X6_unit
set_option maxRecDepth 20000 in
theorem ggX6_behind_X6_leads : GoodIn wsX6_behind wsX6_leads := goodIn_r _ [38, 2, 1, 22, 3, 65, 66, 67, 68, 69, 70, 71, 72, 73, 74, 75, 76, 77, 78, 79, 80, 81, 82, 83, 84, 85, 86, 87, 88, 89] (by decide +kernel) (by decide +kernel)
set_option maxRecDepth 20000 in
theorem gX6_behind_X6_leads : GoodIn wsX6_behind (wsV RX6 120 RX6 yX6_leads wsX6_leads) := goodIn_app (goodIn_of _ (by decide +kernel)) ggX6_behind_X6_leads
set_option maxRecDepth 20000 in
theorem ggX6_behind_X6_fits : GoodIn wsX6_behind wsX6_fits := goodIn_r _ [42, 43, 44, 45, 46, 47, 48, 9, 49, 50, 5, 34, 27, 28, 25, 29, 51, 52, 53, 54, 55, 7, 8, 10, 11, 12, 13, 56, 57, 58, 59, 60, 61, 62, 63, 64, 65, 66, 67, 68, 69, 70, 71, 72, 73, 74, 75, 76, 77, 78, 79, 80, 81, 82, 83, 84, 85, 86, 87, 88, 89] (by decide +kernel) (by decide +kernel)
set_option maxRecDepth 20000 in
theorem gX6_behind_X6_fits : GoodIn wsX6_behind (wsV RX6 127 RX6 yX6_fits wsX6_fits) := goodIn_app (goodIn_of _ (by decide +kernel)) ggX6_behind_X6_fits
theorem dX6_behind_0 : decode cX6_behind 0 = .ok (.aload_n 0, 1) := by decide +kernel
theorem dX6_behind_1 : decode cX6_behind 1 = .ok (.getfield 41, 3) := by decide +kernel
theorem dX6_behind_4 : decode cX6_behind 4 = .ok (.iload_n 2, 1) := by decide +kernel
theorem dX6_behind_5 : decode cX6_behind 5 = .ok (.iaload, 1) := by decide +kernel
theorem dX6_behind_6 : decode cX6_behind 6 = .ok (.istore_n 3, 1) := by decide +kernel
theorem dX6_behind_7 : decode cX6_behind 7 = .ok (.iload_n 1, 1) := by decide +kernel
theorem dX6_behind_8 : decode cX6_behind 8 = .ok (.iload_n 3, 1) := by decide +kernel
theorem dX6_behind_9 : decode cX6_behind 9 = .ok (.invokestatic 76, 3) := by decide +kernel
theorem dX6_behind_12 : decode cX6_behind 12 = .ok (.ifCond .eq 11, 3) := by decide +kernel
theorem dX6_behind_15 : decode cX6_behind 15 = .ok (.aload_n 0, 1) := by decide +kernel
theorem dX6_behind_16 : decode cX6_behind 16 = .ok (.iload_n 3, 1) := by decide +kernel
theorem dX6_behind_17 : decode cX6_behind 17 = .ok (.invokevirtual 112, 3) := by decide +kernel
theorem dX6_behind_20 : decode cX6_behind 20 = .ok (.ifCond .eq 5, 3) := by decide +kernel
theorem dX6_behind_23 : decode cX6_behind 23 = .ok (.iconst (-1), 1) := by decide +kernel
theorem dX6_behind_24 : decode cX6_behind 24 = .ok (.ireturn, 1) := by decide +kernel
theorem dX6_behind_25 : decode cX6_behind 25 = .ok (.iconst 0, 1) := by decide +kernel
theorem dX6_behind_26 : decode cX6_behind 26 = .ok (.istore 4, 2) := by decide +kernel
theorem dX6_behind_28 : decode cX6_behind 28 = .ok (.iload 4, 2) := by decide +kernel
theorem dX6_behind_30 : decode cX6_behind 30 = .ok (.aload_n 0, 1) := by decide +kernel
theorem dX6_behind_31 : decode cX6_behind 31 = .ok (.getfield 69, 3) := by decide +kernel
theorem dX6_behind_34 : decode cX6_behind 34 = .ok (.if_icmp .ge 48, 3) := by decide +kernel
theorem dX6_behind_37 : decode cX6_behind 37 = .ok (.aload_n 0, 1) := by decide +kernel
theorem dX6_behind_38 : decode cX6_behind 38 = .ok (.getfield 50, 3) := by decide +kernel
theorem dX6_behind_41 : decode cX6_behind 41 = .ok (.iload 4, 2) := by decide +kernel
theorem dX6_behind_43 : decode cX6_behind 43 = .ok (.iaload, 1) := by decide +kernel
theorem dX6_behind_44 : decode cX6_behind 44 = .ok (.ifCond .ne 32, 3) := by decide +kernel
theorem dX6_behind_47 : decode cX6_behind 47 = .ok (.aload_n 0, 1) := by decide +kernel
theorem dX6_behind_48 : decode cX6_behind 48 = .ok (.getfield 47, 3) := by decide +kernel
theorem dX6_behind_51 : decode cX6_behind 51 = .ok (.iload 4, 2) := by decide +kernel
theorem dX6_behind_53 : decode cX6_behind 53 = .ok (.iaload, 1) := by decide +kernel
theorem dX6_behind_54 : decode cX6_behind 54 = .ok (.aload_n 0, 1) := by decide +kernel
theorem dX6_behind_55 : decode cX6_behind 55 = .ok (.getfield 47, 3) := by decide +kernel
theorem dX6_behind_58 : decode cX6_behind 58 = .ok (.iload_n 2, 1) := by decide +kernel
theorem dX6_behind_59 : decode cX6_behind 59 = .ok (.iaload, 1) := by decide +kernel
theorem dX6_behind_60 : decode cX6_behind 60 = .ok (.if_icmp .le 16, 3) := by decide +kernel
theorem dX6_behind_63 : decode cX6_behind 63 = .ok (.aload_n 0, 1) := by decide +kernel
theorem dX6_behind_64 : decode cX6_behind 64 = .ok (.iload_n 2, 1) := by decide +kernel
theorem dX6_behind_65 : decode cX6_behind 65 = .ok (.iload 4, 2) := by decide +kernel
theorem dX6_behind_67 : decode cX6_behind 67 = .ok (.invokevirtual 116, 3) := by decide +kernel
theorem dX6_behind_70 : decode cX6_behind 70 = .ok (.ifCond .eq 6, 3) := by decide +kernel
theorem dX6_behind_73 : decode cX6_behind 73 = .ok (.bipush (-2), 2) := by decide +kernel
theorem dX6_behind_75 : decode cX6_behind 75 = .ok (.ireturn, 1) := by decide +kernel
theorem dX6_behind_76 : decode cX6_behind 76 = .ok (.iinc 4 1, 3) := by decide +kernel
theorem dX6_behind_79 : decode cX6_behind 79 = .ok (.goto (-51), 3) := by decide +kernel
theorem dX6_behind_82 : decode cX6_behind 82 = .ok (.iload_n 1, 1) := by decide +kernel
theorem dX6_behind_83 : decode cX6_behind 83 = .ok (.iload_n 3, 1) := by decide +kernel
theorem dX6_behind_84 : decode cX6_behind 84 = .ok (.invokestatic 72, 3) := by decide +kernel
theorem dX6_behind_87 : decode cX6_behind 87 = .ok (.isub, 1) := by decide +kernel
theorem dX6_behind_88 : decode cX6_behind 88 = .ok (.istore 4, 2) := by decide +kernel
theorem dX6_behind_90 : decode cX6_behind 90 = .ok (.iconst 0, 1) := by decide +kernel
theorem dX6_behind_91 : decode cX6_behind 91 = .ok (.istore 5, 2) := by decide +kernel
theorem dX6_behind_93 : decode cX6_behind 93 = .ok (.iload 5, 2) := by decide +kernel
theorem dX6_behind_95 : decode cX6_behind 95 = .ok (.aload_n 0, 1) := by decide +kernel
theorem dX6_behind_96 : decode cX6_behind 96 = .ok (.getfield 62, 3) := by decide +kernel
theorem dX6_behind_99 : decode cX6_behind 99 = .ok (.if_icmp .ge 55, 3) := by decide +kernel
theorem dX6_behind_102 : decode cX6_behind 102 = .ok (.iload 5, 2) := by decide +kernel
theorem dX6_behind_104 : decode cX6_behind 104 = .ok (.iload_n 3, 1) := by decide +kernel
theorem dX6_behind_105 : decode cX6_behind 105 = .ok (.if_icmp .eq 43, 3) := by decide +kernel
theorem dX6_behind_108 : decode cX6_behind 108 = .ok (.iload_n 1, 1) := by decide +kernel
theorem dX6_behind_109 : decode cX6_behind 109 = .ok (.iload 5, 2) := by decide +kernel
theorem dX6_behind_111 : decode cX6_behind 111 = .ok (.invokestatic 76, 3) := by decide +kernel
theorem dX6_behind_114 : decode cX6_behind 114 = .ok (.bipush 9, 2) := by decide +kernel
theorem dX6_behind_116 : decode cX6_behind 116 = .ok (.if_icmp .ge 32, 3) := by decide +kernel
theorem dX6_behind_119 : decode cX6_behind 119 = .ok (.aload_n 0, 1) := by decide +kernel
theorem dX6_behind_120 : decode cX6_behind 120 = .ok (.iload 5, 2) := by decide +kernel
theorem dX6_behind_122 : decode cX6_behind 122 = .ok (.invokevirtual 112, 3) := by decide +kernel
theorem dX6_behind_125 : decode cX6_behind 125 = .ok (.ifCond .ne 23, 3) := by decide +kernel
theorem dX6_behind_128 : decode cX6_behind 128 = .ok (.aload_n 0, 1) := by decide +kernel
theorem dX6_behind_129 : decode cX6_behind 129 = .ok (.iload_n 3, 1) := by decide +kernel
theorem dX6_behind_130 : decode cX6_behind 130 = .ok (.iload 5, 2) := by decide +kernel
theorem dX6_behind_132 : decode cX6_behind 132 = .ok (.invokevirtual 120, 3) := by decide +kernel
theorem dX6_behind_135 : decode cX6_behind 135 = .ok (.ifCond .eq 13, 3) := by decide +kernel
theorem dX6_behind_138 : decode cX6_behind 138 = .ok (.iload 4, 2) := by decide +kernel
theorem dX6_behind_140 : decode cX6_behind 140 = .ok (.iload 5, 2) := by decide +kernel
theorem dX6_behind_142 : decode cX6_behind 142 = .ok (.invokestatic 72, 3) := by decide +kernel
theorem dX6_behind_145 : decode cX6_behind 145 = .ok (.iadd, 1) := by decide +kernel
theorem dX6_behind_146 : decode cX6_behind 146 = .ok (.istore 4, 2) := by decide +kernel
theorem dX6_behind_148 : decode cX6_behind 148 = .ok (.iinc 5 1, 3) := by decide +kernel
theorem dX6_behind_151 : decode cX6_behind 151 = .ok (.goto (-58), 3) := by decide +kernel
theorem dX6_behind_154 : decode cX6_behind 154 = .ok (.aload_n 0, 1) := by decide +kernel
theorem dX6_behind_155 : decode cX6_behind 155 = .ok (.getfield 123, 3) := by decide +kernel
theorem dX6_behind_158 : decode cX6_behind 158 = .ok (.ifCond .eq 17, 3) := by decide +kernel
theorem dX6_behind_161 : decode cX6_behind 161 = .ok (.aload_n 0, 1) := by decide +kernel
theorem dX6_behind_162 : decode cX6_behind 162 = .ok (.iload 4, 2) := by decide +kernel
theorem dX6_behind_164 : decode cX6_behind 164 = .ok (.invokevirtual 127, 3) := by decide +kernel
theorem dX6_behind_167 : decode cX6_behind 167 = .ok (.ifCond .ne 8, 3) := by decide +kernel
theorem dX6_behind_170 : decode cX6_behind 170 = .ok (.bipush (-3), 2) := by decide +kernel
theorem dX6_behind_172 : decode cX6_behind 172 = .ok (.goto 5, 3) := by decide +kernel
theorem dX6_behind_175 : decode cX6_behind 175 = .ok (.iload 4, 2) := by decide +kernel
theorem dX6_behind_177 : decode cX6_behind 177 = .ok (.ireturn, 1) := by decide +kernel
theorem dX6_leads_0 : decode cX6_leads 0 = .ok (.iconst 0, 1) := by decide +kernel
theorem dX6_leads_1 : decode cX6_leads 1 = .ok (.istore_n 3, 1) := by decide +kernel
theorem dX6_leads_2 : decode cX6_leads 2 = .ok (.iload_n 3, 1) := by decide +kernel
theorem dX6_leads_3 : decode cX6_leads 3 = .ok (.aload_n 0, 1) := by decide +kernel
theorem dX6_leads_4 : decode cX6_leads 4 = .ok (.getfield 69, 3) := by decide +kernel
theorem dX6_leads_7 : decode cX6_leads 7 = .ok (.if_icmp .ge 40, 3) := by decide +kernel
theorem dX6_leads_10 : decode cX6_leads 10 = .ok (.aload_n 0, 1) := by decide +kernel
theorem dX6_leads_11 : decode cX6_leads 11 = .ok (.getfield 41, 3) := by decide +kernel
theorem dX6_leads_14 : decode cX6_leads 14 = .ok (.iload_n 3, 1) := by decide +kernel
theorem dX6_leads_15 : decode cX6_leads 15 = .ok (.iaload, 1) := by decide +kernel
theorem dX6_leads_16 : decode cX6_leads 16 = .ok (.iload_n 1, 1) := by decide +kernel
theorem dX6_leads_17 : decode cX6_leads 17 = .ok (.if_icmp .ne 24, 3) := by decide +kernel
theorem dX6_leads_20 : decode cX6_leads 20 = .ok (.aload_n 0, 1) := by decide +kernel
theorem dX6_leads_21 : decode cX6_leads 21 = .ok (.getfield 44, 3) := by decide +kernel
theorem dX6_leads_24 : decode cX6_leads 24 = .ok (.iload_n 3, 1) := by decide +kernel
theorem dX6_leads_25 : decode cX6_leads 25 = .ok (.iaload, 1) := by decide +kernel
theorem dX6_leads_26 : decode cX6_leads 26 = .ok (.iload_n 2, 1) := by decide +kernel
theorem dX6_leads_27 : decode cX6_leads 27 = .ok (.if_icmp .ne 14, 3) := by decide +kernel
theorem dX6_leads_30 : decode cX6_leads 30 = .ok (.aload_n 0, 1) := by decide +kernel
theorem dX6_leads_31 : decode cX6_leads 31 = .ok (.getfield 50, 3) := by decide +kernel
theorem dX6_leads_34 : decode cX6_leads 34 = .ok (.iload_n 3, 1) := by decide +kernel
theorem dX6_leads_35 : decode cX6_leads 35 = .ok (.iaload, 1) := by decide +kernel
theorem dX6_leads_36 : decode cX6_leads 36 = .ok (.ifCond .ne 5, 3) := by decide +kernel
theorem dX6_leads_39 : decode cX6_leads 39 = .ok (.iconst 1, 1) := by decide +kernel
theorem dX6_leads_40 : decode cX6_leads 40 = .ok (.ireturn, 1) := by decide +kernel
theorem dX6_leads_41 : decode cX6_leads 41 = .ok (.iinc 3 1, 3) := by decide +kernel
theorem dX6_leads_44 : decode cX6_leads 44 = .ok (.goto (-42), 3) := by decide +kernel
theorem dX6_leads_47 : decode cX6_leads 47 = .ok (.iconst 0, 1) := by decide +kernel
theorem dX6_leads_48 : decode cX6_leads 48 = .ok (.ireturn, 1) := by decide +kernel
set_option maxRecDepth 20000 in
theorem ggX6_setBottle_X6_isBetween : GoodIn wsX6_setBottle wsX6_isBetween := goodIn_r _ [10] (by decide +kernel) (by decide +kernel)
set_option maxRecDepth 20000 in
theorem gX6_setBottle_X6_isBetween : GoodIn wsX6_setBottle (va_wsS RX6 65 yX6_isBetween wsX6_isBetween) := goodIn_app (goodIn_of _ (by decide +kernel)) ggX6_setBottle_X6_isBetween
set_option maxRecDepth 20000 in
theorem ggX6_setBottle_X6_no : GoodIn wsX6_setBottle wsX6_no := goodIn_r _ [14, 1, 15, 16, 17, 18, 19, 20, 21, 22, 23, 24, 25, 26, 27, 28, 29, 30, 31, 32, 33, 34, 35, 36, 37, 38, 39] (by decide +kernel) (by decide +kernel)
set_option maxRecDepth 20000 in
theorem gX6_setBottle_X6_no : GoodIn wsX6_setBottle (wsV RX6 130 RX6 yX6_no wsX6_no) := goodIn_app (goodIn_of _ (by decide +kernel)) ggX6_setBottle_X6_no
theorem dX6_setBottle_0 : decode cX6_setBottle 0 = .ok (.aload_n 0, 1) := by decide +kernel
theorem dX6_setBottle_1 : decode cX6_setBottle 1 = .ok (.iconst 0, 1) := by decide +kernel
theorem dX6_setBottle_2 : decode cX6_setBottle 2 = .ok (.putfield 59, 3) := by decide +kernel
theorem dX6_setBottle_5 : decode cX6_setBottle 5 = .ok (.iload_n 1, 1) := by decide +kernel
theorem dX6_setBottle_6 : decode cX6_setBottle 6 = .ok (.iconst 1, 1) := by decide +kernel
theorem dX6_setBottle_7 : decode cX6_setBottle 7 = .ok (.bipush 20, 2) := by decide +kernel
theorem dX6_setBottle_9 : decode cX6_setBottle 9 = .ok (.invokestatic 65, 3) := by decide +kernel
theorem dX6_setBottle_12 : decode cX6_setBottle 12 = .ok (.ifCond .eq 35, 3) := by decide +kernel
theorem dX6_setBottle_15 : decode cX6_setBottle 15 = .ok (.iload_n 2, 1) := by decide +kernel
theorem dX6_setBottle_16 : decode cX6_setBottle 16 = .ok (.iconst 5, 1) := by decide +kernel
theorem dX6_setBottle_17 : decode cX6_setBottle 17 = .ok (.bipush 60, 2) := by decide +kernel
theorem dX6_setBottle_19 : decode cX6_setBottle 19 = .ok (.invokestatic 65, 3) := by decide +kernel
theorem dX6_setBottle_22 : decode cX6_setBottle 22 = .ok (.ifCond .eq 25, 3) := by decide +kernel
theorem dX6_setBottle_25 : decode cX6_setBottle 25 = .ok (.iload_n 3, 1) := by decide +kernel
theorem dX6_setBottle_26 : decode cX6_setBottle 26 = .ok (.bipush 10, 2) := by decide +kernel
theorem dX6_setBottle_28 : decode cX6_setBottle 28 = .ok (.bipush 90, 2) := by decide +kernel
theorem dX6_setBottle_30 : decode cX6_setBottle 30 = .ok (.invokestatic 65, 3) := by decide +kernel
theorem dX6_setBottle_33 : decode cX6_setBottle 33 = .ok (.ifCond .eq 14, 3) := by decide +kernel
theorem dX6_setBottle_36 : decode cX6_setBottle 36 = .ok (.iload 4, 2) := by decide +kernel
theorem dX6_setBottle_38 : decode cX6_setBottle 38 = .ok (.iconst 0, 1) := by decide +kernel
theorem dX6_setBottle_39 : decode cX6_setBottle 39 = .ok (.bipush 20, 2) := by decide +kernel
theorem dX6_setBottle_41 : decode cX6_setBottle 41 = .ok (.invokestatic 65, 3) := by decide +kernel
theorem dX6_setBottle_44 : decode cX6_setBottle 44 = .ok (.ifCond .ne 9, 3) := by decide +kernel
theorem dX6_setBottle_47 : decode cX6_setBottle 47 = .ok (.aload_n 0, 1) := by decide +kernel
theorem dX6_setBottle_48 : decode cX6_setBottle 48 = .ok (.iconst 1, 1) := by decide +kernel
theorem dX6_setBottle_49 : decode cX6_setBottle 49 = .ok (.invokevirtual 130, 3) := by decide +kernel
theorem dX6_setBottle_52 : decode cX6_setBottle 52 = .ok (.ireturn, 1) := by decide +kernel
theorem dX6_setBottle_53 : decode cX6_setBottle 53 = .ok (.aload_n 0, 1) := by decide +kernel
theorem dX6_setBottle_54 : decode cX6_setBottle 54 = .ok (.getfield 123, 3) := by decide +kernel
theorem dX6_setBottle_57 : decode cX6_setBottle 57 = .ok (.ifCond .eq 9, 3) := by decide +kernel
theorem dX6_setBottle_60 : decode cX6_setBottle 60 = .ok (.aload_n 0, 1) := by decide +kernel
theorem dX6_setBottle_61 : decode cX6_setBottle 61 = .ok (.iconst 2, 1) := by decide +kernel
theorem dX6_setBottle_62 : decode cX6_setBottle 62 = .ok (.invokevirtual 130, 3) := by decide +kernel
theorem dX6_setBottle_65 : decode cX6_setBottle 65 = .ok (.ireturn, 1) := by decide +kernel
theorem dX6_setBottle_66 : decode cX6_setBottle 66 = .ok (.aload_n 0, 1) := by decide +kernel
theorem dX6_setBottle_67 : decode cX6_setBottle 67 = .ok (.getfield 7, 3) := by decide +kernel
theorem dX6_setBottle_70 : decode cX6_setBottle 70 = .ok (.istore 5, 2) := by decide +kernel
theorem dX6_setBottle_72 : decode cX6_setBottle 72 = .ok (.aload_n 0, 1) := by decide +kernel
theorem dX6_setBottle_73 : decode cX6_setBottle 73 = .ok (.iload_n 1, 1) := by decide +kernel
theorem dX6_setBottle_74 : decode cX6_setBottle 74 = .ok (.putfield 7, 3) := by decide +kernel
theorem dX6_setBottle_77 : decode cX6_setBottle 77 = .ok (.aload_n 0, 1) := by decide +kernel
theorem dX6_setBottle_78 : decode cX6_setBottle 78 = .ok (.iload_n 2, 1) := by decide +kernel
theorem dX6_setBottle_79 : decode cX6_setBottle 79 = .ok (.putfield 13, 3) := by decide +kernel
theorem dX6_setBottle_82 : decode cX6_setBottle 82 = .ok (.aload_n 0, 1) := by decide +kernel
theorem dX6_setBottle_83 : decode cX6_setBottle 83 = .ok (.iload_n 3, 1) := by decide +kernel
theorem dX6_setBottle_84 : decode cX6_setBottle 84 = .ok (.putfield 16, 3) := by decide +kernel
theorem dX6_setBottle_87 : decode cX6_setBottle 87 = .ok (.aload_n 0, 1) := by decide +kernel
theorem dX6_setBottle_88 : decode cX6_setBottle 88 = .ok (.iload 4, 2) := by decide +kernel
theorem dX6_setBottle_90 : decode cX6_setBottle 90 = .ok (.putfield 103, 3) := by decide +kernel
theorem dX6_setBottle_93 : decode cX6_setBottle 93 = .ok (.iload 5, 2) := by decide +kernel
theorem dX6_setBottle_95 : decode cX6_setBottle 95 = .ok (.ireturn, 1) := by decide +kernel
set_option maxRecDepth 20000 in
theorem ggX6_setHull_X6_isBetween : GoodIn wsX6_setHull wsX6_isBetween := goodIn_r _ [10] (by decide +kernel) (by decide +kernel)
set_option maxRecDepth 20000 in
theorem gX6_setHull_X6_isBetween : GoodIn wsX6_setHull (va_wsS RX6 65 yX6_isBetween wsX6_isBetween) := goodIn_app (goodIn_of _ (by decide +kernel)) ggX6_setHull_X6_isBetween
set_option maxRecDepth 20000 in
theorem ggX6_setHull_X6_no : GoodIn wsX6_setHull wsX6_no := goodIn_r _ [14, 1, 15, 16, 17, 18, 19, 20, 21, 22, 23, 24, 25, 26, 27, 28, 29, 30, 31, 32, 33, 34, 35, 36, 37, 38, 39] (by decide +kernel) (by decide +kernel)
set_option maxRecDepth 20000 in
theorem gX6_setHull_X6_no : GoodIn wsX6_setHull (wsV RX6 130 RX6 yX6_no wsX6_no) := goodIn_app (goodIn_of _ (by decide +kernel)) ggX6_setHull_X6_no
theorem dX6_setHull_0 : decode cX6_setHull 0 = .ok (.aload_n 0, 1) := by decide +kernel
theorem dX6_setHull_1 : decode cX6_setHull 1 = .ok (.iconst 0, 1) := by decide +kernel
theorem dX6_setHull_2 : decode cX6_setHull 2 = .ok (.putfield 59, 3) := by decide +kernel
theorem dX6_setHull_5 : decode cX6_setHull 5 = .ok (.iload_n 1, 1) := by decide +kernel
theorem dX6_setHull_6 : decode cX6_setHull 6 = .ok (.iconst 5, 1) := by decide +kernel
theorem dX6_setHull_7 : decode cX6_setHull 7 = .ok (.bipush 80, 2) := by decide +kernel
theorem dX6_setHull_9 : decode cX6_setHull 9 = .ok (.invokestatic 65, 3) := by decide +kernel
theorem dX6_setHull_12 : decode cX6_setHull 12 = .ok (.ifCond .eq 23, 3) := by decide +kernel
theorem dX6_setHull_15 : decode cX6_setHull 15 = .ok (.iload_n 2, 1) := by decide +kernel
theorem dX6_setHull_16 : decode cX6_setHull 16 = .ok (.iconst 1, 1) := by decide +kernel
theorem dX6_setHull_17 : decode cX6_setHull 17 = .ok (.bipush 15, 2) := by decide +kernel
theorem dX6_setHull_19 : decode cX6_setHull 19 = .ok (.invokestatic 65, 3) := by decide +kernel
theorem dX6_setHull_22 : decode cX6_setHull 22 = .ok (.ifCond .eq 13, 3) := by decide +kernel
theorem dX6_setHull_25 : decode cX6_setHull 25 = .ok (.iload_n 3, 1) := by decide +kernel
theorem dX6_setHull_26 : decode cX6_setHull 26 = .ok (.iconst 1, 1) := by decide +kernel
theorem dX6_setHull_27 : decode cX6_setHull 27 = .ok (.bipush 15, 2) := by decide +kernel
theorem dX6_setHull_29 : decode cX6_setHull 29 = .ok (.invokestatic 65, 3) := by decide +kernel
theorem dX6_setHull_32 : decode cX6_setHull 32 = .ok (.ifCond .ne 9, 3) := by decide +kernel
theorem dX6_setHull_35 : decode cX6_setHull 35 = .ok (.aload_n 0, 1) := by decide +kernel
theorem dX6_setHull_36 : decode cX6_setHull 36 = .ok (.iconst 1, 1) := by decide +kernel
theorem dX6_setHull_37 : decode cX6_setHull 37 = .ok (.invokevirtual 130, 3) := by decide +kernel
theorem dX6_setHull_40 : decode cX6_setHull 40 = .ok (.ireturn, 1) := by decide +kernel
theorem dX6_setHull_41 : decode cX6_setHull 41 = .ok (.aload_n 0, 1) := by decide +kernel
theorem dX6_setHull_42 : decode cX6_setHull 42 = .ok (.getfield 62, 3) := by decide +kernel
theorem dX6_setHull_45 : decode cX6_setHull 45 = .ok (.ifCond .gt 10, 3) := by decide +kernel
theorem dX6_setHull_48 : decode cX6_setHull 48 = .ok (.aload_n 0, 1) := by decide +kernel
theorem dX6_setHull_49 : decode cX6_setHull 49 = .ok (.getfield 123, 3) := by decide +kernel
theorem dX6_setHull_52 : decode cX6_setHull 52 = .ok (.ifCond .eq 9, 3) := by decide +kernel
theorem dX6_setHull_55 : decode cX6_setHull 55 = .ok (.aload_n 0, 1) := by decide +kernel
theorem dX6_setHull_56 : decode cX6_setHull 56 = .ok (.iconst 2, 1) := by decide +kernel
theorem dX6_setHull_57 : decode cX6_setHull 57 = .ok (.invokevirtual 130, 3) := by decide +kernel
theorem dX6_setHull_60 : decode cX6_setHull 60 = .ok (.ireturn, 1) := by decide +kernel
theorem dX6_setHull_61 : decode cX6_setHull 61 = .ok (.aload_n 0, 1) := by decide +kernel
theorem dX6_setHull_62 : decode cX6_setHull 62 = .ok (.getfield 19, 3) := by decide +kernel
theorem dX6_setHull_65 : decode cX6_setHull 65 = .ok (.istore 4, 2) := by decide +kernel
theorem dX6_setHull_67 : decode cX6_setHull 67 = .ok (.aload_n 0, 1) := by decide +kernel
theorem dX6_setHull_68 : decode cX6_setHull 68 = .ok (.iload_n 1, 1) := by decide +kernel
theorem dX6_setHull_69 : decode cX6_setHull 69 = .ok (.putfield 19, 3) := by decide +kernel
theorem dX6_setHull_72 : decode cX6_setHull 72 = .ok (.aload_n 0, 1) := by decide +kernel
theorem dX6_setHull_73 : decode cX6_setHull 73 = .ok (.iload_n 2, 1) := by decide +kernel
theorem dX6_setHull_74 : decode cX6_setHull 74 = .ok (.putfield 22, 3) := by decide +kernel
theorem dX6_setHull_77 : decode cX6_setHull 77 = .ok (.aload_n 0, 1) := by decide +kernel
theorem dX6_setHull_78 : decode cX6_setHull 78 = .ok (.iload_n 3, 1) := by decide +kernel
theorem dX6_setHull_79 : decode cX6_setHull 79 = .ok (.putfield 25, 3) := by decide +kernel
theorem dX6_setHull_82 : decode cX6_setHull 82 = .ok (.iload 4, 2) := by decide +kernel
theorem dX6_setHull_84 : decode cX6_setHull 84 = .ok (.ireturn, 1) := by decide +kernel
set_option maxRecDepth 20000 in
theorem ggX6_step_X6_isBetween : GoodIn wsX6_step wsX6_isBetween := goodIn_r _ [11] (by decide +kernel) (by decide +kernel)
set_option maxRecDepth 20000 in
theorem gX6_step_X6_isBetween : GoodIn wsX6_step (va_wsS RX6 65 yX6_isBetween wsX6_isBetween) := goodIn_app (goodIn_of _ (by decide +kernel)) ggX6_step_X6_isBetween
set_option maxRecDepth 20000 in
theorem ggX6_step_X6_no : GoodIn wsX6_step wsX6_no := goodIn_r _ [15, 1, 19, 20, 21, 22, 23, 24, 25, 26, 27, 28, 29, 30, 31, 32, 33, 34, 35, 36, 37, 38, 39, 40, 41, 42, 43] (by decide +kernel) (by decide +kernel)
set_option maxRecDepth 20000 in
theorem gX6_step_X6_no : GoodIn wsX6_step (wsV RX6 130 RX6 yX6_no wsX6_no) := goodIn_app (goodIn_of _ (by decide +kernel)) ggX6_step_X6_no
set_option maxRecDepth 20000 in
theorem ggX6_step_X6_unit : GoodIn wsX6_step wsX6_unit := goodIn_r _ [18] (by decide +kernel) (by decide +kernel)
set_option maxRecDepth 20000 in
theorem gX6_step_X6_unit : GoodIn wsX6_step (va_wsS RX6 72 yX6_unit wsX6_unit) := goodIn_app (goodIn_of _ (by decide +kernel)) ggX6_step_X6_unit
theorem dX6_step_0 : decode cX6_step 0 = .ok (.aload_n 0, 1) := by decide +kernel
theorem dX6_step_1 : decode cX6_step 1 = .ok (.iconst 0, 1) := by decide +kernel
theorem dX6_step_2 : decode cX6_step 2 = .ok (.putfield 59, 3) := by decide +kernel
theorem dX6_step_5 : decode cX6_step 5 = .ok (.iload_n 1, 1) := by decide +kernel
theorem dX6_step_6 : decode cX6_step 6 = .ok (.iconst 0, 1) := by decide +kernel
theorem dX6_step_7 : decode cX6_step 7 = .ok (.aload_n 0, 1) := by decide +kernel
theorem dX6_step_8 : decode cX6_step 8 = .ok (.getfield 19, 3) := by decide +kernel
theorem dX6_step_11 : decode cX6_step 11 = .ok (.invokestatic 65, 3) := by decide +kernel
theorem dX6_step_14 : decode cX6_step 14 = .ok (.ifCond .eq 13, 3) := by decide +kernel
theorem dX6_step_17 : decode cX6_step 17 = .ok (.iload_n 2, 1) := by decide +kernel
theorem dX6_step_18 : decode cX6_step 18 = .ok (.iconst 1, 1) := by decide +kernel
theorem dX6_step_19 : decode cX6_step 19 = .ok (.bipush 50, 2) := by decide +kernel
theorem dX6_step_21 : decode cX6_step 21 = .ok (.invokestatic 65, 3) := by decide +kernel
theorem dX6_step_24 : decode cX6_step 24 = .ok (.ifCond .ne 9, 3) := by decide +kernel
theorem dX6_step_27 : decode cX6_step 27 = .ok (.aload_n 0, 1) := by decide +kernel
theorem dX6_step_28 : decode cX6_step 28 = .ok (.iconst 1, 1) := by decide +kernel
theorem dX6_step_29 : decode cX6_step 29 = .ok (.invokevirtual 130, 3) := by decide +kernel
theorem dX6_step_32 : decode cX6_step 32 = .ok (.ireturn, 1) := by decide +kernel
theorem dX6_step_33 : decode cX6_step 33 = .ok (.aload_n 0, 1) := by decide +kernel
theorem dX6_step_34 : decode cX6_step 34 = .ok (.getfield 123, 3) := by decide +kernel
theorem dX6_step_37 : decode cX6_step 37 = .ok (.ifCond .ne 15, 3) := by decide +kernel
theorem dX6_step_40 : decode cX6_step 40 = .ok (.aload_n 0, 1) := by decide +kernel
theorem dX6_step_41 : decode cX6_step 41 = .ok (.getfield 62, 3) := by decide +kernel
theorem dX6_step_44 : decode cX6_step 44 = .ok (.iconst 3, 1) := by decide +kernel
theorem dX6_step_45 : decode cX6_step 45 = .ok (.if_icmp .ge 7, 3) := by decide +kernel
theorem dX6_step_48 : decode cX6_step 48 = .ok (.iconst 1, 1) := by decide +kernel
theorem dX6_step_49 : decode cX6_step 49 = .ok (.goto 4, 3) := by decide +kernel
theorem dX6_step_52 : decode cX6_step 52 = .ok (.iconst 0, 1) := by decide +kernel
theorem dX6_step_53 : decode cX6_step 53 = .ok (.istore_n 3, 1) := by decide +kernel
theorem dX6_step_54 : decode cX6_step 54 = .ok (.iconst 0, 1) := by decide +kernel
theorem dX6_step_55 : decode cX6_step 55 = .ok (.istore 4, 2) := by decide +kernel
theorem dX6_step_57 : decode cX6_step 57 = .ok (.iload 4, 2) := by decide +kernel
theorem dX6_step_59 : decode cX6_step 59 = .ok (.aload_n 0, 1) := by decide +kernel
theorem dX6_step_60 : decode cX6_step 60 = .ok (.getfield 62, 3) := by decide +kernel
theorem dX6_step_63 : decode cX6_step 63 = .ok (.if_icmp .ge 28, 3) := by decide +kernel
theorem dX6_step_66 : decode cX6_step 66 = .ok (.iload_n 3, 1) := by decide +kernel
theorem dX6_step_67 : decode cX6_step 67 = .ok (.aload_n 0, 1) := by decide +kernel
theorem dX6_step_68 : decode cX6_step 68 = .ok (.getfield 28, 3) := by decide +kernel
theorem dX6_step_71 : decode cX6_step 71 = .ok (.iload 4, 2) := by decide +kernel
theorem dX6_step_73 : decode cX6_step 73 = .ok (.iaload, 1) := by decide +kernel
theorem dX6_step_74 : decode cX6_step 74 = .ok (.iload_n 1, 1) := by decide +kernel
theorem dX6_step_75 : decode cX6_step 75 = .ok (.if_icmp .eq 7, 3) := by decide +kernel
theorem dX6_step_78 : decode cX6_step 78 = .ok (.iconst 1, 1) := by decide +kernel
theorem dX6_step_79 : decode cX6_step 79 = .ok (.goto 4, 3) := by decide +kernel
theorem dX6_step_82 : decode cX6_step 82 = .ok (.iconst 0, 1) := by decide +kernel
theorem dX6_step_83 : decode cX6_step 83 = .ok (.iand, 1) := by decide +kernel
theorem dX6_step_84 : decode cX6_step 84 = .ok (.istore_n 3, 1) := by decide +kernel
theorem dX6_step_85 : decode cX6_step 85 = .ok (.iinc 4 1, 3) := by decide +kernel
theorem dX6_step_88 : decode cX6_step 88 = .ok (.goto (-31), 3) := by decide +kernel
theorem dX6_step_91 : decode cX6_step 91 = .ok (.iload_n 3, 1) := by decide +kernel
theorem dX6_step_92 : decode cX6_step 92 = .ok (.ifCond .ne 9, 3) := by decide +kernel
theorem dX6_step_95 : decode cX6_step 95 = .ok (.aload_n 0, 1) := by decide +kernel
theorem dX6_step_96 : decode cX6_step 96 = .ok (.iconst 2, 1) := by decide +kernel
theorem dX6_step_97 : decode cX6_step 97 = .ok (.invokevirtual 130, 3) := by decide +kernel
theorem dX6_step_100 : decode cX6_step 100 = .ok (.ireturn, 1) := by decide +kernel
theorem dX6_step_101 : decode cX6_step 101 = .ok (.aload_n 0, 1) := by decide +kernel
theorem dX6_step_102 : decode cX6_step 102 = .ok (.getfield 28, 3) := by decide +kernel
theorem dX6_step_105 : decode cX6_step 105 = .ok (.aload_n 0, 1) := by decide +kernel
theorem dX6_step_106 : decode cX6_step 106 = .ok (.getfield 62, 3) := by decide +kernel
theorem dX6_step_109 : decode cX6_step 109 = .ok (.iload_n 1, 1) := by decide +kernel
theorem dX6_step_110 : decode cX6_step 110 = .ok (.iastore, 1) := by decide +kernel
theorem dX6_step_111 : decode cX6_step 111 = .ok (.aload_n 0, 1) := by decide +kernel
theorem dX6_step_112 : decode cX6_step 112 = .ok (.getfield 32, 3) := by decide +kernel
theorem dX6_step_115 : decode cX6_step 115 = .ok (.aload_n 0, 1) := by decide +kernel
theorem dX6_step_116 : decode cX6_step 116 = .ok (.getfield 62, 3) := by decide +kernel
theorem dX6_step_119 : decode cX6_step 119 = .ok (.iload_n 2, 1) := by decide +kernel
theorem dX6_step_120 : decode cX6_step 120 = .ok (.iastore, 1) := by decide +kernel
theorem dX6_step_121 : decode cX6_step 121 = .ok (.aload_n 0, 1) := by decide +kernel
theorem dX6_step_122 : decode cX6_step 122 = .ok (.dup, 1) := by decide +kernel
theorem dX6_step_123 : decode cX6_step 123 = .ok (.getfield 91, 3) := by decide +kernel
theorem dX6_step_126 : decode cX6_step 126 = .ok (.bipush 9, 2) := by decide +kernel
theorem dX6_step_128 : decode cX6_step 128 = .ok (.aload_n 0, 1) := by decide +kernel
theorem dX6_step_129 : decode cX6_step 129 = .ok (.getfield 62, 3) := by decide +kernel
theorem dX6_step_132 : decode cX6_step 132 = .ok (.invokestatic 72, 3) := by decide +kernel
theorem dX6_step_135 : decode cX6_step 135 = .ok (.imul, 1) := by decide +kernel
theorem dX6_step_136 : decode cX6_step 136 = .ok (.iadd, 1) := by decide +kernel
theorem dX6_step_137 : decode cX6_step 137 = .ok (.putfield 91, 3) := by decide +kernel
theorem dX6_step_140 : decode cX6_step 140 = .ok (.aload_n 0, 1) := by decide +kernel
theorem dX6_step_141 : decode cX6_step 141 = .ok (.dup, 1) := by decide +kernel
theorem dX6_step_142 : decode cX6_step 142 = .ok (.getfield 62, 3) := by decide +kernel
theorem dX6_step_145 : decode cX6_step 145 = .ok (.iconst 1, 1) := by decide +kernel
theorem dX6_step_146 : decode cX6_step 146 = .ok (.iadd, 1) := by decide +kernel
theorem dX6_step_147 : decode cX6_step 147 = .ok (.putfield 62, 3) := by decide +kernel
theorem dX6_step_150 : decode cX6_step 150 = .ok (.aload_n 0, 1) := by decide +kernel
theorem dX6_step_151 : decode cX6_step 151 = .ok (.getfield 62, 3) := by decide +kernel
theorem dX6_step_154 : decode cX6_step 154 = .ok (.iconst 1, 1) := by decide +kernel
theorem dX6_step_155 : decode cX6_step 155 = .ok (.isub, 1) := by decide +kernel
theorem dX6_step_156 : decode cX6_step 156 = .ok (.ireturn, 1) := by decide +kernel
set_option maxRecDepth 20000 in
theorem ggX6_yard_X6_isMast : GoodIn wsX6_yard wsX6_isMast := goodIn_r _ [9, 10, 11, 12, 8, 13, 18, 19, 20, 21, 22, 23, 24, 25, 26, 27, 28, 29, 30, 31, 32, 33, 34, 35, 36, 37, 38, 39, 40, 41, 42] (by decide +kernel) (by decide +kernel)
set_option maxRecDepth 20000 in
theorem gX6_yard_X6_isMast : GoodIn wsX6_yard (wsV RX6 133 RX6 yX6_isMast wsX6_isMast) := goodIn_app (goodIn_of _ (by decide +kernel)) ggX6_yard_X6_isMast
set_option maxRecDepth 20000 in
theorem ggX6_yard_X6_no : GoodIn wsX6_yard wsX6_no := goodIn_r _ [17, 1, 18, 19, 20, 21, 22, 23, 24, 25, 26, 27, 28, 29, 30, 31, 32, 33, 34, 35, 36, 37, 38, 39, 40, 41, 42] (by decide +kernel) (by decide +kernel)
set_option maxRecDepth 20000 in
theorem gX6_yard_X6_no : GoodIn wsX6_yard (wsV RX6 130 RX6 yX6_no wsX6_no) := goodIn_app (goodIn_of _ (by decide +kernel)) ggX6_yard_X6_no
set_option maxRecDepth 20000 in
theorem ggX6_yard_X6_isBetween : GoodIn wsX6_yard wsX6_isBetween := goodIn_r _ [13] (by decide +kernel) (by decide +kernel)
set_option maxRecDepth 20000 in
theorem gX6_yard_X6_isBetween : GoodIn wsX6_yard (va_wsS RX6 65 yX6_isBetween wsX6_isBetween) := goodIn_app (goodIn_of _ (by decide +kernel)) ggX6_yard_X6_isBetween
theorem dX6_yard_0 : decode cX6_yard 0 = .ok (.aload_n 0, 1) := by decide +kernel
theorem dX6_yard_1 : decode cX6_yard 1 = .ok (.iconst 0, 1) := by decide +kernel
theorem dX6_yard_2 : decode cX6_yard 2 = .ok (.putfield 59, 3) := by decide +kernel
theorem dX6_yard_5 : decode cX6_yard 5 = .ok (.aload_n 0, 1) := by decide +kernel
theorem dX6_yard_6 : decode cX6_yard 6 = .ok (.iload_n 1, 1) := by decide +kernel
theorem dX6_yard_7 : decode cX6_yard 7 = .ok (.invokevirtual 133, 3) := by decide +kernel
theorem dX6_yard_10 : decode cX6_yard 10 = .ok (.ifCond .ne 9, 3) := by decide +kernel
theorem dX6_yard_13 : decode cX6_yard 13 = .ok (.aload_n 0, 1) := by decide +kernel
theorem dX6_yard_14 : decode cX6_yard 14 = .ok (.iconst 1, 1) := by decide +kernel
theorem dX6_yard_15 : decode cX6_yard 15 = .ok (.invokevirtual 130, 3) := by decide +kernel
theorem dX6_yard_18 : decode cX6_yard 18 = .ok (.ireturn, 1) := by decide +kernel
theorem dX6_yard_19 : decode cX6_yard 19 = .ok (.iload_n 2, 1) := by decide +kernel
theorem dX6_yard_20 : decode cX6_yard 20 = .ok (.iconst 1, 1) := by decide +kernel
theorem dX6_yard_21 : decode cX6_yard 21 = .ok (.bipush 20, 2) := by decide +kernel
theorem dX6_yard_23 : decode cX6_yard 23 = .ok (.invokestatic 65, 3) := by decide +kernel
theorem dX6_yard_26 : decode cX6_yard 26 = .ok (.ifCond .ne 9, 3) := by decide +kernel
theorem dX6_yard_29 : decode cX6_yard 29 = .ok (.aload_n 0, 1) := by decide +kernel
theorem dX6_yard_30 : decode cX6_yard 30 = .ok (.iconst 2, 1) := by decide +kernel
theorem dX6_yard_31 : decode cX6_yard 31 = .ok (.invokevirtual 130, 3) := by decide +kernel
theorem dX6_yard_34 : decode cX6_yard 34 = .ok (.ireturn, 1) := by decide +kernel
theorem dX6_yard_35 : decode cX6_yard 35 = .ok (.aload_n 0, 1) := by decide +kernel
theorem dX6_yard_36 : decode cX6_yard 36 = .ok (.getfield 123, 3) := by decide +kernel
theorem dX6_yard_39 : decode cX6_yard 39 = .ok (.ifCond .ne 13, 3) := by decide +kernel
theorem dX6_yard_42 : decode cX6_yard 42 = .ok (.aload_n 0, 1) := by decide +kernel
theorem dX6_yard_43 : decode cX6_yard 43 = .ok (.getfield 35, 3) := by decide +kernel
theorem dX6_yard_46 : decode cX6_yard 46 = .ok (.iload_n 1, 1) := by decide +kernel
theorem dX6_yard_47 : decode cX6_yard 47 = .ok (.iaload, 1) := by decide +kernel
theorem dX6_yard_48 : decode cX6_yard 48 = .ok (.iconst 3, 1) := by decide +kernel
theorem dX6_yard_49 : decode cX6_yard 49 = .ok (.if_icmp .ne 9, 3) := by decide +kernel
theorem dX6_yard_52 : decode cX6_yard 52 = .ok (.aload_n 0, 1) := by decide +kernel
theorem dX6_yard_53 : decode cX6_yard 53 = .ok (.iconst 3, 1) := by decide +kernel
theorem dX6_yard_54 : decode cX6_yard 54 = .ok (.invokevirtual 130, 3) := by decide +kernel
theorem dX6_yard_57 : decode cX6_yard 57 = .ok (.ireturn, 1) := by decide +kernel
theorem dX6_yard_58 : decode cX6_yard 58 = .ok (.aload_n 0, 1) := by decide +kernel
theorem dX6_yard_59 : decode cX6_yard 59 = .ok (.getfield 38, 3) := by decide +kernel
theorem dX6_yard_62 : decode cX6_yard 62 = .ok (.iconst 3, 1) := by decide +kernel
theorem dX6_yard_63 : decode cX6_yard 63 = .ok (.iload_n 1, 1) := by decide +kernel
theorem dX6_yard_64 : decode cX6_yard 64 = .ok (.imul, 1) := by decide +kernel
theorem dX6_yard_65 : decode cX6_yard 65 = .ok (.aload_n 0, 1) := by decide +kernel
theorem dX6_yard_66 : decode cX6_yard 66 = .ok (.getfield 35, 3) := by decide +kernel
theorem dX6_yard_69 : decode cX6_yard 69 = .ok (.iload_n 1, 1) := by decide +kernel
theorem dX6_yard_70 : decode cX6_yard 70 = .ok (.iaload, 1) := by decide +kernel
theorem dX6_yard_71 : decode cX6_yard 71 = .ok (.iadd, 1) := by decide +kernel
theorem dX6_yard_72 : decode cX6_yard 72 = .ok (.iload_n 2, 1) := by decide +kernel
theorem dX6_yard_73 : decode cX6_yard 73 = .ok (.iastore, 1) := by decide +kernel
theorem dX6_yard_74 : decode cX6_yard 74 = .ok (.aload_n 0, 1) := by decide +kernel
theorem dX6_yard_75 : decode cX6_yard 75 = .ok (.getfield 35, 3) := by decide +kernel
theorem dX6_yard_78 : decode cX6_yard 78 = .ok (.iload_n 1, 1) := by decide +kernel
theorem dX6_yard_79 : decode cX6_yard 79 = .ok (.dup2, 1) := by decide +kernel
theorem dX6_yard_80 : decode cX6_yard 80 = .ok (.iaload, 1) := by decide +kernel
theorem dX6_yard_81 : decode cX6_yard 81 = .ok (.iconst 1, 1) := by decide +kernel
theorem dX6_yard_82 : decode cX6_yard 82 = .ok (.iadd, 1) := by decide +kernel
theorem dX6_yard_83 : decode cX6_yard 83 = .ok (.iastore, 1) := by decide +kernel
theorem dX6_yard_84 : decode cX6_yard 84 = .ok (.aload_n 0, 1) := by decide +kernel
theorem dX6_yard_85 : decode cX6_yard 85 = .ok (.getfield 35, 3) := by decide +kernel
theorem dX6_yard_88 : decode cX6_yard 88 = .ok (.iload_n 1, 1) := by decide +kernel
theorem dX6_yard_89 : decode cX6_yard 89 = .ok (.iaload, 1) := by decide +kernel
theorem dX6_yard_90 : decode cX6_yard 90 = .ok (.ireturn, 1) := by decide +kernel
set_option maxRecDepth 20000 in
theorem ggX6_lead_X6_isMast : GoodIn wsX6_lead wsX6_isMast := goodIn_r _ [10, 11, 12, 13, 9, 14, 19, 20, 21, 22, 23, 24, 25, 26, 27, 28, 29, 30, 31, 32, 33, 34, 35, 36, 37, 38, 39, 40, 41, 42, 43] (by decide +kernel) (by decide +kernel)
set_option maxRecDepth 20000 in
theorem gX6_lead_X6_isMast : GoodIn wsX6_lead (wsV RX6 133 RX6 yX6_isMast wsX6_isMast) := goodIn_app (goodIn_of _ (by decide +kernel)) ggX6_lead_X6_isMast
set_option maxRecDepth 20000 in
theorem ggX6_lead_X6_no : GoodIn wsX6_lead wsX6_no := goodIn_r _ [18, 1, 19, 20, 21, 22, 23, 24, 25, 26, 27, 28, 29, 30, 31, 32, 33, 34, 35, 36, 37, 38, 39, 40, 41, 42, 43] (by decide +kernel) (by decide +kernel)
set_option maxRecDepth 20000 in
theorem gX6_lead_X6_no : GoodIn wsX6_lead (wsV RX6 130 RX6 yX6_no wsX6_no) := goodIn_app (goodIn_of _ (by decide +kernel)) ggX6_lead_X6_no
set_option maxRecDepth 20000 in
theorem ggX6_lead_X6_isBetween : GoodIn wsX6_lead wsX6_isBetween := goodIn_r _ [14] (by decide +kernel) (by decide +kernel)
set_option maxRecDepth 20000 in
theorem gX6_lead_X6_isBetween : GoodIn wsX6_lead (va_wsS RX6 65 yX6_isBetween wsX6_isBetween) := goodIn_app (goodIn_of _ (by decide +kernel)) ggX6_lead_X6_isBetween
theorem dX6_lead_0 : decode cX6_lead 0 = .ok (.aload_n 0, 1) := by decide +kernel
theorem dX6_lead_1 : decode cX6_lead 1 = .ok (.iconst 0, 1) := by decide +kernel
theorem dX6_lead_2 : decode cX6_lead 2 = .ok (.putfield 59, 3) := by decide +kernel
theorem dX6_lead_5 : decode cX6_lead 5 = .ok (.aload_n 0, 1) := by decide +kernel
theorem dX6_lead_6 : decode cX6_lead 6 = .ok (.iload_n 1, 1) := by decide +kernel
theorem dX6_lead_7 : decode cX6_lead 7 = .ok (.invokevirtual 133, 3) := by decide +kernel
theorem dX6_lead_10 : decode cX6_lead 10 = .ok (.ifCond .eq 16, 3) := by decide +kernel
theorem dX6_lead_13 : decode cX6_lead 13 = .ok (.iload_n 2, 1) := by decide +kernel
theorem dX6_lead_14 : decode cX6_lead 14 = .ok (.iconst (-1), 1) := by decide +kernel
theorem dX6_lead_15 : decode cX6_lead 15 = .ok (.if_icmp .eq 17, 3) := by decide +kernel
theorem dX6_lead_18 : decode cX6_lead 18 = .ok (.aload_n 0, 1) := by decide +kernel
theorem dX6_lead_19 : decode cX6_lead 19 = .ok (.iload_n 2, 1) := by decide +kernel
theorem dX6_lead_20 : decode cX6_lead 20 = .ok (.invokevirtual 133, 3) := by decide +kernel
theorem dX6_lead_23 : decode cX6_lead 23 = .ok (.ifCond .ne 9, 3) := by decide +kernel
theorem dX6_lead_26 : decode cX6_lead 26 = .ok (.aload_n 0, 1) := by decide +kernel
theorem dX6_lead_27 : decode cX6_lead 27 = .ok (.iconst 1, 1) := by decide +kernel
theorem dX6_lead_28 : decode cX6_lead 28 = .ok (.invokevirtual 130, 3) := by decide +kernel
theorem dX6_lead_31 : decode cX6_lead 31 = .ok (.ireturn, 1) := by decide +kernel
theorem dX6_lead_32 : decode cX6_lead 32 = .ok (.iload_n 1, 1) := by decide +kernel
theorem dX6_lead_33 : decode cX6_lead 33 = .ok (.iload_n 2, 1) := by decide +kernel
theorem dX6_lead_34 : decode cX6_lead 34 = .ok (.if_icmp .eq 13, 3) := by decide +kernel
theorem dX6_lead_37 : decode cX6_lead 37 = .ok (.iload_n 3, 1) := by decide +kernel
theorem dX6_lead_38 : decode cX6_lead 38 = .ok (.iconst 1, 1) := by decide +kernel
theorem dX6_lead_39 : decode cX6_lead 39 = .ok (.bipush 9, 2) := by decide +kernel
theorem dX6_lead_41 : decode cX6_lead 41 = .ok (.invokestatic 65, 3) := by decide +kernel
theorem dX6_lead_44 : decode cX6_lead 44 = .ok (.ifCond .ne 9, 3) := by decide +kernel
theorem dX6_lead_47 : decode cX6_lead 47 = .ok (.aload_n 0, 1) := by decide +kernel
theorem dX6_lead_48 : decode cX6_lead 48 = .ok (.iconst 2, 1) := by decide +kernel
theorem dX6_lead_49 : decode cX6_lead 49 = .ok (.invokevirtual 130, 3) := by decide +kernel
theorem dX6_lead_52 : decode cX6_lead 52 = .ok (.ireturn, 1) := by decide +kernel
theorem dX6_lead_53 : decode cX6_lead 53 = .ok (.aload_n 0, 1) := by decide +kernel
theorem dX6_lead_54 : decode cX6_lead 54 = .ok (.getfield 69, 3) := by decide +kernel
theorem dX6_lead_57 : decode cX6_lead 57 = .ok (.bipush 8, 2) := by decide +kernel
theorem dX6_lead_59 : decode cX6_lead 59 = .ok (.if_icmp .ne 9, 3) := by decide +kernel
theorem dX6_lead_62 : decode cX6_lead 62 = .ok (.aload_n 0, 1) := by decide +kernel
theorem dX6_lead_63 : decode cX6_lead 63 = .ok (.iconst 3, 1) := by decide +kernel
theorem dX6_lead_64 : decode cX6_lead 64 = .ok (.invokevirtual 130, 3) := by decide +kernel
theorem dX6_lead_67 : decode cX6_lead 67 = .ok (.ireturn, 1) := by decide +kernel
theorem dX6_lead_68 : decode cX6_lead 68 = .ok (.aload_n 0, 1) := by decide +kernel
theorem dX6_lead_69 : decode cX6_lead 69 = .ok (.getfield 41, 3) := by decide +kernel
theorem dX6_lead_72 : decode cX6_lead 72 = .ok (.aload_n 0, 1) := by decide +kernel
theorem dX6_lead_73 : decode cX6_lead 73 = .ok (.getfield 69, 3) := by decide +kernel
theorem dX6_lead_76 : decode cX6_lead 76 = .ok (.iload_n 1, 1) := by decide +kernel
theorem dX6_lead_77 : decode cX6_lead 77 = .ok (.iastore, 1) := by decide +kernel
theorem dX6_lead_78 : decode cX6_lead 78 = .ok (.aload_n 0, 1) := by decide +kernel
theorem dX6_lead_79 : decode cX6_lead 79 = .ok (.getfield 44, 3) := by decide +kernel
theorem dX6_lead_82 : decode cX6_lead 82 = .ok (.aload_n 0, 1) := by decide +kernel
theorem dX6_lead_83 : decode cX6_lead 83 = .ok (.getfield 69, 3) := by decide +kernel
theorem dX6_lead_86 : decode cX6_lead 86 = .ok (.iload_n 2, 1) := by decide +kernel
theorem dX6_lead_87 : decode cX6_lead 87 = .ok (.iastore, 1) := by decide +kernel
theorem dX6_lead_88 : decode cX6_lead 88 = .ok (.aload_n 0, 1) := by decide +kernel
theorem dX6_lead_89 : decode cX6_lead 89 = .ok (.getfield 47, 3) := by decide +kernel
theorem dX6_lead_92 : decode cX6_lead 92 = .ok (.aload_n 0, 1) := by decide +kernel
theorem dX6_lead_93 : decode cX6_lead 93 = .ok (.getfield 69, 3) := by decide +kernel
theorem dX6_lead_96 : decode cX6_lead 96 = .ok (.iload_n 3, 1) := by decide +kernel
theorem dX6_lead_97 : decode cX6_lead 97 = .ok (.iastore, 1) := by decide +kernel
theorem dX6_lead_98 : decode cX6_lead 98 = .ok (.aload_n 0, 1) := by decide +kernel
theorem dX6_lead_99 : decode cX6_lead 99 = .ok (.dup, 1) := by decide +kernel
theorem dX6_lead_100 : decode cX6_lead 100 = .ok (.getfield 69, 3) := by decide +kernel
theorem dX6_lead_103 : decode cX6_lead 103 = .ok (.iconst 1, 1) := by decide +kernel
theorem dX6_lead_104 : decode cX6_lead 104 = .ok (.iadd, 1) := by decide +kernel
theorem dX6_lead_105 : decode cX6_lead 105 = .ok (.putfield 69, 3) := by decide +kernel
theorem dX6_lead_108 : decode cX6_lead 108 = .ok (.aload_n 0, 1) := by decide +kernel
theorem dX6_lead_109 : decode cX6_lead 109 = .ok (.getfield 69, 3) := by decide +kernel
theorem dX6_lead_112 : decode cX6_lead 112 = .ok (.iconst 1, 1) := by decide +kernel
theorem dX6_lead_113 : decode cX6_lead 113 = .ok (.isub, 1) := by decide +kernel
theorem dX6_lead_114 : decode cX6_lead 114 = .ok (.ireturn, 1) := by decide +kernel
set_option maxRecDepth 20000 in
theorem ggX6_enter_X6_goesThrough : GoodIn wsX6_enter wsX6_goesThrough := goodIn_r _ [8, 3, 9, 10, 11, 12, 7, 13, 14, 15, 16, 17, 18, 19, 20, 21, 22, 23, 24, 25, 26, 27, 28, 29, 30, 31, 32, 33, 34, 35, 36, 37, 55, 56, 57, 58, 59, 60, 61, 62, 63, 64, 65, 66, 67, 68, 69, 70, 71, 72, 73, 74, 75, 76, 77, 78, 79] (by decide +kernel) (by decide +kernel)
set_option maxRecDepth 20000 in
theorem gX6_enter_X6_goesThrough : GoodIn wsX6_enter (wsV RX6 136 RX6 yX6_goesThrough wsX6_goesThrough) := goodIn_app (goodIn_of _ (by decide +kernel)) ggX6_enter_X6_goesThrough
set_option maxRecDepth 20000 in
theorem ggX6_enter_X6_fits : GoodIn wsX6_enter wsX6_fits := goodIn_r _ [41, 42, 43, 44, 45, 46, 47, 7, 48, 49, 15, 50, 18, 19, 20, 21, 51, 52, 53, 54, 37, 22, 23, 24, 25, 26, 27, 28, 29, 30, 31, 32, 33, 34, 35, 36, 55, 56, 57, 58, 59, 60, 61, 62, 63, 64, 65, 66, 67, 68, 69, 70, 71, 72, 73, 74, 75, 76, 77, 78, 79] (by decide +kernel) (by decide +kernel)
set_option maxRecDepth 20000 in
theorem gX6_enter_X6_fits : GoodIn wsX6_enter (wsV RX6 127 RX6 yX6_fits wsX6_fits) := goodIn_app (goodIn_of _ (by decide +kernel)) ggX6_enter_X6_fits
theorem dX6_enter_0 : decode cX6_enter 0 = .ok (.aload_n 0, 1) := by decide +kernel
theorem dX6_enter_1 : decode cX6_enter 1 = .ok (.iconst 0, 1) := by decide +kernel
theorem dX6_enter_2 : decode cX6_enter 2 = .ok (.putfield 59, 3) := by decide +kernel
theorem dX6_enter_5 : decode cX6_enter 5 = .ok (.aload_n 0, 1) := by decide +kernel
theorem dX6_enter_6 : decode cX6_enter 6 = .ok (.getfield 123, 3) := by decide +kernel
theorem dX6_enter_9 : decode cX6_enter 9 = .ok (.ifCond .ne 25, 3) := by decide +kernel
theorem dX6_enter_12 : decode cX6_enter 12 = .ok (.aload_n 0, 1) := by decide +kernel
theorem dX6_enter_13 : decode cX6_enter 13 = .ok (.invokevirtual 136, 3) := by decide +kernel
theorem dX6_enter_16 : decode cX6_enter 16 = .ok (.ifCond .eq 18, 3) := by decide +kernel
theorem dX6_enter_19 : decode cX6_enter 19 = .ok (.aload_n 0, 1) := by decide +kernel
theorem dX6_enter_20 : decode cX6_enter 20 = .ok (.aload_n 0, 1) := by decide +kernel
theorem dX6_enter_21 : decode cX6_enter 21 = .ok (.getfield 91, 3) := by decide +kernel
theorem dX6_enter_24 : decode cX6_enter 24 = .ok (.invokevirtual 127, 3) := by decide +kernel
theorem dX6_enter_27 : decode cX6_enter 27 = .ok (.ifCond .eq 7, 3) := by decide +kernel
theorem dX6_enter_30 : decode cX6_enter 30 = .ok (.iconst 1, 1) := by decide +kernel
theorem dX6_enter_31 : decode cX6_enter 31 = .ok (.goto 4, 3) := by decide +kernel
theorem dX6_enter_34 : decode cX6_enter 34 = .ok (.iconst 0, 1) := by decide +kernel
theorem dX6_enter_35 : decode cX6_enter 35 = .ok (.istore_n 1, 1) := by decide +kernel
theorem dX6_enter_36 : decode cX6_enter 36 = .ok (.aload_n 0, 1) := by decide +kernel
theorem dX6_enter_37 : decode cX6_enter 37 = .ok (.dup, 1) := by decide +kernel
theorem dX6_enter_38 : decode cX6_enter 38 = .ok (.getfield 123, 3) := by decide +kernel
theorem dX6_enter_41 : decode cX6_enter 41 = .ok (.iload_n 1, 1) := by decide +kernel
theorem dX6_enter_42 : decode cX6_enter 42 = .ok (.ior, 1) := by decide +kernel
theorem dX6_enter_43 : decode cX6_enter 43 = .ok (.putfield 123, 3) := by decide +kernel
theorem dX6_enter_46 : decode cX6_enter 46 = .ok (.iload_n 1, 1) := by decide +kernel
theorem dX6_enter_47 : decode cX6_enter 47 = .ok (.ireturn, 1) := by decide +kernel
set_option maxRecDepth 20000 in
theorem ggX6_leave_X6_goesThrough : GoodIn wsX6_leave wsX6_goesThrough := goodIn_r _ [7, 8, 9, 10, 11, 12, 6, 13, 14, 15, 16, 17, 18, 19, 20, 21, 22, 23, 24, 25, 26, 27, 28, 29, 30, 31, 32, 33, 34, 35, 36, 37, 38, 39, 40, 41, 42, 43, 44, 45, 46, 47, 48, 49, 50, 51, 52, 53, 54, 55, 56, 57, 58, 59, 60, 61, 62] (by decide +kernel) (by decide +kernel)
set_option maxRecDepth 20000 in
theorem gX6_leave_X6_goesThrough : GoodIn wsX6_leave (wsV RX6 136 RX6 yX6_goesThrough wsX6_goesThrough) := goodIn_app (goodIn_of _ (by decide +kernel)) ggX6_leave_X6_goesThrough
theorem dX6_leave_0 : decode cX6_leave 0 = .ok (.aload_n 0, 1) := by decide +kernel
theorem dX6_leave_1 : decode cX6_leave 1 = .ok (.iconst 0, 1) := by decide +kernel
theorem dX6_leave_2 : decode cX6_leave 2 = .ok (.putfield 59, 3) := by decide +kernel
theorem dX6_leave_5 : decode cX6_leave 5 = .ok (.aload_n 0, 1) := by decide +kernel
theorem dX6_leave_6 : decode cX6_leave 6 = .ok (.getfield 123, 3) := by decide +kernel
theorem dX6_leave_9 : decode cX6_leave 9 = .ok (.ifCond .eq 14, 3) := by decide +kernel
theorem dX6_leave_12 : decode cX6_leave 12 = .ok (.aload_n 0, 1) := by decide +kernel
theorem dX6_leave_13 : decode cX6_leave 13 = .ok (.invokevirtual 136, 3) := by decide +kernel
theorem dX6_leave_16 : decode cX6_leave 16 = .ok (.ifCond .eq 7, 3) := by decide +kernel
theorem dX6_leave_19 : decode cX6_leave 19 = .ok (.iconst 1, 1) := by decide +kernel
theorem dX6_leave_20 : decode cX6_leave 20 = .ok (.goto 4, 3) := by decide +kernel
theorem dX6_leave_23 : decode cX6_leave 23 = .ok (.iconst 0, 1) := by decide +kernel
theorem dX6_leave_24 : decode cX6_leave 24 = .ok (.istore_n 1, 1) := by decide +kernel
theorem dX6_leave_25 : decode cX6_leave 25 = .ok (.aload_n 0, 1) := by decide +kernel
theorem dX6_leave_26 : decode cX6_leave 26 = .ok (.dup, 1) := by decide +kernel
theorem dX6_leave_27 : decode cX6_leave 27 = .ok (.getfield 123, 3) := by decide +kernel
theorem dX6_leave_30 : decode cX6_leave 30 = .ok (.iload_n 1, 1) := by decide +kernel
theorem dX6_leave_31 : decode cX6_leave 31 = .ok (.ifCond .ne 7, 3) := by decide +kernel
theorem dX6_leave_34 : decode cX6_leave 34 = .ok (.iconst 1, 1) := by decide +kernel
theorem dX6_leave_35 : decode cX6_leave 35 = .ok (.goto 4, 3) := by decide +kernel
theorem dX6_leave_38 : decode cX6_leave 38 = .ok (.iconst 0, 1) := by decide +kernel
theorem dX6_leave_39 : decode cX6_leave 39 = .ok (.iand, 1) := by decide +kernel
theorem dX6_leave_40 : decode cX6_leave 40 = .ok (.putfield 123, 3) := by decide +kernel
theorem dX6_leave_43 : decode cX6_leave 43 = .ok (.iload_n 1, 1) := by decide +kernel
theorem dX6_leave_44 : decode cX6_leave 44 = .ok (.ireturn, 1) := by decide +kernel
set_option maxRecDepth 20000 in
theorem ggX6_pull_X6_isThread : GoodIn wsX6_pull wsX6_isThread := goodIn_r _ [12, 13, 14, 15, 11, 16, 84, 85, 86, 87, 88, 89, 90, 91, 92, 93, 94, 95, 96, 97, 98, 99, 100, 101, 102, 103, 104, 105, 106, 107, 108] (by decide +kernel) (by decide +kernel)
set_option maxRecDepth 20000 in
theorem gX6_pull_X6_isThread : GoodIn wsX6_pull (wsV RX6 140 RX6 yX6_isThread wsX6_isThread) := goodIn_app (goodIn_of _ (by decide +kernel)) ggX6_pull_X6_isThread
set_option maxRecDepth 20000 in
theorem ggX6_pull_X6_no : GoodIn wsX6_pull wsX6_no := goodIn_r _ [20, 1, 84, 85, 86, 87, 88, 89, 90, 91, 92, 93, 94, 95, 96, 97, 98, 99, 100, 101, 102, 103, 104, 105, 106, 107, 108] (by decide +kernel) (by decide +kernel)
set_option maxRecDepth 20000 in
theorem gX6_pull_X6_no : GoodIn wsX6_pull (wsV RX6 130 RX6 yX6_no wsX6_no) := goodIn_app (goodIn_of _ (by decide +kernel)) ggX6_pull_X6_no
set_option maxRecDepth 20000 in
theorem ggX6_pull_X6_behind : GoodIn wsX6_pull wsX6_behind := goodIn_r _ [24, 5, 13, 2, 7, 25, 26, 27, 28, 11, 29, 30, 31, 32, 33, 34, 35, 36, 37, 38, 39, 40, 41, 42, 43, 44, 45, 46, 47, 48, 49, 50, 51, 52, 53, 54, 55, 56, 57, 58, 59, 60, 61, 62, 63, 64, 65, 66, 67, 68, 69, 70, 71, 72, 73, 74, 75, 76, 77, 78, 79, 80, 81, 82, 83, 84, 85, 86, 87, 88, 89, 90, 91, 92, 93, 94, 95, 96, 97, 98, 99, 100, 101, 102, 103, 104, 105, 106, 107, 108] (by decide +kernel) (by decide +kernel)
set_option maxRecDepth 20000 in
theorem gX6_pull_X6_behind : GoodIn wsX6_pull (wsV RX6 143 RX6 yX6_behind wsX6_behind) := goodIn_app (goodIn_of _ (by decide +kernel)) ggX6_pull_X6_behind
set_option maxRecDepth 20000 in
theorem ggX6_pull_X6_lean : GoodIn wsX6_pull wsX6_lean := goodIn_r _ [29, 30, 31, 11, 32] (by decide +kernel) (by decide +kernel)
set_option maxRecDepth 20000 in
theorem gX6_pull_X6_lean : GoodIn wsX6_pull (va_wsS RX6 76 yX6_lean wsX6_lean) := goodIn_app (goodIn_of _ (by decide +kernel)) ggX6_pull_X6_lean
theorem dX6_pull_0 : decode cX6_pull 0 = .ok (.aload_n 0, 1) := by decide +kernel
theorem dX6_pull_1 : decode cX6_pull 1 = .ok (.iconst 0, 1) := by decide +kernel
theorem dX6_pull_2 : decode cX6_pull 2 = .ok (.putfield 59, 3) := by decide +kernel
theorem dX6_pull_5 : decode cX6_pull 5 = .ok (.aload_n 0, 1) := by decide +kernel
theorem dX6_pull_6 : decode cX6_pull 6 = .ok (.iload_n 1, 1) := by decide +kernel
theorem dX6_pull_7 : decode cX6_pull 7 = .ok (.invokevirtual 140, 3) := by decide +kernel
theorem dX6_pull_10 : decode cX6_pull 10 = .ok (.ifCond .ne 9, 3) := by decide +kernel
theorem dX6_pull_13 : decode cX6_pull 13 = .ok (.aload_n 0, 1) := by decide +kernel
theorem dX6_pull_14 : decode cX6_pull 14 = .ok (.iconst 1, 1) := by decide +kernel
theorem dX6_pull_15 : decode cX6_pull 15 = .ok (.invokevirtual 130, 3) := by decide +kernel
theorem dX6_pull_18 : decode cX6_pull 18 = .ok (.ireturn, 1) := by decide +kernel
theorem dX6_pull_19 : decode cX6_pull 19 = .ok (.aload_n 0, 1) := by decide +kernel
theorem dX6_pull_20 : decode cX6_pull 20 = .ok (.getfield 50, 3) := by decide +kernel
theorem dX6_pull_23 : decode cX6_pull 23 = .ok (.iload_n 1, 1) := by decide +kernel
theorem dX6_pull_24 : decode cX6_pull 24 = .ok (.iaload, 1) := by decide +kernel
theorem dX6_pull_25 : decode cX6_pull 25 = .ok (.ifCond .eq 9, 3) := by decide +kernel
theorem dX6_pull_28 : decode cX6_pull 28 = .ok (.aload_n 0, 1) := by decide +kernel
theorem dX6_pull_29 : decode cX6_pull 29 = .ok (.iconst 2, 1) := by decide +kernel
theorem dX6_pull_30 : decode cX6_pull 30 = .ok (.invokevirtual 130, 3) := by decide +kernel
theorem dX6_pull_33 : decode cX6_pull 33 = .ok (.ireturn, 1) := by decide +kernel
theorem dX6_pull_34 : decode cX6_pull 34 = .ok (.aload_n 0, 1) := by decide +kernel
theorem dX6_pull_35 : decode cX6_pull 35 = .ok (.aload_n 0, 1) := by decide +kernel
theorem dX6_pull_36 : decode cX6_pull 36 = .ok (.getfield 91, 3) := by decide +kernel
theorem dX6_pull_39 : decode cX6_pull 39 = .ok (.iload_n 1, 1) := by decide +kernel
theorem dX6_pull_40 : decode cX6_pull 40 = .ok (.invokevirtual 143, 3) := by decide +kernel
theorem dX6_pull_43 : decode cX6_pull 43 = .ok (.istore_n 2, 1) := by decide +kernel
theorem dX6_pull_44 : decode cX6_pull 44 = .ok (.iload_n 2, 1) := by decide +kernel
theorem dX6_pull_45 : decode cX6_pull 45 = .ok (.ifCond .lt 32, 3) := by decide +kernel
theorem dX6_pull_48 : decode cX6_pull 48 = .ok (.aload_n 0, 1) := by decide +kernel
theorem dX6_pull_49 : decode cX6_pull 49 = .ok (.iload_n 2, 1) := by decide +kernel
theorem dX6_pull_50 : decode cX6_pull 50 = .ok (.putfield 91, 3) := by decide +kernel
theorem dX6_pull_53 : decode cX6_pull 53 = .ok (.aload_n 0, 1) := by decide +kernel
theorem dX6_pull_54 : decode cX6_pull 54 = .ok (.dup, 1) := by decide +kernel
theorem dX6_pull_55 : decode cX6_pull 55 = .ok (.getfield 146, 3) := by decide +kernel
theorem dX6_pull_58 : decode cX6_pull 58 = .ok (.iconst 1, 1) := by decide +kernel
theorem dX6_pull_59 : decode cX6_pull 59 = .ok (.iadd, 1) := by decide +kernel
theorem dX6_pull_60 : decode cX6_pull 60 = .ok (.putfield 146, 3) := by decide +kernel
theorem dX6_pull_63 : decode cX6_pull 63 = .ok (.aload_n 0, 1) := by decide +kernel
theorem dX6_pull_64 : decode cX6_pull 64 = .ok (.getfield 91, 3) := by decide +kernel
theorem dX6_pull_67 : decode cX6_pull 67 = .ok (.aload_n 0, 1) := by decide +kernel
theorem dX6_pull_68 : decode cX6_pull 68 = .ok (.getfield 41, 3) := by decide +kernel
theorem dX6_pull_71 : decode cX6_pull 71 = .ok (.iload_n 1, 1) := by decide +kernel
theorem dX6_pull_72 : decode cX6_pull 72 = .ok (.iaload, 1) := by decide +kernel
theorem dX6_pull_73 : decode cX6_pull 73 = .ok (.invokestatic 76, 3) := by decide +kernel
theorem dX6_pull_76 : decode cX6_pull 76 = .ok (.ireturn, 1) := by decide +kernel
theorem dX6_pull_77 : decode cX6_pull 77 = .ok (.aload_n 0, 1) := by decide +kernel
theorem dX6_pull_78 : decode cX6_pull 78 = .ok (.dup, 1) := by decide +kernel
theorem dX6_pull_79 : decode cX6_pull 79 = .ok (.getfield 149, 3) := by decide +kernel
theorem dX6_pull_82 : decode cX6_pull 82 = .ok (.iconst 1, 1) := by decide +kernel
end
section
theorem dX6_pull_83 : decode cX6_pull 83 = .ok (.iadd, 1) := by decide +kernel
theorem dX6_pull_84 : decode cX6_pull 84 = .ok (.putfield 149, 3) := by decide +kernel
theorem dX6_pull_87 : decode cX6_pull 87 = .ok (.iload_n 2, 1) := by decide +kernel
theorem dX6_pull_88 : decode cX6_pull 88 = .ok (.iconst (-1), 1) := by decide +kernel
theorem dX6_pull_89 : decode cX6_pull 89 = .ok (.if_icmp .eq 29, 3) := by decide +kernel
theorem dX6_pull_92 : decode cX6_pull 92 = .ok (.aload_n 0, 1) := by decide +kernel
theorem dX6_pull_93 : decode cX6_pull 93 = .ok (.getfield 47, 3) := by decide +kernel
theorem dX6_pull_96 : decode cX6_pull 96 = .ok (.iload_n 1, 1) := by decide +kernel
theorem dX6_pull_97 : decode cX6_pull 97 = .ok (.dup2, 1) := by decide +kernel
theorem dX6_pull_98 : decode cX6_pull 98 = .ok (.iaload, 1) := by decide +kernel
theorem dX6_pull_99 : decode cX6_pull 99 = .ok (.iconst 1, 1) := by decide +kernel
theorem dX6_pull_100 : decode cX6_pull 100 = .ok (.isub, 1) := by decide +kernel
theorem dX6_pull_101 : decode cX6_pull 101 = .ok (.iastore, 1) := by decide +kernel
theorem dX6_pull_102 : decode cX6_pull 102 = .ok (.aload_n 0, 1) := by decide +kernel
theorem dX6_pull_103 : decode cX6_pull 103 = .ok (.getfield 47, 3) := by decide +kernel
theorem dX6_pull_106 : decode cX6_pull 106 = .ok (.iload_n 1, 1) := by decide +kernel
theorem dX6_pull_107 : decode cX6_pull 107 = .ok (.iaload, 1) := by decide +kernel
theorem dX6_pull_108 : decode cX6_pull 108 = .ok (.ifCond .ne 10, 3) := by decide +kernel
theorem dX6_pull_111 : decode cX6_pull 111 = .ok (.aload_n 0, 1) := by decide +kernel
theorem dX6_pull_112 : decode cX6_pull 112 = .ok (.getfield 50, 3) := by decide +kernel
theorem dX6_pull_115 : decode cX6_pull 115 = .ok (.iload_n 1, 1) := by decide +kernel
theorem dX6_pull_116 : decode cX6_pull 116 = .ok (.iconst 2, 1) := by decide +kernel
theorem dX6_pull_117 : decode cX6_pull 117 = .ok (.iastore, 1) := by decide +kernel
theorem dX6_pull_118 : decode cX6_pull 118 = .ok (.iload_n 2, 1) := by decide +kernel
theorem dX6_pull_119 : decode cX6_pull 119 = .ok (.ireturn, 1) := by decide +kernel
set_option maxRecDepth 20000 in
theorem ggX6_glue_X6_isThread : GoodIn wsX6_glue wsX6_isThread := goodIn_r _ [7, 8, 9, 10, 6, 11, 16, 17, 18, 19, 20, 21, 22, 23, 24, 25, 26, 27, 28, 29, 30, 31, 32, 33, 34, 35, 36, 37, 38, 39, 40] (by decide +kernel) (by decide +kernel)
set_option maxRecDepth 20000 in
theorem gX6_glue_X6_isThread : GoodIn wsX6_glue (wsV RX6 140 RX6 yX6_isThread wsX6_isThread) := goodIn_app (goodIn_of _ (by decide +kernel)) ggX6_glue_X6_isThread
set_option maxRecDepth 20000 in
theorem ggX6_glue_X6_no : GoodIn wsX6_glue wsX6_no := goodIn_r _ [15, 1, 16, 17, 18, 19, 20, 21, 22, 23, 24, 25, 26, 27, 28, 29, 30, 31, 32, 33, 34, 35, 36, 37, 38, 39, 40] (by decide +kernel) (by decide +kernel)
set_option maxRecDepth 20000 in
theorem gX6_glue_X6_no : GoodIn wsX6_glue (wsV RX6 130 RX6 yX6_no wsX6_no) := goodIn_app (goodIn_of _ (by decide +kernel)) ggX6_glue_X6_no
theorem dX6_glue_0 : decode cX6_glue 0 = .ok (.aload_n 0, 1) := by decide +kernel
theorem dX6_glue_1 : decode cX6_glue 1 = .ok (.iconst 0, 1) := by decide +kernel
theorem dX6_glue_2 : decode cX6_glue 2 = .ok (.putfield 59, 3) := by decide +kernel
theorem dX6_glue_5 : decode cX6_glue 5 = .ok (.aload_n 0, 1) := by decide +kernel
theorem dX6_glue_6 : decode cX6_glue 6 = .ok (.iload_n 1, 1) := by decide +kernel
theorem dX6_glue_7 : decode cX6_glue 7 = .ok (.invokevirtual 140, 3) := by decide +kernel
theorem dX6_glue_10 : decode cX6_glue 10 = .ok (.ifCond .ne 9, 3) := by decide +kernel
theorem dX6_glue_13 : decode cX6_glue 13 = .ok (.aload_n 0, 1) := by decide +kernel
theorem dX6_glue_14 : decode cX6_glue 14 = .ok (.iconst 1, 1) := by decide +kernel
theorem dX6_glue_15 : decode cX6_glue 15 = .ok (.invokevirtual 130, 3) := by decide +kernel
theorem dX6_glue_18 : decode cX6_glue 18 = .ok (.ireturn, 1) := by decide +kernel
theorem dX6_glue_19 : decode cX6_glue 19 = .ok (.aload_n 0, 1) := by decide +kernel
theorem dX6_glue_20 : decode cX6_glue 20 = .ok (.getfield 50, 3) := by decide +kernel
theorem dX6_glue_23 : decode cX6_glue 23 = .ok (.iload_n 1, 1) := by decide +kernel
theorem dX6_glue_24 : decode cX6_glue 24 = .ok (.iaload, 1) := by decide +kernel
theorem dX6_glue_25 : decode cX6_glue 25 = .ok (.iconst 2, 1) := by decide +kernel
theorem dX6_glue_26 : decode cX6_glue 26 = .ok (.if_icmp .ne 9, 3) := by decide +kernel
theorem dX6_glue_29 : decode cX6_glue 29 = .ok (.aload_n 0, 1) := by decide +kernel
theorem dX6_glue_30 : decode cX6_glue 30 = .ok (.iconst 2, 1) := by decide +kernel
theorem dX6_glue_31 : decode cX6_glue 31 = .ok (.invokevirtual 130, 3) := by decide +kernel
theorem dX6_glue_34 : decode cX6_glue 34 = .ok (.ireturn, 1) := by decide +kernel
theorem dX6_glue_35 : decode cX6_glue 35 = .ok (.aload_n 0, 1) := by decide +kernel
theorem dX6_glue_36 : decode cX6_glue 36 = .ok (.getfield 50, 3) := by decide +kernel
theorem dX6_glue_39 : decode cX6_glue 39 = .ok (.iload_n 1, 1) := by decide +kernel
theorem dX6_glue_40 : decode cX6_glue 40 = .ok (.iconst 1, 1) := by decide +kernel
theorem dX6_glue_41 : decode cX6_glue 41 = .ok (.aload_n 0, 1) := by decide +kernel
theorem dX6_glue_42 : decode cX6_glue 42 = .ok (.getfield 50, 3) := by decide +kernel
theorem dX6_glue_45 : decode cX6_glue 45 = .ok (.iload_n 1, 1) := by decide +kernel
theorem dX6_glue_46 : decode cX6_glue 46 = .ok (.iaload, 1) := by decide +kernel
theorem dX6_glue_47 : decode cX6_glue 47 = .ok (.isub, 1) := by decide +kernel
theorem dX6_glue_48 : decode cX6_glue 48 = .ok (.iastore, 1) := by decide +kernel
theorem dX6_glue_49 : decode cX6_glue 49 = .ok (.aload_n 0, 1) := by decide +kernel
theorem dX6_glue_50 : decode cX6_glue 50 = .ok (.getfield 50, 3) := by decide +kernel
theorem dX6_glue_53 : decode cX6_glue 53 = .ok (.iload_n 1, 1) := by decide +kernel
theorem dX6_glue_54 : decode cX6_glue 54 = .ok (.iaload, 1) := by decide +kernel
theorem dX6_glue_55 : decode cX6_glue 55 = .ok (.ireturn, 1) := by decide +kernel
set_option maxRecDepth 20000 in
theorem ggX6_cross_X6_isThread : GoodIn wsX6_cross wsX6_isThread := goodIn_r _ [6, 7, 8, 9, 5, 10, 34, 35, 36, 37, 38, 39, 40, 41, 42, 43, 44, 45, 46, 47, 48, 49, 50, 51, 52, 53, 54, 55, 56, 57, 58] (by decide +kernel) (by decide +kernel)
set_option maxRecDepth 20000 in
theorem gX6_cross_X6_isThread : GoodIn wsX6_cross (wsV RX6 140 RX6 yX6_isThread wsX6_isThread) := goodIn_app (goodIn_of _ (by decide +kernel)) ggX6_cross_X6_isThread
set_option maxRecDepth 20000 in
theorem ggX6_cross_X6_no : GoodIn wsX6_cross wsX6_no := goodIn_r _ [14, 1, 34, 35, 36, 37, 38, 39, 40, 41, 42, 43, 44, 45, 46, 47, 48, 49, 50, 51, 52, 53, 54, 55, 56, 57, 58] (by decide +kernel) (by decide +kernel)
set_option maxRecDepth 20000 in
theorem gX6_cross_X6_no : GoodIn wsX6_cross (wsV RX6 130 RX6 yX6_no wsX6_no) := goodIn_app (goodIn_of _ (by decide +kernel)) ggX6_cross_X6_no
set_option maxRecDepth 20000 in
theorem ggX6_cross_X6_crosses : GoodIn wsX6_cross wsX6_crosses := goodIn_r _ [18, 19, 20, 21, 22, 23, 24, 25, 26, 27, 28, 29, 30, 31, 5, 32, 33, 34, 35, 36, 37, 38, 39, 40, 41, 42, 43, 44, 45, 46, 47, 48, 49, 50, 51, 52, 53, 54, 55, 56, 57, 58] (by decide +kernel) (by decide +kernel)
set_option maxRecDepth 20000 in
theorem gX6_cross_X6_crosses : GoodIn wsX6_cross (wsV RX6 116 RX6 yX6_crosses wsX6_crosses) := goodIn_app (goodIn_of _ (by decide +kernel)) ggX6_cross_X6_crosses
theorem dX6_cross_0 : decode cX6_cross 0 = .ok (.aload_n 0, 1) := by decide +kernel
theorem dX6_cross_1 : decode cX6_cross 1 = .ok (.iconst 0, 1) := by decide +kernel
theorem dX6_cross_2 : decode cX6_cross 2 = .ok (.putfield 59, 3) := by decide +kernel
theorem dX6_cross_5 : decode cX6_cross 5 = .ok (.aload_n 0, 1) := by decide +kernel
theorem dX6_cross_6 : decode cX6_cross 6 = .ok (.iload_n 1, 1) := by decide +kernel
theorem dX6_cross_7 : decode cX6_cross 7 = .ok (.invokevirtual 140, 3) := by decide +kernel
theorem dX6_cross_10 : decode cX6_cross 10 = .ok (.ifCond .eq 11, 3) := by decide +kernel
theorem dX6_cross_13 : decode cX6_cross 13 = .ok (.aload_n 0, 1) := by decide +kernel
theorem dX6_cross_14 : decode cX6_cross 14 = .ok (.iload_n 2, 1) := by decide +kernel
theorem dX6_cross_15 : decode cX6_cross 15 = .ok (.invokevirtual 140, 3) := by decide +kernel
theorem dX6_cross_18 : decode cX6_cross 18 = .ok (.ifCond .ne 17, 3) := by decide +kernel
theorem dX6_cross_21 : decode cX6_cross 21 = .ok (.aload_n 0, 1) := by decide +kernel
theorem dX6_cross_22 : decode cX6_cross 22 = .ok (.iconst 1, 1) := by decide +kernel
theorem dX6_cross_23 : decode cX6_cross 23 = .ok (.invokevirtual 130, 3) := by decide +kernel
theorem dX6_cross_26 : decode cX6_cross 26 = .ok (.ifCond .eq 7, 3) := by decide +kernel
theorem dX6_cross_29 : decode cX6_cross 29 = .ok (.iconst 1, 1) := by decide +kernel
theorem dX6_cross_30 : decode cX6_cross 30 = .ok (.goto 4, 3) := by decide +kernel
theorem dX6_cross_33 : decode cX6_cross 33 = .ok (.iconst 0, 1) := by decide +kernel
theorem dX6_cross_34 : decode cX6_cross 34 = .ok (.ireturn, 1) := by decide +kernel
theorem dX6_cross_35 : decode cX6_cross 35 = .ok (.aload_n 0, 1) := by decide +kernel
theorem dX6_cross_36 : decode cX6_cross 36 = .ok (.iload_n 1, 1) := by decide +kernel
theorem dX6_cross_37 : decode cX6_cross 37 = .ok (.iload_n 2, 1) := by decide +kernel
theorem dX6_cross_38 : decode cX6_cross 38 = .ok (.invokevirtual 116, 3) := by decide +kernel
theorem dX6_cross_41 : decode cX6_cross 41 = .ok (.ireturn, 1) := by decide +kernel
set_option maxRecDepth 20000 in
theorem ggX6_mastTold_X6_lean : GoodIn wsX6_mastTold wsX6_lean := goodIn_r _ [9, 10, 11, 8, 12] (by decide +kernel) (by decide +kernel)
set_option maxRecDepth 20000 in
theorem gX6_mastTold_X6_lean : GoodIn wsX6_mastTold (va_wsS RX6 76 yX6_lean wsX6_lean) := goodIn_app (goodIn_of _ (by decide +kernel)) ggX6_mastTold_X6_lean
set_option maxRecDepth 20000 in
theorem ggX6_mastTold_X6_stands : GoodIn wsX6_mastTold wsX6_stands := goodIn_r _ [16, 3, 6, 7, 8, 9, 10, 11, 12, 32, 33, 34, 35, 36, 37, 38, 39, 40, 41, 42, 43, 44, 45, 46, 47, 48, 49, 50, 51, 52, 53, 54, 55, 56] (by decide +kernel) (by decide +kernel)
set_option maxRecDepth 20000 in
theorem gX6_mastTold_X6_stands : GoodIn wsX6_mastTold (wsV RX6 80 RX6 yX6_stands wsX6_stands) := goodIn_app (goodIn_of _ (by decide +kernel)) ggX6_mastTold_X6_stands
set_option maxRecDepth 20000 in
theorem ggX6_mastTold_X6_reach : GoodIn wsX6_mastTold wsX6_reach := goodIn_r _ [20, 3, 6, 7, 8, 9, 10, 11, 12, 32, 33, 34, 35, 36, 37, 38, 39, 40, 41, 42, 43, 44, 45, 46, 47, 48, 49, 50, 51, 52, 53, 54, 55, 56] (by decide +kernel) (by decide +kernel)
set_option maxRecDepth 20000 in
theorem gX6_mastTold_X6_reach : GoodIn wsX6_mastTold (wsV RX6 88 RX6 yX6_reach wsX6_reach) := goodIn_app (goodIn_of _ (by decide +kernel)) ggX6_mastTold_X6_reach
set_option maxRecDepth 20000 in
theorem ggX6_mastTold_X6_isHeld : GoodIn wsX6_mastTold wsX6_isHeld := goodIn_r _ [24, 25, 26, 27, 32, 33, 34, 35, 36, 37, 38, 39, 40, 41, 42, 43, 44, 45, 46, 47, 48, 49, 50, 51, 52, 53, 54, 55, 56] (by decide +kernel) (by decide +kernel)
set_option maxRecDepth 20000 in
theorem gX6_mastTold_X6_isHeld : GoodIn wsX6_mastTold (wsV RX6 112 RX6 yX6_isHeld wsX6_isHeld) := goodIn_app (goodIn_of _ (by decide +kernel)) ggX6_mastTold_X6_isHeld
set_option maxRecDepth 20000 in
theorem ggX6_mastTold_X6_loose : GoodIn wsX6_mastTold wsX6_loose := goodIn_r _ [31, 25, 26, 27, 32, 33, 34, 35, 36, 37, 38, 39, 40, 41, 42, 43, 44, 45, 46, 47, 48, 49, 50, 51, 52, 53, 54, 55, 56] (by decide +kernel) (by decide +kernel)
set_option maxRecDepth 20000 in
theorem gX6_mastTold_X6_loose : GoodIn wsX6_mastTold (wsV RX6 152 RX6 yX6_loose wsX6_loose) := goodIn_app (goodIn_of _ (by decide +kernel)) ggX6_mastTold_X6_loose
theorem dX6_mastTold_0 : decode cX6_mastTold 0 = .ok (.bipush 8, 2) := by decide +kernel
theorem dX6_mastTold_2 : decode cX6_mastTold 2 = .ok (.newarray .int, 2) := by decide +kernel
theorem dX6_mastTold_4 : decode cX6_mastTold 4 = .ok (.dup, 1) := by decide +kernel
theorem dX6_mastTold_5 : decode cX6_mastTold 5 = .ok (.iconst 0, 1) := by decide +kernel
theorem dX6_mastTold_6 : decode cX6_mastTold 6 = .ok (.aload_n 0, 1) := by decide +kernel
theorem dX6_mastTold_7 : decode cX6_mastTold 7 = .ok (.getfield 28, 3) := by decide +kernel
theorem dX6_mastTold_10 : decode cX6_mastTold 10 = .ok (.iload_n 1, 1) := by decide +kernel
theorem dX6_mastTold_11 : decode cX6_mastTold 11 = .ok (.iaload, 1) := by decide +kernel
theorem dX6_mastTold_12 : decode cX6_mastTold 12 = .ok (.iastore, 1) := by decide +kernel
theorem dX6_mastTold_13 : decode cX6_mastTold 13 = .ok (.dup, 1) := by decide +kernel
theorem dX6_mastTold_14 : decode cX6_mastTold 14 = .ok (.iconst 1, 1) := by decide +kernel
theorem dX6_mastTold_15 : decode cX6_mastTold 15 = .ok (.aload_n 0, 1) := by decide +kernel
theorem dX6_mastTold_16 : decode cX6_mastTold 16 = .ok (.getfield 32, 3) := by decide +kernel
theorem dX6_mastTold_19 : decode cX6_mastTold 19 = .ok (.iload_n 1, 1) := by decide +kernel
theorem dX6_mastTold_20 : decode cX6_mastTold 20 = .ok (.iaload, 1) := by decide +kernel
theorem dX6_mastTold_21 : decode cX6_mastTold 21 = .ok (.iastore, 1) := by decide +kernel
theorem dX6_mastTold_22 : decode cX6_mastTold 22 = .ok (.dup, 1) := by decide +kernel
theorem dX6_mastTold_23 : decode cX6_mastTold 23 = .ok (.iconst 2, 1) := by decide +kernel
theorem dX6_mastTold_24 : decode cX6_mastTold 24 = .ok (.aload_n 0, 1) := by decide +kernel
theorem dX6_mastTold_25 : decode cX6_mastTold 25 = .ok (.getfield 91, 3) := by decide +kernel
theorem dX6_mastTold_28 : decode cX6_mastTold 28 = .ok (.iload_n 1, 1) := by decide +kernel
theorem dX6_mastTold_29 : decode cX6_mastTold 29 = .ok (.invokestatic 76, 3) := by decide +kernel
theorem dX6_mastTold_32 : decode cX6_mastTold 32 = .ok (.iastore, 1) := by decide +kernel
theorem dX6_mastTold_33 : decode cX6_mastTold 33 = .ok (.dup, 1) := by decide +kernel
theorem dX6_mastTold_34 : decode cX6_mastTold 34 = .ok (.iconst 3, 1) := by decide +kernel
theorem dX6_mastTold_35 : decode cX6_mastTold 35 = .ok (.aload_n 0, 1) := by decide +kernel
theorem dX6_mastTold_36 : decode cX6_mastTold 36 = .ok (.aload_n 0, 1) := by decide +kernel
theorem dX6_mastTold_37 : decode cX6_mastTold 37 = .ok (.getfield 91, 3) := by decide +kernel
theorem dX6_mastTold_40 : decode cX6_mastTold 40 = .ok (.iload_n 1, 1) := by decide +kernel
theorem dX6_mastTold_41 : decode cX6_mastTold 41 = .ok (.invokevirtual 80, 3) := by decide +kernel
theorem dX6_mastTold_44 : decode cX6_mastTold 44 = .ok (.iastore, 1) := by decide +kernel
theorem dX6_mastTold_45 : decode cX6_mastTold 45 = .ok (.dup, 1) := by decide +kernel
theorem dX6_mastTold_46 : decode cX6_mastTold 46 = .ok (.iconst 4, 1) := by decide +kernel
theorem dX6_mastTold_47 : decode cX6_mastTold 47 = .ok (.aload_n 0, 1) := by decide +kernel
theorem dX6_mastTold_48 : decode cX6_mastTold 48 = .ok (.aload_n 0, 1) := by decide +kernel
theorem dX6_mastTold_49 : decode cX6_mastTold 49 = .ok (.getfield 91, 3) := by decide +kernel
theorem dX6_mastTold_52 : decode cX6_mastTold 52 = .ok (.iload_n 1, 1) := by decide +kernel
theorem dX6_mastTold_53 : decode cX6_mastTold 53 = .ok (.invokevirtual 88, 3) := by decide +kernel
theorem dX6_mastTold_56 : decode cX6_mastTold 56 = .ok (.iastore, 1) := by decide +kernel
theorem dX6_mastTold_57 : decode cX6_mastTold 57 = .ok (.dup, 1) := by decide +kernel
theorem dX6_mastTold_58 : decode cX6_mastTold 58 = .ok (.iconst 5, 1) := by decide +kernel
theorem dX6_mastTold_59 : decode cX6_mastTold 59 = .ok (.aload_n 0, 1) := by decide +kernel
theorem dX6_mastTold_60 : decode cX6_mastTold 60 = .ok (.getfield 35, 3) := by decide +kernel
theorem dX6_mastTold_63 : decode cX6_mastTold 63 = .ok (.iload_n 1, 1) := by decide +kernel
theorem dX6_mastTold_64 : decode cX6_mastTold 64 = .ok (.iaload, 1) := by decide +kernel
theorem dX6_mastTold_65 : decode cX6_mastTold 65 = .ok (.iastore, 1) := by decide +kernel
theorem dX6_mastTold_66 : decode cX6_mastTold 66 = .ok (.dup, 1) := by decide +kernel
theorem dX6_mastTold_67 : decode cX6_mastTold 67 = .ok (.bipush 6, 2) := by decide +kernel
theorem dX6_mastTold_69 : decode cX6_mastTold 69 = .ok (.aload_n 0, 1) := by decide +kernel
theorem dX6_mastTold_70 : decode cX6_mastTold 70 = .ok (.iload_n 1, 1) := by decide +kernel
theorem dX6_mastTold_71 : decode cX6_mastTold 71 = .ok (.invokevirtual 112, 3) := by decide +kernel
theorem dX6_mastTold_74 : decode cX6_mastTold 74 = .ok (.ifCond .eq 7, 3) := by decide +kernel
theorem dX6_mastTold_77 : decode cX6_mastTold 77 = .ok (.iconst 1, 1) := by decide +kernel
theorem dX6_mastTold_78 : decode cX6_mastTold 78 = .ok (.goto 4, 3) := by decide +kernel
theorem dX6_mastTold_81 : decode cX6_mastTold 81 = .ok (.iconst 0, 1) := by decide +kernel
theorem dX6_mastTold_82 : decode cX6_mastTold 82 = .ok (.iastore, 1) := by decide +kernel
theorem dX6_mastTold_83 : decode cX6_mastTold 83 = .ok (.dup, 1) := by decide +kernel
theorem dX6_mastTold_84 : decode cX6_mastTold 84 = .ok (.bipush 7, 2) := by decide +kernel
theorem dX6_mastTold_86 : decode cX6_mastTold 86 = .ok (.aload_n 0, 1) := by decide +kernel
theorem dX6_mastTold_87 : decode cX6_mastTold 87 = .ok (.iload_n 1, 1) := by decide +kernel
theorem dX6_mastTold_88 : decode cX6_mastTold 88 = .ok (.invokevirtual 152, 3) := by decide +kernel
theorem dX6_mastTold_91 : decode cX6_mastTold 91 = .ok (.iastore, 1) := by decide +kernel
theorem dX6_mastTold_92 : decode cX6_mastTold 92 = .ok (.astore_n 3, 1) := by decide +kernel
theorem dX6_mastTold_93 : decode cX6_mastTold 93 = .ok (.aload_n 3, 1) := by decide +kernel
theorem dX6_mastTold_94 : decode cX6_mastTold 94 = .ok (.iload_n 2, 1) := by decide +kernel
theorem dX6_mastTold_95 : decode cX6_mastTold 95 = .ok (.iaload, 1) := by decide +kernel
theorem dX6_mastTold_96 : decode cX6_mastTold 96 = .ok (.ireturn, 1) := by decide +kernel
set_option maxRecDepth 20000 in
theorem ggX6_mast_X6_isMast : GoodIn wsX6_mast wsX6_isMast := goodIn_r _ [6, 7, 8, 9, 5, 10, 49, 50, 51, 52, 53, 54, 55, 56, 57, 58, 59, 60, 61, 62, 63, 64, 65, 66, 67, 68, 69, 70, 71, 72, 73] (by decide +kernel) (by decide +kernel)
set_option maxRecDepth 20000 in
theorem gX6_mast_X6_isMast : GoodIn wsX6_mast (wsV RX6 133 RX6 yX6_isMast wsX6_isMast) := goodIn_app (goodIn_of _ (by decide +kernel)) ggX6_mast_X6_isMast
set_option maxRecDepth 20000 in
theorem ggX6_mast_X6_isBetween : GoodIn wsX6_mast wsX6_isBetween := goodIn_r _ [10] (by decide +kernel) (by decide +kernel)
set_option maxRecDepth 20000 in
theorem gX6_mast_X6_isBetween : GoodIn wsX6_mast (va_wsS RX6 65 yX6_isBetween wsX6_isBetween) := goodIn_app (goodIn_of _ (by decide +kernel)) ggX6_mast_X6_isBetween
set_option maxRecDepth 20000 in
theorem ggX6_mast_X6_mastTold : GoodIn wsX6_mast wsX6_mastTold := goodIn_r _ [14, 15, 16, 17, 18, 19, 20, 21, 5, 22, 23, 24, 25, 26, 27, 28, 29, 30, 31, 32, 33, 34, 35, 36, 37, 38, 39, 40, 41, 42, 43, 44, 49, 50, 51, 52, 53, 54, 55, 56, 57, 58, 59, 60, 61, 62, 63, 64, 65, 66, 67, 68, 69, 70, 71, 72, 73] (by decide +kernel) (by decide +kernel)
set_option maxRecDepth 20000 in
theorem gX6_mast_X6_mastTold : GoodIn wsX6_mast (wsV RX6 155 RX6 yX6_mastTold wsX6_mastTold) := goodIn_app (goodIn_of _ (by decide +kernel)) ggX6_mast_X6_mastTold
set_option maxRecDepth 20000 in
theorem ggX6_mast_X6_no : GoodIn wsX6_mast wsX6_no := goodIn_r _ [48, 1, 49, 50, 51, 52, 53, 54, 55, 56, 57, 58, 59, 60, 61, 62, 63, 64, 65, 66, 67, 68, 69, 70, 71, 72, 73] (by decide +kernel) (by decide +kernel)
set_option maxRecDepth 20000 in
theorem gX6_mast_X6_no : GoodIn wsX6_mast (wsV RX6 130 RX6 yX6_no wsX6_no) := goodIn_app (goodIn_of _ (by decide +kernel)) ggX6_mast_X6_no
theorem dX6_mast_0 : decode cX6_mast 0 = .ok (.aload_n 0, 1) := by decide +kernel
theorem dX6_mast_1 : decode cX6_mast 1 = .ok (.iconst 0, 1) := by decide +kernel
theorem dX6_mast_2 : decode cX6_mast 2 = .ok (.putfield 59, 3) := by decide +kernel
theorem dX6_mast_5 : decode cX6_mast 5 = .ok (.aload_n 0, 1) := by decide +kernel
theorem dX6_mast_6 : decode cX6_mast 6 = .ok (.iload_n 1, 1) := by decide +kernel
theorem dX6_mast_7 : decode cX6_mast 7 = .ok (.invokevirtual 133, 3) := by decide +kernel
theorem dX6_mast_10 : decode cX6_mast 10 = .ok (.ifCond .eq 22, 3) := by decide +kernel
theorem dX6_mast_13 : decode cX6_mast 13 = .ok (.iload_n 2, 1) := by decide +kernel
theorem dX6_mast_14 : decode cX6_mast 14 = .ok (.iconst 0, 1) := by decide +kernel
theorem dX6_mast_15 : decode cX6_mast 15 = .ok (.bipush 7, 2) := by decide +kernel
theorem dX6_mast_17 : decode cX6_mast 17 = .ok (.invokestatic 65, 3) := by decide +kernel
theorem dX6_mast_20 : decode cX6_mast 20 = .ok (.ifCond .eq 12, 3) := by decide +kernel
theorem dX6_mast_23 : decode cX6_mast 23 = .ok (.aload_n 0, 1) := by decide +kernel
theorem dX6_mast_24 : decode cX6_mast 24 = .ok (.iload_n 1, 1) := by decide +kernel
theorem dX6_mast_25 : decode cX6_mast 25 = .ok (.iload_n 2, 1) := by decide +kernel
theorem dX6_mast_26 : decode cX6_mast 26 = .ok (.invokevirtual 155, 3) := by decide +kernel
theorem dX6_mast_29 : decode cX6_mast 29 = .ok (.goto 8, 3) := by decide +kernel
theorem dX6_mast_32 : decode cX6_mast 32 = .ok (.aload_n 0, 1) := by decide +kernel
theorem dX6_mast_33 : decode cX6_mast 33 = .ok (.iconst 1, 1) := by decide +kernel
theorem dX6_mast_34 : decode cX6_mast 34 = .ok (.invokevirtual 130, 3) := by decide +kernel
theorem dX6_mast_37 : decode cX6_mast 37 = .ok (.ireturn, 1) := by decide +kernel
set_option maxRecDepth 20000 in
theorem ggX6_threadTold_X6_crosses : GoodIn wsX6_threadTold wsX6_crosses := goodIn_r _ [11, 6, 3, 4, 12, 13, 14, 15, 16, 17, 18, 19, 20, 21, 10, 22, 23, 24, 25, 26, 27, 28, 29, 30, 31, 32, 33, 34, 35, 36, 37, 38, 39, 40, 41, 42, 43, 44, 45, 46, 47, 48] (by decide +kernel) (by decide +kernel)
set_option maxRecDepth 20000 in
theorem gX6_threadTold_X6_crosses : GoodIn wsX6_threadTold (wsV RX6 116 RX6 yX6_crosses wsX6_crosses) := goodIn_app (goodIn_of _ (by decide +kernel)) ggX6_threadTold_X6_crosses
theorem dX6_threadTold_0 : decode cX6_threadTold 0 = .ok (.iconst 0, 1) := by decide +kernel
theorem dX6_threadTold_1 : decode cX6_threadTold 1 = .ok (.istore_n 3, 1) := by decide +kernel
theorem dX6_threadTold_2 : decode cX6_threadTold 2 = .ok (.iconst 0, 1) := by decide +kernel
theorem dX6_threadTold_3 : decode cX6_threadTold 3 = .ok (.istore 4, 2) := by decide +kernel
theorem dX6_threadTold_5 : decode cX6_threadTold 5 = .ok (.iload 4, 2) := by decide +kernel
theorem dX6_threadTold_7 : decode cX6_threadTold 7 = .ok (.aload_n 0, 1) := by decide +kernel
theorem dX6_threadTold_8 : decode cX6_threadTold 8 = .ok (.getfield 69, 3) := by decide +kernel
theorem dX6_threadTold_11 : decode cX6_threadTold 11 = .ok (.if_icmp .ge 27, 3) := by decide +kernel
theorem dX6_threadTold_14 : decode cX6_threadTold 14 = .ok (.iload_n 3, 1) := by decide +kernel
theorem dX6_threadTold_15 : decode cX6_threadTold 15 = .ok (.aload_n 0, 1) := by decide +kernel
theorem dX6_threadTold_16 : decode cX6_threadTold 16 = .ok (.iload_n 1, 1) := by decide +kernel
theorem dX6_threadTold_17 : decode cX6_threadTold 17 = .ok (.iload 4, 2) := by decide +kernel
theorem dX6_threadTold_19 : decode cX6_threadTold 19 = .ok (.invokevirtual 116, 3) := by decide +kernel
theorem dX6_threadTold_22 : decode cX6_threadTold 22 = .ok (.ifCond .eq 7, 3) := by decide +kernel
theorem dX6_threadTold_25 : decode cX6_threadTold 25 = .ok (.iconst 1, 1) := by decide +kernel
theorem dX6_threadTold_26 : decode cX6_threadTold 26 = .ok (.goto 4, 3) := by decide +kernel
theorem dX6_threadTold_29 : decode cX6_threadTold 29 = .ok (.iconst 0, 1) := by decide +kernel
theorem dX6_threadTold_30 : decode cX6_threadTold 30 = .ok (.iadd, 1) := by decide +kernel
theorem dX6_threadTold_31 : decode cX6_threadTold 31 = .ok (.istore_n 3, 1) := by decide +kernel
theorem dX6_threadTold_32 : decode cX6_threadTold 32 = .ok (.iinc 4 1, 3) := by decide +kernel
theorem dX6_threadTold_35 : decode cX6_threadTold 35 = .ok (.goto (-30), 3) := by decide +kernel
theorem dX6_threadTold_38 : decode cX6_threadTold 38 = .ok (.iconst 5, 1) := by decide +kernel
theorem dX6_threadTold_39 : decode cX6_threadTold 39 = .ok (.newarray .int, 2) := by decide +kernel
theorem dX6_threadTold_41 : decode cX6_threadTold 41 = .ok (.dup, 1) := by decide +kernel
theorem dX6_threadTold_42 : decode cX6_threadTold 42 = .ok (.iconst 0, 1) := by decide +kernel
theorem dX6_threadTold_43 : decode cX6_threadTold 43 = .ok (.aload_n 0, 1) := by decide +kernel
theorem dX6_threadTold_44 : decode cX6_threadTold 44 = .ok (.getfield 41, 3) := by decide +kernel
theorem dX6_threadTold_47 : decode cX6_threadTold 47 = .ok (.iload_n 1, 1) := by decide +kernel
theorem dX6_threadTold_48 : decode cX6_threadTold 48 = .ok (.iaload, 1) := by decide +kernel
theorem dX6_threadTold_49 : decode cX6_threadTold 49 = .ok (.iastore, 1) := by decide +kernel
theorem dX6_threadTold_50 : decode cX6_threadTold 50 = .ok (.dup, 1) := by decide +kernel
theorem dX6_threadTold_51 : decode cX6_threadTold 51 = .ok (.iconst 1, 1) := by decide +kernel
theorem dX6_threadTold_52 : decode cX6_threadTold 52 = .ok (.aload_n 0, 1) := by decide +kernel
theorem dX6_threadTold_53 : decode cX6_threadTold 53 = .ok (.getfield 44, 3) := by decide +kernel
theorem dX6_threadTold_56 : decode cX6_threadTold 56 = .ok (.iload_n 1, 1) := by decide +kernel
theorem dX6_threadTold_57 : decode cX6_threadTold 57 = .ok (.iaload, 1) := by decide +kernel
theorem dX6_threadTold_58 : decode cX6_threadTold 58 = .ok (.iastore, 1) := by decide +kernel
theorem dX6_threadTold_59 : decode cX6_threadTold 59 = .ok (.dup, 1) := by decide +kernel
theorem dX6_threadTold_60 : decode cX6_threadTold 60 = .ok (.iconst 2, 1) := by decide +kernel
theorem dX6_threadTold_61 : decode cX6_threadTold 61 = .ok (.aload_n 0, 1) := by decide +kernel
theorem dX6_threadTold_62 : decode cX6_threadTold 62 = .ok (.getfield 47, 3) := by decide +kernel
theorem dX6_threadTold_65 : decode cX6_threadTold 65 = .ok (.iload_n 1, 1) := by decide +kernel
theorem dX6_threadTold_66 : decode cX6_threadTold 66 = .ok (.iaload, 1) := by decide +kernel
theorem dX6_threadTold_67 : decode cX6_threadTold 67 = .ok (.iastore, 1) := by decide +kernel
theorem dX6_threadTold_68 : decode cX6_threadTold 68 = .ok (.dup, 1) := by decide +kernel
theorem dX6_threadTold_69 : decode cX6_threadTold 69 = .ok (.iconst 3, 1) := by decide +kernel
theorem dX6_threadTold_70 : decode cX6_threadTold 70 = .ok (.aload_n 0, 1) := by decide +kernel
theorem dX6_threadTold_71 : decode cX6_threadTold 71 = .ok (.getfield 50, 3) := by decide +kernel
theorem dX6_threadTold_74 : decode cX6_threadTold 74 = .ok (.iload_n 1, 1) := by decide +kernel
theorem dX6_threadTold_75 : decode cX6_threadTold 75 = .ok (.iaload, 1) := by decide +kernel
theorem dX6_threadTold_76 : decode cX6_threadTold 76 = .ok (.iastore, 1) := by decide +kernel
theorem dX6_threadTold_77 : decode cX6_threadTold 77 = .ok (.dup, 1) := by decide +kernel
theorem dX6_threadTold_78 : decode cX6_threadTold 78 = .ok (.iconst 4, 1) := by decide +kernel
theorem dX6_threadTold_79 : decode cX6_threadTold 79 = .ok (.iload_n 3, 1) := by decide +kernel
theorem dX6_threadTold_80 : decode cX6_threadTold 80 = .ok (.iastore, 1) := by decide +kernel
theorem dX6_threadTold_81 : decode cX6_threadTold 81 = .ok (.astore 4, 2) := by decide +kernel
theorem dX6_threadTold_83 : decode cX6_threadTold 83 = .ok (.aload 4, 2) := by decide +kernel
theorem dX6_threadTold_85 : decode cX6_threadTold 85 = .ok (.iload_n 2, 1) := by decide +kernel
theorem dX6_threadTold_86 : decode cX6_threadTold 86 = .ok (.iaload, 1) := by decide +kernel
theorem dX6_threadTold_87 : decode cX6_threadTold 87 = .ok (.ireturn, 1) := by decide +kernel
set_option maxRecDepth 20000 in
theorem ggX6_thread_X6_isThread : GoodIn wsX6_thread wsX6_isThread := goodIn_r _ [6, 7, 8, 9, 5, 10, 40, 41, 42, 43, 44, 45, 46, 47, 48, 49, 50, 51, 52, 53, 54, 55, 56, 57, 58, 59, 60, 61, 62, 63, 64] (by decide +kernel) (by decide +kernel)
set_option maxRecDepth 20000 in
theorem gX6_thread_X6_isThread : GoodIn wsX6_thread (wsV RX6 140 RX6 yX6_isThread wsX6_isThread) := goodIn_app (goodIn_of _ (by decide +kernel)) ggX6_thread_X6_isThread
set_option maxRecDepth 20000 in
theorem ggX6_thread_X6_isBetween : GoodIn wsX6_thread wsX6_isBetween := goodIn_r _ [10] (by decide +kernel) (by decide +kernel)
set_option maxRecDepth 20000 in
theorem gX6_thread_X6_isBetween : GoodIn wsX6_thread (va_wsS RX6 65 yX6_isBetween wsX6_isBetween) := goodIn_app (goodIn_of _ (by decide +kernel)) ggX6_thread_X6_isBetween
set_option maxRecDepth 20000 in
theorem ggX6_thread_X6_threadTold : GoodIn wsX6_thread wsX6_threadTold := goodIn_r _ [14, 7, 15, 16, 17, 18, 19, 20, 21, 22, 5, 23, 24, 25, 26, 27, 28, 29, 30, 31, 32, 33, 34, 35, 40, 41, 42, 43, 44, 45, 46, 47, 48, 49, 50, 51, 52, 53, 54, 55, 56, 57, 58, 59, 60, 61, 62, 63, 64] (by decide +kernel) (by decide +kernel)
set_option maxRecDepth 20000 in
theorem gX6_thread_X6_threadTold : GoodIn wsX6_thread (wsV RX6 158 RX6 yX6_threadTold wsX6_threadTold) := goodIn_app (goodIn_of _ (by decide +kernel)) ggX6_thread_X6_threadTold
set_option maxRecDepth 20000 in
theorem ggX6_thread_X6_no : GoodIn wsX6_thread wsX6_no := goodIn_r _ [39, 1, 40, 41, 42, 43, 44, 45, 46, 47, 48, 49, 50, 51, 52, 53, 54, 55, 56, 57, 58, 59, 60, 61, 62, 63, 64] (by decide +kernel) (by decide +kernel)
set_option maxRecDepth 20000 in
theorem gX6_thread_X6_no : GoodIn wsX6_thread (wsV RX6 130 RX6 yX6_no wsX6_no) := goodIn_app (goodIn_of _ (by decide +kernel)) ggX6_thread_X6_no
theorem dX6_thread_0 : decode cX6_thread 0 = .ok (.aload_n 0, 1) := by decide +kernel
theorem dX6_thread_1 : decode cX6_thread 1 = .ok (.iconst 0, 1) := by decide +kernel
theorem dX6_thread_2 : decode cX6_thread 2 = .ok (.putfield 59, 3) := by decide +kernel
theorem dX6_thread_5 : decode cX6_thread 5 = .ok (.aload_n 0, 1) := by decide +kernel
theorem dX6_thread_6 : decode cX6_thread 6 = .ok (.iload_n 1, 1) := by decide +kernel
theorem dX6_thread_7 : decode cX6_thread 7 = .ok (.invokevirtual 140, 3) := by decide +kernel
theorem dX6_thread_10 : decode cX6_thread 10 = .ok (.ifCond .eq 21, 3) := by decide +kernel
theorem dX6_thread_13 : decode cX6_thread 13 = .ok (.iload_n 2, 1) := by decide +kernel
theorem dX6_thread_14 : decode cX6_thread 14 = .ok (.iconst 0, 1) := by decide +kernel
theorem dX6_thread_15 : decode cX6_thread 15 = .ok (.iconst 4, 1) := by decide +kernel
theorem dX6_thread_16 : decode cX6_thread 16 = .ok (.invokestatic 65, 3) := by decide +kernel
theorem dX6_thread_19 : decode cX6_thread 19 = .ok (.ifCond .eq 12, 3) := by decide +kernel
theorem dX6_thread_22 : decode cX6_thread 22 = .ok (.aload_n 0, 1) := by decide +kernel
theorem dX6_thread_23 : decode cX6_thread 23 = .ok (.iload_n 1, 1) := by decide +kernel
theorem dX6_thread_24 : decode cX6_thread 24 = .ok (.iload_n 2, 1) := by decide +kernel
theorem dX6_thread_25 : decode cX6_thread 25 = .ok (.invokevirtual 158, 3) := by decide +kernel
theorem dX6_thread_28 : decode cX6_thread 28 = .ok (.goto 8, 3) := by decide +kernel
theorem dX6_thread_31 : decode cX6_thread 31 = .ok (.aload_n 0, 1) := by decide +kernel
theorem dX6_thread_32 : decode cX6_thread 32 = .ok (.iconst 1, 1) := by decide +kernel
theorem dX6_thread_33 : decode cX6_thread 33 = .ok (.invokevirtual 130, 3) := by decide +kernel
theorem dX6_thread_36 : decode cX6_thread 36 = .ok (.ireturn, 1) := by decide +kernel
set_option maxRecDepth 20000 in
theorem ggX6_shipTold_X6_breadth : GoodIn wsX6_shipTold wsX6_breadth := goodIn_r _ [8, 9, 10, 11, 12, 13, 14, 15, 16, 17, 18, 7, 19, 20, 21, 22, 55, 56, 57, 58, 59, 60, 61, 62, 63, 64, 65, 66, 67, 68, 69, 70, 71, 72, 73, 74, 75, 76, 77, 78, 79] (by decide +kernel) (by decide +kernel)
set_option maxRecDepth 20000 in
theorem gX6_shipTold_X6_breadth : GoodIn wsX6_shipTold (wsV RX6 94 RX6 yX6_breadth wsX6_breadth) := goodIn_app (goodIn_of _ (by decide +kernel)) ggX6_shipTold_X6_breadth
set_option maxRecDepth 20000 in
theorem ggX6_shipTold_X6_top : GoodIn wsX6_shipTold wsX6_top := goodIn_r _ [26, 10, 13, 14, 15, 16, 27, 28, 29, 30, 7, 31, 32, 17, 18, 19, 20, 21, 22, 55, 56, 57, 58, 59, 60, 61, 62, 63, 64, 65, 66, 67, 68, 69, 70, 71, 72, 73, 74, 75, 76, 77, 78, 79] (by decide +kernel) (by decide +kernel)
set_option maxRecDepth 20000 in
theorem gX6_shipTold_X6_top : GoodIn wsX6_shipTold (wsV RX6 97 RX6 yX6_top wsX6_top) := goodIn_app (goodIn_of _ (by decide +kernel)) ggX6_shipTold_X6_top
set_option maxRecDepth 20000 in
theorem ggX6_shipTold_X6_end : GoodIn wsX6_shipTold wsX6_end := goodIn_r _ [36, 37, 10, 38, 13, 14, 15, 16, 39, 40, 41, 7, 42, 32, 17, 18, 19, 20, 21, 22, 55, 56, 57, 58, 59, 60, 61, 62, 63, 64, 65, 66, 67, 68, 69, 70, 71, 72, 73, 74, 75, 76, 77, 78, 79] (by decide +kernel) (by decide +kernel)
set_option maxRecDepth 20000 in
theorem gX6_shipTold_X6_end : GoodIn wsX6_shipTold (wsV RX6 100 RX6 yX6_end wsX6_end) := goodIn_app (goodIn_of _ (by decide +kernel)) ggX6_shipTold_X6_end
set_option maxRecDepth 20000 in
theorem ggX6_shipTold_X6_goesThrough : GoodIn wsX6_shipTold wsX6_goesThrough := goodIn_r _ [46, 2, 47, 4, 5, 6, 7, 8, 9, 10, 11, 12, 13, 14, 15, 16, 17, 18, 19, 20, 21, 22, 23, 24, 25, 26, 27, 28, 29, 30, 31, 32, 55, 56, 57, 58, 59, 60, 61, 62, 63, 64, 65, 66, 67, 68, 69, 70, 71, 72, 73, 74, 75, 76, 77, 78, 79] (by decide +kernel) (by decide +kernel)
set_option maxRecDepth 20000 in
theorem gX6_shipTold_X6_goesThrough : GoodIn wsX6_shipTold (wsV RX6 136 RX6 yX6_goesThrough wsX6_goesThrough) := goodIn_app (goodIn_of _ (by decide +kernel)) ggX6_shipTold_X6_goesThrough
set_option maxRecDepth 20000 in
theorem ggX6_shipTold_X6_fits : GoodIn wsX6_shipTold wsX6_fits := goodIn_r _ [51, 52, 53, 54, 33, 34, 35, 7, 36, 37, 10, 38, 13, 14, 15, 16, 39, 40, 41, 42, 32, 17, 18, 19, 20, 21, 22, 23, 24, 25, 26, 27, 28, 29, 30, 31, 55, 56, 57, 58, 59, 60, 61, 62, 63, 64, 65, 66, 67, 68, 69, 70, 71, 72, 73, 74, 75, 76, 77, 78, 79] (by decide +kernel) (by decide +kernel)
set_option maxRecDepth 20000 in
theorem gX6_shipTold_X6_fits : GoodIn wsX6_shipTold (wsV RX6 127 RX6 yX6_fits wsX6_fits) := goodIn_app (goodIn_of _ (by decide +kernel)) ggX6_shipTold_X6_fits
theorem dX6_shipTold_0 : decode cX6_shipTold 0 = .ok (.bipush 6, 2) := by decide +kernel
theorem dX6_shipTold_2 : decode cX6_shipTold 2 = .ok (.newarray .int, 2) := by decide +kernel
theorem dX6_shipTold_4 : decode cX6_shipTold 4 = .ok (.dup, 1) := by decide +kernel
theorem dX6_shipTold_5 : decode cX6_shipTold 5 = .ok (.iconst 0, 1) := by decide +kernel
theorem dX6_shipTold_6 : decode cX6_shipTold 6 = .ok (.aload_n 0, 1) := by decide +kernel
theorem dX6_shipTold_7 : decode cX6_shipTold 7 = .ok (.aload_n 0, 1) := by decide +kernel
theorem dX6_shipTold_8 : decode cX6_shipTold 8 = .ok (.getfield 91, 3) := by decide +kernel
theorem dX6_shipTold_11 : decode cX6_shipTold 11 = .ok (.invokevirtual 94, 3) := by decide +kernel
theorem dX6_shipTold_14 : decode cX6_shipTold 14 = .ok (.iastore, 1) := by decide +kernel
theorem dX6_shipTold_15 : decode cX6_shipTold 15 = .ok (.dup, 1) := by decide +kernel
theorem dX6_shipTold_16 : decode cX6_shipTold 16 = .ok (.iconst 1, 1) := by decide +kernel
theorem dX6_shipTold_17 : decode cX6_shipTold 17 = .ok (.aload_n 0, 1) := by decide +kernel
theorem dX6_shipTold_18 : decode cX6_shipTold 18 = .ok (.aload_n 0, 1) := by decide +kernel
theorem dX6_shipTold_19 : decode cX6_shipTold 19 = .ok (.getfield 91, 3) := by decide +kernel
theorem dX6_shipTold_22 : decode cX6_shipTold 22 = .ok (.invokevirtual 97, 3) := by decide +kernel
theorem dX6_shipTold_25 : decode cX6_shipTold 25 = .ok (.iastore, 1) := by decide +kernel
theorem dX6_shipTold_26 : decode cX6_shipTold 26 = .ok (.dup, 1) := by decide +kernel
theorem dX6_shipTold_27 : decode cX6_shipTold 27 = .ok (.iconst 2, 1) := by decide +kernel
theorem dX6_shipTold_28 : decode cX6_shipTold 28 = .ok (.aload_n 0, 1) := by decide +kernel
theorem dX6_shipTold_29 : decode cX6_shipTold 29 = .ok (.aload_n 0, 1) := by decide +kernel
theorem dX6_shipTold_30 : decode cX6_shipTold 30 = .ok (.getfield 91, 3) := by decide +kernel
theorem dX6_shipTold_33 : decode cX6_shipTold 33 = .ok (.invokevirtual 100, 3) := by decide +kernel
theorem dX6_shipTold_36 : decode cX6_shipTold 36 = .ok (.iastore, 1) := by decide +kernel
theorem dX6_shipTold_37 : decode cX6_shipTold 37 = .ok (.dup, 1) := by decide +kernel
theorem dX6_shipTold_38 : decode cX6_shipTold 38 = .ok (.iconst 3, 1) := by decide +kernel
theorem dX6_shipTold_39 : decode cX6_shipTold 39 = .ok (.aload_n 0, 1) := by decide +kernel
theorem dX6_shipTold_40 : decode cX6_shipTold 40 = .ok (.invokevirtual 136, 3) := by decide +kernel
theorem dX6_shipTold_43 : decode cX6_shipTold 43 = .ok (.ifCond .eq 7, 3) := by decide +kernel
theorem dX6_shipTold_46 : decode cX6_shipTold 46 = .ok (.iconst 1, 1) := by decide +kernel
theorem dX6_shipTold_47 : decode cX6_shipTold 47 = .ok (.goto 4, 3) := by decide +kernel
theorem dX6_shipTold_50 : decode cX6_shipTold 50 = .ok (.iconst 0, 1) := by decide +kernel
theorem dX6_shipTold_51 : decode cX6_shipTold 51 = .ok (.iastore, 1) := by decide +kernel
theorem dX6_shipTold_52 : decode cX6_shipTold 52 = .ok (.dup, 1) := by decide +kernel
theorem dX6_shipTold_53 : decode cX6_shipTold 53 = .ok (.iconst 4, 1) := by decide +kernel
theorem dX6_shipTold_54 : decode cX6_shipTold 54 = .ok (.aload_n 0, 1) := by decide +kernel
theorem dX6_shipTold_55 : decode cX6_shipTold 55 = .ok (.aload_n 0, 1) := by decide +kernel
theorem dX6_shipTold_56 : decode cX6_shipTold 56 = .ok (.getfield 91, 3) := by decide +kernel
theorem dX6_shipTold_59 : decode cX6_shipTold 59 = .ok (.invokevirtual 127, 3) := by decide +kernel
theorem dX6_shipTold_62 : decode cX6_shipTold 62 = .ok (.ifCond .eq 7, 3) := by decide +kernel
theorem dX6_shipTold_65 : decode cX6_shipTold 65 = .ok (.iconst 1, 1) := by decide +kernel
theorem dX6_shipTold_66 : decode cX6_shipTold 66 = .ok (.goto 4, 3) := by decide +kernel
theorem dX6_shipTold_69 : decode cX6_shipTold 69 = .ok (.iconst 0, 1) := by decide +kernel
theorem dX6_shipTold_70 : decode cX6_shipTold 70 = .ok (.iastore, 1) := by decide +kernel
theorem dX6_shipTold_71 : decode cX6_shipTold 71 = .ok (.dup, 1) := by decide +kernel
theorem dX6_shipTold_72 : decode cX6_shipTold 72 = .ok (.iconst 5, 1) := by decide +kernel
theorem dX6_shipTold_73 : decode cX6_shipTold 73 = .ok (.aload_n 0, 1) := by decide +kernel
theorem dX6_shipTold_74 : decode cX6_shipTold 74 = .ok (.getfield 123, 3) := by decide +kernel
theorem dX6_shipTold_77 : decode cX6_shipTold 77 = .ok (.ifCond .eq 7, 3) := by decide +kernel
theorem dX6_shipTold_80 : decode cX6_shipTold 80 = .ok (.iconst 1, 1) := by decide +kernel
theorem dX6_shipTold_81 : decode cX6_shipTold 81 = .ok (.goto 4, 3) := by decide +kernel
theorem dX6_shipTold_84 : decode cX6_shipTold 84 = .ok (.iconst 0, 1) := by decide +kernel
theorem dX6_shipTold_85 : decode cX6_shipTold 85 = .ok (.iastore, 1) := by decide +kernel
theorem dX6_shipTold_86 : decode cX6_shipTold 86 = .ok (.astore_n 2, 1) := by decide +kernel
theorem dX6_shipTold_87 : decode cX6_shipTold 87 = .ok (.aload_n 2, 1) := by decide +kernel
theorem dX6_shipTold_88 : decode cX6_shipTold 88 = .ok (.iload_n 1, 1) := by decide +kernel
theorem dX6_shipTold_89 : decode cX6_shipTold 89 = .ok (.iaload, 1) := by decide +kernel
theorem dX6_shipTold_90 : decode cX6_shipTold 90 = .ok (.ireturn, 1) := by decide +kernel
set_option maxRecDepth 20000 in
theorem ggX6_ship_X6_isBetween : GoodIn wsX6_ship wsX6_isBetween := goodIn_r _ [5] (by decide +kernel) (by decide +kernel)
set_option maxRecDepth 20000 in
theorem gX6_ship_X6_isBetween : GoodIn wsX6_ship (va_wsS RX6 65 yX6_isBetween wsX6_isBetween) := goodIn_app (goodIn_of _ (by decide +kernel)) ggX6_ship_X6_isBetween
set_option maxRecDepth 20000 in
theorem ggX6_ship_X6_shipTold : GoodIn wsX6_ship wsX6_shipTold := goodIn_r _ [9, 10, 11, 12, 13, 14, 15, 4, 16, 17, 18, 19, 20, 21, 22, 23, 24, 25, 26, 27, 28, 29, 30, 31, 32, 33, 34, 35, 36, 37, 38, 39, 40, 41, 42, 43, 44, 45, 46, 47, 48, 49, 50, 51, 52, 53, 54, 55, 56, 57, 58, 59, 60, 61, 62, 67, 68, 69, 70, 71, 72, 73, 74, 75, 76, 77, 78, 79, 80, 81, 82, 83, 84, 85, 86, 87, 88, 89, 90, 91] (by decide +kernel) (by decide +kernel)
set_option maxRecDepth 20000 in
theorem gX6_ship_X6_shipTold : GoodIn wsX6_ship (wsV RX6 161 RX6 yX6_shipTold wsX6_shipTold) := goodIn_app (goodIn_of _ (by decide +kernel)) ggX6_ship_X6_shipTold
set_option maxRecDepth 20000 in
theorem ggX6_ship_X6_no : GoodIn wsX6_ship wsX6_no := goodIn_r _ [66, 1, 67, 68, 69, 70, 71, 72, 73, 74, 75, 76, 77, 78, 79, 80, 81, 82, 83, 84, 85, 86, 87, 88, 89, 90, 91] (by decide +kernel) (by decide +kernel)
set_option maxRecDepth 20000 in
theorem gX6_ship_X6_no : GoodIn wsX6_ship (wsV RX6 130 RX6 yX6_no wsX6_no) := goodIn_app (goodIn_of _ (by decide +kernel)) ggX6_ship_X6_no
theorem dX6_ship_0 : decode cX6_ship 0 = .ok (.aload_n 0, 1) := by decide +kernel
theorem dX6_ship_1 : decode cX6_ship 1 = .ok (.iconst 0, 1) := by decide +kernel
theorem dX6_ship_2 : decode cX6_ship 2 = .ok (.putfield 59, 3) := by decide +kernel
theorem dX6_ship_5 : decode cX6_ship 5 = .ok (.iload_n 1, 1) := by decide +kernel
theorem dX6_ship_6 : decode cX6_ship 6 = .ok (.iconst 0, 1) := by decide +kernel
theorem dX6_ship_7 : decode cX6_ship 7 = .ok (.iconst 5, 1) := by decide +kernel
theorem dX6_ship_8 : decode cX6_ship 8 = .ok (.invokestatic 65, 3) := by decide +kernel
theorem dX6_ship_11 : decode cX6_ship 11 = .ok (.ifCond .eq 11, 3) := by decide +kernel
theorem dX6_ship_14 : decode cX6_ship 14 = .ok (.aload_n 0, 1) := by decide +kernel
theorem dX6_ship_15 : decode cX6_ship 15 = .ok (.iload_n 1, 1) := by decide +kernel
theorem dX6_ship_16 : decode cX6_ship 16 = .ok (.invokevirtual 161, 3) := by decide +kernel
theorem dX6_ship_19 : decode cX6_ship 19 = .ok (.goto 8, 3) := by decide +kernel
theorem dX6_ship_22 : decode cX6_ship 22 = .ok (.aload_n 0, 1) := by decide +kernel
theorem dX6_ship_23 : decode cX6_ship 23 = .ok (.iconst 1, 1) := by decide +kernel
theorem dX6_ship_24 : decode cX6_ship 24 = .ok (.invokevirtual 130, 3) := by decide +kernel
theorem dX6_ship_27 : decode cX6_ship 27 = .ok (.ireturn, 1) := by decide +kernel
set_option maxRecDepth 20000 in
theorem ggX6_counted_X6_lean : GoodIn wsX6_counted wsX6_lean := goodIn_r _ [12, 13, 14, 11, 15] (by decide +kernel) (by decide +kernel)
set_option maxRecDepth 20000 in
theorem gX6_counted_X6_lean : GoodIn wsX6_counted (va_wsS RX6 76 yX6_lean wsX6_lean) := goodIn_app (goodIn_of _ (by decide +kernel)) ggX6_counted_X6_lean
theorem dX6_counted_0 : decode cX6_counted 0 = .ok (.iconst 0, 1) := by decide +kernel
theorem dX6_counted_1 : decode cX6_counted 1 = .ok (.istore_n 2, 1) := by decide +kernel
theorem dX6_counted_2 : decode cX6_counted 2 = .ok (.iconst 0, 1) := by decide +kernel
theorem dX6_counted_3 : decode cX6_counted 3 = .ok (.istore_n 3, 1) := by decide +kernel
theorem dX6_counted_4 : decode cX6_counted 4 = .ok (.iconst 0, 1) := by decide +kernel
theorem dX6_counted_5 : decode cX6_counted 5 = .ok (.istore 4, 2) := by decide +kernel
theorem dX6_counted_7 : decode cX6_counted 7 = .ok (.iconst 0, 1) := by decide +kernel
theorem dX6_counted_8 : decode cX6_counted 8 = .ok (.istore 5, 2) := by decide +kernel
theorem dX6_counted_10 : decode cX6_counted 10 = .ok (.iload 5, 2) := by decide +kernel
theorem dX6_counted_12 : decode cX6_counted 12 = .ok (.aload_n 0, 1) := by decide +kernel
theorem dX6_counted_13 : decode cX6_counted 13 = .ok (.getfield 62, 3) := by decide +kernel
theorem dX6_counted_16 : decode cX6_counted 16 = .ok (.if_icmp .ge 29, 3) := by decide +kernel
theorem dX6_counted_19 : decode cX6_counted 19 = .ok (.iload_n 2, 1) := by decide +kernel
theorem dX6_counted_20 : decode cX6_counted 20 = .ok (.aload_n 0, 1) := by decide +kernel
theorem dX6_counted_21 : decode cX6_counted 21 = .ok (.getfield 91, 3) := by decide +kernel
theorem dX6_counted_24 : decode cX6_counted 24 = .ok (.iload 5, 2) := by decide +kernel
theorem dX6_counted_26 : decode cX6_counted 26 = .ok (.invokestatic 76, 3) := by decide +kernel
theorem dX6_counted_29 : decode cX6_counted 29 = .ok (.ifCond .ne 7, 3) := by decide +kernel
theorem dX6_counted_32 : decode cX6_counted 32 = .ok (.iconst 1, 1) := by decide +kernel
theorem dX6_counted_33 : decode cX6_counted 33 = .ok (.goto 4, 3) := by decide +kernel
theorem dX6_counted_36 : decode cX6_counted 36 = .ok (.iconst 0, 1) := by decide +kernel
theorem dX6_counted_37 : decode cX6_counted 37 = .ok (.iadd, 1) := by decide +kernel
theorem dX6_counted_38 : decode cX6_counted 38 = .ok (.istore_n 2, 1) := by decide +kernel
theorem dX6_counted_39 : decode cX6_counted 39 = .ok (.iinc 5 1, 3) := by decide +kernel
theorem dX6_counted_42 : decode cX6_counted 42 = .ok (.goto (-32), 3) := by decide +kernel
theorem dX6_counted_45 : decode cX6_counted 45 = .ok (.iconst 0, 1) := by decide +kernel
theorem dX6_counted_46 : decode cX6_counted 46 = .ok (.istore 5, 2) := by decide +kernel
theorem dX6_counted_48 : decode cX6_counted 48 = .ok (.iload 5, 2) := by decide +kernel
theorem dX6_counted_50 : decode cX6_counted 50 = .ok (.aload_n 0, 1) := by decide +kernel
theorem dX6_counted_51 : decode cX6_counted 51 = .ok (.getfield 69, 3) := by decide +kernel
theorem dX6_counted_54 : decode cX6_counted 54 = .ok (.if_icmp .ge 48, 3) := by decide +kernel
theorem dX6_counted_57 : decode cX6_counted 57 = .ok (.iload_n 3, 1) := by decide +kernel
theorem dX6_counted_58 : decode cX6_counted 58 = .ok (.aload_n 0, 1) := by decide +kernel
theorem dX6_counted_59 : decode cX6_counted 59 = .ok (.getfield 50, 3) := by decide +kernel
theorem dX6_counted_62 : decode cX6_counted 62 = .ok (.iload 5, 2) := by decide +kernel
theorem dX6_counted_64 : decode cX6_counted 64 = .ok (.iaload, 1) := by decide +kernel
theorem dX6_counted_65 : decode cX6_counted 65 = .ok (.ifCond .ne 7, 3) := by decide +kernel
theorem dX6_counted_68 : decode cX6_counted 68 = .ok (.iconst 1, 1) := by decide +kernel
theorem dX6_counted_69 : decode cX6_counted 69 = .ok (.goto 4, 3) := by decide +kernel
theorem dX6_counted_72 : decode cX6_counted 72 = .ok (.iconst 0, 1) := by decide +kernel
theorem dX6_counted_73 : decode cX6_counted 73 = .ok (.iadd, 1) := by decide +kernel
theorem dX6_counted_74 : decode cX6_counted 74 = .ok (.istore_n 3, 1) := by decide +kernel
theorem dX6_counted_75 : decode cX6_counted 75 = .ok (.iload 4, 2) := by decide +kernel
theorem dX6_counted_77 : decode cX6_counted 77 = .ok (.aload_n 0, 1) := by decide +kernel
theorem dX6_counted_78 : decode cX6_counted 78 = .ok (.getfield 50, 3) := by decide +kernel
theorem dX6_counted_81 : decode cX6_counted 81 = .ok (.iload 5, 2) := by decide +kernel
theorem dX6_counted_83 : decode cX6_counted 83 = .ok (.iaload, 1) := by decide +kernel
theorem dX6_counted_84 : decode cX6_counted 84 = .ok (.iconst 2, 1) := by decide +kernel
theorem dX6_counted_85 : decode cX6_counted 85 = .ok (.if_icmp .ne 7, 3) := by decide +kernel
theorem dX6_counted_88 : decode cX6_counted 88 = .ok (.iconst 1, 1) := by decide +kernel
theorem dX6_counted_89 : decode cX6_counted 89 = .ok (.goto 4, 3) := by decide +kernel
theorem dX6_counted_92 : decode cX6_counted 92 = .ok (.iconst 0, 1) := by decide +kernel
theorem dX6_counted_93 : decode cX6_counted 93 = .ok (.iadd, 1) := by decide +kernel
theorem dX6_counted_94 : decode cX6_counted 94 = .ok (.istore 4, 2) := by decide +kernel
theorem dX6_counted_96 : decode cX6_counted 96 = .ok (.iinc 5 1, 3) := by decide +kernel
theorem dX6_counted_99 : decode cX6_counted 99 = .ok (.goto (-51), 3) := by decide +kernel
theorem dX6_counted_102 : decode cX6_counted 102 = .ok (.bipush 8, 2) := by decide +kernel
theorem dX6_counted_104 : decode cX6_counted 104 = .ok (.newarray .int, 2) := by decide +kernel
theorem dX6_counted_106 : decode cX6_counted 106 = .ok (.dup, 1) := by decide +kernel
theorem dX6_counted_107 : decode cX6_counted 107 = .ok (.iconst 0, 1) := by decide +kernel
theorem dX6_counted_108 : decode cX6_counted 108 = .ok (.aload_n 0, 1) := by decide +kernel
theorem dX6_counted_109 : decode cX6_counted 109 = .ok (.getfield 164, 3) := by decide +kernel
theorem dX6_counted_112 : decode cX6_counted 112 = .ok (.iastore, 1) := by decide +kernel
theorem dX6_counted_113 : decode cX6_counted 113 = .ok (.dup, 1) := by decide +kernel
theorem dX6_counted_114 : decode cX6_counted 114 = .ok (.iconst 1, 1) := by decide +kernel
theorem dX6_counted_115 : decode cX6_counted 115 = .ok (.aload_n 0, 1) := by decide +kernel
theorem dX6_counted_116 : decode cX6_counted 116 = .ok (.getfield 62, 3) := by decide +kernel
theorem dX6_counted_119 : decode cX6_counted 119 = .ok (.iastore, 1) := by decide +kernel
theorem dX6_counted_120 : decode cX6_counted 120 = .ok (.dup, 1) := by decide +kernel
theorem dX6_counted_121 : decode cX6_counted 121 = .ok (.iconst 2, 1) := by decide +kernel
theorem dX6_counted_122 : decode cX6_counted 122 = .ok (.iload_n 2, 1) := by decide +kernel
theorem dX6_counted_123 : decode cX6_counted 123 = .ok (.iastore, 1) := by decide +kernel
theorem dX6_counted_124 : decode cX6_counted 124 = .ok (.dup, 1) := by decide +kernel
theorem dX6_counted_125 : decode cX6_counted 125 = .ok (.iconst 3, 1) := by decide +kernel
theorem dX6_counted_126 : decode cX6_counted 126 = .ok (.aload_n 0, 1) := by decide +kernel
theorem dX6_counted_127 : decode cX6_counted 127 = .ok (.getfield 69, 3) := by decide +kernel
theorem dX6_counted_130 : decode cX6_counted 130 = .ok (.iastore, 1) := by decide +kernel
theorem dX6_counted_131 : decode cX6_counted 131 = .ok (.dup, 1) := by decide +kernel
theorem dX6_counted_132 : decode cX6_counted 132 = .ok (.iconst 4, 1) := by decide +kernel
theorem dX6_counted_133 : decode cX6_counted 133 = .ok (.iload_n 3, 1) := by decide +kernel
theorem dX6_counted_134 : decode cX6_counted 134 = .ok (.iastore, 1) := by decide +kernel
theorem dX6_counted_135 : decode cX6_counted 135 = .ok (.dup, 1) := by decide +kernel
theorem dX6_counted_136 : decode cX6_counted 136 = .ok (.iconst 5, 1) := by decide +kernel
theorem dX6_counted_137 : decode cX6_counted 137 = .ok (.iload 4, 2) := by decide +kernel
theorem dX6_counted_139 : decode cX6_counted 139 = .ok (.iastore, 1) := by decide +kernel
theorem dX6_counted_140 : decode cX6_counted 140 = .ok (.dup, 1) := by decide +kernel
theorem dX6_counted_141 : decode cX6_counted 141 = .ok (.bipush 6, 2) := by decide +kernel
theorem dX6_counted_143 : decode cX6_counted 143 = .ok (.aload_n 0, 1) := by decide +kernel
theorem dX6_counted_144 : decode cX6_counted 144 = .ok (.getfield 146, 3) := by decide +kernel
theorem dX6_counted_147 : decode cX6_counted 147 = .ok (.iastore, 1) := by decide +kernel
theorem dX6_counted_148 : decode cX6_counted 148 = .ok (.dup, 1) := by decide +kernel
theorem dX6_counted_149 : decode cX6_counted 149 = .ok (.bipush 7, 2) := by decide +kernel
theorem dX6_counted_151 : decode cX6_counted 151 = .ok (.aload_n 0, 1) := by decide +kernel
theorem dX6_counted_152 : decode cX6_counted 152 = .ok (.getfield 149, 3) := by decide +kernel
theorem dX6_counted_155 : decode cX6_counted 155 = .ok (.iastore, 1) := by decide +kernel
theorem dX6_counted_156 : decode cX6_counted 156 = .ok (.astore 5, 2) := by decide +kernel
theorem dX6_counted_158 : decode cX6_counted 158 = .ok (.aload 5, 2) := by decide +kernel
theorem dX6_counted_160 : decode cX6_counted 160 = .ok (.iload_n 1, 1) := by decide +kernel
theorem dX6_counted_161 : decode cX6_counted 161 = .ok (.iaload, 1) := by decide +kernel
theorem dX6_counted_162 : decode cX6_counted 162 = .ok (.ireturn, 1) := by decide +kernel
set_option maxRecDepth 20000 in
theorem ggX6_count_X6_isBetween : GoodIn wsX6_count wsX6_isBetween := goodIn_r _ [5] (by decide +kernel) (by decide +kernel)
set_option maxRecDepth 20000 in
theorem gX6_count_X6_isBetween : GoodIn wsX6_count (va_wsS RX6 65 yX6_isBetween wsX6_isBetween) := goodIn_app (goodIn_of _ (by decide +kernel)) ggX6_count_X6_isBetween
set_option maxRecDepth 20000 in
theorem ggX6_count_X6_counted : GoodIn wsX6_count wsX6_counted := goodIn_r _ [9, 10, 11, 12, 13, 14, 15, 16, 17, 18, 19, 4, 20, 21, 22, 23, 28, 29, 30, 31, 32, 33, 34, 35, 36, 37, 38, 39, 40, 41, 42, 43, 44, 45, 46, 47, 48, 49, 50, 51, 52] (by decide +kernel) (by decide +kernel)
set_option maxRecDepth 20000 in
theorem gX6_count_X6_counted : GoodIn wsX6_count (wsV RX6 167 RX6 yX6_counted wsX6_counted) := goodIn_app (goodIn_of _ (by decide +kernel)) ggX6_count_X6_counted
set_option maxRecDepth 20000 in
theorem ggX6_count_X6_no : GoodIn wsX6_count wsX6_no := goodIn_r _ [27, 1, 28, 29, 30, 31, 32, 33, 34, 35, 36, 37, 38, 39, 40, 41, 42, 43, 44, 45, 46, 47, 48, 49, 50, 51, 52] (by decide +kernel) (by decide +kernel)
set_option maxRecDepth 20000 in
theorem gX6_count_X6_no : GoodIn wsX6_count (wsV RX6 130 RX6 yX6_no wsX6_no) := goodIn_app (goodIn_of _ (by decide +kernel)) ggX6_count_X6_no
theorem dX6_count_0 : decode cX6_count 0 = .ok (.aload_n 0, 1) := by decide +kernel
theorem dX6_count_1 : decode cX6_count 1 = .ok (.iconst 0, 1) := by decide +kernel
theorem dX6_count_2 : decode cX6_count 2 = .ok (.putfield 59, 3) := by decide +kernel
theorem dX6_count_5 : decode cX6_count 5 = .ok (.iload_n 1, 1) := by decide +kernel
theorem dX6_count_6 : decode cX6_count 6 = .ok (.iconst 0, 1) := by decide +kernel
theorem dX6_count_7 : decode cX6_count 7 = .ok (.bipush 7, 2) := by decide +kernel
theorem dX6_count_9 : decode cX6_count 9 = .ok (.invokestatic 65, 3) := by decide +kernel
theorem dX6_count_12 : decode cX6_count 12 = .ok (.ifCond .eq 11, 3) := by decide +kernel
theorem dX6_count_15 : decode cX6_count 15 = .ok (.aload_n 0, 1) := by decide +kernel
theorem dX6_count_16 : decode cX6_count 16 = .ok (.iload_n 1, 1) := by decide +kernel
theorem dX6_count_17 : decode cX6_count 17 = .ok (.invokevirtual 167, 3) := by decide +kernel
theorem dX6_count_20 : decode cX6_count 20 = .ok (.goto 8, 3) := by decide +kernel
theorem dX6_count_23 : decode cX6_count 23 = .ok (.aload_n 0, 1) := by decide +kernel
theorem dX6_count_24 : decode cX6_count 24 = .ok (.iconst 1, 1) := by decide +kernel
theorem dX6_count_25 : decode cX6_count 25 = .ok (.invokevirtual 130, 3) := by decide +kernel
theorem dX6_count_28 : decode cX6_count 28 = .ok (.ireturn, 1) := by decide +kernel
set_option maxRecDepth 20000 in
theorem ggX6_later_X6_isHeld : GoodIn wsX6_later wsX6_isHeld := goodIn_r _ [11, 12, 13, 14, 25, 26, 27, 28, 29, 30, 31, 32, 33, 34, 35, 36, 37, 38, 39, 40, 41, 42, 43, 44, 45, 46, 47, 48, 49] (by decide +kernel) (by decide +kernel)
set_option maxRecDepth 20000 in
theorem gX6_later_X6_isHeld : GoodIn wsX6_later (wsV RX6 112 RX6 yX6_isHeld wsX6_isHeld) := goodIn_app (goodIn_of _ (by decide +kernel)) ggX6_later_X6_isHeld
set_option maxRecDepth 20000 in
theorem ggX6_later_X6_loose : GoodIn wsX6_later wsX6_loose := goodIn_r _ [18, 12, 13, 14, 25, 26, 27, 28, 29, 30, 31, 32, 33, 34, 35, 36, 37, 38, 39, 40, 41, 42, 43, 44, 45, 46, 47, 48, 49] (by decide +kernel) (by decide +kernel)
set_option maxRecDepth 20000 in
theorem gX6_later_X6_loose : GoodIn wsX6_later (wsV RX6 152 RX6 yX6_loose wsX6_loose) := goodIn_app (goodIn_of _ (by decide +kernel)) ggX6_later_X6_loose
set_option maxRecDepth 20000 in
theorem ggX6_later_X6_unit : GoodIn wsX6_later wsX6_unit := goodIn_r _ [21] (by decide +kernel) (by decide +kernel)
set_option maxRecDepth 20000 in
theorem gX6_later_X6_unit : GoodIn wsX6_later (va_wsS RX6 72 yX6_unit wsX6_unit) := goodIn_app (goodIn_of _ (by decide +kernel)) ggX6_later_X6_unit
set_option maxRecDepth 20000 in
theorem ggX6_later_X6_lean : GoodIn wsX6_later wsX6_lean := goodIn_r _ [24, 19, 20, 10, 21] (by decide +kernel) (by decide +kernel)
set_option maxRecDepth 20000 in
theorem gX6_later_X6_lean : GoodIn wsX6_later (va_wsS RX6 76 yX6_lean wsX6_lean) := goodIn_app (goodIn_of _ (by decide +kernel)) ggX6_later_X6_lean
theorem dX6_later_0 : decode cX6_later 0 = .ok (.iload_n 1, 1) := by decide +kernel
theorem dX6_later_1 : decode cX6_later 1 = .ok (.istore_n 2, 1) := by decide +kernel
theorem dX6_later_2 : decode cX6_later 2 = .ok (.iconst 0, 1) := by decide +kernel
theorem dX6_later_3 : decode cX6_later 3 = .ok (.istore_n 3, 1) := by decide +kernel
theorem dX6_later_4 : decode cX6_later 4 = .ok (.iload_n 3, 1) := by decide +kernel
theorem dX6_later_5 : decode cX6_later 5 = .ok (.aload_n 0, 1) := by decide +kernel
theorem dX6_later_6 : decode cX6_later 6 = .ok (.getfield 62, 3) := by decide +kernel
theorem dX6_later_9 : decode cX6_later 9 = .ok (.if_icmp .ge 62, 3) := by decide +kernel
theorem dX6_later_12 : decode cX6_later 12 = .ok (.aload_n 0, 1) := by decide +kernel
theorem dX6_later_13 : decode cX6_later 13 = .ok (.iload_n 3, 1) := by decide +kernel
theorem dX6_later_14 : decode cX6_later 14 = .ok (.invokevirtual 112, 3) := by decide +kernel
theorem dX6_later_17 : decode cX6_later 17 = .ok (.ifCond .ne 48, 3) := by decide +kernel
theorem dX6_later_20 : decode cX6_later 20 = .ok (.aload_n 0, 1) := by decide +kernel
theorem dX6_later_21 : decode cX6_later 21 = .ok (.iload_n 3, 1) := by decide +kernel
theorem dX6_later_22 : decode cX6_later 22 = .ok (.invokevirtual 152, 3) := by decide +kernel
theorem dX6_later_25 : decode cX6_later 25 = .ok (.ifCond .le 6, 3) := by decide +kernel
theorem dX6_later_28 : decode cX6_later 28 = .ok (.goto 37, 3) := by decide +kernel
theorem dX6_later_31 : decode cX6_later 31 = .ok (.iload_n 2, 1) := by decide +kernel
theorem dX6_later_32 : decode cX6_later 32 = .ok (.iload_n 3, 1) := by decide +kernel
theorem dX6_later_33 : decode cX6_later 33 = .ok (.invokestatic 72, 3) := by decide +kernel
theorem dX6_later_36 : decode cX6_later 36 = .ok (.bipush 9, 2) := by decide +kernel
theorem dX6_later_38 : decode cX6_later 38 = .ok (.iload_n 1, 1) := by decide +kernel
theorem dX6_later_39 : decode cX6_later 39 = .ok (.iload_n 3, 1) := by decide +kernel
theorem dX6_later_40 : decode cX6_later 40 = .ok (.invokestatic 76, 3) := by decide +kernel
theorem dX6_later_43 : decode cX6_later 43 = .ok (.isub, 1) := by decide +kernel
theorem dX6_later_44 : decode cX6_later 44 = .ok (.aload_n 0, 1) := by decide +kernel
theorem dX6_later_45 : decode cX6_later 45 = .ok (.getfield 35, 3) := by decide +kernel
theorem dX6_later_48 : decode cX6_later 48 = .ok (.iload_n 3, 1) := by decide +kernel
theorem dX6_later_49 : decode cX6_later 49 = .ok (.iaload, 1) := by decide +kernel
theorem dX6_later_50 : decode cX6_later 50 = .ok (.iconst 1, 1) := by decide +kernel
theorem dX6_later_51 : decode cX6_later 51 = .ok (.if_icmp .le 7, 3) := by decide +kernel
theorem dX6_later_54 : decode cX6_later 54 = .ok (.iconst 2, 1) := by decide +kernel
theorem dX6_later_55 : decode cX6_later 55 = .ok (.goto 4, 3) := by decide +kernel
theorem dX6_later_58 : decode cX6_later 58 = .ok (.iconst 1, 1) := by decide +kernel
theorem dX6_later_59 : decode cX6_later 59 = .ok (.invokestatic 109, 3) := by decide +kernel
theorem dX6_later_62 : decode cX6_later 62 = .ok (.imul, 1) := by decide +kernel
theorem dX6_later_63 : decode cX6_later 63 = .ok (.iadd, 1) := by decide +kernel
theorem dX6_later_64 : decode cX6_later 64 = .ok (.istore_n 2, 1) := by decide +kernel
theorem dX6_later_65 : decode cX6_later 65 = .ok (.iinc 3 1, 3) := by decide +kernel
theorem dX6_later_68 : decode cX6_later 68 = .ok (.goto (-64), 3) := by decide +kernel
theorem dX6_later_71 : decode cX6_later 71 = .ok (.iload_n 2, 1) := by decide +kernel
theorem dX6_later_72 : decode cX6_later 72 = .ok (.ireturn, 1) := by decide +kernel
set_option maxRecDepth 20000 in
theorem ggX6_flat_X6_lean : GoodIn wsX6_flat wsX6_lean := goodIn_r _ [5, 6, 7, 4, 8] (by decide +kernel) (by decide +kernel)
set_option maxRecDepth 20000 in
theorem gX6_flat_X6_lean : GoodIn wsX6_flat (va_wsS RX6 76 yX6_lean wsX6_lean) := goodIn_app (goodIn_of _ (by decide +kernel)) ggX6_flat_X6_lean
theorem dX6_flat_0 : decode cX6_flat 0 = .ok (.iconst 0, 1) := by decide +kernel
theorem dX6_flat_1 : decode cX6_flat 1 = .ok (.istore_n 2, 1) := by decide +kernel
theorem dX6_flat_2 : decode cX6_flat 2 = .ok (.iconst 0, 1) := by decide +kernel
theorem dX6_flat_3 : decode cX6_flat 3 = .ok (.istore_n 3, 1) := by decide +kernel
theorem dX6_flat_4 : decode cX6_flat 4 = .ok (.iload_n 3, 1) := by decide +kernel
theorem dX6_flat_5 : decode cX6_flat 5 = .ok (.aload_n 0, 1) := by decide +kernel
theorem dX6_flat_6 : decode cX6_flat 6 = .ok (.getfield 62, 3) := by decide +kernel
theorem dX6_flat_9 : decode cX6_flat 9 = .ok (.if_icmp .ge 27, 3) := by decide +kernel
theorem dX6_flat_12 : decode cX6_flat 12 = .ok (.iload_n 2, 1) := by decide +kernel
theorem dX6_flat_13 : decode cX6_flat 13 = .ok (.iload_n 1, 1) := by decide +kernel
theorem dX6_flat_14 : decode cX6_flat 14 = .ok (.iload_n 3, 1) := by decide +kernel
theorem dX6_flat_15 : decode cX6_flat 15 = .ok (.invokestatic 76, 3) := by decide +kernel
theorem dX6_flat_18 : decode cX6_flat 18 = .ok (.bipush 9, 2) := by decide +kernel
theorem dX6_flat_20 : decode cX6_flat 20 = .ok (.if_icmp .ne 7, 3) := by decide +kernel
theorem dX6_flat_23 : decode cX6_flat 23 = .ok (.iconst 1, 1) := by decide +kernel
theorem dX6_flat_24 : decode cX6_flat 24 = .ok (.goto 4, 3) := by decide +kernel
theorem dX6_flat_27 : decode cX6_flat 27 = .ok (.iconst 0, 1) := by decide +kernel
theorem dX6_flat_28 : decode cX6_flat 28 = .ok (.iadd, 1) := by decide +kernel
theorem dX6_flat_29 : decode cX6_flat 29 = .ok (.istore_n 2, 1) := by decide +kernel
theorem dX6_flat_30 : decode cX6_flat 30 = .ok (.iinc 3 1, 3) := by decide +kernel
theorem dX6_flat_33 : decode cX6_flat 33 = .ok (.goto (-29), 3) := by decide +kernel
theorem dX6_flat_36 : decode cX6_flat 36 = .ok (.iload_n 2, 1) := by decide +kernel
theorem dX6_flat_37 : decode cX6_flat 37 = .ok (.ireturn, 1) := by decide +kernel
set_option maxRecDepth 20000 in
theorem ggX6_pass_X6_isBetween : GoodIn wsX6_pass wsX6_isBetween := goodIn_r _ [7] (by decide +kernel) (by decide +kernel)
set_option maxRecDepth 20000 in
theorem gX6_pass_X6_isBetween : GoodIn wsX6_pass (va_wsS RX6 65 yX6_isBetween wsX6_isBetween) := goodIn_app (goodIn_of _ (by decide +kernel)) ggX6_pass_X6_isBetween
set_option maxRecDepth 20000 in
theorem ggX6_pass_X6_no : GoodIn wsX6_pass wsX6_no := goodIn_r _ [11, 1, 43, 44, 45, 46, 47, 48, 49, 50, 51, 52, 53, 54, 55, 56, 57, 58, 59, 60, 61, 62, 63, 64, 65, 66, 67] (by decide +kernel) (by decide +kernel)
set_option maxRecDepth 20000 in
theorem gX6_pass_X6_no : GoodIn wsX6_pass (wsV RX6 130 RX6 yX6_no wsX6_no) := goodIn_app (goodIn_of _ (by decide +kernel)) ggX6_pass_X6_no
set_option maxRecDepth 20000 in
theorem ggX6_pass_X6_flat : GoodIn wsX6_pass wsX6_flat := goodIn_r _ [15, 16, 17, 18, 6, 19, 20, 21, 22, 43, 44, 45, 46, 47, 48, 49, 50, 51, 52, 53, 54, 55, 56, 57, 58, 59, 60, 61, 62, 63, 64, 65, 66, 67] (by decide +kernel) (by decide +kernel)
set_option maxRecDepth 20000 in
theorem gX6_pass_X6_flat : GoodIn wsX6_pass (wsV RX6 170 RX6 yX6_flat wsX6_flat) := goodIn_app (goodIn_of _ (by decide +kernel)) ggX6_pass_X6_flat
set_option maxRecDepth 20000 in
theorem ggX6_pass_X6_later : GoodIn wsX6_pass wsX6_later := goodIn_r _ [26, 16, 27, 28, 29, 30, 31, 32, 33, 34, 6, 35, 36, 37, 38, 39, 40, 41, 42, 20, 21, 22, 17, 18, 19, 43, 44, 45, 46, 47, 48, 49, 50, 51, 52, 53, 54, 55, 56, 57, 58, 59, 60, 61, 62, 63, 64, 65, 66, 67] (by decide +kernel) (by decide +kernel)
set_option maxRecDepth 20000 in
theorem gX6_pass_X6_later : GoodIn wsX6_pass (wsV RX6 173 RX6 yX6_later wsX6_later) := goodIn_app (goodIn_of _ (by decide +kernel)) ggX6_pass_X6_later
theorem dX6_pass_0 : decode cX6_pass 0 = .ok (.aload_n 0, 1) := by decide +kernel
theorem dX6_pass_1 : decode cX6_pass 1 = .ok (.iconst 0, 1) := by decide +kernel
theorem dX6_pass_2 : decode cX6_pass 2 = .ok (.putfield 59, 3) := by decide +kernel
theorem dX6_pass_5 : decode cX6_pass 5 = .ok (.iload_n 1, 1) := by decide +kernel
theorem dX6_pass_6 : decode cX6_pass 6 = .ok (.iconst 1, 1) := by decide +kernel
theorem dX6_pass_7 : decode cX6_pass 7 = .ok (.bipush 50, 2) := by decide +kernel
theorem dX6_pass_9 : decode cX6_pass 9 = .ok (.invokestatic 65, 3) := by decide +kernel
theorem dX6_pass_12 : decode cX6_pass 12 = .ok (.ifCond .ne 9, 3) := by decide +kernel
theorem dX6_pass_15 : decode cX6_pass 15 = .ok (.aload_n 0, 1) := by decide +kernel
theorem dX6_pass_16 : decode cX6_pass 16 = .ok (.iconst 1, 1) := by decide +kernel
theorem dX6_pass_17 : decode cX6_pass 17 = .ok (.invokevirtual 130, 3) := by decide +kernel
theorem dX6_pass_20 : decode cX6_pass 20 = .ok (.ireturn, 1) := by decide +kernel
theorem dX6_pass_21 : decode cX6_pass 21 = .ok (.aload_n 0, 1) := by decide +kernel
theorem dX6_pass_22 : decode cX6_pass 22 = .ok (.aload_n 0, 1) := by decide +kernel
theorem dX6_pass_23 : decode cX6_pass 23 = .ok (.getfield 91, 3) := by decide +kernel
theorem dX6_pass_26 : decode cX6_pass 26 = .ok (.invokevirtual 170, 3) := by decide +kernel
theorem dX6_pass_29 : decode cX6_pass 29 = .ok (.istore_n 2, 1) := by decide +kernel
theorem dX6_pass_30 : decode cX6_pass 30 = .ok (.iconst 0, 1) := by decide +kernel
theorem dX6_pass_31 : decode cX6_pass 31 = .ok (.istore_n 3, 1) := by decide +kernel
theorem dX6_pass_32 : decode cX6_pass 32 = .ok (.iload_n 3, 1) := by decide +kernel
theorem dX6_pass_33 : decode cX6_pass 33 = .ok (.iload_n 1, 1) := by decide +kernel
theorem dX6_pass_34 : decode cX6_pass 34 = .ok (.if_icmp .ge 21, 3) := by decide +kernel
theorem dX6_pass_37 : decode cX6_pass 37 = .ok (.aload_n 0, 1) := by decide +kernel
theorem dX6_pass_38 : decode cX6_pass 38 = .ok (.aload_n 0, 1) := by decide +kernel
theorem dX6_pass_39 : decode cX6_pass 39 = .ok (.aload_n 0, 1) := by decide +kernel
theorem dX6_pass_40 : decode cX6_pass 40 = .ok (.getfield 91, 3) := by decide +kernel
theorem dX6_pass_43 : decode cX6_pass 43 = .ok (.invokevirtual 173, 3) := by decide +kernel
theorem dX6_pass_46 : decode cX6_pass 46 = .ok (.putfield 91, 3) := by decide +kernel
theorem dX6_pass_49 : decode cX6_pass 49 = .ok (.iinc 3 1, 3) := by decide +kernel
theorem dX6_pass_52 : decode cX6_pass 52 = .ok (.goto (-20), 3) := by decide +kernel
theorem dX6_pass_55 : decode cX6_pass 55 = .ok (.aload_n 0, 1) := by decide +kernel
theorem dX6_pass_56 : decode cX6_pass 56 = .ok (.dup, 1) := by decide +kernel
end
section
theorem dX6_pass_57 : decode cX6_pass 57 = .ok (.getfield 164, 3) := by decide +kernel
theorem dX6_pass_60 : decode cX6_pass 60 = .ok (.iload_n 1, 1) := by decide +kernel
theorem dX6_pass_61 : decode cX6_pass 61 = .ok (.iadd, 1) := by decide +kernel
theorem dX6_pass_62 : decode cX6_pass 62 = .ok (.putfield 164, 3) := by decide +kernel
theorem dX6_pass_65 : decode cX6_pass 65 = .ok (.aload_n 0, 1) := by decide +kernel
theorem dX6_pass_66 : decode cX6_pass 66 = .ok (.aload_n 0, 1) := by decide +kernel
theorem dX6_pass_67 : decode cX6_pass 67 = .ok (.getfield 91, 3) := by decide +kernel
theorem dX6_pass_70 : decode cX6_pass 70 = .ok (.invokevirtual 170, 3) := by decide +kernel
theorem dX6_pass_73 : decode cX6_pass 73 = .ok (.iload_n 2, 1) := by decide +kernel
theorem dX6_pass_74 : decode cX6_pass 74 = .ok (.isub, 1) := by decide +kernel
theorem dX6_pass_75 : decode cX6_pass 75 = .ok (.ireturn, 1) := by decide +kernel
set_option maxRecDepth 20000 in
theorem ggX6_search_X6_behind : GoodIn wsX6_search wsX6_behind := goodIn_r _ [9, 10, 3, 4, 11, 12, 13, 14, 15, 8, 16, 17, 18, 19, 20, 21, 22, 23, 24, 25, 26, 27, 28, 29, 30, 31, 32, 33, 34, 35, 36, 37, 38, 39, 40, 41, 42, 43, 44, 45, 46, 47, 48, 49, 50, 51, 52, 53, 54, 55, 56, 57, 58, 59, 60, 61, 62, 63, 64, 65, 66, 67, 68, 69, 70, 71, 72, 73, 74, 75, 76, 77, 78, 79, 80, 81, 82, 83, 84, 85, 86, 87, 88, 89, 90, 91, 92, 93, 94, 95] (by decide +kernel) (by decide +kernel)
set_option maxRecDepth 20000 in
theorem gX6_search_X6_behind : GoodIn wsX6_search (wsV RX6 143 RX6 yX6_behind wsX6_behind) := goodIn_app (goodIn_of _ (by decide +kernel)) ggX6_search_X6_behind
theorem dX6_search_0 : decode cX6_search 0 = .ok (.iconst 0, 1) := by decide +kernel
theorem dX6_search_1 : decode cX6_search 1 = .ok (.istore_n 2, 1) := by decide +kernel
theorem dX6_search_2 : decode cX6_search 2 = .ok (.iload_n 2, 1) := by decide +kernel
theorem dX6_search_3 : decode cX6_search 3 = .ok (.sipush 1000, 3) := by decide +kernel
theorem dX6_search_6 : decode cX6_search 6 = .ok (.if_icmp .ge 16, 3) := by decide +kernel
theorem dX6_search_9 : decode cX6_search 9 = .ok (.aload_n 0, 1) := by decide +kernel
theorem dX6_search_10 : decode cX6_search 10 = .ok (.getfield 53, 3) := by decide +kernel
theorem dX6_search_13 : decode cX6_search 13 = .ok (.iload_n 2, 1) := by decide +kernel
theorem dX6_search_14 : decode cX6_search 14 = .ok (.iconst (-1), 1) := by decide +kernel
theorem dX6_search_15 : decode cX6_search 15 = .ok (.iastore, 1) := by decide +kernel
theorem dX6_search_16 : decode cX6_search 16 = .ok (.iinc 2 1, 3) := by decide +kernel
theorem dX6_search_19 : decode cX6_search 19 = .ok (.goto (-17), 3) := by decide +kernel
theorem dX6_search_22 : decode cX6_search 22 = .ok (.aload_n 0, 1) := by decide +kernel
theorem dX6_search_23 : decode cX6_search 23 = .ok (.getfield 53, 3) := by decide +kernel
theorem dX6_search_26 : decode cX6_search 26 = .ok (.iload_n 1, 1) := by decide +kernel
theorem dX6_search_27 : decode cX6_search 27 = .ok (.iconst 0, 1) := by decide +kernel
theorem dX6_search_28 : decode cX6_search 28 = .ok (.iastore, 1) := by decide +kernel
theorem dX6_search_29 : decode cX6_search 29 = .ok (.aload_n 0, 1) := by decide +kernel
theorem dX6_search_30 : decode cX6_search 30 = .ok (.getfield 56, 3) := by decide +kernel
theorem dX6_search_33 : decode cX6_search 33 = .ok (.iconst 0, 1) := by decide +kernel
theorem dX6_search_34 : decode cX6_search 34 = .ok (.iload_n 1, 1) := by decide +kernel
theorem dX6_search_35 : decode cX6_search 35 = .ok (.iastore, 1) := by decide +kernel
theorem dX6_search_36 : decode cX6_search 36 = .ok (.iconst 1, 1) := by decide +kernel
theorem dX6_search_37 : decode cX6_search 37 = .ok (.istore_n 2, 1) := by decide +kernel
theorem dX6_search_38 : decode cX6_search 38 = .ok (.iconst 0, 1) := by decide +kernel
theorem dX6_search_39 : decode cX6_search 39 = .ok (.istore_n 3, 1) := by decide +kernel
theorem dX6_search_40 : decode cX6_search 40 = .ok (.iload_n 3, 1) := by decide +kernel
theorem dX6_search_41 : decode cX6_search 41 = .ok (.iload_n 2, 1) := by decide +kernel
theorem dX6_search_42 : decode cX6_search 42 = .ok (.if_icmp .ge 105, 3) := by decide +kernel
theorem dX6_search_45 : decode cX6_search 45 = .ok (.iconst 0, 1) := by decide +kernel
theorem dX6_search_46 : decode cX6_search 46 = .ok (.istore 4, 2) := by decide +kernel
theorem dX6_search_48 : decode cX6_search 48 = .ok (.iload 4, 2) := by decide +kernel
theorem dX6_search_50 : decode cX6_search 50 = .ok (.aload_n 0, 1) := by decide +kernel
theorem dX6_search_51 : decode cX6_search 51 = .ok (.getfield 69, 3) := by decide +kernel
theorem dX6_search_54 : decode cX6_search 54 = .ok (.if_icmp .ge 87, 3) := by decide +kernel
theorem dX6_search_57 : decode cX6_search 57 = .ok (.aload_n 0, 1) := by decide +kernel
theorem dX6_search_58 : decode cX6_search 58 = .ok (.getfield 50, 3) := by decide +kernel
theorem dX6_search_61 : decode cX6_search 61 = .ok (.iload 4, 2) := by decide +kernel
theorem dX6_search_63 : decode cX6_search 63 = .ok (.iaload, 1) := by decide +kernel
theorem dX6_search_64 : decode cX6_search 64 = .ok (.ifCond .ne 18, 3) := by decide +kernel
theorem dX6_search_67 : decode cX6_search 67 = .ok (.aload_n 0, 1) := by decide +kernel
theorem dX6_search_68 : decode cX6_search 68 = .ok (.aload_n 0, 1) := by decide +kernel
theorem dX6_search_69 : decode cX6_search 69 = .ok (.getfield 56, 3) := by decide +kernel
theorem dX6_search_72 : decode cX6_search 72 = .ok (.iload_n 3, 1) := by decide +kernel
theorem dX6_search_73 : decode cX6_search 73 = .ok (.iaload, 1) := by decide +kernel
theorem dX6_search_74 : decode cX6_search 74 = .ok (.iload 4, 2) := by decide +kernel
theorem dX6_search_76 : decode cX6_search 76 = .ok (.invokevirtual 143, 3) := by decide +kernel
theorem dX6_search_79 : decode cX6_search 79 = .ok (.goto 4, 3) := by decide +kernel
theorem dX6_search_82 : decode cX6_search 82 = .ok (.iconst (-1), 1) := by decide +kernel
theorem dX6_search_83 : decode cX6_search 83 = .ok (.istore 5, 2) := by decide +kernel
theorem dX6_search_85 : decode cX6_search 85 = .ok (.iload 5, 2) := by decide +kernel
theorem dX6_search_87 : decode cX6_search 87 = .ok (.ifCond .lt 48, 3) := by decide +kernel
theorem dX6_search_90 : decode cX6_search 90 = .ok (.aload_n 0, 1) := by decide +kernel
theorem dX6_search_91 : decode cX6_search 91 = .ok (.getfield 53, 3) := by decide +kernel
theorem dX6_search_94 : decode cX6_search 94 = .ok (.iload 5, 2) := by decide +kernel
theorem dX6_search_96 : decode cX6_search 96 = .ok (.iaload, 1) := by decide +kernel
theorem dX6_search_97 : decode cX6_search 97 = .ok (.iconst (-1), 1) := by decide +kernel
theorem dX6_search_98 : decode cX6_search 98 = .ok (.if_icmp .eq 6, 3) := by decide +kernel
theorem dX6_search_101 : decode cX6_search 101 = .ok (.goto 34, 3) := by decide +kernel
theorem dX6_search_104 : decode cX6_search 104 = .ok (.aload_n 0, 1) := by decide +kernel
theorem dX6_search_105 : decode cX6_search 105 = .ok (.getfield 53, 3) := by decide +kernel
theorem dX6_search_108 : decode cX6_search 108 = .ok (.iload 5, 2) := by decide +kernel
theorem dX6_search_110 : decode cX6_search 110 = .ok (.aload_n 0, 1) := by decide +kernel
theorem dX6_search_111 : decode cX6_search 111 = .ok (.getfield 53, 3) := by decide +kernel
theorem dX6_search_114 : decode cX6_search 114 = .ok (.aload_n 0, 1) := by decide +kernel
theorem dX6_search_115 : decode cX6_search 115 = .ok (.getfield 56, 3) := by decide +kernel
theorem dX6_search_118 : decode cX6_search 118 = .ok (.iload_n 3, 1) := by decide +kernel
theorem dX6_search_119 : decode cX6_search 119 = .ok (.iaload, 1) := by decide +kernel
theorem dX6_search_120 : decode cX6_search 120 = .ok (.iaload, 1) := by decide +kernel
theorem dX6_search_121 : decode cX6_search 121 = .ok (.iconst 1, 1) := by decide +kernel
theorem dX6_search_122 : decode cX6_search 122 = .ok (.iadd, 1) := by decide +kernel
theorem dX6_search_123 : decode cX6_search 123 = .ok (.iastore, 1) := by decide +kernel
theorem dX6_search_124 : decode cX6_search 124 = .ok (.aload_n 0, 1) := by decide +kernel
theorem dX6_search_125 : decode cX6_search 125 = .ok (.getfield 56, 3) := by decide +kernel
theorem dX6_search_128 : decode cX6_search 128 = .ok (.iload_n 2, 1) := by decide +kernel
theorem dX6_search_129 : decode cX6_search 129 = .ok (.iload 5, 2) := by decide +kernel
theorem dX6_search_131 : decode cX6_search 131 = .ok (.iastore, 1) := by decide +kernel
theorem dX6_search_132 : decode cX6_search 132 = .ok (.iinc 2 1, 3) := by decide +kernel
theorem dX6_search_135 : decode cX6_search 135 = .ok (.iinc 4 1, 3) := by decide +kernel
theorem dX6_search_138 : decode cX6_search 138 = .ok (.goto (-90), 3) := by decide +kernel
theorem dX6_search_141 : decode cX6_search 141 = .ok (.iinc 3 1, 3) := by decide +kernel
theorem dX6_search_144 : decode cX6_search 144 = .ok (.goto (-104), 3) := by decide +kernel
theorem dX6_search_147 : decode cX6_search 147 = .ok (.iload_n 2, 1) := by decide +kernel
theorem dX6_search_148 : decode cX6_search 148 = .ok (.ireturn, 1) := by decide +kernel
set_option maxRecDepth 20000 in
theorem ggX6_fewest_X6_search : GoodIn wsX6_fewest wsX6_search := goodIn_r _ [8, 3, 9, 10, 11, 12, 13, 14, 7, 15, 16, 17, 18, 19, 20, 21, 22, 23, 24, 25, 26, 27, 28, 29, 30, 31, 32, 33, 34, 35, 36, 37, 38, 39, 40, 41, 42, 43, 44, 45, 46, 47, 48, 49, 50, 51, 52, 53, 54, 55, 56, 57, 58, 59, 60, 61, 62, 63, 64, 65, 66, 67, 68, 69, 70, 71, 72, 73, 74, 75, 76, 77, 78, 79, 80, 81, 82, 83, 84, 85, 86, 87, 88, 89, 90, 91, 92, 93, 94, 95, 96, 97, 98, 99, 100, 101] (by decide +kernel) (by decide +kernel)
set_option maxRecDepth 20000 in
theorem gX6_fewest_X6_search : GoodIn wsX6_fewest (wsV RX6 176 RX6 yX6_search wsX6_search) := goodIn_app (goodIn_of _ (by decide +kernel)) ggX6_fewest_X6_search
theorem dX6_fewest_0 : decode cX6_fewest 0 = .ok (.aload_n 0, 1) := by decide +kernel
theorem dX6_fewest_1 : decode cX6_fewest 1 = .ok (.iconst 0, 1) := by decide +kernel
theorem dX6_fewest_2 : decode cX6_fewest 2 = .ok (.putfield 59, 3) := by decide +kernel
theorem dX6_fewest_5 : decode cX6_fewest 5 = .ok (.aload_n 0, 1) := by decide +kernel
theorem dX6_fewest_6 : decode cX6_fewest 6 = .ok (.aload_n 0, 1) := by decide +kernel
theorem dX6_fewest_7 : decode cX6_fewest 7 = .ok (.getfield 91, 3) := by decide +kernel
theorem dX6_fewest_10 : decode cX6_fewest 10 = .ok (.invokevirtual 176, 3) := by decide +kernel
theorem dX6_fewest_13 : decode cX6_fewest 13 = .ok (.pop, 1) := by decide +kernel
theorem dX6_fewest_14 : decode cX6_fewest 14 = .ok (.aload_n 0, 1) := by decide +kernel
theorem dX6_fewest_15 : decode cX6_fewest 15 = .ok (.getfield 53, 3) := by decide +kernel
theorem dX6_fewest_18 : decode cX6_fewest 18 = .ok (.iconst 0, 1) := by decide +kernel
theorem dX6_fewest_19 : decode cX6_fewest 19 = .ok (.iaload, 1) := by decide +kernel
theorem dX6_fewest_20 : decode cX6_fewest 20 = .ok (.ireturn, 1) := by decide +kernel
set_option maxRecDepth 20000 in
theorem ggX6_first_X6_search : GoodIn wsX6_first wsX6_search := goodIn_r _ [10, 3, 11, 4, 5, 12, 13, 14, 9, 15, 16, 17, 18, 19, 20, 21, 22, 23, 24, 25, 26, 27, 28, 29, 30, 31, 32, 33, 34, 35, 36, 37, 38, 39, 40, 41, 42, 43, 44, 45, 46, 47, 48, 49, 50, 51, 52, 53, 54, 55, 56, 57, 58, 59, 60, 61, 62, 63, 64, 65, 66, 67, 68, 69, 70, 71, 72, 73, 74, 75, 76, 77, 78, 79, 80, 81, 82, 83, 84, 85, 86, 87, 88, 89, 90, 91, 92, 93, 94, 95, 96, 97, 98, 99, 100, 101] (by decide +kernel) (by decide +kernel)
set_option maxRecDepth 20000 in
theorem gX6_first_X6_search : GoodIn wsX6_first (wsV RX6 176 RX6 yX6_search wsX6_search) := goodIn_app (goodIn_of _ (by decide +kernel)) ggX6_first_X6_search
set_option maxRecDepth 20000 in
theorem ggX6_first_X6_behind : GoodIn wsX6_first wsX6_behind := goodIn_r _ [15, 16, 4, 5, 17, 18, 19, 20, 21, 9, 22, 23, 24, 25, 26, 27, 28, 29, 30, 31, 32, 33, 34, 35, 36, 37, 38, 39, 40, 41, 42, 43, 44, 45, 46, 47, 48, 49, 50, 51, 52, 53, 54, 55, 56, 57, 58, 59, 60, 61, 62, 63, 64, 65, 66, 67, 68, 69, 70, 71, 72, 73, 74, 75, 76, 77, 78, 79, 80, 81, 82, 83, 84, 85, 86, 87, 88, 89, 90, 91, 92, 93, 94, 95, 96, 97, 98, 99, 100, 101] (by decide +kernel) (by decide +kernel)
set_option maxRecDepth 20000 in
theorem gX6_first_X6_behind : GoodIn wsX6_first (wsV RX6 143 RX6 yX6_behind wsX6_behind) := goodIn_app (goodIn_of _ (by decide +kernel)) ggX6_first_X6_behind
theorem dX6_first_0 : decode cX6_first 0 = .ok (.aload_n 0, 1) := by decide +kernel
theorem dX6_first_1 : decode cX6_first 1 = .ok (.iconst 0, 1) := by decide +kernel
theorem dX6_first_2 : decode cX6_first 2 = .ok (.putfield 59, 3) := by decide +kernel
theorem dX6_first_5 : decode cX6_first 5 = .ok (.aload_n 0, 1) := by decide +kernel
theorem dX6_first_6 : decode cX6_first 6 = .ok (.aload_n 0, 1) := by decide +kernel
theorem dX6_first_7 : decode cX6_first 7 = .ok (.getfield 91, 3) := by decide +kernel
theorem dX6_first_10 : decode cX6_first 10 = .ok (.invokevirtual 176, 3) := by decide +kernel
theorem dX6_first_13 : decode cX6_first 13 = .ok (.pop, 1) := by decide +kernel
theorem dX6_first_14 : decode cX6_first 14 = .ok (.aload_n 0, 1) := by decide +kernel
theorem dX6_first_15 : decode cX6_first 15 = .ok (.getfield 53, 3) := by decide +kernel
theorem dX6_first_18 : decode cX6_first 18 = .ok (.iconst 0, 1) := by decide +kernel
theorem dX6_first_19 : decode cX6_first 19 = .ok (.iaload, 1) := by decide +kernel
theorem dX6_first_20 : decode cX6_first 20 = .ok (.istore_n 1, 1) := by decide +kernel
theorem dX6_first_21 : decode cX6_first 21 = .ok (.iconst 0, 1) := by decide +kernel
theorem dX6_first_22 : decode cX6_first 22 = .ok (.istore_n 2, 1) := by decide +kernel
theorem dX6_first_23 : decode cX6_first 23 = .ok (.iload_n 2, 1) := by decide +kernel
theorem dX6_first_24 : decode cX6_first 24 = .ok (.aload_n 0, 1) := by decide +kernel
theorem dX6_first_25 : decode cX6_first 25 = .ok (.getfield 69, 3) := by decide +kernel
theorem dX6_first_28 : decode cX6_first 28 = .ok (.if_icmp .ge 63, 3) := by decide +kernel
theorem dX6_first_31 : decode cX6_first 31 = .ok (.iload_n 1, 1) := by decide +kernel
theorem dX6_first_32 : decode cX6_first 32 = .ok (.ifCond .le 59, 3) := by decide +kernel
theorem dX6_first_35 : decode cX6_first 35 = .ok (.aload_n 0, 1) := by decide +kernel
theorem dX6_first_36 : decode cX6_first 36 = .ok (.getfield 50, 3) := by decide +kernel
theorem dX6_first_39 : decode cX6_first 39 = .ok (.iload_n 2, 1) := by decide +kernel
theorem dX6_first_40 : decode cX6_first 40 = .ok (.iaload, 1) := by decide +kernel
theorem dX6_first_41 : decode cX6_first 41 = .ok (.ifCond .ne 15, 3) := by decide +kernel
theorem dX6_first_44 : decode cX6_first 44 = .ok (.aload_n 0, 1) := by decide +kernel
theorem dX6_first_45 : decode cX6_first 45 = .ok (.aload_n 0, 1) := by decide +kernel
theorem dX6_first_46 : decode cX6_first 46 = .ok (.getfield 91, 3) := by decide +kernel
theorem dX6_first_49 : decode cX6_first 49 = .ok (.iload_n 2, 1) := by decide +kernel
theorem dX6_first_50 : decode cX6_first 50 = .ok (.invokevirtual 143, 3) := by decide +kernel
theorem dX6_first_53 : decode cX6_first 53 = .ok (.goto 4, 3) := by decide +kernel
theorem dX6_first_56 : decode cX6_first 56 = .ok (.iconst (-1), 1) := by decide +kernel
theorem dX6_first_57 : decode cX6_first 57 = .ok (.istore_n 3, 1) := by decide +kernel
theorem dX6_first_58 : decode cX6_first 58 = .ok (.iload_n 3, 1) := by decide +kernel
theorem dX6_first_59 : decode cX6_first 59 = .ok (.ifCond .ge 6, 3) := by decide +kernel
theorem dX6_first_62 : decode cX6_first 62 = .ok (.goto 23, 3) := by decide +kernel
theorem dX6_first_65 : decode cX6_first 65 = .ok (.aload_n 0, 1) := by decide +kernel
theorem dX6_first_66 : decode cX6_first 66 = .ok (.iload_n 3, 1) := by decide +kernel
theorem dX6_first_67 : decode cX6_first 67 = .ok (.invokevirtual 176, 3) := by decide +kernel
theorem dX6_first_70 : decode cX6_first 70 = .ok (.pop, 1) := by decide +kernel
theorem dX6_first_71 : decode cX6_first 71 = .ok (.aload_n 0, 1) := by decide +kernel
theorem dX6_first_72 : decode cX6_first 72 = .ok (.getfield 53, 3) := by decide +kernel
theorem dX6_first_75 : decode cX6_first 75 = .ok (.iconst 0, 1) := by decide +kernel
theorem dX6_first_76 : decode cX6_first 76 = .ok (.iaload, 1) := by decide +kernel
theorem dX6_first_77 : decode cX6_first 77 = .ok (.iload_n 1, 1) := by decide +kernel
theorem dX6_first_78 : decode cX6_first 78 = .ok (.iconst 1, 1) := by decide +kernel
theorem dX6_first_79 : decode cX6_first 79 = .ok (.isub, 1) := by decide +kernel
theorem dX6_first_80 : decode cX6_first 80 = .ok (.if_icmp .ne 5, 3) := by decide +kernel
theorem dX6_first_83 : decode cX6_first 83 = .ok (.iload_n 2, 1) := by decide +kernel
theorem dX6_first_84 : decode cX6_first 84 = .ok (.ireturn, 1) := by decide +kernel
theorem dX6_first_85 : decode cX6_first 85 = .ok (.iinc 2 1, 3) := by decide +kernel
theorem dX6_first_88 : decode cX6_first 88 = .ok (.goto (-65), 3) := by decide +kernel
theorem dX6_first_91 : decode cX6_first 91 = .ok (.iconst (-1), 1) := by decide +kernel
theorem dX6_first_92 : decode cX6_first 92 = .ok (.ireturn, 1) := by decide +kernel
set_option maxRecDepth 20000 in
theorem ggX6_least_X6_isMast : GoodIn wsX6_least wsX6_isMast := goodIn_r _ [12, 13, 14, 15, 11, 16, 88, 89, 90, 91, 92, 93, 94, 95, 96, 97, 98, 99, 100, 101, 102, 103, 104, 105, 106, 107, 108, 109, 110, 111, 112] (by decide +kernel) (by decide +kernel)
set_option maxRecDepth 20000 in
theorem gX6_least_X6_isMast : GoodIn wsX6_least (wsV RX6 133 RX6 yX6_isMast wsX6_isMast) := goodIn_app (goodIn_of _ (by decide +kernel)) ggX6_least_X6_isMast
set_option maxRecDepth 20000 in
theorem ggX6_least_X6_no : GoodIn wsX6_least wsX6_no := goodIn_r _ [20, 1, 88, 89, 90, 91, 92, 93, 94, 95, 96, 97, 98, 99, 100, 101, 102, 103, 104, 105, 106, 107, 108, 109, 110, 111, 112] (by decide +kernel) (by decide +kernel)
set_option maxRecDepth 20000 in
theorem gX6_least_X6_no : GoodIn wsX6_least (wsV RX6 130 RX6 yX6_no wsX6_no) := goodIn_app (goodIn_of _ (by decide +kernel)) ggX6_least_X6_no
set_option maxRecDepth 20000 in
theorem ggX6_least_X6_search : GoodIn wsX6_least wsX6_search := goodIn_r _ [24, 25, 3, 26, 27, 28, 29, 30, 11, 31, 32, 33, 13, 34, 35, 36, 37, 38, 39, 40, 41, 42, 43, 44, 45, 46, 47, 48, 49, 4, 5, 6, 7, 50, 51, 52, 53, 54, 55, 56, 57, 58, 59, 60, 61, 62, 63, 64, 65, 66, 67, 68, 69, 70, 71, 72, 73, 74, 75, 76, 77, 78, 79, 80, 81, 82, 83, 84, 85, 86, 87, 88, 89, 90, 91, 92, 93, 94, 95, 96, 97, 98, 99, 100, 101, 102, 103, 104, 105, 106, 107, 108, 109, 110, 111, 112] (by decide +kernel) (by decide +kernel)
set_option maxRecDepth 20000 in
theorem gX6_least_X6_search : GoodIn wsX6_least (wsV RX6 176 RX6 yX6_search wsX6_search) := goodIn_app (goodIn_of _ (by decide +kernel)) ggX6_least_X6_search
set_option maxRecDepth 20000 in
theorem ggX6_least_X6_lean : GoodIn wsX6_least wsX6_lean := goodIn_r _ [37, 38, 39, 11, 40] (by decide +kernel) (by decide +kernel)
set_option maxRecDepth 20000 in
theorem gX6_least_X6_lean : GoodIn wsX6_least (va_wsS RX6 76 yX6_lean wsX6_lean) := goodIn_app (goodIn_of _ (by decide +kernel)) ggX6_least_X6_lean
theorem dX6_least_0 : decode cX6_least 0 = .ok (.aload_n 0, 1) := by decide +kernel
theorem dX6_least_1 : decode cX6_least 1 = .ok (.iconst 0, 1) := by decide +kernel
theorem dX6_least_2 : decode cX6_least 2 = .ok (.putfield 59, 3) := by decide +kernel
theorem dX6_least_5 : decode cX6_least 5 = .ok (.aload_n 0, 1) := by decide +kernel
theorem dX6_least_6 : decode cX6_least 6 = .ok (.iload_n 1, 1) := by decide +kernel
theorem dX6_least_7 : decode cX6_least 7 = .ok (.invokevirtual 133, 3) := by decide +kernel
theorem dX6_least_10 : decode cX6_least 10 = .ok (.ifCond .ne 9, 3) := by decide +kernel
theorem dX6_least_13 : decode cX6_least 13 = .ok (.aload_n 0, 1) := by decide +kernel
theorem dX6_least_14 : decode cX6_least 14 = .ok (.iconst 1, 1) := by decide +kernel
theorem dX6_least_15 : decode cX6_least 15 = .ok (.invokevirtual 130, 3) := by decide +kernel
theorem dX6_least_18 : decode cX6_least 18 = .ok (.ireturn, 1) := by decide +kernel
theorem dX6_least_19 : decode cX6_least 19 = .ok (.aload_n 0, 1) := by decide +kernel
theorem dX6_least_20 : decode cX6_least 20 = .ok (.aload_n 0, 1) := by decide +kernel
theorem dX6_least_21 : decode cX6_least 21 = .ok (.getfield 91, 3) := by decide +kernel
theorem dX6_least_24 : decode cX6_least 24 = .ok (.invokevirtual 176, 3) := by decide +kernel
theorem dX6_least_27 : decode cX6_least 27 = .ok (.istore_n 2, 1) := by decide +kernel
theorem dX6_least_28 : decode cX6_least 28 = .ok (.bipush 9, 2) := by decide +kernel
theorem dX6_least_30 : decode cX6_least 30 = .ok (.istore_n 3, 1) := by decide +kernel
theorem dX6_least_31 : decode cX6_least 31 = .ok (.iconst 0, 1) := by decide +kernel
theorem dX6_least_32 : decode cX6_least 32 = .ok (.istore 4, 2) := by decide +kernel
theorem dX6_least_34 : decode cX6_least 34 = .ok (.iload 4, 2) := by decide +kernel
theorem dX6_least_36 : decode cX6_least 36 = .ok (.iload_n 2, 1) := by decide +kernel
theorem dX6_least_37 : decode cX6_least 37 = .ok (.if_icmp .ge 25, 3) := by decide +kernel
theorem dX6_least_40 : decode cX6_least 40 = .ok (.iload_n 3, 1) := by decide +kernel
theorem dX6_least_41 : decode cX6_least 41 = .ok (.aload_n 0, 1) := by decide +kernel
theorem dX6_least_42 : decode cX6_least 42 = .ok (.getfield 56, 3) := by decide +kernel
theorem dX6_least_45 : decode cX6_least 45 = .ok (.iload 4, 2) := by decide +kernel
theorem dX6_least_47 : decode cX6_least 47 = .ok (.iaload, 1) := by decide +kernel
theorem dX6_least_48 : decode cX6_least 48 = .ok (.iload_n 1, 1) := by decide +kernel
theorem dX6_least_49 : decode cX6_least 49 = .ok (.invokestatic 76, 3) := by decide +kernel
theorem dX6_least_52 : decode cX6_least 52 = .ok (.invokestatic 109, 3) := by decide +kernel
theorem dX6_least_55 : decode cX6_least 55 = .ok (.istore_n 3, 1) := by decide +kernel
theorem dX6_least_56 : decode cX6_least 56 = .ok (.iinc 4 1, 3) := by decide +kernel
theorem dX6_least_59 : decode cX6_least 59 = .ok (.goto (-25), 3) := by decide +kernel
theorem dX6_least_62 : decode cX6_least 62 = .ok (.iload_n 3, 1) := by decide +kernel
theorem dX6_least_63 : decode cX6_least 63 = .ok (.ireturn, 1) := by decide +kernel
set_option maxRecDepth 20000 in
theorem ggX6_falls_X6_flat : GoodIn wsX6_falls wsX6_flat := goodIn_r _ [8, 3, 9, 10, 7, 11, 12, 13, 14, 35, 36, 37, 38, 39, 40, 41, 42, 43, 44, 45, 46, 47, 48, 49, 50, 51, 52, 53, 54, 55, 56, 57, 58, 59] (by decide +kernel) (by decide +kernel)
set_option maxRecDepth 20000 in
theorem gX6_falls_X6_flat : GoodIn wsX6_falls (wsV RX6 170 RX6 yX6_flat wsX6_flat) := goodIn_app (goodIn_of _ (by decide +kernel)) ggX6_falls_X6_flat
set_option maxRecDepth 20000 in
theorem ggX6_falls_X6_later : GoodIn wsX6_falls wsX6_later := goodIn_r _ [18, 3, 19, 20, 21, 22, 23, 24, 25, 26, 7, 27, 28, 29, 30, 31, 32, 33, 34, 12, 13, 14, 9, 10, 11, 35, 36, 37, 38, 39, 40, 41, 42, 43, 44, 45, 46, 47, 48, 49, 50, 51, 52, 53, 54, 55, 56, 57, 58, 59] (by decide +kernel) (by decide +kernel)
set_option maxRecDepth 20000 in
theorem gX6_falls_X6_later : GoodIn wsX6_falls (wsV RX6 173 RX6 yX6_later wsX6_later) := goodIn_app (goodIn_of _ (by decide +kernel)) ggX6_falls_X6_later
theorem dX6_falls_0 : decode cX6_falls 0 = .ok (.aload_n 0, 1) := by decide +kernel
theorem dX6_falls_1 : decode cX6_falls 1 = .ok (.iconst 0, 1) := by decide +kernel
theorem dX6_falls_2 : decode cX6_falls 2 = .ok (.putfield 59, 3) := by decide +kernel
theorem dX6_falls_5 : decode cX6_falls 5 = .ok (.aload_n 0, 1) := by decide +kernel
theorem dX6_falls_6 : decode cX6_falls 6 = .ok (.getfield 91, 3) := by decide +kernel
theorem dX6_falls_9 : decode cX6_falls 9 = .ok (.istore_n 1, 1) := by decide +kernel
theorem dX6_falls_10 : decode cX6_falls 10 = .ok (.iconst 0, 1) := by decide +kernel
theorem dX6_falls_11 : decode cX6_falls 11 = .ok (.istore_n 2, 1) := by decide +kernel
theorem dX6_falls_12 : decode cX6_falls 12 = .ok (.iload_n 2, 1) := by decide +kernel
theorem dX6_falls_13 : decode cX6_falls 13 = .ok (.bipush 50, 2) := by decide +kernel
theorem dX6_falls_15 : decode cX6_falls 15 = .ok (.if_icmp .gt 29, 3) := by decide +kernel
theorem dX6_falls_18 : decode cX6_falls 18 = .ok (.aload_n 0, 1) := by decide +kernel
theorem dX6_falls_19 : decode cX6_falls 19 = .ok (.iload_n 1, 1) := by decide +kernel
theorem dX6_falls_20 : decode cX6_falls 20 = .ok (.invokevirtual 170, 3) := by decide +kernel
theorem dX6_falls_23 : decode cX6_falls 23 = .ok (.aload_n 0, 1) := by decide +kernel
theorem dX6_falls_24 : decode cX6_falls 24 = .ok (.getfield 62, 3) := by decide +kernel
theorem dX6_falls_27 : decode cX6_falls 27 = .ok (.if_icmp .ne 5, 3) := by decide +kernel
theorem dX6_falls_30 : decode cX6_falls 30 = .ok (.iload_n 2, 1) := by decide +kernel
theorem dX6_falls_31 : decode cX6_falls 31 = .ok (.ireturn, 1) := by decide +kernel
theorem dX6_falls_32 : decode cX6_falls 32 = .ok (.aload_n 0, 1) := by decide +kernel
theorem dX6_falls_33 : decode cX6_falls 33 = .ok (.iload_n 1, 1) := by decide +kernel
theorem dX6_falls_34 : decode cX6_falls 34 = .ok (.invokevirtual 173, 3) := by decide +kernel
theorem dX6_falls_37 : decode cX6_falls 37 = .ok (.istore_n 1, 1) := by decide +kernel
theorem dX6_falls_38 : decode cX6_falls 38 = .ok (.iinc 2 1, 3) := by decide +kernel
theorem dX6_falls_41 : decode cX6_falls 41 = .ok (.goto (-29), 3) := by decide +kernel
theorem dX6_falls_44 : decode cX6_falls 44 = .ok (.iconst (-1), 1) := by decide +kernel
theorem dX6_falls_45 : decode cX6_falls 45 = .ok (.ireturn, 1) := by decide +kernel
set_option maxRecDepth 20000 in
theorem ggX6_mean_X6_lean : GoodIn wsX6_mean wsX6_lean := goodIn_r _ [7, 8, 9, 6, 10] (by decide +kernel) (by decide +kernel)
set_option maxRecDepth 20000 in
theorem gX6_mean_X6_lean : GoodIn wsX6_mean (va_wsS RX6 76 yX6_lean wsX6_lean) := goodIn_app (goodIn_of _ (by decide +kernel)) ggX6_mean_X6_lean
theorem dX6_mean_0 : decode cX6_mean 0 = .ok (.aload_n 0, 1) := by decide +kernel
theorem dX6_mean_1 : decode cX6_mean 1 = .ok (.iconst 0, 1) := by decide +kernel
theorem dX6_mean_2 : decode cX6_mean 2 = .ok (.putfield 59, 3) := by decide +kernel
theorem dX6_mean_5 : decode cX6_mean 5 = .ok (.iconst 0, 1) := by decide +kernel
theorem dX6_mean_6 : decode cX6_mean 6 = .ok (.istore_n 1, 1) := by decide +kernel
theorem dX6_mean_7 : decode cX6_mean 7 = .ok (.iconst 0, 1) := by decide +kernel
theorem dX6_mean_8 : decode cX6_mean 8 = .ok (.istore_n 2, 1) := by decide +kernel
theorem dX6_mean_9 : decode cX6_mean 9 = .ok (.iload_n 2, 1) := by decide +kernel
theorem dX6_mean_10 : decode cX6_mean 10 = .ok (.aload_n 0, 1) := by decide +kernel
theorem dX6_mean_11 : decode cX6_mean 11 = .ok (.getfield 62, 3) := by decide +kernel
theorem dX6_mean_14 : decode cX6_mean 14 = .ok (.if_icmp .ge 20, 3) := by decide +kernel
theorem dX6_mean_17 : decode cX6_mean 17 = .ok (.iload_n 1, 1) := by decide +kernel
theorem dX6_mean_18 : decode cX6_mean 18 = .ok (.aload_n 0, 1) := by decide +kernel
theorem dX6_mean_19 : decode cX6_mean 19 = .ok (.getfield 91, 3) := by decide +kernel
theorem dX6_mean_22 : decode cX6_mean 22 = .ok (.iload_n 2, 1) := by decide +kernel
theorem dX6_mean_23 : decode cX6_mean 23 = .ok (.invokestatic 76, 3) := by decide +kernel
theorem dX6_mean_26 : decode cX6_mean 26 = .ok (.iadd, 1) := by decide +kernel
theorem dX6_mean_27 : decode cX6_mean 27 = .ok (.istore_n 1, 1) := by decide +kernel
theorem dX6_mean_28 : decode cX6_mean 28 = .ok (.iinc 2 1, 3) := by decide +kernel
theorem dX6_mean_31 : decode cX6_mean 31 = .ok (.goto (-22), 3) := by decide +kernel
theorem dX6_mean_34 : decode cX6_mean 34 = .ok (.aload_n 0, 1) := by decide +kernel
theorem dX6_mean_35 : decode cX6_mean 35 = .ok (.getfield 62, 3) := by decide +kernel
theorem dX6_mean_38 : decode cX6_mean 38 = .ok (.ifCond .ne 7, 3) := by decide +kernel
theorem dX6_mean_41 : decode cX6_mean 41 = .ok (.dconst 0, 1) := by decide +kernel
theorem dX6_mean_42 : decode cX6_mean 42 = .ok (.goto 11, 3) := by decide +kernel
theorem dX6_mean_45 : decode cX6_mean 45 = .ok (.iload_n 1, 1) := by decide +kernel
theorem dX6_mean_46 : decode cX6_mean 46 = .ok (.i2d, 1) := by decide +kernel
theorem dX6_mean_47 : decode cX6_mean 47 = .ok (.aload_n 0, 1) := by decide +kernel
theorem dX6_mean_48 : decode cX6_mean 48 = .ok (.getfield 62, 3) := by decide +kernel
theorem dX6_mean_51 : decode cX6_mean 51 = .ok (.i2d, 1) := by decide +kernel
theorem dX6_mean_52 : decode cX6_mean 52 = .ok (.ddiv, 1) := by decide +kernel
theorem dX6_mean_53 : decode cX6_mean 53 = .ok (.dreturn, 1) := by decide +kernel
set_option maxRecDepth 20000 in
theorem ggX6_digest_X6_counted : GoodIn wsX6_digest wsX6_counted := goodIn_r _ [20, 12, 21, 15, 22, 4, 23, 24, 25, 26, 27, 19, 28, 29, 30, 31, 101, 102, 103, 104, 105, 106, 107, 108, 109, 110, 111, 112, 113, 114, 115, 116, 117, 118, 119, 120, 121, 122, 123, 124, 125] (by decide +kernel) (by decide +kernel)
set_option maxRecDepth 20000 in
theorem gX6_digest_X6_counted : GoodIn wsX6_digest (wsV RX6 167 RX6 yX6_counted wsX6_counted) := goodIn_app (goodIn_of _ (by decide +kernel)) ggX6_digest_X6_counted
set_option maxRecDepth 20000 in
theorem ggX6_digest_X6_shipTold : GoodIn wsX6_digest wsX6_shipTold := goodIn_r _ [35, 4, 21, 36, 37, 38, 39, 19, 40, 11, 12, 13, 14, 41, 42, 43, 44, 26, 27, 28, 29, 30, 31, 45, 46, 47, 48, 10, 49, 50, 51, 52, 53, 54, 55, 56, 57, 9, 58, 59, 60, 61, 62, 63, 64, 65, 66, 5, 67, 68, 69, 70, 7, 8, 6, 101, 102, 103, 104, 105, 106, 107, 108, 109, 110, 111, 112, 113, 114, 115, 116, 117, 118, 119, 120, 121, 122, 123, 124, 125] (by decide +kernel) (by decide +kernel)
set_option maxRecDepth 20000 in
theorem gX6_digest_X6_shipTold : GoodIn wsX6_digest (wsV RX6 161 RX6 yX6_shipTold wsX6_shipTold) := goodIn_app (goodIn_of _ (by decide +kernel)) ggX6_digest_X6_shipTold
set_option maxRecDepth 20000 in
theorem ggX6_digest_X6_mastTold : GoodIn wsX6_digest wsX6_mastTold := goodIn_r _ [74, 4, 58, 53, 21, 13, 26, 27, 19, 28, 29, 30, 31, 49, 50, 51, 52, 59, 60, 61, 62, 75, 76, 77, 78, 15, 79, 22, 80, 81, 82, 83, 101, 102, 103, 104, 105, 106, 107, 108, 109, 110, 111, 112, 113, 114, 115, 116, 117, 118, 119, 120, 121, 122, 123, 124, 125] (by decide +kernel) (by decide +kernel)
set_option maxRecDepth 20000 in
theorem gX6_digest_X6_mastTold : GoodIn wsX6_digest (wsV RX6 155 RX6 yX6_mastTold wsX6_mastTold) := goodIn_app (goodIn_of _ (by decide +kernel)) ggX6_digest_X6_mastTold
set_option maxRecDepth 20000 in
theorem ggX6_digest_X6_threadTold : GoodIn wsX6_digest wsX6_threadTold := goodIn_r _ [87, 15, 4, 79, 88, 89, 22, 90, 91, 92, 19, 93, 94, 95, 43, 96, 41, 42, 44, 97, 98, 99, 100, 58, 101, 102, 103, 104, 105, 106, 107, 108, 109, 110, 111, 112, 113, 114, 115, 116, 117, 118, 119, 120, 121, 122, 123, 124, 125] (by decide +kernel) (by decide +kernel)
set_option maxRecDepth 20000 in
theorem gX6_digest_X6_threadTold : GoodIn wsX6_digest (wsV RX6 158 RX6 yX6_threadTold wsX6_threadTold) := goodIn_app (goodIn_of _ (by decide +kernel)) ggX6_digest_X6_threadTold
theorem dX6_digest_0 : decode cX6_digest 0 = .ok (.aload_n 0, 1) := by decide +kernel
theorem dX6_digest_1 : decode cX6_digest 1 = .ok (.iconst 0, 1) := by decide +kernel
theorem dX6_digest_2 : decode cX6_digest 2 = .ok (.putfield 59, 3) := by decide +kernel
theorem dX6_digest_5 : decode cX6_digest 5 = .ok (.ldc2_w 179, 3) := by decide +kernel
theorem dX6_digest_8 : decode cX6_digest 8 = .ok (.lstore_n 1, 1) := by decide +kernel
theorem dX6_digest_9 : decode cX6_digest 9 = .ok (.iconst 0, 1) := by decide +kernel
theorem dX6_digest_10 : decode cX6_digest 10 = .ok (.istore_n 3, 1) := by decide +kernel
theorem dX6_digest_11 : decode cX6_digest 11 = .ok (.iload_n 3, 1) := by decide +kernel
theorem dX6_digest_12 : decode cX6_digest 12 = .ok (.bipush 8, 2) := by decide +kernel
theorem dX6_digest_14 : decode cX6_digest 14 = .ok (.if_icmp .ge 22, 3) := by decide +kernel
theorem dX6_digest_17 : decode cX6_digest 17 = .ok (.lload_n 1, 1) := by decide +kernel
theorem dX6_digest_18 : decode cX6_digest 18 = .ok (.ldc2_w 181, 3) := by decide +kernel
theorem dX6_digest_21 : decode cX6_digest 21 = .ok (.lmul, 1) := by decide +kernel
theorem dX6_digest_22 : decode cX6_digest 22 = .ok (.aload_n 0, 1) := by decide +kernel
theorem dX6_digest_23 : decode cX6_digest 23 = .ok (.iload_n 3, 1) := by decide +kernel
theorem dX6_digest_24 : decode cX6_digest 24 = .ok (.invokevirtual 167, 3) := by decide +kernel
theorem dX6_digest_27 : decode cX6_digest 27 = .ok (.i2l, 1) := by decide +kernel
theorem dX6_digest_28 : decode cX6_digest 28 = .ok (.ladd, 1) := by decide +kernel
theorem dX6_digest_29 : decode cX6_digest 29 = .ok (.lstore_n 1, 1) := by decide +kernel
theorem dX6_digest_30 : decode cX6_digest 30 = .ok (.iinc 3 1, 3) := by decide +kernel
theorem dX6_digest_33 : decode cX6_digest 33 = .ok (.goto (-22), 3) := by decide +kernel
theorem dX6_digest_36 : decode cX6_digest 36 = .ok (.iconst 0, 1) := by decide +kernel
theorem dX6_digest_37 : decode cX6_digest 37 = .ok (.istore_n 3, 1) := by decide +kernel
theorem dX6_digest_38 : decode cX6_digest 38 = .ok (.iload_n 3, 1) := by decide +kernel
theorem dX6_digest_39 : decode cX6_digest 39 = .ok (.bipush 6, 2) := by decide +kernel
theorem dX6_digest_41 : decode cX6_digest 41 = .ok (.if_icmp .ge 22, 3) := by decide +kernel
theorem dX6_digest_44 : decode cX6_digest 44 = .ok (.lload_n 1, 1) := by decide +kernel
theorem dX6_digest_45 : decode cX6_digest 45 = .ok (.ldc2_w 181, 3) := by decide +kernel
theorem dX6_digest_48 : decode cX6_digest 48 = .ok (.lmul, 1) := by decide +kernel
theorem dX6_digest_49 : decode cX6_digest 49 = .ok (.aload_n 0, 1) := by decide +kernel
theorem dX6_digest_50 : decode cX6_digest 50 = .ok (.iload_n 3, 1) := by decide +kernel
theorem dX6_digest_51 : decode cX6_digest 51 = .ok (.invokevirtual 161, 3) := by decide +kernel
theorem dX6_digest_54 : decode cX6_digest 54 = .ok (.i2l, 1) := by decide +kernel
theorem dX6_digest_55 : decode cX6_digest 55 = .ok (.ladd, 1) := by decide +kernel
theorem dX6_digest_56 : decode cX6_digest 56 = .ok (.lstore_n 1, 1) := by decide +kernel
theorem dX6_digest_57 : decode cX6_digest 57 = .ok (.iinc 3 1, 3) := by decide +kernel
theorem dX6_digest_60 : decode cX6_digest 60 = .ok (.goto (-22), 3) := by decide +kernel
theorem dX6_digest_63 : decode cX6_digest 63 = .ok (.bipush 7, 2) := by decide +kernel
theorem dX6_digest_65 : decode cX6_digest 65 = .ok (.newarray .int, 2) := by decide +kernel
theorem dX6_digest_67 : decode cX6_digest 67 = .ok (.dup, 1) := by decide +kernel
theorem dX6_digest_68 : decode cX6_digest 68 = .ok (.iconst 0, 1) := by decide +kernel
theorem dX6_digest_69 : decode cX6_digest 69 = .ok (.aload_n 0, 1) := by decide +kernel
theorem dX6_digest_70 : decode cX6_digest 70 = .ok (.getfield 7, 3) := by decide +kernel
theorem dX6_digest_73 : decode cX6_digest 73 = .ok (.iastore, 1) := by decide +kernel
theorem dX6_digest_74 : decode cX6_digest 74 = .ok (.dup, 1) := by decide +kernel
theorem dX6_digest_75 : decode cX6_digest 75 = .ok (.iconst 1, 1) := by decide +kernel
theorem dX6_digest_76 : decode cX6_digest 76 = .ok (.aload_n 0, 1) := by decide +kernel
theorem dX6_digest_77 : decode cX6_digest 77 = .ok (.getfield 13, 3) := by decide +kernel
theorem dX6_digest_80 : decode cX6_digest 80 = .ok (.iastore, 1) := by decide +kernel
theorem dX6_digest_81 : decode cX6_digest 81 = .ok (.dup, 1) := by decide +kernel
theorem dX6_digest_82 : decode cX6_digest 82 = .ok (.iconst 2, 1) := by decide +kernel
theorem dX6_digest_83 : decode cX6_digest 83 = .ok (.aload_n 0, 1) := by decide +kernel
theorem dX6_digest_84 : decode cX6_digest 84 = .ok (.getfield 16, 3) := by decide +kernel
theorem dX6_digest_87 : decode cX6_digest 87 = .ok (.iastore, 1) := by decide +kernel
theorem dX6_digest_88 : decode cX6_digest 88 = .ok (.dup, 1) := by decide +kernel
theorem dX6_digest_89 : decode cX6_digest 89 = .ok (.iconst 3, 1) := by decide +kernel
theorem dX6_digest_90 : decode cX6_digest 90 = .ok (.aload_n 0, 1) := by decide +kernel
theorem dX6_digest_91 : decode cX6_digest 91 = .ok (.getfield 103, 3) := by decide +kernel
theorem dX6_digest_94 : decode cX6_digest 94 = .ok (.iastore, 1) := by decide +kernel
theorem dX6_digest_95 : decode cX6_digest 95 = .ok (.dup, 1) := by decide +kernel
theorem dX6_digest_96 : decode cX6_digest 96 = .ok (.iconst 4, 1) := by decide +kernel
theorem dX6_digest_97 : decode cX6_digest 97 = .ok (.aload_n 0, 1) := by decide +kernel
theorem dX6_digest_98 : decode cX6_digest 98 = .ok (.getfield 19, 3) := by decide +kernel
theorem dX6_digest_101 : decode cX6_digest 101 = .ok (.iastore, 1) := by decide +kernel
theorem dX6_digest_102 : decode cX6_digest 102 = .ok (.dup, 1) := by decide +kernel
theorem dX6_digest_103 : decode cX6_digest 103 = .ok (.iconst 5, 1) := by decide +kernel
theorem dX6_digest_104 : decode cX6_digest 104 = .ok (.aload_n 0, 1) := by decide +kernel
theorem dX6_digest_105 : decode cX6_digest 105 = .ok (.getfield 22, 3) := by decide +kernel
theorem dX6_digest_108 : decode cX6_digest 108 = .ok (.iastore, 1) := by decide +kernel
theorem dX6_digest_109 : decode cX6_digest 109 = .ok (.dup, 1) := by decide +kernel
theorem dX6_digest_110 : decode cX6_digest 110 = .ok (.bipush 6, 2) := by decide +kernel
theorem dX6_digest_112 : decode cX6_digest 112 = .ok (.aload_n 0, 1) := by decide +kernel
theorem dX6_digest_113 : decode cX6_digest 113 = .ok (.getfield 25, 3) := by decide +kernel
theorem dX6_digest_116 : decode cX6_digest 116 = .ok (.iastore, 1) := by decide +kernel
theorem dX6_digest_117 : decode cX6_digest 117 = .ok (.astore_n 3, 1) := by decide +kernel
theorem dX6_digest_118 : decode cX6_digest 118 = .ok (.iconst 0, 1) := by decide +kernel
theorem dX6_digest_119 : decode cX6_digest 119 = .ok (.istore 4, 2) := by decide +kernel
theorem dX6_digest_121 : decode cX6_digest 121 = .ok (.iload 4, 2) := by decide +kernel
theorem dX6_digest_123 : decode cX6_digest 123 = .ok (.bipush 7, 2) := by decide +kernel
theorem dX6_digest_125 : decode cX6_digest 125 = .ok (.if_icmp .ge 21, 3) := by decide +kernel
theorem dX6_digest_128 : decode cX6_digest 128 = .ok (.lload_n 1, 1) := by decide +kernel
theorem dX6_digest_129 : decode cX6_digest 129 = .ok (.ldc2_w 181, 3) := by decide +kernel
theorem dX6_digest_132 : decode cX6_digest 132 = .ok (.lmul, 1) := by decide +kernel
theorem dX6_digest_133 : decode cX6_digest 133 = .ok (.aload_n 3, 1) := by decide +kernel
theorem dX6_digest_134 : decode cX6_digest 134 = .ok (.iload 4, 2) := by decide +kernel
theorem dX6_digest_136 : decode cX6_digest 136 = .ok (.iaload, 1) := by decide +kernel
theorem dX6_digest_137 : decode cX6_digest 137 = .ok (.i2l, 1) := by decide +kernel
theorem dX6_digest_138 : decode cX6_digest 138 = .ok (.ladd, 1) := by decide +kernel
theorem dX6_digest_139 : decode cX6_digest 139 = .ok (.lstore_n 1, 1) := by decide +kernel
theorem dX6_digest_140 : decode cX6_digest 140 = .ok (.iinc 4 1, 3) := by decide +kernel
theorem dX6_digest_143 : decode cX6_digest 143 = .ok (.goto (-22), 3) := by decide +kernel
theorem dX6_digest_146 : decode cX6_digest 146 = .ok (.iconst 0, 1) := by decide +kernel
theorem dX6_digest_147 : decode cX6_digest 147 = .ok (.istore 4, 2) := by decide +kernel
theorem dX6_digest_149 : decode cX6_digest 149 = .ok (.iload 4, 2) := by decide +kernel
theorem dX6_digest_151 : decode cX6_digest 151 = .ok (.aload_n 0, 1) := by decide +kernel
theorem dX6_digest_152 : decode cX6_digest 152 = .ok (.getfield 62, 3) := by decide +kernel
theorem dX6_digest_155 : decode cX6_digest 155 = .ok (.if_icmp .ge 82, 3) := by decide +kernel
theorem dX6_digest_158 : decode cX6_digest 158 = .ok (.iconst 0, 1) := by decide +kernel
theorem dX6_digest_159 : decode cX6_digest 159 = .ok (.istore 5, 2) := by decide +kernel
theorem dX6_digest_161 : decode cX6_digest 161 = .ok (.iload 5, 2) := by decide +kernel
theorem dX6_digest_163 : decode cX6_digest 163 = .ok (.bipush 8, 2) := by decide +kernel
theorem dX6_digest_165 : decode cX6_digest 165 = .ok (.if_icmp .ge 25, 3) := by decide +kernel
theorem dX6_digest_168 : decode cX6_digest 168 = .ok (.lload_n 1, 1) := by decide +kernel
theorem dX6_digest_169 : decode cX6_digest 169 = .ok (.ldc2_w 181, 3) := by decide +kernel
theorem dX6_digest_172 : decode cX6_digest 172 = .ok (.lmul, 1) := by decide +kernel
theorem dX6_digest_173 : decode cX6_digest 173 = .ok (.aload_n 0, 1) := by decide +kernel
theorem dX6_digest_174 : decode cX6_digest 174 = .ok (.iload 4, 2) := by decide +kernel
theorem dX6_digest_176 : decode cX6_digest 176 = .ok (.iload 5, 2) := by decide +kernel
theorem dX6_digest_178 : decode cX6_digest 178 = .ok (.invokevirtual 155, 3) := by decide +kernel
theorem dX6_digest_181 : decode cX6_digest 181 = .ok (.i2l, 1) := by decide +kernel
theorem dX6_digest_182 : decode cX6_digest 182 = .ok (.ladd, 1) := by decide +kernel
theorem dX6_digest_183 : decode cX6_digest 183 = .ok (.lstore_n 1, 1) := by decide +kernel
theorem dX6_digest_184 : decode cX6_digest 184 = .ok (.iinc 5 1, 3) := by decide +kernel
theorem dX6_digest_187 : decode cX6_digest 187 = .ok (.goto (-26), 3) := by decide +kernel
theorem dX6_digest_190 : decode cX6_digest 190 = .ok (.iconst 0, 1) := by decide +kernel
theorem dX6_digest_191 : decode cX6_digest 191 = .ok (.istore 5, 2) := by decide +kernel
theorem dX6_digest_193 : decode cX6_digest 193 = .ok (.iload 5, 2) := by decide +kernel
theorem dX6_digest_195 : decode cX6_digest 195 = .ok (.aload_n 0, 1) := by decide +kernel
theorem dX6_digest_196 : decode cX6_digest 196 = .ok (.getfield 35, 3) := by decide +kernel
theorem dX6_digest_199 : decode cX6_digest 199 = .ok (.iload 4, 2) := by decide +kernel
theorem dX6_digest_201 : decode cX6_digest 201 = .ok (.iaload, 1) := by decide +kernel
theorem dX6_digest_202 : decode cX6_digest 202 = .ok (.if_icmp .ge 29, 3) := by decide +kernel
theorem dX6_digest_205 : decode cX6_digest 205 = .ok (.lload_n 1, 1) := by decide +kernel
theorem dX6_digest_206 : decode cX6_digest 206 = .ok (.ldc2_w 181, 3) := by decide +kernel
theorem dX6_digest_209 : decode cX6_digest 209 = .ok (.lmul, 1) := by decide +kernel
theorem dX6_digest_210 : decode cX6_digest 210 = .ok (.aload_n 0, 1) := by decide +kernel
theorem dX6_digest_211 : decode cX6_digest 211 = .ok (.getfield 38, 3) := by decide +kernel
theorem dX6_digest_214 : decode cX6_digest 214 = .ok (.iconst 3, 1) := by decide +kernel
theorem dX6_digest_215 : decode cX6_digest 215 = .ok (.iload 4, 2) := by decide +kernel
theorem dX6_digest_217 : decode cX6_digest 217 = .ok (.imul, 1) := by decide +kernel
theorem dX6_digest_218 : decode cX6_digest 218 = .ok (.iload 5, 2) := by decide +kernel
theorem dX6_digest_220 : decode cX6_digest 220 = .ok (.iadd, 1) := by decide +kernel
theorem dX6_digest_221 : decode cX6_digest 221 = .ok (.iaload, 1) := by decide +kernel
theorem dX6_digest_222 : decode cX6_digest 222 = .ok (.i2l, 1) := by decide +kernel
theorem dX6_digest_223 : decode cX6_digest 223 = .ok (.ladd, 1) := by decide +kernel
theorem dX6_digest_224 : decode cX6_digest 224 = .ok (.lstore_n 1, 1) := by decide +kernel
theorem dX6_digest_225 : decode cX6_digest 225 = .ok (.iinc 5 1, 3) := by decide +kernel
theorem dX6_digest_228 : decode cX6_digest 228 = .ok (.goto (-35), 3) := by decide +kernel
theorem dX6_digest_231 : decode cX6_digest 231 = .ok (.iinc 4 1, 3) := by decide +kernel
theorem dX6_digest_234 : decode cX6_digest 234 = .ok (.goto (-85), 3) := by decide +kernel
theorem dX6_digest_237 : decode cX6_digest 237 = .ok (.iconst 0, 1) := by decide +kernel
theorem dX6_digest_238 : decode cX6_digest 238 = .ok (.istore 4, 2) := by decide +kernel
theorem dX6_digest_240 : decode cX6_digest 240 = .ok (.iload 4, 2) := by decide +kernel
theorem dX6_digest_242 : decode cX6_digest 242 = .ok (.aload_n 0, 1) := by decide +kernel
theorem dX6_digest_243 : decode cX6_digest 243 = .ok (.getfield 69, 3) := by decide +kernel
theorem dX6_digest_246 : decode cX6_digest 246 = .ok (.if_icmp .ge 40, 3) := by decide +kernel
theorem dX6_digest_249 : decode cX6_digest 249 = .ok (.iconst 0, 1) := by decide +kernel
theorem dX6_digest_250 : decode cX6_digest 250 = .ok (.istore 5, 2) := by decide +kernel
theorem dX6_digest_252 : decode cX6_digest 252 = .ok (.iload 5, 2) := by decide +kernel
theorem dX6_digest_254 : decode cX6_digest 254 = .ok (.iconst 5, 1) := by decide +kernel
theorem dX6_digest_255 : decode cX6_digest 255 = .ok (.if_icmp .ge 25, 3) := by decide +kernel
theorem dX6_digest_258 : decode cX6_digest 258 = .ok (.lload_n 1, 1) := by decide +kernel
theorem dX6_digest_259 : decode cX6_digest 259 = .ok (.ldc2_w 181, 3) := by decide +kernel
theorem dX6_digest_262 : decode cX6_digest 262 = .ok (.lmul, 1) := by decide +kernel
theorem dX6_digest_263 : decode cX6_digest 263 = .ok (.aload_n 0, 1) := by decide +kernel
theorem dX6_digest_264 : decode cX6_digest 264 = .ok (.iload 4, 2) := by decide +kernel
theorem dX6_digest_266 : decode cX6_digest 266 = .ok (.iload 5, 2) := by decide +kernel
theorem dX6_digest_268 : decode cX6_digest 268 = .ok (.invokevirtual 158, 3) := by decide +kernel
theorem dX6_digest_271 : decode cX6_digest 271 = .ok (.i2l, 1) := by decide +kernel
theorem dX6_digest_272 : decode cX6_digest 272 = .ok (.ladd, 1) := by decide +kernel
theorem dX6_digest_273 : decode cX6_digest 273 = .ok (.lstore_n 1, 1) := by decide +kernel
theorem dX6_digest_274 : decode cX6_digest 274 = .ok (.iinc 5 1, 3) := by decide +kernel
theorem dX6_digest_277 : decode cX6_digest 277 = .ok (.goto (-25), 3) := by decide +kernel
theorem dX6_digest_280 : decode cX6_digest 280 = .ok (.iinc 4 1, 3) := by decide +kernel
theorem dX6_digest_283 : decode cX6_digest 283 = .ok (.goto (-43), 3) := by decide +kernel
theorem dX6_digest_286 : decode cX6_digest 286 = .ok (.lload_n 1, 1) := by decide +kernel
theorem dX6_digest_287 : decode cX6_digest 287 = .ok (.lreturn, 1) := by decide +kernel
theorem dJ9_max_7cf53_0 : decode cJ9_max_7cf53 0 = .ok (.iload_n 0, 1) := by decide +kernel
theorem dJ9_max_7cf53_1 : decode cJ9_max_7cf53 1 = .ok (.iload_n 1, 1) := by decide +kernel
theorem dJ9_max_7cf53_2 : decode cJ9_max_7cf53 2 = .ok (.if_icmp .lt 7, 3) := by decide +kernel
theorem dJ9_max_7cf53_5 : decode cJ9_max_7cf53 5 = .ok (.iload_n 0, 1) := by decide +kernel
theorem dJ9_max_7cf53_6 : decode cJ9_max_7cf53 6 = .ok (.goto 4, 3) := by decide +kernel
theorem dJ9_max_7cf53_9 : decode cJ9_max_7cf53 9 = .ok (.iload_n 1, 1) := by decide +kernel
theorem dJ9_max_7cf53_10 : decode cJ9_max_7cf53 10 = .ok (.ireturn, 1) := by decide +kernel
theorem dJ9_min_7cf53_0 : decode cJ9_min_7cf53 0 = .ok (.iload_n 0, 1) := by decide +kernel
theorem dJ9_min_7cf53_1 : decode cJ9_min_7cf53 1 = .ok (.iload_n 1, 1) := by decide +kernel
theorem dJ9_min_7cf53_2 : decode cJ9_min_7cf53 2 = .ok (.if_icmp .gt 7, 3) := by decide +kernel
theorem dJ9_min_7cf53_5 : decode cJ9_min_7cf53 5 = .ok (.iload_n 0, 1) := by decide +kernel
theorem dJ9_min_7cf53_6 : decode cJ9_min_7cf53 6 = .ok (.goto 4, 3) := by decide +kernel
theorem dJ9_min_7cf53_9 : decode cJ9_min_7cf53 9 = .ok (.iload_n 1, 1) := by decide +kernel
theorem dJ9_min_7cf53_10 : decode cJ9_min_7cf53 10 = .ok (.ireturn, 1) := by decide +kernel
theorem dJ7_fill_53178_0 : decode cJ7_fill_53178 0 = .ok (.iconst 0, 1) := by decide +kernel
theorem dJ7_fill_53178_1 : decode cJ7_fill_53178 1 = .ok (.istore_n 2, 1) := by decide +kernel
theorem dJ7_fill_53178_2 : decode cJ7_fill_53178 2 = .ok (.aload_n 0, 1) := by decide +kernel
theorem dJ7_fill_53178_3 : decode cJ7_fill_53178 3 = .ok (.arraylength, 1) := by decide +kernel
theorem dJ7_fill_53178_4 : decode cJ7_fill_53178 4 = .ok (.istore_n 3, 1) := by decide +kernel
theorem dJ7_fill_53178_5 : decode cJ7_fill_53178 5 = .ok (.iload_n 2, 1) := by decide +kernel
theorem dJ7_fill_53178_6 : decode cJ7_fill_53178 6 = .ok (.iload_n 3, 1) := by decide +kernel
theorem dJ7_fill_53178_7 : decode cJ7_fill_53178 7 = .ok (.if_icmp .ge 13, 3) := by decide +kernel
theorem dJ7_fill_53178_10 : decode cJ7_fill_53178 10 = .ok (.aload_n 0, 1) := by decide +kernel
theorem dJ7_fill_53178_11 : decode cJ7_fill_53178 11 = .ok (.iload_n 2, 1) := by decide +kernel
theorem dJ7_fill_53178_12 : decode cJ7_fill_53178 12 = .ok (.iload_n 1, 1) := by decide +kernel
theorem dJ7_fill_53178_13 : decode cJ7_fill_53178 13 = .ok (.iastore, 1) := by decide +kernel
theorem dJ7_fill_53178_14 : decode cJ7_fill_53178 14 = .ok (.iinc 2 1, 3) := by decide +kernel
theorem dJ7_fill_53178_17 : decode cJ7_fill_53178 17 = .ok (.goto (-12), 3) := by decide +kernel
theorem dJ7_fill_53178_20 : decode cJ7_fill_53178 20 = .ok (.return_, 1) := by decide +kernel
set_option maxRecDepth 20000 in
theorem ggL_setBottle_X5_setBottle : GoodIn wsL_setBottle wsX5_setBottle := goodIn_ca (goodIn_ca (goodIn_r _ [7, 8, 9, 10, 11, 12, 13, 14, 15, 16, 17, 18, 19, 6, 20, 21, 22, 23, 24, 25, 26, 27, 28, 29, 30, 31, 32, 33, 34, 35, 36, 37, 38] (by decide +kernel) (by decide +kernel)) (goodIn_sub (fun _ h => List.mem_cons_of_mem _ (List.mem_append_left _ (List.mem_append_right _ h))) (by decide +kernel))) (goodIn_sub (fun _ h => List.mem_cons_of_mem _ (List.mem_append_right _ h)) (by decide +kernel))
set_option maxRecDepth 20000 in
theorem gL_setBottle_X5_setBottle : GoodIn wsL_setBottle (wsV RL 7 RX5 yX5_setBottle wsX5_setBottle) := goodIn_app (goodIn_of _ (by decide +kernel)) ggL_setBottle_X5_setBottle
theorem dL_setBottle_0 : decode cL_setBottle 0 = .ok (.aload 5, 2) := by decide +kernel
theorem dL_setBottle_2 : decode cL_setBottle 2 = .ok (.iconst 0, 1) := by decide +kernel
theorem dL_setBottle_3 : decode cL_setBottle 3 = .ok (.aload_n 0, 1) := by decide +kernel
theorem dL_setBottle_4 : decode cL_setBottle 4 = .ok (.iload_n 1, 1) := by decide +kernel
theorem dL_setBottle_5 : decode cL_setBottle 5 = .ok (.iload_n 2, 1) := by decide +kernel
theorem dL_setBottle_6 : decode cL_setBottle 6 = .ok (.iload_n 3, 1) := by decide +kernel
theorem dL_setBottle_7 : decode cL_setBottle 7 = .ok (.iload 4, 2) := by decide +kernel
theorem dL_setBottle_9 : decode cL_setBottle 9 = .ok (.invokevirtual 7, 3) := by decide +kernel
theorem dL_setBottle_12 : decode cL_setBottle 12 = .ok (.i2l, 1) := by decide +kernel
theorem dL_setBottle_13 : decode cL_setBottle 13 = .ok (.lastore, 1) := by decide +kernel
theorem dL_setBottle_14 : decode cL_setBottle 14 = .ok (.goto 11, 3) := by decide +kernel
theorem dL_setBottle_17 : decode cL_setBottle 17 = .ok (.astore 6, 2) := by decide +kernel
theorem dL_setBottle_19 : decode cL_setBottle 19 = .ok (.iconst 1, 1) := by decide +kernel
theorem dL_setBottle_20 : decode cL_setBottle 20 = .ok (.ireturn, 1) := by decide +kernel
theorem dL_setBottle_21 : decode cL_setBottle 21 = .ok (.astore 6, 2) := by decide +kernel
theorem dL_setBottle_23 : decode cL_setBottle 23 = .ok (.iconst 2, 1) := by decide +kernel
theorem dL_setBottle_24 : decode cL_setBottle 24 = .ok (.ireturn, 1) := by decide +kernel
theorem dL_setBottle_25 : decode cL_setBottle 25 = .ok (.iconst 0, 1) := by decide +kernel
theorem dL_setBottle_26 : decode cL_setBottle 26 = .ok (.ireturn, 1) := by decide +kernel
set_option maxRecDepth 20000 in
theorem ggL_setHull_X5_setHull : GoodIn wsL_setHull wsX5_setHull := goodIn_ca (goodIn_ca (goodIn_r _ [7, 8, 9, 10, 11, 12, 13, 14, 15, 16, 17, 18, 19, 6, 20, 21, 22, 23, 24, 25, 26, 27, 28, 29, 30, 31, 32, 33, 34, 35, 36, 37] (by decide +kernel) (by decide +kernel)) (goodIn_sub (fun _ h => List.mem_cons_of_mem _ (List.mem_append_left _ (List.mem_append_right _ h))) (by decide +kernel))) (goodIn_sub (fun _ h => List.mem_cons_of_mem _ (List.mem_append_right _ h)) (by decide +kernel))
set_option maxRecDepth 20000 in
theorem gL_setHull_X5_setHull : GoodIn wsL_setHull (wsV RL 17 RX5 yX5_setHull wsX5_setHull) := goodIn_app (goodIn_of _ (by decide +kernel)) ggL_setHull_X5_setHull
theorem dL_setHull_0 : decode cL_setHull 0 = .ok (.aload 4, 2) := by decide +kernel
theorem dL_setHull_2 : decode cL_setHull 2 = .ok (.iconst 0, 1) := by decide +kernel
theorem dL_setHull_3 : decode cL_setHull 3 = .ok (.aload_n 0, 1) := by decide +kernel
theorem dL_setHull_4 : decode cL_setHull 4 = .ok (.iload_n 1, 1) := by decide +kernel
theorem dL_setHull_5 : decode cL_setHull 5 = .ok (.iload_n 2, 1) := by decide +kernel
theorem dL_setHull_6 : decode cL_setHull 6 = .ok (.iload_n 3, 1) := by decide +kernel
theorem dL_setHull_7 : decode cL_setHull 7 = .ok (.invokevirtual 17, 3) := by decide +kernel
theorem dL_setHull_10 : decode cL_setHull 10 = .ok (.i2l, 1) := by decide +kernel
theorem dL_setHull_11 : decode cL_setHull 11 = .ok (.lastore, 1) := by decide +kernel
theorem dL_setHull_12 : decode cL_setHull 12 = .ok (.goto 11, 3) := by decide +kernel
theorem dL_setHull_15 : decode cL_setHull 15 = .ok (.astore 5, 2) := by decide +kernel
theorem dL_setHull_17 : decode cL_setHull 17 = .ok (.iconst 1, 1) := by decide +kernel
theorem dL_setHull_18 : decode cL_setHull 18 = .ok (.ireturn, 1) := by decide +kernel
theorem dL_setHull_19 : decode cL_setHull 19 = .ok (.astore 5, 2) := by decide +kernel
theorem dL_setHull_21 : decode cL_setHull 21 = .ok (.iconst 2, 1) := by decide +kernel
theorem dL_setHull_22 : decode cL_setHull 22 = .ok (.ireturn, 1) := by decide +kernel
theorem dL_setHull_23 : decode cL_setHull 23 = .ok (.iconst 0, 1) := by decide +kernel
theorem dL_setHull_24 : decode cL_setHull 24 = .ok (.ireturn, 1) := by decide +kernel
set_option maxRecDepth 20000 in
theorem ggL_step_X5_step : GoodIn wsL_step wsX5_step := goodIn_ca (goodIn_ca (goodIn_r _ [7, 8, 9, 10, 11, 12, 13, 14, 15, 16, 17, 18, 19, 20, 21, 6, 22, 23, 24, 25, 26, 27, 28, 29, 30, 31, 32, 33, 34, 35, 36, 37, 38, 39, 40, 41, 42, 43, 44, 45, 46, 47] (by decide +kernel) (by decide +kernel)) (goodIn_sub (fun _ h => List.mem_cons_of_mem _ (List.mem_append_left _ (List.mem_append_right _ h))) (by decide +kernel))) (goodIn_sub (fun _ h => List.mem_cons_of_mem _ (List.mem_append_right _ h)) (by decide +kernel))
set_option maxRecDepth 20000 in
theorem gL_step_X5_step : GoodIn wsL_step (wsV RL 21 RX5 yX5_step wsX5_step) := goodIn_app (goodIn_of _ (by decide +kernel)) ggL_step_X5_step
theorem dL_step_0 : decode cL_step 0 = .ok (.aload_n 3, 1) := by decide +kernel
theorem dL_step_1 : decode cL_step 1 = .ok (.iconst 0, 1) := by decide +kernel
theorem dL_step_2 : decode cL_step 2 = .ok (.aload_n 0, 1) := by decide +kernel
theorem dL_step_3 : decode cL_step 3 = .ok (.iload_n 1, 1) := by decide +kernel
theorem dL_step_4 : decode cL_step 4 = .ok (.iload_n 2, 1) := by decide +kernel
theorem dL_step_5 : decode cL_step 5 = .ok (.invokevirtual 21, 3) := by decide +kernel
theorem dL_step_8 : decode cL_step 8 = .ok (.i2l, 1) := by decide +kernel
theorem dL_step_9 : decode cL_step 9 = .ok (.lastore, 1) := by decide +kernel
theorem dL_step_10 : decode cL_step 10 = .ok (.goto 11, 3) := by decide +kernel
theorem dL_step_13 : decode cL_step 13 = .ok (.astore 4, 2) := by decide +kernel
theorem dL_step_15 : decode cL_step 15 = .ok (.iconst 1, 1) := by decide +kernel
theorem dL_step_16 : decode cL_step 16 = .ok (.ireturn, 1) := by decide +kernel
theorem dL_step_17 : decode cL_step 17 = .ok (.astore 4, 2) := by decide +kernel
theorem dL_step_19 : decode cL_step 19 = .ok (.iconst 2, 1) := by decide +kernel
theorem dL_step_20 : decode cL_step 20 = .ok (.ireturn, 1) := by decide +kernel
theorem dL_step_21 : decode cL_step 21 = .ok (.iconst 0, 1) := by decide +kernel
theorem dL_step_22 : decode cL_step 22 = .ok (.ireturn, 1) := by decide +kernel
set_option maxRecDepth 20000 in
theorem ggL_yard_X5_yard : GoodIn wsL_yard wsX5_yard := goodIn_ca (goodIn_ca (goodIn_ca (goodIn_r _ [8, 9, 10, 11, 12, 13, 14, 15, 16, 17, 18, 19, 20, 21, 7, 22, 23, 24, 25, 26, 27, 28, 29, 30, 31, 32, 33, 34, 35, 36, 37, 38, 39, 40, 41, 42, 43, 44] (by decide +kernel) (by decide +kernel)) (goodIn_sub (fun _ h => List.mem_cons_of_mem _ (List.mem_append_left _ (List.mem_append_left _ (List.mem_append_right _ h)))) (by decide +kernel))) (goodIn_sub (fun _ h => List.mem_cons_of_mem _ (List.mem_append_left _ (List.mem_append_right _ h))) (by decide +kernel))) (goodIn_sub (fun _ h => List.mem_cons_of_mem _ (List.mem_append_right _ h)) (by decide +kernel))
set_option maxRecDepth 20000 in
theorem gL_yard_X5_yard : GoodIn wsL_yard (wsV RL 25 RX5 yX5_yard wsX5_yard) := goodIn_app (goodIn_of _ (by decide +kernel)) ggL_yard_X5_yard
theorem dL_yard_0 : decode cL_yard 0 = .ok (.aload_n 3, 1) := by decide +kernel
theorem dL_yard_1 : decode cL_yard 1 = .ok (.iconst 0, 1) := by decide +kernel
theorem dL_yard_2 : decode cL_yard 2 = .ok (.aload_n 0, 1) := by decide +kernel
theorem dL_yard_3 : decode cL_yard 3 = .ok (.iload_n 1, 1) := by decide +kernel
theorem dL_yard_4 : decode cL_yard 4 = .ok (.iload_n 2, 1) := by decide +kernel
theorem dL_yard_5 : decode cL_yard 5 = .ok (.invokevirtual 25, 3) := by decide +kernel
theorem dL_yard_8 : decode cL_yard 8 = .ok (.i2l, 1) := by decide +kernel
theorem dL_yard_9 : decode cL_yard 9 = .ok (.lastore, 1) := by decide +kernel
theorem dL_yard_10 : decode cL_yard 10 = .ok (.goto 15, 3) := by decide +kernel
theorem dL_yard_13 : decode cL_yard 13 = .ok (.astore 4, 2) := by decide +kernel
theorem dL_yard_15 : decode cL_yard 15 = .ok (.iconst 1, 1) := by decide +kernel
theorem dL_yard_16 : decode cL_yard 16 = .ok (.ireturn, 1) := by decide +kernel
theorem dL_yard_17 : decode cL_yard 17 = .ok (.astore 4, 2) := by decide +kernel
theorem dL_yard_19 : decode cL_yard 19 = .ok (.iconst 2, 1) := by decide +kernel
theorem dL_yard_20 : decode cL_yard 20 = .ok (.ireturn, 1) := by decide +kernel
theorem dL_yard_21 : decode cL_yard 21 = .ok (.astore 4, 2) := by decide +kernel
theorem dL_yard_23 : decode cL_yard 23 = .ok (.iconst 3, 1) := by decide +kernel
theorem dL_yard_24 : decode cL_yard 24 = .ok (.ireturn, 1) := by decide +kernel
theorem dL_yard_25 : decode cL_yard 25 = .ok (.iconst 0, 1) := by decide +kernel
theorem dL_yard_26 : decode cL_yard 26 = .ok (.ireturn, 1) := by decide +kernel
set_option maxRecDepth 20000 in
theorem ggL_lead_X5_lead : GoodIn wsL_lead wsX5_lead := goodIn_ca (goodIn_ca (goodIn_ca (goodIn_r _ [8, 9, 10, 11, 12, 13, 14, 15, 16, 17, 18, 19, 20, 21, 22, 23, 24, 7, 25, 26, 27, 28, 29, 30, 31, 32, 33, 34, 35, 36, 37, 38, 39, 40, 41, 42, 43, 44, 45, 46, 47, 48, 49, 50, 51, 52, 53, 54, 55, 56, 57, 58, 59, 60, 61, 62, 63, 64, 65, 66, 67] (by decide +kernel) (by decide +kernel)) (goodIn_sub (fun _ h => List.mem_cons_of_mem _ (List.mem_append_left _ (List.mem_append_left _ (List.mem_append_right _ h)))) (by decide +kernel))) (goodIn_sub (fun _ h => List.mem_cons_of_mem _ (List.mem_append_left _ (List.mem_append_right _ h))) (by decide +kernel))) (goodIn_sub (fun _ h => List.mem_cons_of_mem _ (List.mem_append_right _ h)) (by decide +kernel))
set_option maxRecDepth 20000 in
theorem gL_lead_X5_lead : GoodIn wsL_lead (wsV RL 30 RX5 yX5_lead wsX5_lead) := goodIn_app (goodIn_of _ (by decide +kernel)) ggL_lead_X5_lead
theorem dL_lead_0 : decode cL_lead 0 = .ok (.aload 4, 2) := by decide +kernel
theorem dL_lead_2 : decode cL_lead 2 = .ok (.iconst 0, 1) := by decide +kernel
theorem dL_lead_3 : decode cL_lead 3 = .ok (.aload_n 0, 1) := by decide +kernel
theorem dL_lead_4 : decode cL_lead 4 = .ok (.iload_n 1, 1) := by decide +kernel
theorem dL_lead_5 : decode cL_lead 5 = .ok (.iload_n 2, 1) := by decide +kernel
theorem dL_lead_6 : decode cL_lead 6 = .ok (.iload_n 3, 1) := by decide +kernel
theorem dL_lead_7 : decode cL_lead 7 = .ok (.invokevirtual 30, 3) := by decide +kernel
theorem dL_lead_10 : decode cL_lead 10 = .ok (.i2l, 1) := by decide +kernel
theorem dL_lead_11 : decode cL_lead 11 = .ok (.lastore, 1) := by decide +kernel
theorem dL_lead_12 : decode cL_lead 12 = .ok (.goto 15, 3) := by decide +kernel
theorem dL_lead_15 : decode cL_lead 15 = .ok (.astore 5, 2) := by decide +kernel
theorem dL_lead_17 : decode cL_lead 17 = .ok (.iconst 1, 1) := by decide +kernel
theorem dL_lead_18 : decode cL_lead 18 = .ok (.ireturn, 1) := by decide +kernel
theorem dL_lead_19 : decode cL_lead 19 = .ok (.astore 5, 2) := by decide +kernel
theorem dL_lead_21 : decode cL_lead 21 = .ok (.iconst 2, 1) := by decide +kernel
theorem dL_lead_22 : decode cL_lead 22 = .ok (.ireturn, 1) := by decide +kernel
theorem dL_lead_23 : decode cL_lead 23 = .ok (.astore 5, 2) := by decide +kernel
theorem dL_lead_25 : decode cL_lead 25 = .ok (.iconst 3, 1) := by decide +kernel
theorem dL_lead_26 : decode cL_lead 26 = .ok (.ireturn, 1) := by decide +kernel
theorem dL_lead_27 : decode cL_lead 27 = .ok (.iconst 0, 1) := by decide +kernel
theorem dL_lead_28 : decode cL_lead 28 = .ok (.ireturn, 1) := by decide +kernel
set_option maxRecDepth 20000 in
theorem ggL_pull_X5_pull : GoodIn wsL_pull wsX5_pull := goodIn_ca (goodIn_ca (goodIn_r _ [7, 8, 9, 10, 11, 12, 13, 14, 15, 16, 17, 18, 19, 20, 21, 22, 23, 24, 25, 6, 26, 27, 28, 29, 30, 31, 32, 33, 34, 35, 36, 37, 38, 39, 40, 41, 42, 43, 44, 45, 46, 47, 48, 49, 50, 51, 52, 53, 54, 55, 56, 57, 58, 59, 60, 61, 62, 63, 64, 65, 66, 67, 68, 69, 70, 71, 72, 73, 74, 75, 76, 77, 78, 79, 80, 81, 82, 83, 84, 85, 86, 87, 88, 89, 90, 91, 92, 93, 94, 95, 96, 97, 98, 99, 100, 101, 102, 103, 104, 105, 106, 107, 108, 109, 110, 111, 112, 113, 114, 115, 116, 117, 118, 119, 120, 121, 122, 123, 124, 125, 126, 127, 128, 129, 130, 131, 132, 133, 134, 135, 136, 137] (by decide +kernel) (by decide +kernel)) (goodIn_sub (fun _ h => List.mem_cons_of_mem _ (List.mem_append_left _ (List.mem_append_right _ h))) (by decide +kernel))) (goodIn_sub (fun _ h => List.mem_cons_of_mem _ (List.mem_append_right _ h)) (by decide +kernel))
set_option maxRecDepth 20000 in
theorem gL_pull_X5_pull : GoodIn wsL_pull (wsV RL 33 RX5 yX5_pull wsX5_pull) := goodIn_app (goodIn_of _ (by decide +kernel)) ggL_pull_X5_pull
theorem dL_pull_0 : decode cL_pull 0 = .ok (.aload_n 2, 1) := by decide +kernel
theorem dL_pull_1 : decode cL_pull 1 = .ok (.iconst 0, 1) := by decide +kernel
theorem dL_pull_2 : decode cL_pull 2 = .ok (.aload_n 0, 1) := by decide +kernel
theorem dL_pull_3 : decode cL_pull 3 = .ok (.iload_n 1, 1) := by decide +kernel
theorem dL_pull_4 : decode cL_pull 4 = .ok (.invokevirtual 33, 3) := by decide +kernel
theorem dL_pull_7 : decode cL_pull 7 = .ok (.i2l, 1) := by decide +kernel
theorem dL_pull_8 : decode cL_pull 8 = .ok (.lastore, 1) := by decide +kernel
theorem dL_pull_9 : decode cL_pull 9 = .ok (.goto 9, 3) := by decide +kernel
theorem dL_pull_12 : decode cL_pull 12 = .ok (.astore_n 3, 1) := by decide +kernel
theorem dL_pull_13 : decode cL_pull 13 = .ok (.iconst 1, 1) := by decide +kernel
theorem dL_pull_14 : decode cL_pull 14 = .ok (.ireturn, 1) := by decide +kernel
theorem dL_pull_15 : decode cL_pull 15 = .ok (.astore_n 3, 1) := by decide +kernel
theorem dL_pull_16 : decode cL_pull 16 = .ok (.iconst 2, 1) := by decide +kernel
theorem dL_pull_17 : decode cL_pull 17 = .ok (.ireturn, 1) := by decide +kernel
theorem dL_pull_18 : decode cL_pull 18 = .ok (.iconst 0, 1) := by decide +kernel
theorem dL_pull_19 : decode cL_pull 19 = .ok (.ireturn, 1) := by decide +kernel
set_option maxRecDepth 20000 in
theorem ggL_glue_X5_glue : GoodIn wsL_glue wsX5_glue := goodIn_ca (goodIn_ca (goodIn_r _ [7, 8, 9, 10, 11, 12, 13, 14, 15, 16, 6, 17, 18, 19, 20, 21, 22, 23, 24, 25, 26, 27, 28, 29, 30, 31, 32, 33, 34, 35, 36, 37, 38] (by decide +kernel) (by decide +kernel)) (goodIn_sub (fun _ h => List.mem_cons_of_mem _ (List.mem_append_left _ (List.mem_append_right _ h))) (by decide +kernel))) (goodIn_sub (fun _ h => List.mem_cons_of_mem _ (List.mem_append_right _ h)) (by decide +kernel))
set_option maxRecDepth 20000 in
theorem gL_glue_X5_glue : GoodIn wsL_glue (wsV RL 37 RX5 yX5_glue wsX5_glue) := goodIn_app (goodIn_of _ (by decide +kernel)) ggL_glue_X5_glue
theorem dL_glue_0 : decode cL_glue 0 = .ok (.aload_n 2, 1) := by decide +kernel
theorem dL_glue_1 : decode cL_glue 1 = .ok (.iconst 0, 1) := by decide +kernel
theorem dL_glue_2 : decode cL_glue 2 = .ok (.aload_n 0, 1) := by decide +kernel
theorem dL_glue_3 : decode cL_glue 3 = .ok (.iload_n 1, 1) := by decide +kernel
theorem dL_glue_4 : decode cL_glue 4 = .ok (.invokevirtual 37, 3) := by decide +kernel
theorem dL_glue_7 : decode cL_glue 7 = .ok (.i2l, 1) := by decide +kernel
theorem dL_glue_8 : decode cL_glue 8 = .ok (.lastore, 1) := by decide +kernel
theorem dL_glue_9 : decode cL_glue 9 = .ok (.goto 9, 3) := by decide +kernel
theorem dL_glue_12 : decode cL_glue 12 = .ok (.astore_n 3, 1) := by decide +kernel
theorem dL_glue_13 : decode cL_glue 13 = .ok (.iconst 1, 1) := by decide +kernel
theorem dL_glue_14 : decode cL_glue 14 = .ok (.ireturn, 1) := by decide +kernel
theorem dL_glue_15 : decode cL_glue 15 = .ok (.astore_n 3, 1) := by decide +kernel
theorem dL_glue_16 : decode cL_glue 16 = .ok (.iconst 2, 1) := by decide +kernel
theorem dL_glue_17 : decode cL_glue 17 = .ok (.ireturn, 1) := by decide +kernel
theorem dL_glue_18 : decode cL_glue 18 = .ok (.iconst 0, 1) := by decide +kernel
theorem dL_glue_19 : decode cL_glue 19 = .ok (.ireturn, 1) := by decide +kernel
set_option maxRecDepth 20000 in
theorem ggL_cross_X5_cross : GoodIn wsL_cross wsX5_cross := goodIn_ca (goodIn_r _ [6, 7, 8, 9, 10, 11, 12, 5, 13, 14, 15, 16, 17, 18, 19, 20, 21, 22, 23, 24, 25, 26, 27, 28, 29, 30, 31, 32, 33, 34, 35, 36, 37, 38, 39, 40, 41, 42, 43, 44, 45, 46, 47, 48, 49] (by decide +kernel) (by decide +kernel)) (goodIn_sub (fun _ h => List.mem_cons_of_mem _ (List.mem_append_right _ h)) (by decide +kernel))
set_option maxRecDepth 20000 in
theorem gL_cross_X5_cross : GoodIn wsL_cross (wsV RL 40 RX5 yX5_cross wsX5_cross) := goodIn_app (goodIn_of _ (by decide +kernel)) ggL_cross_X5_cross
theorem dL_cross_0 : decode cL_cross 0 = .ok (.aload_n 3, 1) := by decide +kernel
theorem dL_cross_1 : decode cL_cross 1 = .ok (.iconst 0, 1) := by decide +kernel
theorem dL_cross_2 : decode cL_cross 2 = .ok (.aload_n 0, 1) := by decide +kernel
theorem dL_cross_3 : decode cL_cross 3 = .ok (.iload_n 1, 1) := by decide +kernel
theorem dL_cross_4 : decode cL_cross 4 = .ok (.iload_n 2, 1) := by decide +kernel
theorem dL_cross_5 : decode cL_cross 5 = .ok (.invokevirtual 40, 3) := by decide +kernel
theorem dL_cross_8 : decode cL_cross 8 = .ok (.ifCond .eq 7, 3) := by decide +kernel
theorem dL_cross_11 : decode cL_cross 11 = .ok (.lconst 1, 1) := by decide +kernel
theorem dL_cross_12 : decode cL_cross 12 = .ok (.goto 4, 3) := by decide +kernel
theorem dL_cross_15 : decode cL_cross 15 = .ok (.lconst 0, 1) := by decide +kernel
theorem dL_cross_16 : decode cL_cross 16 = .ok (.lastore, 1) := by decide +kernel
theorem dL_cross_17 : decode cL_cross 17 = .ok (.goto 7, 3) := by decide +kernel
theorem dL_cross_20 : decode cL_cross 20 = .ok (.astore 4, 2) := by decide +kernel
theorem dL_cross_22 : decode cL_cross 22 = .ok (.iconst 1, 1) := by decide +kernel
theorem dL_cross_23 : decode cL_cross 23 = .ok (.ireturn, 1) := by decide +kernel
theorem dL_cross_24 : decode cL_cross 24 = .ok (.iconst 0, 1) := by decide +kernel
theorem dL_cross_25 : decode cL_cross 25 = .ok (.ireturn, 1) := by decide +kernel
set_option maxRecDepth 20000 in
theorem ggL_mast_X5_mast : GoodIn wsL_mast wsX5_mast := goodIn_ca (goodIn_r _ [6, 7, 8, 9, 10, 11, 12, 13, 14, 15, 16, 5, 17, 18, 19, 20, 21, 22, 23, 24, 25, 26, 27, 28, 29, 30, 31, 32, 33, 34, 35, 36, 37, 38, 39, 40, 41, 42, 43, 44, 45, 46, 47, 48, 49, 50, 51, 52, 53, 54, 55, 56, 57, 58, 59, 60, 61, 62, 63, 64, 65, 66, 67, 68] (by decide +kernel) (by decide +kernel)) (goodIn_sub (fun _ h => List.mem_cons_of_mem _ (List.mem_append_right _ h)) (by decide +kernel))
set_option maxRecDepth 20000 in
theorem gL_mast_X5_mast : GoodIn wsL_mast (wsV RL 44 RX5 yX5_mast wsX5_mast) := goodIn_app (goodIn_of _ (by decide +kernel)) ggL_mast_X5_mast
theorem dL_mast_0 : decode cL_mast 0 = .ok (.aload_n 3, 1) := by decide +kernel
theorem dL_mast_1 : decode cL_mast 1 = .ok (.iconst 0, 1) := by decide +kernel
theorem dL_mast_2 : decode cL_mast 2 = .ok (.aload_n 0, 1) := by decide +kernel
theorem dL_mast_3 : decode cL_mast 3 = .ok (.iload_n 1, 1) := by decide +kernel
theorem dL_mast_4 : decode cL_mast 4 = .ok (.iload_n 2, 1) := by decide +kernel
theorem dL_mast_5 : decode cL_mast 5 = .ok (.invokevirtual 44, 3) := by decide +kernel
end
section
theorem dL_mast_8 : decode cL_mast 8 = .ok (.i2l, 1) := by decide +kernel
theorem dL_mast_9 : decode cL_mast 9 = .ok (.lastore, 1) := by decide +kernel
theorem dL_mast_10 : decode cL_mast 10 = .ok (.goto 7, 3) := by decide +kernel
theorem dL_mast_13 : decode cL_mast 13 = .ok (.astore 4, 2) := by decide +kernel
theorem dL_mast_15 : decode cL_mast 15 = .ok (.iconst 1, 1) := by decide +kernel
theorem dL_mast_16 : decode cL_mast 16 = .ok (.ireturn, 1) := by decide +kernel
theorem dL_mast_17 : decode cL_mast 17 = .ok (.iconst 0, 1) := by decide +kernel
theorem dL_mast_18 : decode cL_mast 18 = .ok (.ireturn, 1) := by decide +kernel
set_option maxRecDepth 20000 in
theorem ggL_thread_X5_thread : GoodIn wsL_thread wsX5_thread := goodIn_ca (goodIn_r _ [6, 7, 8, 9, 10, 11, 12, 13, 14, 15, 16, 5, 17, 18, 19, 20, 21, 22, 23, 24, 25, 26, 27, 28, 29, 30, 31, 32, 33, 34, 35, 36, 37, 38, 39, 40, 41, 42, 43, 44, 45, 46, 47, 48, 49, 50, 51, 52, 53, 54, 55, 56, 57] (by decide +kernel) (by decide +kernel)) (goodIn_sub (fun _ h => List.mem_cons_of_mem _ (List.mem_append_right _ h)) (by decide +kernel))
set_option maxRecDepth 20000 in
theorem gL_thread_X5_thread : GoodIn wsL_thread (wsV RL 47 RX5 yX5_thread wsX5_thread) := goodIn_app (goodIn_of _ (by decide +kernel)) ggL_thread_X5_thread
theorem dL_thread_0 : decode cL_thread 0 = .ok (.aload_n 3, 1) := by decide +kernel
theorem dL_thread_1 : decode cL_thread 1 = .ok (.iconst 0, 1) := by decide +kernel
theorem dL_thread_2 : decode cL_thread 2 = .ok (.aload_n 0, 1) := by decide +kernel
theorem dL_thread_3 : decode cL_thread 3 = .ok (.iload_n 1, 1) := by decide +kernel
theorem dL_thread_4 : decode cL_thread 4 = .ok (.iload_n 2, 1) := by decide +kernel
theorem dL_thread_5 : decode cL_thread 5 = .ok (.invokevirtual 47, 3) := by decide +kernel
theorem dL_thread_8 : decode cL_thread 8 = .ok (.i2l, 1) := by decide +kernel
theorem dL_thread_9 : decode cL_thread 9 = .ok (.lastore, 1) := by decide +kernel
theorem dL_thread_10 : decode cL_thread 10 = .ok (.goto 7, 3) := by decide +kernel
theorem dL_thread_13 : decode cL_thread 13 = .ok (.astore 4, 2) := by decide +kernel
theorem dL_thread_15 : decode cL_thread 15 = .ok (.iconst 1, 1) := by decide +kernel
theorem dL_thread_16 : decode cL_thread 16 = .ok (.ireturn, 1) := by decide +kernel
theorem dL_thread_17 : decode cL_thread 17 = .ok (.iconst 0, 1) := by decide +kernel
theorem dL_thread_18 : decode cL_thread 18 = .ok (.ireturn, 1) := by decide +kernel
set_option maxRecDepth 20000 in
theorem ggL_ship_X5_ship : GoodIn wsL_ship wsX5_ship := goodIn_ca (goodIn_r _ [6, 7, 8, 9, 10, 11, 12, 13, 5, 14, 15, 16, 17, 18, 19, 20, 21, 22, 23, 24, 25, 26, 27, 28, 29, 30, 31, 32, 33, 34, 35, 36, 37, 38, 39, 40, 41, 42, 43, 44, 45, 46, 47, 48, 49, 50, 51, 52, 53, 54, 55, 56, 57, 58, 59, 60, 61, 62, 63, 64, 65, 66, 67, 68, 69, 70, 71, 72, 73, 74, 75, 76, 77, 78, 79, 80, 81, 82, 83, 84, 85, 86, 87, 88] (by decide +kernel) (by decide +kernel)) (goodIn_sub (fun _ h => List.mem_cons_of_mem _ (List.mem_append_right _ h)) (by decide +kernel))
set_option maxRecDepth 20000 in
theorem gL_ship_X5_ship : GoodIn wsL_ship (wsV RL 50 RX5 yX5_ship wsX5_ship) := goodIn_app (goodIn_of _ (by decide +kernel)) ggL_ship_X5_ship
theorem dL_ship_0 : decode cL_ship 0 = .ok (.aload_n 2, 1) := by decide +kernel
theorem dL_ship_1 : decode cL_ship 1 = .ok (.iconst 0, 1) := by decide +kernel
theorem dL_ship_2 : decode cL_ship 2 = .ok (.aload_n 0, 1) := by decide +kernel
theorem dL_ship_3 : decode cL_ship 3 = .ok (.iload_n 1, 1) := by decide +kernel
theorem dL_ship_4 : decode cL_ship 4 = .ok (.invokevirtual 50, 3) := by decide +kernel
theorem dL_ship_7 : decode cL_ship 7 = .ok (.i2l, 1) := by decide +kernel
theorem dL_ship_8 : decode cL_ship 8 = .ok (.lastore, 1) := by decide +kernel
theorem dL_ship_9 : decode cL_ship 9 = .ok (.goto 6, 3) := by decide +kernel
theorem dL_ship_12 : decode cL_ship 12 = .ok (.astore_n 3, 1) := by decide +kernel
theorem dL_ship_13 : decode cL_ship 13 = .ok (.iconst 1, 1) := by decide +kernel
theorem dL_ship_14 : decode cL_ship 14 = .ok (.ireturn, 1) := by decide +kernel
theorem dL_ship_15 : decode cL_ship 15 = .ok (.iconst 0, 1) := by decide +kernel
theorem dL_ship_16 : decode cL_ship 16 = .ok (.ireturn, 1) := by decide +kernel
set_option maxRecDepth 20000 in
theorem ggL_count_X5_count : GoodIn wsL_count wsX5_count := goodIn_ca (goodIn_r _ [6, 7, 8, 9, 10, 11, 12, 13, 14, 15, 16, 5, 17, 18, 19, 20, 21, 22, 23, 24, 25, 26, 27, 28, 29, 30, 31, 32, 33, 34, 35, 36, 37, 38, 39, 40, 41, 42, 43, 44] (by decide +kernel) (by decide +kernel)) (goodIn_sub (fun _ h => List.mem_cons_of_mem _ (List.mem_append_right _ h)) (by decide +kernel))
set_option maxRecDepth 20000 in
theorem gL_count_X5_count : GoodIn wsL_count (wsV RL 53 RX5 yX5_count wsX5_count) := goodIn_app (goodIn_of _ (by decide +kernel)) ggL_count_X5_count
theorem dL_count_0 : decode cL_count 0 = .ok (.aload_n 2, 1) := by decide +kernel
theorem dL_count_1 : decode cL_count 1 = .ok (.iconst 0, 1) := by decide +kernel
theorem dL_count_2 : decode cL_count 2 = .ok (.aload_n 0, 1) := by decide +kernel
theorem dL_count_3 : decode cL_count 3 = .ok (.iload_n 1, 1) := by decide +kernel
theorem dL_count_4 : decode cL_count 4 = .ok (.invokevirtual 53, 3) := by decide +kernel
theorem dL_count_7 : decode cL_count 7 = .ok (.i2l, 1) := by decide +kernel
theorem dL_count_8 : decode cL_count 8 = .ok (.lastore, 1) := by decide +kernel
theorem dL_count_9 : decode cL_count 9 = .ok (.goto 6, 3) := by decide +kernel
theorem dL_count_12 : decode cL_count 12 = .ok (.astore_n 3, 1) := by decide +kernel
theorem dL_count_13 : decode cL_count 13 = .ok (.iconst 1, 1) := by decide +kernel
theorem dL_count_14 : decode cL_count 14 = .ok (.ireturn, 1) := by decide +kernel
theorem dL_count_15 : decode cL_count 15 = .ok (.iconst 0, 1) := by decide +kernel
theorem dL_count_16 : decode cL_count 16 = .ok (.ireturn, 1) := by decide +kernel
set_option maxRecDepth 20000 in
theorem ggL_pass_X5_pass : GoodIn wsL_pass wsX5_pass := goodIn_ca (goodIn_r _ [6, 7, 8, 9, 10, 11, 12, 13, 14, 15, 16, 17, 5, 18, 19, 20, 21, 22, 23, 24, 25, 26, 27, 28, 29, 30, 31, 32, 33, 34, 35, 36, 37, 38, 39, 40, 41, 42, 43, 44, 45, 46, 47, 48, 49, 50, 51, 52, 53, 54, 55, 56, 57, 58, 59, 60, 61, 62, 63, 64, 65, 66, 67, 68] (by decide +kernel) (by decide +kernel)) (goodIn_sub (fun _ h => List.mem_cons_of_mem _ (List.mem_append_right _ h)) (by decide +kernel))
set_option maxRecDepth 20000 in
theorem gL_pass_X5_pass : GoodIn wsL_pass (wsV RL 56 RX5 yX5_pass wsX5_pass) := goodIn_app (goodIn_of _ (by decide +kernel)) ggL_pass_X5_pass
theorem dL_pass_0 : decode cL_pass 0 = .ok (.aload_n 2, 1) := by decide +kernel
theorem dL_pass_1 : decode cL_pass 1 = .ok (.iconst 0, 1) := by decide +kernel
theorem dL_pass_2 : decode cL_pass 2 = .ok (.aload_n 0, 1) := by decide +kernel
theorem dL_pass_3 : decode cL_pass 3 = .ok (.iload_n 1, 1) := by decide +kernel
theorem dL_pass_4 : decode cL_pass 4 = .ok (.invokevirtual 56, 3) := by decide +kernel
theorem dL_pass_7 : decode cL_pass 7 = .ok (.i2l, 1) := by decide +kernel
theorem dL_pass_8 : decode cL_pass 8 = .ok (.lastore, 1) := by decide +kernel
theorem dL_pass_9 : decode cL_pass 9 = .ok (.goto 6, 3) := by decide +kernel
theorem dL_pass_12 : decode cL_pass 12 = .ok (.astore_n 3, 1) := by decide +kernel
theorem dL_pass_13 : decode cL_pass 13 = .ok (.iconst 1, 1) := by decide +kernel
theorem dL_pass_14 : decode cL_pass 14 = .ok (.ireturn, 1) := by decide +kernel
theorem dL_pass_15 : decode cL_pass 15 = .ok (.iconst 0, 1) := by decide +kernel
theorem dL_pass_16 : decode cL_pass 16 = .ok (.ireturn, 1) := by decide +kernel
set_option maxRecDepth 20000 in
theorem ggL_least_X5_least : GoodIn wsL_least wsX5_least := goodIn_ca (goodIn_r _ [6, 7, 8, 9, 10, 11, 12, 13, 14, 15, 16, 17, 18, 19, 20, 5, 21, 22, 23, 24, 25, 26, 27, 28, 29, 30, 31, 32, 33, 34, 35, 36, 37, 38, 39, 40, 41, 42, 43, 44, 45, 46, 47, 48, 49, 50, 51, 52, 53, 54, 55, 56, 57, 58, 59, 60, 61, 62, 63, 64, 65, 66, 67, 68, 69, 70, 71, 72, 73, 74, 75, 76, 77, 78, 79, 80, 81, 82, 83, 84, 85, 86, 87, 88, 89, 90, 91, 92, 93, 94, 95, 96, 97, 98, 99, 100, 101, 102, 103, 104, 105, 106, 107, 108, 109, 110, 111, 112, 113, 114, 115, 116, 117, 118, 119, 120, 121, 122, 123, 124, 125, 126, 127, 128, 129, 130, 131, 132, 133, 134, 135, 136, 137, 138, 139, 140, 141, 142, 143, 144, 145, 146, 147, 148, 149, 150, 151, 152, 153, 154, 155, 156, 157, 158, 159, 160, 161, 162, 163, 164, 165, 166, 167, 168] (by decide +kernel) (by decide +kernel)) (goodIn_sub (fun _ h => List.mem_cons_of_mem _ (List.mem_append_right _ h)) (by decide +kernel))
set_option maxRecDepth 20000 in
theorem gL_least_X5_least : GoodIn wsL_least (wsV RL 59 RX5 yX5_least wsX5_least) := goodIn_app (goodIn_of _ (by decide +kernel)) ggL_least_X5_least
theorem dL_least_0 : decode cL_least 0 = .ok (.aload_n 2, 1) := by decide +kernel
theorem dL_least_1 : decode cL_least 1 = .ok (.iconst 0, 1) := by decide +kernel
theorem dL_least_2 : decode cL_least 2 = .ok (.aload_n 0, 1) := by decide +kernel
theorem dL_least_3 : decode cL_least 3 = .ok (.iload_n 1, 1) := by decide +kernel
theorem dL_least_4 : decode cL_least 4 = .ok (.invokevirtual 59, 3) := by decide +kernel
theorem dL_least_7 : decode cL_least 7 = .ok (.i2l, 1) := by decide +kernel
theorem dL_least_8 : decode cL_least 8 = .ok (.lastore, 1) := by decide +kernel
theorem dL_least_9 : decode cL_least 9 = .ok (.goto 6, 3) := by decide +kernel
theorem dL_least_12 : decode cL_least 12 = .ok (.astore_n 3, 1) := by decide +kernel
theorem dL_least_13 : decode cL_least 13 = .ok (.iconst 1, 1) := by decide +kernel
theorem dL_least_14 : decode cL_least 14 = .ok (.ireturn, 1) := by decide +kernel
theorem dL_least_15 : decode cL_least 15 = .ok (.iconst 0, 1) := by decide +kernel
theorem dL_least_16 : decode cL_least 16 = .ok (.ireturn, 1) := by decide +kernel
set_option maxRecDepth 20000 in
theorem ggL_law_X5_init : GoodIn wsL_law wsX5_init := goodIn_r _ [9, 10, 11, 12, 13, 14, 15, 16, 17, 18, 19, 20, 21, 22, 23, 24, 25, 26, 27, 28, 29, 30, 31, 32, 33, 34, 35, 36, 37, 38, 39, 40, 41, 42, 43, 44, 45, 46, 47, 48, 49, 50, 51, 52, 53, 54, 55, 56, 57, 58, 59, 60, 61, 62, 63, 64, 668, 669, 670, 671, 629, 630, 631, 632, 633, 634, 635, 636, 637, 638, 639, 640, 641, 642, 672, 673, 674, 675, 676, 677, 678, 679, 680, 681, 682, 683, 684, 685, 686, 687, 688, 689, 690] (by decide +kernel) (by decide +kernel)
set_option maxRecDepth 20000 in
theorem gL_law_X5_init : GoodIn wsL_law (wsX5_init) := ggL_law_X5_init
set_option maxRecDepth 20000 in
theorem ggL_law_X6_init : GoodIn wsL_law wsX6_init := goodIn_r _ [67, 68, 11, 12, 69, 70, 71, 72, 73, 74, 29, 75, 76, 77, 78, 79, 80, 81, 82, 83, 84, 643, 644, 645, 646, 647, 648, 649, 650, 651, 652, 653, 654, 655, 656, 657, 658, 659, 660, 661, 662, 663, 664, 665, 666, 667] (by decide +kernel) (by decide +kernel)
set_option maxRecDepth 20000 in
theorem gL_law_X6_init : GoodIn wsL_law (wsX6_init) := ggL_law_X6_init
set_option maxRecDepth 20000 in
theorem ggL_law_L_setBottle : GoodIn wsL_law wsL_setBottle := goodIn_ca (goodIn_ca (goodIn_r _ [88, 89, 90, 91, 92, 93, 2, 94, 95, 96, 97, 98, 99, 16, 100, 101, 102, 103, 104, 105, 106, 629, 630, 631, 632, 633, 634, 635, 636, 637, 638, 639, 640, 641, 642, 668, 669, 670, 671] (by decide +kernel) (by decide +kernel)) (goodIn_sub (fun _ h => List.mem_append_left _ (List.mem_append_left _ (List.mem_append_right _ h))) (by decide +kernel))) (goodIn_sub (fun _ h => List.mem_append_left _ (List.mem_append_right _ h)) (by decide +kernel))
set_option maxRecDepth 20000 in
theorem gL_law_L_setBottle : GoodIn wsL_law (va_wsS RL 66 yL_setBottle wsL_setBottle) := goodIn_app (goodIn_of _ (by decide +kernel)) ggL_law_L_setBottle
set_option maxRecDepth 20000 in
theorem ggL_law_X6_setBottle : GoodIn wsL_law wsX6_setBottle := goodIn_r _ [110, 111, 112, 69, 70, 71, 113, 114, 115, 5, 116, 117, 118, 119, 120, 643, 644, 645, 646, 647, 648, 649, 650, 651, 652, 653, 654, 655, 656, 657, 658, 659, 660, 661, 662, 663, 664, 665, 666, 667] (by decide +kernel) (by decide +kernel)
set_option maxRecDepth 20000 in
theorem gL_law_X6_setBottle : GoodIn wsL_law (wsV RL 71 RX6 yX6_setBottle wsX6_setBottle) := goodIn_app (goodIn_of _ (by decide +kernel)) ggL_law_X6_setBottle
set_option maxRecDepth 20000 in
theorem ggL_law_X6_thrown : GoodIn wsL_law wsX6_thrown := goodIn_r _ [124, 111, 643, 644, 645, 646, 647, 648, 649, 650, 651, 652, 653, 654, 655, 656, 657, 658, 659, 660, 661, 662, 663, 664, 665, 666, 667] (by decide +kernel) (by decide +kernel)
set_option maxRecDepth 20000 in
theorem gL_law_X6_thrown : GoodIn wsL_law (wsV RL 72 RX6 yX6_thrown wsX6_thrown) := goodIn_app (goodIn_of _ (by decide +kernel)) ggL_law_X6_thrown
set_option maxRecDepth 20000 in
theorem ggL_law_L_setHull : GoodIn wsL_law wsL_setHull := goodIn_ca (goodIn_ca (goodIn_r _ [127, 89, 90, 128, 129, 130, 2, 131, 95, 96, 97, 98, 132, 99, 20, 133, 134, 135, 104, 105, 106, 629, 630, 631, 632, 633, 634, 635, 636, 637, 638, 639, 640, 641, 642, 672, 673, 674] (by decide +kernel) (by decide +kernel)) (goodIn_sub (fun _ h => List.mem_append_left _ (List.mem_append_left _ (List.mem_append_right _ h))) (by decide +kernel))) (goodIn_sub (fun _ h => List.mem_append_left _ (List.mem_append_right _ h)) (by decide +kernel))
set_option maxRecDepth 20000 in
theorem gL_law_L_setHull : GoodIn wsL_law (va_wsS RL 76 yL_setHull wsL_setHull) := goodIn_app (goodIn_of _ (by decide +kernel)) ggL_law_L_setHull
set_option maxRecDepth 20000 in
theorem ggL_law_X6_setHull : GoodIn wsL_law wsX6_setHull := goodIn_r _ [139, 111, 140, 112, 72, 73, 74, 114, 115, 5, 116, 117, 118, 119, 120, 643, 644, 645, 646, 647, 648, 649, 650, 651, 652, 653, 654, 655, 656, 657, 658, 659, 660, 661, 662, 663, 664, 665, 666, 667] (by decide +kernel) (by decide +kernel)
set_option maxRecDepth 20000 in
theorem gL_law_X6_setHull : GoodIn wsL_law (wsV RL 79 RX6 yX6_setHull wsX6_setHull) := goodIn_app (goodIn_of _ (by decide +kernel)) ggL_law_X6_setHull
set_option maxRecDepth 20000 in
theorem ggL_law_L_step : GoodIn wsL_law wsL_step := goodIn_ca (goodIn_ca (goodIn_r _ [143, 89, 90, 144, 145, 146, 2, 147, 95, 96, 97, 98, 20, 133, 99, 132, 22, 148, 149, 30, 104, 105, 106, 150, 151, 152, 153, 629, 630, 631, 632, 633, 634, 635, 636, 637, 638, 639, 640, 641, 642, 672, 673, 674, 681, 682, 683, 684] (by decide +kernel) (by decide +kernel)) (goodIn_sub (fun _ h => List.mem_append_left _ (List.mem_append_left _ (List.mem_append_right _ h))) (by decide +kernel))) (goodIn_sub (fun _ h => List.mem_append_left _ (List.mem_append_right _ h)) (by decide +kernel))
set_option maxRecDepth 20000 in
theorem gL_law_L_step : GoodIn wsL_law (va_wsS RL 80 yL_step wsL_step) := goodIn_app (goodIn_of _ (by decide +kernel)) ggL_law_L_step
set_option maxRecDepth 20000 in
theorem ggL_law_X6_step : GoodIn wsL_law wsX6_step := goodIn_r _ [157, 111, 72, 112, 140, 75, 76, 158, 114, 115, 5, 116, 117, 118, 119, 120, 159, 160, 161, 643, 644, 645, 646, 647, 648, 649, 650, 651, 652, 653, 654, 655, 656, 657, 658, 659, 660, 661, 662, 663, 664, 665, 666, 667] (by decide +kernel) (by decide +kernel)
set_option maxRecDepth 20000 in
theorem gL_law_X6_step : GoodIn wsL_law (wsV RL 83 RX6 yX6_step wsX6_step) := goodIn_app (goodIn_of _ (by decide +kernel)) ggL_law_X6_step
set_option maxRecDepth 20000 in
theorem ggL_law_L_yard : GoodIn wsL_law wsL_yard := goodIn_ca (goodIn_ca (goodIn_ca (goodIn_r _ [164, 165, 89, 90, 166, 167, 168, 2, 169, 170, 171, 95, 96, 97, 98, 22, 99, 172, 173, 174, 175, 176, 177, 132, 104, 105, 106, 629, 630, 631, 632, 633, 634, 635, 636, 637, 638, 639, 640, 641, 642, 681, 682, 683, 684] (by decide +kernel) (by decide +kernel)) (goodIn_sub (fun _ h => List.mem_append_right _ h) (by decide +kernel))) (goodIn_sub (fun _ h => List.mem_append_left _ (List.mem_append_left _ (List.mem_append_right _ h))) (by decide +kernel))) (goodIn_sub (fun _ h => List.mem_append_left _ (List.mem_append_right _ h)) (by decide +kernel))
set_option maxRecDepth 20000 in
theorem gL_law_L_yard : GoodIn wsL_law (va_wsS RL 84 yL_yard wsL_yard) := goodIn_app (goodIn_of _ (by decide +kernel)) ggL_law_L_yard
set_option maxRecDepth 20000 in
theorem ggL_law_X6_yard : GoodIn wsL_law wsX6_yard := goodIn_r _ [181, 111, 112, 77, 78, 182, 183, 184, 5, 185, 140, 114, 115, 116, 117, 118, 119, 120, 643, 644, 645, 646, 647, 648, 649, 650, 651, 652, 653, 654, 655, 656, 657, 658, 659, 660, 661, 662, 663, 664, 665, 666, 667] (by decide +kernel) (by decide +kernel)
set_option maxRecDepth 20000 in
theorem gL_law_X6_yard : GoodIn wsL_law (wsV RL 86 RX6 yX6_yard wsX6_yard) := goodIn_app (goodIn_of _ (by decide +kernel)) ggL_law_X6_yard
set_option maxRecDepth 20000 in
theorem ggL_law_L_lead : GoodIn wsL_law wsL_lead := goodIn_ca (goodIn_ca (goodIn_ca (goodIn_r _ [188, 165, 89, 90, 189, 190, 191, 2, 192, 170, 171, 95, 96, 97, 98, 193, 24, 194, 195, 196, 22, 148, 174, 175, 176, 177, 132, 104, 105, 106, 197, 198, 199, 36, 200, 201, 202, 203, 204, 205, 206, 207, 208, 209, 629, 630, 631, 632, 633, 634, 635, 636, 637, 638, 639, 640, 641, 642, 685, 686, 687, 688, 689, 690, 681, 682, 683, 684] (by decide +kernel) (by decide +kernel)) (goodIn_sub (fun _ h => List.mem_append_right _ h) (by decide +kernel))) (goodIn_sub (fun _ h => List.mem_append_left _ (List.mem_append_left _ (List.mem_append_right _ h))) (by decide +kernel))) (goodIn_sub (fun _ h => List.mem_append_left _ (List.mem_append_right _ h)) (by decide +kernel))
set_option maxRecDepth 20000 in
theorem gL_law_L_lead : GoodIn wsL_law (va_wsS RL 87 yL_lead wsL_lead) := goodIn_app (goodIn_of _ (by decide +kernel)) ggL_law_L_lead
set_option maxRecDepth 20000 in
theorem ggL_law_X6_lead : GoodIn wsL_law wsX6_lead := goodIn_r _ [213, 111, 214, 79, 80, 81, 182, 183, 184, 5, 185, 140, 114, 115, 116, 117, 118, 119, 120, 643, 644, 645, 646, 647, 648, 649, 650, 651, 652, 653, 654, 655, 656, 657, 658, 659, 660, 661, 662, 663, 664, 665, 666, 667] (by decide +kernel) (by decide +kernel)
set_option maxRecDepth 20000 in
theorem gL_law_X6_lead : GoodIn wsL_law (wsV RL 89 RX6 yX6_lead wsX6_lead) := goodIn_app (goodIn_of _ (by decide +kernel)) ggL_law_X6_lead
set_option maxRecDepth 20000 in
theorem ggL_law_X5_enter : GoodIn wsL_law wsX5_enter := goodIn_r _ [218, 99, 30, 219, 220, 221, 2, 222, 16, 100, 223, 224, 225, 226, 20, 135, 132, 22, 227, 207, 203, 208, 228, 229, 230, 34, 231, 232, 61, 233, 234, 235, 236, 237, 134, 238, 239, 240, 241, 242, 243, 244, 245, 246, 102, 103, 101, 247, 248, 249, 250, 133, 148, 251, 252, 253, 254, 629, 630, 631, 632, 633, 634, 635, 636, 637, 638, 639, 640, 641, 642, 668, 669, 670, 671, 672, 673, 674, 681, 682, 683, 684] (by decide +kernel) (by decide +kernel)
set_option maxRecDepth 20000 in
theorem gL_law_X5_enter : GoodIn wsL_law (wsV RL 90 RX5 yX5_enter wsX5_enter) := goodIn_app (goodIn_of _ (by decide +kernel)) ggL_law_X5_enter
set_option maxRecDepth 20000 in
theorem ggL_law_X6_enter : GoodIn wsL_law wsX6_enter := goodIn_r _ [258, 111, 112, 158, 259, 260, 261, 5, 262, 69, 263, 264, 265, 266, 74, 140, 77, 78, 267, 207, 203, 208, 268, 269, 270, 159, 160, 161, 271, 272, 273, 274, 73, 275, 276, 277, 278, 76, 279, 280, 281, 282, 71, 113, 70, 283, 284, 285, 286, 72, 75, 287, 288, 289, 290, 643, 644, 645, 646, 647, 648, 649, 650, 651, 652, 653, 654, 655, 656, 657, 658, 659, 660, 661, 662, 663, 664, 665, 666, 667] (by decide +kernel) (by decide +kernel)
set_option maxRecDepth 20000 in
theorem gL_law_X6_enter : GoodIn wsL_law (wsV RL 94 RX6 yX6_enter wsX6_enter) := goodIn_app (goodIn_of _ (by decide +kernel)) ggL_law_X6_enter
set_option maxRecDepth 20000 in
theorem ggL_law_X5_leave : GoodIn wsL_law wsX5_leave := goodIn_r _ [294, 99, 219, 220, 221, 2, 222, 16, 100, 30, 223, 224, 225, 226, 20, 135, 132, 22, 227, 207, 203, 208, 228, 229, 230, 34, 231, 232, 61, 233, 234, 235, 236, 237, 134, 238, 239, 240, 241, 242, 629, 630, 631, 632, 633, 634, 635, 636, 637, 638, 639, 640, 641, 642, 668, 669, 670, 671, 672, 673, 674, 681, 682, 683, 684] (by decide +kernel) (by decide +kernel)
set_option maxRecDepth 20000 in
theorem gL_law_X5_leave : GoodIn wsL_law (wsV RL 95 RX5 yX5_leave wsX5_leave) := goodIn_app (goodIn_of _ (by decide +kernel)) ggL_law_X5_leave
set_option maxRecDepth 20000 in
theorem ggL_law_X6_leave : GoodIn wsL_law wsX6_leave := goodIn_r _ [298, 111, 112, 259, 260, 261, 5, 262, 158, 69, 263, 264, 265, 266, 74, 140, 77, 78, 267, 207, 203, 208, 268, 269, 270, 159, 160, 161, 271, 272, 273, 274, 73, 275, 276, 277, 278, 76, 643, 644, 645, 646, 647, 648, 649, 650, 651, 652, 653, 654, 655, 656, 657, 658, 659, 660, 661, 662, 663, 664, 665, 666, 667] (by decide +kernel) (by decide +kernel)
set_option maxRecDepth 20000 in
theorem gL_law_X6_leave : GoodIn wsL_law (wsV RL 98 RX6 yX6_leave wsX6_leave) := goodIn_app (goodIn_of _ (by decide +kernel)) ggL_law_X6_leave
set_option maxRecDepth 20000 in
theorem ggL_law_L_pull : GoodIn wsL_law wsL_pull := goodIn_ca (goodIn_ca (goodIn_r _ [301, 165, 90, 302, 303, 304, 2, 305, 170, 171, 97, 98, 24, 306, 307, 308, 194, 30, 32, 309, 310, 311, 312, 313, 314, 315, 316, 193, 317, 318, 319, 320, 99, 321, 322, 323, 324, 325, 326, 327, 328, 329, 330, 331, 332, 196, 333, 334, 335, 36, 336, 337, 205, 206, 207, 203, 208, 209, 201, 202, 204, 338, 339, 340, 341, 195, 342, 343, 344, 243, 244, 245, 246, 16, 102, 103, 101, 247, 248, 249, 250, 20, 133, 132, 22, 148, 227, 251, 252, 253, 34, 254, 242, 234, 235, 236, 237, 134, 238, 239, 240, 241, 345, 346, 347, 348, 349, 629, 630, 631, 632, 633, 634, 635, 636, 637, 638, 639, 640, 641, 642, 685, 686, 687, 688, 689, 690, 668, 669, 670, 671, 672, 673, 674, 681, 682, 683, 684] (by decide +kernel) (by decide +kernel)) (goodIn_sub (fun _ h => List.mem_append_right _ h) (by decide +kernel))) (goodIn_sub (fun _ h => List.mem_append_left _ (List.mem_append_right _ h)) (by decide +kernel))
set_option maxRecDepth 20000 in
theorem gL_law_L_pull : GoodIn wsL_law (va_wsS RL 99 yL_pull wsL_pull) := goodIn_app (goodIn_of _ (by decide +kernel)) ggL_law_L_pull
set_option maxRecDepth 20000 in
theorem ggL_law_X6_pull : GoodIn wsL_law wsX6_pull := goodIn_r _ [353, 111, 82, 158, 354, 79, 355, 81, 356, 357, 358, 5, 359, 214, 114, 115, 116, 117, 118, 119, 120, 360, 361, 362, 363, 140, 112, 268, 269, 270, 159, 160, 161, 364, 365, 366, 367, 368, 369, 370, 371, 80, 372, 202, 203, 204, 267, 207, 208, 373, 374, 375, 376, 75, 377, 378, 379, 380, 279, 280, 281, 282, 71, 113, 70, 283, 284, 285, 286, 72, 287, 288, 289, 290, 76, 271, 272, 273, 274, 73, 275, 276, 277, 278, 643, 644, 645, 646, 647, 648, 649, 650, 651, 652, 653, 654, 655, 656, 657, 658, 659, 660, 661, 662, 663, 664, 665, 666, 667] (by decide +kernel) (by decide +kernel)
set_option maxRecDepth 20000 in
theorem gL_law_X6_pull : GoodIn wsL_law (wsV RL 102 RX6 yX6_pull wsX6_pull) := goodIn_app (goodIn_of _ (by decide +kernel)) ggL_law_X6_pull
set_option maxRecDepth 20000 in
theorem ggL_law_L_glue : GoodIn wsL_law wsL_glue := goodIn_ca (goodIn_ca (goodIn_r _ [383, 165, 90, 384, 385, 386, 2, 387, 170, 171, 97, 98, 24, 306, 313, 314, 315, 316, 193, 629, 630, 631, 632, 633, 634, 635, 636, 637, 638, 639, 640, 641, 642, 685, 686, 687, 688, 689, 690] (by decide +kernel) (by decide +kernel)) (goodIn_sub (fun _ h => List.mem_append_right _ h) (by decide +kernel))) (goodIn_sub (fun _ h => List.mem_append_left _ (List.mem_append_right _ h)) (by decide +kernel))
set_option maxRecDepth 20000 in
theorem gL_law_L_glue : GoodIn wsL_law (va_wsS RL 103 yL_glue wsL_glue) := goodIn_app (goodIn_of _ (by decide +kernel)) ggL_law_L_glue
set_option maxRecDepth 20000 in
theorem ggL_law_X6_glue : GoodIn wsL_law wsX6_glue := goodIn_r _ [391, 111, 82, 356, 357, 358, 5, 359, 214, 114, 115, 116, 117, 118, 119, 120, 643, 644, 645, 646, 647, 648, 649, 650, 651, 652, 653, 654, 655, 656, 657, 658, 659, 660, 661, 662, 663, 664, 665, 666, 667] (by decide +kernel) (by decide +kernel)
set_option maxRecDepth 20000 in
theorem gL_law_X6_glue : GoodIn wsL_law (wsV RL 105 RX6 yX6_glue wsX6_glue) := goodIn_app (goodIn_of _ (by decide +kernel)) ggL_law_X6_glue
set_option maxRecDepth 20000 in
theorem ggL_law_L_cross : GoodIn wsL_law wsL_cross := goodIn_ca (goodIn_r _ [394, 165, 395, 396, 397, 2, 398, 170, 171, 24, 313, 314, 315, 316, 193, 333, 334, 335, 36, 336, 337, 205, 206, 207, 203, 208, 209, 201, 202, 204, 629, 630, 631, 632, 633, 634, 635, 636, 637, 638, 639, 640, 641, 642, 685, 686, 687, 688, 689, 690] (by decide +kernel) (by decide +kernel)) (goodIn_sub (fun _ h => List.mem_append_right _ h) (by decide +kernel))
set_option maxRecDepth 20000 in
theorem gL_law_L_cross : GoodIn wsL_law (va_wsS RL 106 yL_cross wsL_cross) := goodIn_app (goodIn_of _ (by decide +kernel)) ggL_law_L_cross
set_option maxRecDepth 20000 in
theorem ggL_law_X6_cross : GoodIn wsL_law wsX6_cross := goodIn_r _ [402, 111, 356, 357, 358, 5, 359, 214, 114, 115, 116, 117, 118, 119, 120, 368, 369, 370, 371, 82, 79, 80, 372, 202, 203, 204, 267, 207, 208, 373, 374, 375, 376, 75, 643, 644, 645, 646, 647, 648, 649, 650, 651, 652, 653, 654, 655, 656, 657, 658, 659, 660, 661, 662, 663, 664, 665, 666, 667] (by decide +kernel) (by decide +kernel)
set_option maxRecDepth 20000 in
theorem gL_law_X6_cross : GoodIn wsL_law (wsV RL 108 RX6 yX6_cross wsX6_cross) := goodIn_app (goodIn_of _ (by decide +kernel)) ggL_law_X6_cross
set_option maxRecDepth 20000 in
theorem ggL_law_L_mast : GoodIn wsL_law wsL_mast := goodIn_ca (goodIn_r _ [405, 165, 406, 407, 408, 2, 409, 170, 171, 22, 148, 149, 30, 172, 174, 175, 176, 177, 132, 238, 239, 240, 34, 241, 242, 251, 252, 253, 254, 321, 322, 323, 324, 325, 326, 327, 328, 193, 24, 194, 306, 410, 411, 412, 413, 629, 630, 631, 632, 633, 634, 635, 636, 637, 638, 639, 640, 641, 642, 681, 682, 683, 684, 685, 686, 687, 688, 689, 690] (by decide +kernel) (by decide +kernel)) (goodIn_sub (fun _ h => List.mem_append_right _ h) (by decide +kernel))
set_option maxRecDepth 20000 in
theorem gL_law_L_mast : GoodIn wsL_law (va_wsS RL 109 yL_mast wsL_mast) := goodIn_app (goodIn_of _ (by decide +kernel)) ggL_law_L_mast
set_option maxRecDepth 20000 in
theorem ggL_law_X6_mast : GoodIn wsL_law wsX6_mast := goodIn_r _ [417, 111, 182, 183, 184, 5, 185, 140, 114, 115, 116, 418, 419, 420, 421, 29, 75, 76, 158, 77, 268, 269, 270, 159, 160, 161, 275, 276, 277, 278, 287, 288, 289, 290, 364, 365, 366, 367, 214, 79, 82, 422, 423, 424, 425, 117, 118, 119, 120, 643, 644, 645, 646, 647, 648, 649, 650, 651, 652, 653, 654, 655, 656, 657, 658, 659, 660, 661, 662, 663, 664, 665, 666, 667] (by decide +kernel) (by decide +kernel)
set_option maxRecDepth 20000 in
theorem gL_law_X6_mast : GoodIn wsL_law (wsV RL 111 RX6 yX6_mast wsX6_mast) := goodIn_app (goodIn_of _ (by decide +kernel)) ggL_law_X6_mast
set_option maxRecDepth 20000 in
theorem ggL_law_L_thread : GoodIn wsL_law wsL_thread := goodIn_ca (goodIn_r _ [428, 165, 429, 430, 431, 2, 432, 170, 171, 24, 194, 195, 196, 306, 313, 314, 315, 316, 193, 433, 434, 435, 436, 333, 334, 335, 36, 336, 337, 205, 206, 207, 203, 208, 209, 201, 202, 204, 629, 630, 631, 632, 633, 634, 635, 636, 637, 638, 639, 640, 641, 642, 685, 686, 687, 688, 689, 690] (by decide +kernel) (by decide +kernel)) (goodIn_sub (fun _ h => List.mem_append_right _ h) (by decide +kernel))
set_option maxRecDepth 20000 in
theorem gL_law_L_thread : GoodIn wsL_law (va_wsS RL 112 yL_thread wsL_thread) := goodIn_app (goodIn_of _ (by decide +kernel)) ggL_law_L_thread
set_option maxRecDepth 20000 in
theorem ggL_law_X6_thread : GoodIn wsL_law wsX6_thread := goodIn_r _ [440, 111, 356, 357, 358, 5, 359, 214, 114, 115, 116, 441, 442, 443, 444, 29, 79, 80, 81, 82, 368, 369, 370, 371, 372, 202, 203, 204, 267, 207, 208, 373, 374, 375, 376, 75, 117, 118, 119, 120, 643, 644, 645, 646, 647, 648, 649, 650, 651, 652, 653, 654, 655, 656, 657, 658, 659, 660, 661, 662, 663, 664, 665, 666, 667] (by decide +kernel) (by decide +kernel)
set_option maxRecDepth 20000 in
theorem gL_law_X6_thread : GoodIn wsL_law (wsV RL 114 RX6 yX6_thread wsX6_thread) := goodIn_app (goodIn_of _ (by decide +kernel)) ggL_law_X6_thread
set_option maxRecDepth 20000 in
theorem ggL_law_L_ship : GoodIn wsL_law wsL_ship := goodIn_ca (goodIn_r _ [447, 165, 448, 449, 450, 2, 451, 170, 171, 30, 99, 223, 224, 225, 226, 20, 135, 132, 22, 227, 207, 203, 208, 228, 229, 230, 34, 231, 232, 61, 233, 234, 235, 236, 237, 134, 238, 239, 240, 241, 242, 247, 248, 249, 250, 133, 148, 251, 252, 253, 254, 219, 220, 221, 222, 16, 100, 243, 244, 245, 246, 102, 103, 101, 629, 630, 631, 632, 633, 634, 635, 636, 637, 638, 639, 640, 641, 642, 672, 673, 674, 681, 682, 683, 684, 668, 669, 670, 671] (by decide +kernel) (by decide +kernel)) (goodIn_sub (fun _ h => List.mem_append_right _ h) (by decide +kernel))
set_option maxRecDepth 20000 in
theorem gL_law_L_ship : GoodIn wsL_law (va_wsS RL 115 yL_ship wsL_ship) := goodIn_app (goodIn_of _ (by decide +kernel)) ggL_law_L_ship
set_option maxRecDepth 20000 in
theorem ggL_law_X6_ship : GoodIn wsL_law wsX6_ship := goodIn_r _ [455, 111, 114, 115, 5, 116, 456, 457, 458, 459, 29, 158, 112, 263, 264, 265, 266, 74, 140, 77, 78, 267, 207, 203, 208, 268, 269, 270, 159, 160, 161, 271, 272, 273, 274, 73, 275, 276, 277, 278, 76, 283, 284, 285, 286, 72, 75, 287, 288, 289, 290, 259, 260, 261, 262, 69, 279, 280, 281, 282, 71, 113, 70, 117, 118, 119, 120, 643, 644, 645, 646, 647, 648, 649, 650, 651, 652, 653, 654, 655, 656, 657, 658, 659, 660, 661, 662, 663, 664, 665, 666, 667] (by decide +kernel) (by decide +kernel)
set_option maxRecDepth 20000 in
theorem gL_law_X6_ship : GoodIn wsL_law (wsV RL 117 RX6 yX6_ship wsX6_ship) := goodIn_app (goodIn_of _ (by decide +kernel)) ggL_law_X6_ship
set_option maxRecDepth 20000 in
theorem ggL_law_L_count : GoodIn wsL_law wsL_count := goodIn_ca (goodIn_r _ [462, 165, 463, 464, 465, 2, 466, 170, 171, 467, 132, 193, 308, 307, 468, 469, 470, 471, 30, 472, 473, 474, 475, 24, 306, 629, 630, 631, 632, 633, 634, 635, 636, 637, 638, 639, 640, 641, 642, 685, 686, 687, 688, 689, 690] (by decide +kernel) (by decide +kernel)) (goodIn_sub (fun _ h => List.mem_append_right _ h) (by decide +kernel))
set_option maxRecDepth 20000 in
theorem gL_law_L_count : GoodIn wsL_law (va_wsS RL 118 yL_count wsL_count) := goodIn_app (goodIn_of _ (by decide +kernel)) ggL_law_L_count
set_option maxRecDepth 20000 in
theorem ggL_law_X6_count : GoodIn wsL_law wsX6_count := goodIn_r _ [479, 111, 114, 115, 5, 116, 480, 481, 482, 483, 140, 158, 214, 82, 29, 484, 354, 355, 268, 269, 270, 159, 160, 161, 117, 118, 119, 120, 643, 644, 645, 646, 647, 648, 649, 650, 651, 652, 653, 654, 655, 656, 657, 658, 659, 660, 661, 662, 663, 664, 665, 666, 667] (by decide +kernel) (by decide +kernel)
set_option maxRecDepth 20000 in
theorem gL_law_X6_count : GoodIn wsL_law (wsV RL 120 RX6 yX6_count wsX6_count) := goodIn_app (goodIn_of _ (by decide +kernel)) ggL_law_X6_count
set_option maxRecDepth 20000 in
theorem ggL_law_L_pass : GoodIn wsL_law wsL_pass := goodIn_ca (goodIn_r _ [487, 89, 488, 489, 490, 2, 491, 95, 96, 132, 30, 492, 202, 203, 204, 467, 104, 105, 106, 468, 469, 470, 471, 493, 494, 495, 496, 22, 172, 321, 322, 323, 324, 325, 326, 327, 328, 193, 24, 194, 306, 410, 411, 412, 413, 629, 630, 631, 632, 633, 634, 635, 636, 637, 638, 639, 640, 641, 642, 681, 682, 683, 684, 685, 686, 687, 688, 689, 690] (by decide +kernel) (by decide +kernel)) (goodIn_sub (fun _ h => List.mem_append_left _ (List.mem_append_left _ (List.mem_append_right _ h))) (by decide +kernel))
set_option maxRecDepth 20000 in
theorem gL_law_L_pass : GoodIn wsL_law (va_wsS RL 121 yL_pass wsL_pass) := goodIn_app (goodIn_of _ (by decide +kernel)) ggL_law_L_pass
set_option maxRecDepth 20000 in
theorem ggL_law_X6_pass : GoodIn wsL_law wsX6_pass := goodIn_r _ [500, 111, 158, 484, 114, 115, 5, 116, 117, 118, 119, 120, 501, 502, 503, 504, 140, 268, 269, 270, 159, 160, 161, 505, 506, 507, 508, 77, 372, 202, 203, 204, 364, 365, 366, 367, 214, 79, 82, 422, 423, 424, 425, 643, 644, 645, 646, 647, 648, 649, 650, 651, 652, 653, 654, 655, 656, 657, 658, 659, 660, 661, 662, 663, 664, 665, 666, 667] (by decide +kernel) (by decide +kernel)
set_option maxRecDepth 20000 in
theorem gL_law_X6_pass : GoodIn wsL_law (wsV RL 123 RX6 yX6_pass wsX6_pass) := goodIn_app (goodIn_of _ (by decide +kernel)) ggL_law_X6_pass
set_option maxRecDepth 20000 in
theorem ggL_law_X5_fewest : GoodIn wsL_law wsX5_fewest := goodIn_r _ [512, 28, 513, 514, 515, 516, 2, 517, 132, 518, 519, 30, 520, 521, 522, 523, 524, 525, 193, 24, 194, 306, 321, 322, 323, 324, 325, 326, 327, 328, 329, 330, 331, 332, 196, 333, 334, 335, 36, 336, 337, 205, 206, 207, 203, 208, 209, 201, 202, 204, 338, 339, 340, 341, 195, 526, 527, 27, 528, 529, 530, 531, 532, 56, 57, 55, 533, 534, 535, 536, 537, 538, 539, 540, 541, 31, 32, 99, 542, 543, 544, 342, 343, 344, 243, 244, 245, 246, 16, 102, 103, 101, 247, 248, 249, 250, 20, 133, 22, 148, 227, 251, 252, 253, 34, 254, 242, 234, 235, 236, 237, 134, 238, 239, 240, 241, 545, 546, 547, 548, 549, 629, 630, 631, 632, 633, 634, 635, 636, 637, 638, 639, 640, 641, 642, 675, 676, 677, 678, 679, 680, 685, 686, 687, 688, 689, 690, 668, 669, 670, 671, 672, 673, 674, 681, 682, 683, 684] (by decide +kernel) (by decide +kernel)
set_option maxRecDepth 20000 in
theorem gL_law_X5_fewest : GoodIn wsL_law (wsV RL 124 RX5 yX5_fewest wsX5_fewest) := goodIn_app (goodIn_of _ (by decide +kernel)) ggL_law_X5_fewest
set_option maxRecDepth 20000 in
theorem ggL_law_X6_fewest : GoodIn wsL_law wsX6_fewest := goodIn_r _ [553, 111, 158, 83, 554, 555, 556, 5, 557, 84, 214, 82, 360, 361, 362, 363, 79, 81, 140, 112, 268, 269, 270, 159, 160, 161, 364, 365, 366, 367, 368, 369, 370, 371, 80, 372, 202, 203, 204, 267, 207, 208, 373, 374, 375, 376, 75, 377, 378, 379, 380, 279, 280, 281, 282, 71, 113, 70, 283, 284, 285, 286, 72, 287, 288, 289, 290, 76, 271, 272, 273, 274, 73, 275, 276, 277, 278, 643, 644, 645, 646, 647, 648, 649, 650, 651, 652, 653, 654, 655, 656, 657, 658, 659, 660, 661, 662, 663, 664, 665, 666, 667] (by decide +kernel) (by decide +kernel)
set_option maxRecDepth 20000 in
theorem gL_law_X6_fewest : GoodIn wsL_law (wsV RL 127 RX6 yX6_fewest wsX6_fewest) := goodIn_app (goodIn_of _ (by decide +kernel)) ggL_law_X6_fewest
set_option maxRecDepth 20000 in
theorem ggL_law_X5_first : GoodIn wsL_law wsX5_first := goodIn_r _ [561, 28, 562, 514, 515, 516, 2, 517, 132, 518, 519, 30, 520, 521, 522, 523, 524, 525, 193, 24, 194, 306, 321, 322, 323, 324, 325, 326, 327, 328, 329, 330, 331, 332, 196, 333, 334, 335, 36, 336, 337, 205, 206, 207, 203, 208, 209, 201, 202, 204, 338, 339, 340, 341, 195, 526, 527, 27, 528, 529, 530, 531, 532, 56, 57, 55, 533, 534, 535, 536, 537, 538, 539, 540, 541, 31, 32, 99, 542, 543, 544, 342, 343, 344, 243, 244, 245, 246, 16, 102, 103, 101, 247, 248, 249, 250, 20, 133, 22, 148, 227, 251, 252, 253, 34, 254, 242, 234, 235, 236, 237, 134, 238, 239, 240, 241, 545, 546, 547, 548, 549, 629, 630, 631, 632, 633, 634, 635, 636, 637, 638, 639, 640, 641, 642, 675, 676, 677, 678, 679, 680, 685, 686, 687, 688, 689, 690, 668, 669, 670, 671, 672, 673, 674, 681, 682, 683, 684] (by decide +kernel) (by decide +kernel)
set_option maxRecDepth 20000 in
theorem gL_law_X5_first : GoodIn wsL_law (wsV RL 128 RX5 yX5_first wsX5_first) := goodIn_app (goodIn_of _ (by decide +kernel)) ggL_law_X5_first
set_option maxRecDepth 20000 in
theorem ggL_law_X6_first : GoodIn wsL_law wsX6_first := goodIn_r _ [566, 111, 158, 83, 214, 82, 554, 555, 556, 5, 557, 84, 360, 361, 362, 363, 79, 81, 140, 112, 268, 269, 270, 159, 160, 161, 364, 365, 366, 367, 368, 369, 370, 371, 80, 372, 202, 203, 204, 267, 207, 208, 373, 374, 375, 376, 75, 377, 378, 379, 380, 279, 280, 281, 282, 71, 113, 70, 283, 284, 285, 286, 72, 287, 288, 289, 290, 76, 271, 272, 273, 274, 73, 275, 276, 277, 278, 643, 644, 645, 646, 647, 648, 649, 650, 651, 652, 653, 654, 655, 656, 657, 658, 659, 660, 661, 662, 663, 664, 665, 666, 667] (by decide +kernel) (by decide +kernel)
set_option maxRecDepth 20000 in
theorem gL_law_X6_first : GoodIn wsL_law (wsV RL 131 RX6 yX6_first wsX6_first) := goodIn_app (goodIn_of _ (by decide +kernel)) ggL_law_X6_first
set_option maxRecDepth 20000 in
theorem ggL_law_L_least : GoodIn wsL_law wsL_least := goodIn_ca (goodIn_r _ [569, 165, 570, 571, 572, 2, 573, 170, 171, 30, 28, 520, 521, 32, 492, 202, 203, 204, 174, 175, 176, 177, 132, 514, 515, 516, 517, 518, 519, 522, 523, 524, 525, 193, 24, 194, 306, 321, 322, 323, 324, 325, 326, 327, 328, 329, 330, 331, 332, 196, 333, 334, 335, 36, 336, 337, 205, 206, 207, 208, 209, 201, 338, 339, 340, 341, 195, 526, 527, 27, 528, 529, 530, 531, 532, 56, 57, 55, 533, 534, 535, 536, 537, 538, 539, 540, 541, 31, 99, 542, 543, 544, 342, 343, 344, 243, 244, 245, 246, 16, 102, 103, 101, 247, 248, 249, 250, 20, 133, 22, 148, 227, 251, 252, 253, 34, 254, 242, 234, 235, 236, 237, 134, 238, 239, 240, 241, 545, 546, 547, 548, 549, 629, 630, 631, 632, 633, 634, 635, 636, 637, 638, 639, 640, 641, 642, 675, 676, 677, 678, 679, 680, 685, 686, 687, 688, 689, 690, 668, 669, 670, 671, 672, 673, 674, 681, 682, 683, 684] (by decide +kernel) (by decide +kernel)) (goodIn_sub (fun _ h => List.mem_append_right _ h) (by decide +kernel))
set_option maxRecDepth 20000 in
theorem gL_law_L_least : GoodIn wsL_law (va_wsS RL 132 yL_least wsL_least) := goodIn_app (goodIn_of _ (by decide +kernel)) ggL_law_L_least
set_option maxRecDepth 20000 in
theorem ggL_law_X6_least : GoodIn wsL_law wsX6_least := goodIn_r _ [577, 111, 158, 84, 372, 202, 203, 204, 182, 183, 184, 5, 185, 140, 114, 115, 116, 117, 118, 119, 120, 554, 555, 556, 557, 83, 214, 82, 360, 361, 362, 363, 79, 81, 112, 268, 269, 270, 159, 160, 161, 364, 365, 366, 367, 368, 369, 370, 371, 80, 267, 207, 208, 373, 374, 375, 376, 75, 377, 378, 379, 380, 279, 280, 281, 282, 71, 113, 70, 283, 284, 285, 286, 72, 287, 288, 289, 290, 76, 271, 272, 273, 274, 73, 275, 276, 277, 278, 643, 644, 645, 646, 647, 648, 649, 650, 651, 652, 653, 654, 655, 656, 657, 658, 659, 660, 661, 662, 663, 664, 665, 666, 667] (by decide +kernel) (by decide +kernel)
set_option maxRecDepth 20000 in
theorem gL_law_X6_least : GoodIn wsL_law (wsV RL 134 RX6 yX6_least wsX6_least) := goodIn_app (goodIn_of _ (by decide +kernel)) ggL_law_X6_least
set_option maxRecDepth 20000 in
theorem ggL_law_X5_falls : GoodIn wsL_law wsX5_falls := goodIn_r _ [581, 132, 227, 207, 203, 208, 582, 583, 584, 2, 585, 30, 493, 494, 495, 496, 22, 172, 321, 322, 323, 324, 325, 326, 327, 328, 193, 24, 194, 306, 410, 411, 412, 413, 629, 630, 631, 632, 633, 634, 635, 636, 637, 638, 639, 640, 641, 642, 681, 682, 683, 684, 685, 686, 687, 688, 689, 690] (by decide +kernel) (by decide +kernel)
set_option maxRecDepth 20000 in
theorem gL_law_X5_falls : GoodIn wsL_law (wsV RL 135 RX5 yX5_falls wsX5_falls) := goodIn_app (goodIn_of _ (by decide +kernel)) ggL_law_X5_falls
set_option maxRecDepth 20000 in
theorem ggL_law_X6_falls : GoodIn wsL_law wsX6_falls := goodIn_r _ [589, 111, 158, 140, 501, 502, 503, 5, 504, 268, 269, 270, 159, 160, 161, 505, 506, 507, 508, 77, 372, 202, 203, 204, 364, 365, 366, 367, 214, 79, 82, 422, 423, 424, 425, 643, 644, 645, 646, 647, 648, 649, 650, 651, 652, 653, 654, 655, 656, 657, 658, 659, 660, 661, 662, 663, 664, 665, 666, 667] (by decide +kernel) (by decide +kernel)
set_option maxRecDepth 20000 in
theorem gL_law_X6_falls : GoodIn wsL_law (wsV RL 138 RX6 yX6_falls wsX6_falls) := goodIn_app (goodIn_of _ (by decide +kernel)) ggL_law_X6_falls
set_option maxRecDepth 20000 in
theorem ggL_law_X5_mean : GoodIn wsL_law wsX5_mean := goodIn_r _ [593, 132, 30, 629, 630, 631, 632, 633, 634, 635, 636, 637, 638, 639, 640, 641, 642] (by decide +kernel) (by decide +kernel)
set_option maxRecDepth 20000 in
theorem gL_law_X5_mean : GoodIn wsL_law (wsV RL 139 RX5 yX5_mean wsX5_mean) := goodIn_app (goodIn_of _ (by decide +kernel)) ggL_law_X5_mean
set_option maxRecDepth 20000 in
theorem ggL_law_X6_mean : GoodIn wsL_law wsX6_mean := goodIn_r _ [597, 111, 140, 158, 268, 269, 5, 270, 159, 160, 161, 643, 644, 645, 646, 647, 648, 649, 650, 651, 652, 653, 654, 655, 656, 657, 658, 659, 660, 661, 662, 663, 664, 665, 666, 667] (by decide +kernel) (by decide +kernel)
set_option maxRecDepth 20000 in
theorem gL_law_X6_mean : GoodIn wsL_law (wsV RL 143 RX6 yX6_mean wsX6_mean) := goodIn_app (goodIn_of _ (by decide +kernel)) ggL_law_X6_mean
set_option maxRecDepth 20000 in
theorem ggL_law_X5_digest : GoodIn wsL_law wsX5_digest := goodIn_ca (goodIn_r _ [601, 602, 603, 20, 16, 132, 22, 193, 604, 464, 465, 2, 466, 170, 171, 467, 308, 307, 468, 469, 470, 471, 30, 472, 473, 474, 475, 24, 306, 605, 449, 450, 451, 99, 223, 224, 225, 226, 135, 227, 207, 203, 208, 228, 229, 230, 34, 231, 232, 61, 233, 234, 235, 236, 237, 134, 238, 239, 240, 241, 242, 247, 248, 249, 250, 133, 148, 251, 252, 253, 254, 219, 220, 221, 222, 100, 243, 244, 245, 246, 102, 103, 101, 606, 607, 608, 15, 609, 610, 40, 41, 42, 43, 611, 612, 613, 19, 614, 615, 47, 48, 49, 616, 407, 408, 409, 149, 172, 174, 175, 176, 177, 321, 322, 323, 324, 325, 326, 327, 328, 194, 410, 411, 412, 413, 617, 618, 619, 620, 621, 622, 430, 431, 432, 195, 196, 313, 314, 315, 316, 433, 434, 435, 436, 333, 334, 335, 36, 336, 337, 205, 206, 209, 201, 202, 204, 629, 630, 631, 632, 633, 634, 635, 636, 637, 638, 639, 640, 641, 642, 685, 686, 687, 688, 689, 690, 672, 673, 674, 681, 682, 683, 684, 668, 669, 670, 671] (by decide +kernel) (by decide +kernel)) (goodIn_sub (fun _ h => List.mem_append_right _ h) (by decide +kernel))
set_option maxRecDepth 20000 in
theorem gL_law_X5_digest : GoodIn wsL_law (wsV RL 144 RX5 yX5_digest wsX5_digest) := goodIn_app (goodIn_of _ (by decide +kernel)) ggL_law_X5_digest
set_option maxRecDepth 20000 in
theorem ggL_law_X6_digest : GoodIn wsL_law wsX6_digest := goodIn_r _ [626, 111, 627, 628, 29, 69, 70, 71, 113, 72, 73, 74, 140, 77, 78, 214, 480, 481, 482, 5, 483, 158, 82, 484, 354, 355, 268, 269, 270, 159, 160, 161, 456, 457, 458, 459, 112, 263, 264, 265, 266, 267, 207, 203, 208, 271, 272, 273, 274, 275, 276, 277, 278, 76, 283, 284, 285, 286, 75, 287, 288, 289, 290, 259, 260, 261, 262, 279, 280, 281, 282, 418, 419, 420, 421, 364, 365, 366, 367, 79, 422, 423, 424, 425, 441, 442, 443, 444, 80, 81, 368, 369, 370, 371, 372, 202, 204, 373, 374, 375, 376, 643, 644, 645, 646, 647, 648, 649, 650, 651, 652, 653, 654, 655, 656, 657, 658, 659, 660, 661, 662, 663, 664, 665, 666, 667] (by decide +kernel) (by decide +kernel)
set_option maxRecDepth 20000 in
theorem gL_law_X6_digest : GoodIn wsL_law (wsV RL 148 RX6 yX6_digest wsX6_digest) := goodIn_app (goodIn_of _ (by decide +kernel)) ggL_law_X6_digest
theorem dL_law_0 : decode cL_law 0 = .ok (.new 8, 3) := by decide +kernel
theorem dL_law_3 : decode cL_law 3 = .ok (.dup, 1) := by decide +kernel
theorem dL_law_4 : decode cL_law 4 = .ok (.invokespecial 62, 3) := by decide +kernel
theorem dL_law_7 : decode cL_law 7 = .ok (.astore_n 1, 1) := by decide +kernel
theorem dL_law_8 : decode cL_law 8 = .ok (.new 63, 3) := by decide +kernel
theorem dL_law_11 : decode cL_law 11 = .ok (.dup, 1) := by decide +kernel
theorem dL_law_12 : decode cL_law 12 = .ok (.invokespecial 65, 3) := by decide +kernel
theorem dL_law_15 : decode cL_law 15 = .ok (.astore_n 2, 1) := by decide +kernel
theorem dL_law_16 : decode cL_law 16 = .ok (.iconst 1, 1) := by decide +kernel
theorem dL_law_17 : decode cL_law 17 = .ok (.newarray .long, 2) := by decide +kernel
theorem dL_law_19 : decode cL_law 19 = .ok (.astore_n 3, 1) := by decide +kernel
theorem dL_law_20 : decode cL_law 20 = .ok (.iconst 0, 1) := by decide +kernel
theorem dL_law_21 : decode cL_law 21 = .ok (.istore 4, 2) := by decide +kernel
theorem dL_law_23 : decode cL_law 23 = .ok (.iload 4, 2) := by decide +kernel
theorem dL_law_25 : decode cL_law 25 = .ok (.aload_n 0, 1) := by decide +kernel
theorem dL_law_26 : decode cL_law 26 = .ok (.arraylength, 1) := by decide +kernel
theorem dL_law_27 : decode cL_law 27 = .ok (.iconst 5, 1) := by decide +kernel
theorem dL_law_28 : decode cL_law 28 = .ok (.isub, 1) := by decide +kernel
theorem dL_law_29 : decode cL_law 29 = .ok (.if_icmp .gt 1168, 3) := by decide +kernel
theorem dL_law_32 : decode cL_law 32 = .ok (.aload_n 0, 1) := by decide +kernel
theorem dL_law_33 : decode cL_law 33 = .ok (.iload 4, 2) := by decide +kernel
theorem dL_law_35 : decode cL_law 35 = .ok (.iaload, 1) := by decide +kernel
theorem dL_law_36 : decode cL_law 36 = .ok (.bipush 31, 2) := by decide +kernel
theorem dL_law_38 : decode cL_law 38 = .ok (.iand, 1) := by decide +kernel
theorem dL_law_39 : decode cL_law 39 = .ok (.tableswitch 1152 0 20 #[97, 189, 269, 337, 405, 485, 498, 511, 567, 623, 698, 766, 834, 890, 946, 1002, 1015, 1028, 1084, 1097, 1138], 97) := by decide +kernel
theorem dL_law_136 : decode cL_law 136 = .ok (.aload_n 1, 1) := by decide +kernel
theorem dL_law_137 : decode cL_law 137 = .ok (.aload_n 0, 1) := by decide +kernel
theorem dL_law_138 : decode cL_law 138 = .ok (.iload 4, 2) := by decide +kernel
theorem dL_law_140 : decode cL_law 140 = .ok (.iconst 1, 1) := by decide +kernel
theorem dL_law_141 : decode cL_law 141 = .ok (.iadd, 1) := by decide +kernel
theorem dL_law_142 : decode cL_law 142 = .ok (.iaload, 1) := by decide +kernel
theorem dL_law_143 : decode cL_law 143 = .ok (.aload_n 0, 1) := by decide +kernel
theorem dL_law_144 : decode cL_law 144 = .ok (.iload 4, 2) := by decide +kernel
theorem dL_law_146 : decode cL_law 146 = .ok (.iconst 2, 1) := by decide +kernel
theorem dL_law_147 : decode cL_law 147 = .ok (.iadd, 1) := by decide +kernel
theorem dL_law_148 : decode cL_law 148 = .ok (.iaload, 1) := by decide +kernel
theorem dL_law_149 : decode cL_law 149 = .ok (.aload_n 0, 1) := by decide +kernel
theorem dL_law_150 : decode cL_law 150 = .ok (.iload 4, 2) := by decide +kernel
theorem dL_law_152 : decode cL_law 152 = .ok (.iconst 3, 1) := by decide +kernel
theorem dL_law_153 : decode cL_law 153 = .ok (.iadd, 1) := by decide +kernel
theorem dL_law_154 : decode cL_law 154 = .ok (.iaload, 1) := by decide +kernel
theorem dL_law_155 : decode cL_law 155 = .ok (.aload_n 0, 1) := by decide +kernel
theorem dL_law_156 : decode cL_law 156 = .ok (.iload 4, 2) := by decide +kernel
theorem dL_law_158 : decode cL_law 158 = .ok (.iconst 4, 1) := by decide +kernel
theorem dL_law_159 : decode cL_law 159 = .ok (.iadd, 1) := by decide +kernel
theorem dL_law_160 : decode cL_law 160 = .ok (.iaload, 1) := by decide +kernel
theorem dL_law_161 : decode cL_law 161 = .ok (.aload_n 3, 1) := by decide +kernel
theorem dL_law_162 : decode cL_law 162 = .ok (.invokestatic 66, 3) := by decide +kernel
theorem dL_law_165 : decode cL_law 165 = .ok (.istore 5, 2) := by decide +kernel
theorem dL_law_167 : decode cL_law 167 = .ok (.aload_n 2, 1) := by decide +kernel
theorem dL_law_168 : decode cL_law 168 = .ok (.aload_n 0, 1) := by decide +kernel
theorem dL_law_169 : decode cL_law 169 = .ok (.iload 4, 2) := by decide +kernel
theorem dL_law_171 : decode cL_law 171 = .ok (.iconst 1, 1) := by decide +kernel
theorem dL_law_172 : decode cL_law 172 = .ok (.iadd, 1) := by decide +kernel
theorem dL_law_173 : decode cL_law 173 = .ok (.iaload, 1) := by decide +kernel
theorem dL_law_174 : decode cL_law 174 = .ok (.aload_n 0, 1) := by decide +kernel
theorem dL_law_175 : decode cL_law 175 = .ok (.iload 4, 2) := by decide +kernel
theorem dL_law_177 : decode cL_law 177 = .ok (.iconst 2, 1) := by decide +kernel
theorem dL_law_178 : decode cL_law 178 = .ok (.iadd, 1) := by decide +kernel
theorem dL_law_179 : decode cL_law 179 = .ok (.iaload, 1) := by decide +kernel
theorem dL_law_180 : decode cL_law 180 = .ok (.aload_n 0, 1) := by decide +kernel
theorem dL_law_181 : decode cL_law 181 = .ok (.iload 4, 2) := by decide +kernel
theorem dL_law_183 : decode cL_law 183 = .ok (.iconst 3, 1) := by decide +kernel
theorem dL_law_184 : decode cL_law 184 = .ok (.iadd, 1) := by decide +kernel
theorem dL_law_185 : decode cL_law 185 = .ok (.iaload, 1) := by decide +kernel
theorem dL_law_186 : decode cL_law 186 = .ok (.aload_n 0, 1) := by decide +kernel
theorem dL_law_187 : decode cL_law 187 = .ok (.iload 4, 2) := by decide +kernel
theorem dL_law_189 : decode cL_law 189 = .ok (.iconst 4, 1) := by decide +kernel
theorem dL_law_190 : decode cL_law 190 = .ok (.iadd, 1) := by decide +kernel
theorem dL_law_191 : decode cL_law 191 = .ok (.iaload, 1) := by decide +kernel
theorem dL_law_192 : decode cL_law 192 = .ok (.invokevirtual 71, 3) := by decide +kernel
theorem dL_law_195 : decode cL_law 195 = .ok (.istore 6, 2) := by decide +kernel
theorem dL_law_197 : decode cL_law 197 = .ok (.aload_n 2, 1) := by decide +kernel
theorem dL_law_198 : decode cL_law 198 = .ok (.invokevirtual 72, 3) := by decide +kernel
theorem dL_law_201 : decode cL_law 201 = .ok (.iload 5, 2) := by decide +kernel
theorem dL_law_203 : decode cL_law 203 = .ok (.if_icmp .eq 5, 3) := by decide +kernel
theorem dL_law_206 : decode cL_law 206 = .ok (.iconst 0, 1) := by decide +kernel
theorem dL_law_207 : decode cL_law 207 = .ok (.ireturn, 1) := by decide +kernel
theorem dL_law_208 : decode cL_law 208 = .ok (.iload 5, 2) := by decide +kernel
theorem dL_law_210 : decode cL_law 210 = .ok (.ifCond .ne 15, 3) := by decide +kernel
theorem dL_law_213 : decode cL_law 213 = .ok (.aload_n 3, 1) := by decide +kernel
theorem dL_law_214 : decode cL_law 214 = .ok (.iconst 0, 1) := by decide +kernel
theorem dL_law_215 : decode cL_law 215 = .ok (.laload, 1) := by decide +kernel
theorem dL_law_216 : decode cL_law 216 = .ok (.iload 6, 2) := by decide +kernel
theorem dL_law_218 : decode cL_law 218 = .ok (.i2l, 1) := by decide +kernel
theorem dL_law_219 : decode cL_law 219 = .ok (.lcmp, 1) := by decide +kernel
theorem dL_law_220 : decode cL_law 220 = .ok (.ifCond .eq 5, 3) := by decide +kernel
theorem dL_law_223 : decode cL_law 223 = .ok (.iconst 0, 1) := by decide +kernel
theorem dL_law_224 : decode cL_law 224 = .ok (.ireturn, 1) := by decide +kernel
theorem dL_law_225 : decode cL_law 225 = .ok (.goto 966, 3) := by decide +kernel
theorem dL_law_228 : decode cL_law 228 = .ok (.aload_n 1, 1) := by decide +kernel
theorem dL_law_229 : decode cL_law 229 = .ok (.aload_n 0, 1) := by decide +kernel
theorem dL_law_230 : decode cL_law 230 = .ok (.iload 4, 2) := by decide +kernel
theorem dL_law_232 : decode cL_law 232 = .ok (.iconst 1, 1) := by decide +kernel
theorem dL_law_233 : decode cL_law 233 = .ok (.iadd, 1) := by decide +kernel
theorem dL_law_234 : decode cL_law 234 = .ok (.iaload, 1) := by decide +kernel
theorem dL_law_235 : decode cL_law 235 = .ok (.aload_n 0, 1) := by decide +kernel
theorem dL_law_236 : decode cL_law 236 = .ok (.iload 4, 2) := by decide +kernel
theorem dL_law_238 : decode cL_law 238 = .ok (.iconst 2, 1) := by decide +kernel
theorem dL_law_239 : decode cL_law 239 = .ok (.iadd, 1) := by decide +kernel
theorem dL_law_240 : decode cL_law 240 = .ok (.iaload, 1) := by decide +kernel
theorem dL_law_241 : decode cL_law 241 = .ok (.aload_n 0, 1) := by decide +kernel
theorem dL_law_242 : decode cL_law 242 = .ok (.iload 4, 2) := by decide +kernel
theorem dL_law_244 : decode cL_law 244 = .ok (.iconst 3, 1) := by decide +kernel
theorem dL_law_245 : decode cL_law 245 = .ok (.iadd, 1) := by decide +kernel
theorem dL_law_246 : decode cL_law 246 = .ok (.iaload, 1) := by decide +kernel
theorem dL_law_247 : decode cL_law 247 = .ok (.aload_n 3, 1) := by decide +kernel
theorem dL_law_248 : decode cL_law 248 = .ok (.invokestatic 76, 3) := by decide +kernel
theorem dL_law_251 : decode cL_law 251 = .ok (.istore 5, 2) := by decide +kernel
theorem dL_law_253 : decode cL_law 253 = .ok (.aload_n 2, 1) := by decide +kernel
theorem dL_law_254 : decode cL_law 254 = .ok (.aload_n 0, 1) := by decide +kernel
theorem dL_law_255 : decode cL_law 255 = .ok (.iload 4, 2) := by decide +kernel
theorem dL_law_257 : decode cL_law 257 = .ok (.iconst 1, 1) := by decide +kernel
theorem dL_law_258 : decode cL_law 258 = .ok (.iadd, 1) := by decide +kernel
theorem dL_law_259 : decode cL_law 259 = .ok (.iaload, 1) := by decide +kernel
theorem dL_law_260 : decode cL_law 260 = .ok (.aload_n 0, 1) := by decide +kernel
theorem dL_law_261 : decode cL_law 261 = .ok (.iload 4, 2) := by decide +kernel
theorem dL_law_263 : decode cL_law 263 = .ok (.iconst 2, 1) := by decide +kernel
theorem dL_law_264 : decode cL_law 264 = .ok (.iadd, 1) := by decide +kernel
theorem dL_law_265 : decode cL_law 265 = .ok (.iaload, 1) := by decide +kernel
theorem dL_law_266 : decode cL_law 266 = .ok (.aload_n 0, 1) := by decide +kernel
theorem dL_law_267 : decode cL_law 267 = .ok (.iload 4, 2) := by decide +kernel
theorem dL_law_269 : decode cL_law 269 = .ok (.iconst 3, 1) := by decide +kernel
theorem dL_law_270 : decode cL_law 270 = .ok (.iadd, 1) := by decide +kernel
theorem dL_law_271 : decode cL_law 271 = .ok (.iaload, 1) := by decide +kernel
theorem dL_law_272 : decode cL_law 272 = .ok (.invokevirtual 79, 3) := by decide +kernel
theorem dL_law_275 : decode cL_law 275 = .ok (.istore 6, 2) := by decide +kernel
theorem dL_law_277 : decode cL_law 277 = .ok (.aload_n 2, 1) := by decide +kernel
theorem dL_law_278 : decode cL_law 278 = .ok (.invokevirtual 72, 3) := by decide +kernel
theorem dL_law_281 : decode cL_law 281 = .ok (.iload 5, 2) := by decide +kernel
theorem dL_law_283 : decode cL_law 283 = .ok (.if_icmp .eq 5, 3) := by decide +kernel
theorem dL_law_286 : decode cL_law 286 = .ok (.iconst 0, 1) := by decide +kernel
theorem dL_law_287 : decode cL_law 287 = .ok (.ireturn, 1) := by decide +kernel
theorem dL_law_288 : decode cL_law 288 = .ok (.iload 5, 2) := by decide +kernel
theorem dL_law_290 : decode cL_law 290 = .ok (.ifCond .ne 15, 3) := by decide +kernel
theorem dL_law_293 : decode cL_law 293 = .ok (.aload_n 3, 1) := by decide +kernel
theorem dL_law_294 : decode cL_law 294 = .ok (.iconst 0, 1) := by decide +kernel
theorem dL_law_295 : decode cL_law 295 = .ok (.laload, 1) := by decide +kernel
theorem dL_law_296 : decode cL_law 296 = .ok (.iload 6, 2) := by decide +kernel
theorem dL_law_298 : decode cL_law 298 = .ok (.i2l, 1) := by decide +kernel
theorem dL_law_299 : decode cL_law 299 = .ok (.lcmp, 1) := by decide +kernel
theorem dL_law_300 : decode cL_law 300 = .ok (.ifCond .eq 5, 3) := by decide +kernel
theorem dL_law_303 : decode cL_law 303 = .ok (.iconst 0, 1) := by decide +kernel
theorem dL_law_304 : decode cL_law 304 = .ok (.ireturn, 1) := by decide +kernel
theorem dL_law_305 : decode cL_law 305 = .ok (.goto 886, 3) := by decide +kernel
theorem dL_law_308 : decode cL_law 308 = .ok (.aload_n 1, 1) := by decide +kernel
theorem dL_law_309 : decode cL_law 309 = .ok (.aload_n 0, 1) := by decide +kernel
theorem dL_law_310 : decode cL_law 310 = .ok (.iload 4, 2) := by decide +kernel
theorem dL_law_312 : decode cL_law 312 = .ok (.iconst 1, 1) := by decide +kernel
theorem dL_law_313 : decode cL_law 313 = .ok (.iadd, 1) := by decide +kernel
theorem dL_law_314 : decode cL_law 314 = .ok (.iaload, 1) := by decide +kernel
theorem dL_law_315 : decode cL_law 315 = .ok (.aload_n 0, 1) := by decide +kernel
theorem dL_law_316 : decode cL_law 316 = .ok (.iload 4, 2) := by decide +kernel
theorem dL_law_318 : decode cL_law 318 = .ok (.iconst 2, 1) := by decide +kernel
theorem dL_law_319 : decode cL_law 319 = .ok (.iadd, 1) := by decide +kernel
theorem dL_law_320 : decode cL_law 320 = .ok (.iaload, 1) := by decide +kernel
theorem dL_law_321 : decode cL_law 321 = .ok (.aload_n 3, 1) := by decide +kernel
theorem dL_law_322 : decode cL_law 322 = .ok (.invokestatic 80, 3) := by decide +kernel
theorem dL_law_325 : decode cL_law 325 = .ok (.istore 5, 2) := by decide +kernel
theorem dL_law_327 : decode cL_law 327 = .ok (.aload_n 2, 1) := by decide +kernel
theorem dL_law_328 : decode cL_law 328 = .ok (.aload_n 0, 1) := by decide +kernel
theorem dL_law_329 : decode cL_law 329 = .ok (.iload 4, 2) := by decide +kernel
theorem dL_law_331 : decode cL_law 331 = .ok (.iconst 1, 1) := by decide +kernel
theorem dL_law_332 : decode cL_law 332 = .ok (.iadd, 1) := by decide +kernel
theorem dL_law_333 : decode cL_law 333 = .ok (.iaload, 1) := by decide +kernel
theorem dL_law_334 : decode cL_law 334 = .ok (.aload_n 0, 1) := by decide +kernel
theorem dL_law_335 : decode cL_law 335 = .ok (.iload 4, 2) := by decide +kernel
theorem dL_law_337 : decode cL_law 337 = .ok (.iconst 2, 1) := by decide +kernel
theorem dL_law_338 : decode cL_law 338 = .ok (.iadd, 1) := by decide +kernel
theorem dL_law_339 : decode cL_law 339 = .ok (.iaload, 1) := by decide +kernel
theorem dL_law_340 : decode cL_law 340 = .ok (.invokevirtual 83, 3) := by decide +kernel
theorem dL_law_343 : decode cL_law 343 = .ok (.istore 6, 2) := by decide +kernel
theorem dL_law_345 : decode cL_law 345 = .ok (.aload_n 2, 1) := by decide +kernel
theorem dL_law_346 : decode cL_law 346 = .ok (.invokevirtual 72, 3) := by decide +kernel
theorem dL_law_349 : decode cL_law 349 = .ok (.iload 5, 2) := by decide +kernel
theorem dL_law_351 : decode cL_law 351 = .ok (.if_icmp .eq 5, 3) := by decide +kernel
theorem dL_law_354 : decode cL_law 354 = .ok (.iconst 0, 1) := by decide +kernel
theorem dL_law_355 : decode cL_law 355 = .ok (.ireturn, 1) := by decide +kernel
theorem dL_law_356 : decode cL_law 356 = .ok (.iload 5, 2) := by decide +kernel
theorem dL_law_358 : decode cL_law 358 = .ok (.ifCond .ne 15, 3) := by decide +kernel
theorem dL_law_361 : decode cL_law 361 = .ok (.aload_n 3, 1) := by decide +kernel
theorem dL_law_362 : decode cL_law 362 = .ok (.iconst 0, 1) := by decide +kernel
theorem dL_law_363 : decode cL_law 363 = .ok (.laload, 1) := by decide +kernel
theorem dL_law_364 : decode cL_law 364 = .ok (.iload 6, 2) := by decide +kernel
theorem dL_law_366 : decode cL_law 366 = .ok (.i2l, 1) := by decide +kernel
theorem dL_law_367 : decode cL_law 367 = .ok (.lcmp, 1) := by decide +kernel
theorem dL_law_368 : decode cL_law 368 = .ok (.ifCond .eq 5, 3) := by decide +kernel
theorem dL_law_371 : decode cL_law 371 = .ok (.iconst 0, 1) := by decide +kernel
theorem dL_law_372 : decode cL_law 372 = .ok (.ireturn, 1) := by decide +kernel
theorem dL_law_373 : decode cL_law 373 = .ok (.goto 818, 3) := by decide +kernel
theorem dL_law_376 : decode cL_law 376 = .ok (.aload_n 1, 1) := by decide +kernel
theorem dL_law_377 : decode cL_law 377 = .ok (.aload_n 0, 1) := by decide +kernel
theorem dL_law_378 : decode cL_law 378 = .ok (.iload 4, 2) := by decide +kernel
theorem dL_law_380 : decode cL_law 380 = .ok (.iconst 1, 1) := by decide +kernel
theorem dL_law_381 : decode cL_law 381 = .ok (.iadd, 1) := by decide +kernel
theorem dL_law_382 : decode cL_law 382 = .ok (.iaload, 1) := by decide +kernel
theorem dL_law_383 : decode cL_law 383 = .ok (.aload_n 0, 1) := by decide +kernel
theorem dL_law_384 : decode cL_law 384 = .ok (.iload 4, 2) := by decide +kernel
theorem dL_law_386 : decode cL_law 386 = .ok (.iconst 2, 1) := by decide +kernel
theorem dL_law_387 : decode cL_law 387 = .ok (.iadd, 1) := by decide +kernel
theorem dL_law_388 : decode cL_law 388 = .ok (.iaload, 1) := by decide +kernel
theorem dL_law_389 : decode cL_law 389 = .ok (.aload_n 3, 1) := by decide +kernel
theorem dL_law_390 : decode cL_law 390 = .ok (.invokestatic 84, 3) := by decide +kernel
theorem dL_law_393 : decode cL_law 393 = .ok (.istore 5, 2) := by decide +kernel
theorem dL_law_395 : decode cL_law 395 = .ok (.aload_n 2, 1) := by decide +kernel
theorem dL_law_396 : decode cL_law 396 = .ok (.aload_n 0, 1) := by decide +kernel
theorem dL_law_397 : decode cL_law 397 = .ok (.iload 4, 2) := by decide +kernel
theorem dL_law_399 : decode cL_law 399 = .ok (.iconst 1, 1) := by decide +kernel
theorem dL_law_400 : decode cL_law 400 = .ok (.iadd, 1) := by decide +kernel
theorem dL_law_401 : decode cL_law 401 = .ok (.iaload, 1) := by decide +kernel
theorem dL_law_402 : decode cL_law 402 = .ok (.aload_n 0, 1) := by decide +kernel
theorem dL_law_403 : decode cL_law 403 = .ok (.iload 4, 2) := by decide +kernel
theorem dL_law_405 : decode cL_law 405 = .ok (.iconst 2, 1) := by decide +kernel
theorem dL_law_406 : decode cL_law 406 = .ok (.iadd, 1) := by decide +kernel
theorem dL_law_407 : decode cL_law 407 = .ok (.iaload, 1) := by decide +kernel
theorem dL_law_408 : decode cL_law 408 = .ok (.invokevirtual 86, 3) := by decide +kernel
theorem dL_law_411 : decode cL_law 411 = .ok (.istore 6, 2) := by decide +kernel
theorem dL_law_413 : decode cL_law 413 = .ok (.aload_n 2, 1) := by decide +kernel
theorem dL_law_414 : decode cL_law 414 = .ok (.invokevirtual 72, 3) := by decide +kernel
theorem dL_law_417 : decode cL_law 417 = .ok (.iload 5, 2) := by decide +kernel
theorem dL_law_419 : decode cL_law 419 = .ok (.if_icmp .eq 5, 3) := by decide +kernel
theorem dL_law_422 : decode cL_law 422 = .ok (.iconst 0, 1) := by decide +kernel
theorem dL_law_423 : decode cL_law 423 = .ok (.ireturn, 1) := by decide +kernel
theorem dL_law_424 : decode cL_law 424 = .ok (.iload 5, 2) := by decide +kernel
theorem dL_law_426 : decode cL_law 426 = .ok (.ifCond .ne 15, 3) := by decide +kernel
theorem dL_law_429 : decode cL_law 429 = .ok (.aload_n 3, 1) := by decide +kernel
theorem dL_law_430 : decode cL_law 430 = .ok (.iconst 0, 1) := by decide +kernel
theorem dL_law_431 : decode cL_law 431 = .ok (.laload, 1) := by decide +kernel
theorem dL_law_432 : decode cL_law 432 = .ok (.iload 6, 2) := by decide +kernel
theorem dL_law_434 : decode cL_law 434 = .ok (.i2l, 1) := by decide +kernel
theorem dL_law_435 : decode cL_law 435 = .ok (.lcmp, 1) := by decide +kernel
theorem dL_law_436 : decode cL_law 436 = .ok (.ifCond .eq 5, 3) := by decide +kernel
theorem dL_law_439 : decode cL_law 439 = .ok (.iconst 0, 1) := by decide +kernel
theorem dL_law_440 : decode cL_law 440 = .ok (.ireturn, 1) := by decide +kernel
theorem dL_law_441 : decode cL_law 441 = .ok (.goto 750, 3) := by decide +kernel
theorem dL_law_444 : decode cL_law 444 = .ok (.aload_n 1, 1) := by decide +kernel
theorem dL_law_445 : decode cL_law 445 = .ok (.aload_n 0, 1) := by decide +kernel
theorem dL_law_446 : decode cL_law 446 = .ok (.iload 4, 2) := by decide +kernel
theorem dL_law_448 : decode cL_law 448 = .ok (.iconst 1, 1) := by decide +kernel
theorem dL_law_449 : decode cL_law 449 = .ok (.iadd, 1) := by decide +kernel
theorem dL_law_450 : decode cL_law 450 = .ok (.iaload, 1) := by decide +kernel
theorem dL_law_451 : decode cL_law 451 = .ok (.aload_n 0, 1) := by decide +kernel
theorem dL_law_452 : decode cL_law 452 = .ok (.iload 4, 2) := by decide +kernel
theorem dL_law_454 : decode cL_law 454 = .ok (.iconst 2, 1) := by decide +kernel
theorem dL_law_455 : decode cL_law 455 = .ok (.iadd, 1) := by decide +kernel
theorem dL_law_456 : decode cL_law 456 = .ok (.iaload, 1) := by decide +kernel
theorem dL_law_457 : decode cL_law 457 = .ok (.aload_n 0, 1) := by decide +kernel
theorem dL_law_458 : decode cL_law 458 = .ok (.iload 4, 2) := by decide +kernel
theorem dL_law_460 : decode cL_law 460 = .ok (.iconst 3, 1) := by decide +kernel
theorem dL_law_461 : decode cL_law 461 = .ok (.iadd, 1) := by decide +kernel
theorem dL_law_462 : decode cL_law 462 = .ok (.iaload, 1) := by decide +kernel
theorem dL_law_463 : decode cL_law 463 = .ok (.aload_n 3, 1) := by decide +kernel
theorem dL_law_464 : decode cL_law 464 = .ok (.invokestatic 87, 3) := by decide +kernel
theorem dL_law_467 : decode cL_law 467 = .ok (.istore 5, 2) := by decide +kernel
theorem dL_law_469 : decode cL_law 469 = .ok (.aload_n 2, 1) := by decide +kernel
theorem dL_law_470 : decode cL_law 470 = .ok (.aload_n 0, 1) := by decide +kernel
theorem dL_law_471 : decode cL_law 471 = .ok (.iload 4, 2) := by decide +kernel
theorem dL_law_473 : decode cL_law 473 = .ok (.iconst 1, 1) := by decide +kernel
theorem dL_law_474 : decode cL_law 474 = .ok (.iadd, 1) := by decide +kernel
theorem dL_law_475 : decode cL_law 475 = .ok (.iaload, 1) := by decide +kernel
theorem dL_law_476 : decode cL_law 476 = .ok (.aload_n 0, 1) := by decide +kernel
theorem dL_law_477 : decode cL_law 477 = .ok (.iload 4, 2) := by decide +kernel
theorem dL_law_479 : decode cL_law 479 = .ok (.iconst 2, 1) := by decide +kernel
theorem dL_law_480 : decode cL_law 480 = .ok (.iadd, 1) := by decide +kernel
theorem dL_law_481 : decode cL_law 481 = .ok (.iaload, 1) := by decide +kernel
theorem dL_law_482 : decode cL_law 482 = .ok (.aload_n 0, 1) := by decide +kernel
theorem dL_law_483 : decode cL_law 483 = .ok (.iload 4, 2) := by decide +kernel
theorem dL_law_485 : decode cL_law 485 = .ok (.iconst 3, 1) := by decide +kernel
theorem dL_law_486 : decode cL_law 486 = .ok (.iadd, 1) := by decide +kernel
theorem dL_law_487 : decode cL_law 487 = .ok (.iaload, 1) := by decide +kernel
theorem dL_law_488 : decode cL_law 488 = .ok (.invokevirtual 89, 3) := by decide +kernel
theorem dL_law_491 : decode cL_law 491 = .ok (.istore 6, 2) := by decide +kernel
theorem dL_law_493 : decode cL_law 493 = .ok (.aload_n 2, 1) := by decide +kernel
theorem dL_law_494 : decode cL_law 494 = .ok (.invokevirtual 72, 3) := by decide +kernel
theorem dL_law_497 : decode cL_law 497 = .ok (.iload 5, 2) := by decide +kernel
theorem dL_law_499 : decode cL_law 499 = .ok (.if_icmp .eq 5, 3) := by decide +kernel
theorem dL_law_502 : decode cL_law 502 = .ok (.iconst 0, 1) := by decide +kernel
theorem dL_law_503 : decode cL_law 503 = .ok (.ireturn, 1) := by decide +kernel
theorem dL_law_504 : decode cL_law 504 = .ok (.iload 5, 2) := by decide +kernel
theorem dL_law_506 : decode cL_law 506 = .ok (.ifCond .ne 15, 3) := by decide +kernel
theorem dL_law_509 : decode cL_law 509 = .ok (.aload_n 3, 1) := by decide +kernel
theorem dL_law_510 : decode cL_law 510 = .ok (.iconst 0, 1) := by decide +kernel
theorem dL_law_511 : decode cL_law 511 = .ok (.laload, 1) := by decide +kernel
theorem dL_law_512 : decode cL_law 512 = .ok (.iload 6, 2) := by decide +kernel
theorem dL_law_514 : decode cL_law 514 = .ok (.i2l, 1) := by decide +kernel
theorem dL_law_515 : decode cL_law 515 = .ok (.lcmp, 1) := by decide +kernel
theorem dL_law_516 : decode cL_law 516 = .ok (.ifCond .eq 5, 3) := by decide +kernel
theorem dL_law_519 : decode cL_law 519 = .ok (.iconst 0, 1) := by decide +kernel
theorem dL_law_520 : decode cL_law 520 = .ok (.ireturn, 1) := by decide +kernel
theorem dL_law_521 : decode cL_law 521 = .ok (.goto 670, 3) := by decide +kernel
theorem dL_law_524 : decode cL_law 524 = .ok (.aload_n 1, 1) := by decide +kernel
theorem dL_law_525 : decode cL_law 525 = .ok (.invokevirtual 90, 3) := by decide +kernel
theorem dL_law_528 : decode cL_law 528 = .ok (.aload_n 2, 1) := by decide +kernel
theorem dL_law_529 : decode cL_law 529 = .ok (.invokevirtual 94, 3) := by decide +kernel
theorem dL_law_532 : decode cL_law 532 = .ok (.if_icmp .eq 659, 3) := by decide +kernel
theorem dL_law_535 : decode cL_law 535 = .ok (.iconst 0, 1) := by decide +kernel
theorem dL_law_536 : decode cL_law 536 = .ok (.ireturn, 1) := by decide +kernel
theorem dL_law_537 : decode cL_law 537 = .ok (.aload_n 1, 1) := by decide +kernel
theorem dL_law_538 : decode cL_law 538 = .ok (.invokevirtual 95, 3) := by decide +kernel
theorem dL_law_541 : decode cL_law 541 = .ok (.aload_n 2, 1) := by decide +kernel
theorem dL_law_542 : decode cL_law 542 = .ok (.invokevirtual 98, 3) := by decide +kernel
theorem dL_law_545 : decode cL_law 545 = .ok (.if_icmp .eq 646, 3) := by decide +kernel
theorem dL_law_548 : decode cL_law 548 = .ok (.iconst 0, 1) := by decide +kernel
theorem dL_law_549 : decode cL_law 549 = .ok (.ireturn, 1) := by decide +kernel
theorem dL_law_550 : decode cL_law 550 = .ok (.aload_n 1, 1) := by decide +kernel
theorem dL_law_551 : decode cL_law 551 = .ok (.aload_n 0, 1) := by decide +kernel
theorem dL_law_552 : decode cL_law 552 = .ok (.iload 4, 2) := by decide +kernel
theorem dL_law_554 : decode cL_law 554 = .ok (.iconst 1, 1) := by decide +kernel
theorem dL_law_555 : decode cL_law 555 = .ok (.iadd, 1) := by decide +kernel
theorem dL_law_556 : decode cL_law 556 = .ok (.iaload, 1) := by decide +kernel
theorem dL_law_557 : decode cL_law 557 = .ok (.aload_n 3, 1) := by decide +kernel
theorem dL_law_558 : decode cL_law 558 = .ok (.invokestatic 99, 3) := by decide +kernel
theorem dL_law_561 : decode cL_law 561 = .ok (.istore 5, 2) := by decide +kernel
theorem dL_law_563 : decode cL_law 563 = .ok (.aload_n 2, 1) := by decide +kernel
theorem dL_law_564 : decode cL_law 564 = .ok (.aload_n 0, 1) := by decide +kernel
theorem dL_law_565 : decode cL_law 565 = .ok (.iload 4, 2) := by decide +kernel
theorem dL_law_567 : decode cL_law 567 = .ok (.iconst 1, 1) := by decide +kernel
theorem dL_law_568 : decode cL_law 568 = .ok (.iadd, 1) := by decide +kernel
theorem dL_law_569 : decode cL_law 569 = .ok (.iaload, 1) := by decide +kernel
theorem dL_law_570 : decode cL_law 570 = .ok (.invokevirtual 102, 3) := by decide +kernel
theorem dL_law_573 : decode cL_law 573 = .ok (.istore 6, 2) := by decide +kernel
theorem dL_law_575 : decode cL_law 575 = .ok (.aload_n 2, 1) := by decide +kernel
theorem dL_law_576 : decode cL_law 576 = .ok (.invokevirtual 72, 3) := by decide +kernel
theorem dL_law_579 : decode cL_law 579 = .ok (.iload 5, 2) := by decide +kernel
theorem dL_law_581 : decode cL_law 581 = .ok (.if_icmp .eq 5, 3) := by decide +kernel
theorem dL_law_584 : decode cL_law 584 = .ok (.iconst 0, 1) := by decide +kernel
theorem dL_law_585 : decode cL_law 585 = .ok (.ireturn, 1) := by decide +kernel
theorem dL_law_586 : decode cL_law 586 = .ok (.iload 5, 2) := by decide +kernel
theorem dL_law_588 : decode cL_law 588 = .ok (.ifCond .ne 15, 3) := by decide +kernel
theorem dL_law_591 : decode cL_law 591 = .ok (.aload_n 3, 1) := by decide +kernel
theorem dL_law_592 : decode cL_law 592 = .ok (.iconst 0, 1) := by decide +kernel
theorem dL_law_593 : decode cL_law 593 = .ok (.laload, 1) := by decide +kernel
theorem dL_law_594 : decode cL_law 594 = .ok (.iload 6, 2) := by decide +kernel
theorem dL_law_596 : decode cL_law 596 = .ok (.i2l, 1) := by decide +kernel
theorem dL_law_597 : decode cL_law 597 = .ok (.lcmp, 1) := by decide +kernel
theorem dL_law_598 : decode cL_law 598 = .ok (.ifCond .eq 5, 3) := by decide +kernel
theorem dL_law_601 : decode cL_law 601 = .ok (.iconst 0, 1) := by decide +kernel
theorem dL_law_602 : decode cL_law 602 = .ok (.ireturn, 1) := by decide +kernel
theorem dL_law_603 : decode cL_law 603 = .ok (.goto 588, 3) := by decide +kernel
theorem dL_law_606 : decode cL_law 606 = .ok (.aload_n 1, 1) := by decide +kernel
theorem dL_law_607 : decode cL_law 607 = .ok (.aload_n 0, 1) := by decide +kernel
theorem dL_law_608 : decode cL_law 608 = .ok (.iload 4, 2) := by decide +kernel
theorem dL_law_610 : decode cL_law 610 = .ok (.iconst 1, 1) := by decide +kernel
theorem dL_law_611 : decode cL_law 611 = .ok (.iadd, 1) := by decide +kernel
theorem dL_law_612 : decode cL_law 612 = .ok (.iaload, 1) := by decide +kernel
theorem dL_law_613 : decode cL_law 613 = .ok (.aload_n 3, 1) := by decide +kernel
theorem dL_law_614 : decode cL_law 614 = .ok (.invokestatic 103, 3) := by decide +kernel
theorem dL_law_617 : decode cL_law 617 = .ok (.istore 5, 2) := by decide +kernel
theorem dL_law_619 : decode cL_law 619 = .ok (.aload_n 2, 1) := by decide +kernel
theorem dL_law_620 : decode cL_law 620 = .ok (.aload_n 0, 1) := by decide +kernel
theorem dL_law_621 : decode cL_law 621 = .ok (.iload 4, 2) := by decide +kernel
theorem dL_law_623 : decode cL_law 623 = .ok (.iconst 1, 1) := by decide +kernel
theorem dL_law_624 : decode cL_law 624 = .ok (.iadd, 1) := by decide +kernel
theorem dL_law_625 : decode cL_law 625 = .ok (.iaload, 1) := by decide +kernel
theorem dL_law_626 : decode cL_law 626 = .ok (.invokevirtual 105, 3) := by decide +kernel
theorem dL_law_629 : decode cL_law 629 = .ok (.istore 6, 2) := by decide +kernel
theorem dL_law_631 : decode cL_law 631 = .ok (.aload_n 2, 1) := by decide +kernel
theorem dL_law_632 : decode cL_law 632 = .ok (.invokevirtual 72, 3) := by decide +kernel
theorem dL_law_635 : decode cL_law 635 = .ok (.iload 5, 2) := by decide +kernel
theorem dL_law_637 : decode cL_law 637 = .ok (.if_icmp .eq 5, 3) := by decide +kernel
theorem dL_law_640 : decode cL_law 640 = .ok (.iconst 0, 1) := by decide +kernel
theorem dL_law_641 : decode cL_law 641 = .ok (.ireturn, 1) := by decide +kernel
theorem dL_law_642 : decode cL_law 642 = .ok (.iload 5, 2) := by decide +kernel
theorem dL_law_644 : decode cL_law 644 = .ok (.ifCond .ne 15, 3) := by decide +kernel
theorem dL_law_647 : decode cL_law 647 = .ok (.aload_n 3, 1) := by decide +kernel
theorem dL_law_648 : decode cL_law 648 = .ok (.iconst 0, 1) := by decide +kernel
theorem dL_law_649 : decode cL_law 649 = .ok (.laload, 1) := by decide +kernel
theorem dL_law_650 : decode cL_law 650 = .ok (.iload 6, 2) := by decide +kernel
theorem dL_law_652 : decode cL_law 652 = .ok (.i2l, 1) := by decide +kernel
theorem dL_law_653 : decode cL_law 653 = .ok (.lcmp, 1) := by decide +kernel
theorem dL_law_654 : decode cL_law 654 = .ok (.ifCond .eq 5, 3) := by decide +kernel
theorem dL_law_657 : decode cL_law 657 = .ok (.iconst 0, 1) := by decide +kernel
theorem dL_law_658 : decode cL_law 658 = .ok (.ireturn, 1) := by decide +kernel
theorem dL_law_659 : decode cL_law 659 = .ok (.goto 532, 3) := by decide +kernel
theorem dL_law_662 : decode cL_law 662 = .ok (.aload_n 1, 1) := by decide +kernel
theorem dL_law_663 : decode cL_law 663 = .ok (.aload_n 0, 1) := by decide +kernel
theorem dL_law_664 : decode cL_law 664 = .ok (.iload 4, 2) := by decide +kernel
theorem dL_law_666 : decode cL_law 666 = .ok (.iconst 1, 1) := by decide +kernel
theorem dL_law_667 : decode cL_law 667 = .ok (.iadd, 1) := by decide +kernel
theorem dL_law_668 : decode cL_law 668 = .ok (.iaload, 1) := by decide +kernel
theorem dL_law_669 : decode cL_law 669 = .ok (.aload_n 0, 1) := by decide +kernel
theorem dL_law_670 : decode cL_law 670 = .ok (.iload 4, 2) := by decide +kernel
theorem dL_law_672 : decode cL_law 672 = .ok (.iconst 2, 1) := by decide +kernel
theorem dL_law_673 : decode cL_law 673 = .ok (.iadd, 1) := by decide +kernel
theorem dL_law_674 : decode cL_law 674 = .ok (.iaload, 1) := by decide +kernel
theorem dL_law_675 : decode cL_law 675 = .ok (.aload_n 3, 1) := by decide +kernel
theorem dL_law_676 : decode cL_law 676 = .ok (.invokestatic 106, 3) := by decide +kernel
theorem dL_law_679 : decode cL_law 679 = .ok (.istore 5, 2) := by decide +kernel
theorem dL_law_681 : decode cL_law 681 = .ok (.aload_n 2, 1) := by decide +kernel
theorem dL_law_682 : decode cL_law 682 = .ok (.aload_n 0, 1) := by decide +kernel
theorem dL_law_683 : decode cL_law 683 = .ok (.iload 4, 2) := by decide +kernel
theorem dL_law_685 : decode cL_law 685 = .ok (.iconst 1, 1) := by decide +kernel
theorem dL_law_686 : decode cL_law 686 = .ok (.iadd, 1) := by decide +kernel
theorem dL_law_687 : decode cL_law 687 = .ok (.iaload, 1) := by decide +kernel
theorem dL_law_688 : decode cL_law 688 = .ok (.aload_n 0, 1) := by decide +kernel
theorem dL_law_689 : decode cL_law 689 = .ok (.iload 4, 2) := by decide +kernel
theorem dL_law_691 : decode cL_law 691 = .ok (.iconst 2, 1) := by decide +kernel
theorem dL_law_692 : decode cL_law 692 = .ok (.iadd, 1) := by decide +kernel
theorem dL_law_693 : decode cL_law 693 = .ok (.iaload, 1) := by decide +kernel
theorem dL_law_694 : decode cL_law 694 = .ok (.invokevirtual 108, 3) := by decide +kernel
theorem dL_law_697 : decode cL_law 697 = .ok (.istore 6, 2) := by decide +kernel
theorem dL_law_699 : decode cL_law 699 = .ok (.aload_n 2, 1) := by decide +kernel
theorem dL_law_700 : decode cL_law 700 = .ok (.invokevirtual 72, 3) := by decide +kernel
theorem dL_law_703 : decode cL_law 703 = .ok (.iload 5, 2) := by decide +kernel
theorem dL_law_705 : decode cL_law 705 = .ok (.if_icmp .eq 5, 3) := by decide +kernel
theorem dL_law_708 : decode cL_law 708 = .ok (.iconst 0, 1) := by decide +kernel
theorem dL_law_709 : decode cL_law 709 = .ok (.ireturn, 1) := by decide +kernel
theorem dL_law_710 : decode cL_law 710 = .ok (.iload 5, 2) := by decide +kernel
theorem dL_law_712 : decode cL_law 712 = .ok (.ifCond .ne 22, 3) := by decide +kernel
theorem dL_law_715 : decode cL_law 715 = .ok (.aload_n 3, 1) := by decide +kernel
theorem dL_law_716 : decode cL_law 716 = .ok (.iconst 0, 1) := by decide +kernel
theorem dL_law_717 : decode cL_law 717 = .ok (.laload, 1) := by decide +kernel
theorem dL_law_718 : decode cL_law 718 = .ok (.iload 6, 2) := by decide +kernel
theorem dL_law_720 : decode cL_law 720 = .ok (.ifCond .eq 7, 3) := by decide +kernel
theorem dL_law_723 : decode cL_law 723 = .ok (.lconst 1, 1) := by decide +kernel
theorem dL_law_724 : decode cL_law 724 = .ok (.goto 4, 3) := by decide +kernel
theorem dL_law_727 : decode cL_law 727 = .ok (.lconst 0, 1) := by decide +kernel
theorem dL_law_728 : decode cL_law 728 = .ok (.lcmp, 1) := by decide +kernel
theorem dL_law_729 : decode cL_law 729 = .ok (.ifCond .eq 5, 3) := by decide +kernel
theorem dL_law_732 : decode cL_law 732 = .ok (.iconst 0, 1) := by decide +kernel
theorem dL_law_733 : decode cL_law 733 = .ok (.ireturn, 1) := by decide +kernel
theorem dL_law_734 : decode cL_law 734 = .ok (.goto 457, 3) := by decide +kernel
theorem dL_law_737 : decode cL_law 737 = .ok (.aload_n 1, 1) := by decide +kernel
theorem dL_law_738 : decode cL_law 738 = .ok (.aload_n 0, 1) := by decide +kernel
theorem dL_law_739 : decode cL_law 739 = .ok (.iload 4, 2) := by decide +kernel
theorem dL_law_741 : decode cL_law 741 = .ok (.iconst 1, 1) := by decide +kernel
end
section
theorem dL_law_742 : decode cL_law 742 = .ok (.iadd, 1) := by decide +kernel
theorem dL_law_743 : decode cL_law 743 = .ok (.iaload, 1) := by decide +kernel
theorem dL_law_744 : decode cL_law 744 = .ok (.aload_n 0, 1) := by decide +kernel
theorem dL_law_745 : decode cL_law 745 = .ok (.iload 4, 2) := by decide +kernel
theorem dL_law_747 : decode cL_law 747 = .ok (.iconst 2, 1) := by decide +kernel
theorem dL_law_748 : decode cL_law 748 = .ok (.iadd, 1) := by decide +kernel
theorem dL_law_749 : decode cL_law 749 = .ok (.iaload, 1) := by decide +kernel
theorem dL_law_750 : decode cL_law 750 = .ok (.aload_n 3, 1) := by decide +kernel
theorem dL_law_751 : decode cL_law 751 = .ok (.invokestatic 109, 3) := by decide +kernel
theorem dL_law_754 : decode cL_law 754 = .ok (.istore 5, 2) := by decide +kernel
theorem dL_law_756 : decode cL_law 756 = .ok (.aload_n 2, 1) := by decide +kernel
theorem dL_law_757 : decode cL_law 757 = .ok (.aload_n 0, 1) := by decide +kernel
theorem dL_law_758 : decode cL_law 758 = .ok (.iload 4, 2) := by decide +kernel
theorem dL_law_760 : decode cL_law 760 = .ok (.iconst 1, 1) := by decide +kernel
theorem dL_law_761 : decode cL_law 761 = .ok (.iadd, 1) := by decide +kernel
theorem dL_law_762 : decode cL_law 762 = .ok (.iaload, 1) := by decide +kernel
theorem dL_law_763 : decode cL_law 763 = .ok (.aload_n 0, 1) := by decide +kernel
theorem dL_law_764 : decode cL_law 764 = .ok (.iload 4, 2) := by decide +kernel
theorem dL_law_766 : decode cL_law 766 = .ok (.iconst 2, 1) := by decide +kernel
theorem dL_law_767 : decode cL_law 767 = .ok (.iadd, 1) := by decide +kernel
theorem dL_law_768 : decode cL_law 768 = .ok (.iaload, 1) := by decide +kernel
theorem dL_law_769 : decode cL_law 769 = .ok (.invokevirtual 111, 3) := by decide +kernel
theorem dL_law_772 : decode cL_law 772 = .ok (.istore 6, 2) := by decide +kernel
theorem dL_law_774 : decode cL_law 774 = .ok (.aload_n 2, 1) := by decide +kernel
theorem dL_law_775 : decode cL_law 775 = .ok (.invokevirtual 72, 3) := by decide +kernel
theorem dL_law_778 : decode cL_law 778 = .ok (.iload 5, 2) := by decide +kernel
theorem dL_law_780 : decode cL_law 780 = .ok (.if_icmp .eq 5, 3) := by decide +kernel
theorem dL_law_783 : decode cL_law 783 = .ok (.iconst 0, 1) := by decide +kernel
theorem dL_law_784 : decode cL_law 784 = .ok (.ireturn, 1) := by decide +kernel
theorem dL_law_785 : decode cL_law 785 = .ok (.iload 5, 2) := by decide +kernel
theorem dL_law_787 : decode cL_law 787 = .ok (.ifCond .ne 15, 3) := by decide +kernel
theorem dL_law_790 : decode cL_law 790 = .ok (.aload_n 3, 1) := by decide +kernel
theorem dL_law_791 : decode cL_law 791 = .ok (.iconst 0, 1) := by decide +kernel
theorem dL_law_792 : decode cL_law 792 = .ok (.laload, 1) := by decide +kernel
theorem dL_law_793 : decode cL_law 793 = .ok (.iload 6, 2) := by decide +kernel
theorem dL_law_795 : decode cL_law 795 = .ok (.i2l, 1) := by decide +kernel
theorem dL_law_796 : decode cL_law 796 = .ok (.lcmp, 1) := by decide +kernel
theorem dL_law_797 : decode cL_law 797 = .ok (.ifCond .eq 5, 3) := by decide +kernel
theorem dL_law_800 : decode cL_law 800 = .ok (.iconst 0, 1) := by decide +kernel
theorem dL_law_801 : decode cL_law 801 = .ok (.ireturn, 1) := by decide +kernel
theorem dL_law_802 : decode cL_law 802 = .ok (.goto 389, 3) := by decide +kernel
theorem dL_law_805 : decode cL_law 805 = .ok (.aload_n 1, 1) := by decide +kernel
theorem dL_law_806 : decode cL_law 806 = .ok (.aload_n 0, 1) := by decide +kernel
theorem dL_law_807 : decode cL_law 807 = .ok (.iload 4, 2) := by decide +kernel
theorem dL_law_809 : decode cL_law 809 = .ok (.iconst 1, 1) := by decide +kernel
theorem dL_law_810 : decode cL_law 810 = .ok (.iadd, 1) := by decide +kernel
theorem dL_law_811 : decode cL_law 811 = .ok (.iaload, 1) := by decide +kernel
theorem dL_law_812 : decode cL_law 812 = .ok (.aload_n 0, 1) := by decide +kernel
theorem dL_law_813 : decode cL_law 813 = .ok (.iload 4, 2) := by decide +kernel
theorem dL_law_815 : decode cL_law 815 = .ok (.iconst 2, 1) := by decide +kernel
theorem dL_law_816 : decode cL_law 816 = .ok (.iadd, 1) := by decide +kernel
theorem dL_law_817 : decode cL_law 817 = .ok (.iaload, 1) := by decide +kernel
theorem dL_law_818 : decode cL_law 818 = .ok (.aload_n 3, 1) := by decide +kernel
theorem dL_law_819 : decode cL_law 819 = .ok (.invokestatic 112, 3) := by decide +kernel
theorem dL_law_822 : decode cL_law 822 = .ok (.istore 5, 2) := by decide +kernel
theorem dL_law_824 : decode cL_law 824 = .ok (.aload_n 2, 1) := by decide +kernel
theorem dL_law_825 : decode cL_law 825 = .ok (.aload_n 0, 1) := by decide +kernel
theorem dL_law_826 : decode cL_law 826 = .ok (.iload 4, 2) := by decide +kernel
theorem dL_law_828 : decode cL_law 828 = .ok (.iconst 1, 1) := by decide +kernel
theorem dL_law_829 : decode cL_law 829 = .ok (.iadd, 1) := by decide +kernel
theorem dL_law_830 : decode cL_law 830 = .ok (.iaload, 1) := by decide +kernel
theorem dL_law_831 : decode cL_law 831 = .ok (.aload_n 0, 1) := by decide +kernel
theorem dL_law_832 : decode cL_law 832 = .ok (.iload 4, 2) := by decide +kernel
theorem dL_law_834 : decode cL_law 834 = .ok (.iconst 2, 1) := by decide +kernel
theorem dL_law_835 : decode cL_law 835 = .ok (.iadd, 1) := by decide +kernel
theorem dL_law_836 : decode cL_law 836 = .ok (.iaload, 1) := by decide +kernel
theorem dL_law_837 : decode cL_law 837 = .ok (.invokevirtual 114, 3) := by decide +kernel
theorem dL_law_840 : decode cL_law 840 = .ok (.istore 6, 2) := by decide +kernel
theorem dL_law_842 : decode cL_law 842 = .ok (.aload_n 2, 1) := by decide +kernel
theorem dL_law_843 : decode cL_law 843 = .ok (.invokevirtual 72, 3) := by decide +kernel
theorem dL_law_846 : decode cL_law 846 = .ok (.iload 5, 2) := by decide +kernel
theorem dL_law_848 : decode cL_law 848 = .ok (.if_icmp .eq 5, 3) := by decide +kernel
theorem dL_law_851 : decode cL_law 851 = .ok (.iconst 0, 1) := by decide +kernel
theorem dL_law_852 : decode cL_law 852 = .ok (.ireturn, 1) := by decide +kernel
theorem dL_law_853 : decode cL_law 853 = .ok (.iload 5, 2) := by decide +kernel
theorem dL_law_855 : decode cL_law 855 = .ok (.ifCond .ne 15, 3) := by decide +kernel
theorem dL_law_858 : decode cL_law 858 = .ok (.aload_n 3, 1) := by decide +kernel
theorem dL_law_859 : decode cL_law 859 = .ok (.iconst 0, 1) := by decide +kernel
theorem dL_law_860 : decode cL_law 860 = .ok (.laload, 1) := by decide +kernel
theorem dL_law_861 : decode cL_law 861 = .ok (.iload 6, 2) := by decide +kernel
theorem dL_law_863 : decode cL_law 863 = .ok (.i2l, 1) := by decide +kernel
theorem dL_law_864 : decode cL_law 864 = .ok (.lcmp, 1) := by decide +kernel
theorem dL_law_865 : decode cL_law 865 = .ok (.ifCond .eq 5, 3) := by decide +kernel
theorem dL_law_868 : decode cL_law 868 = .ok (.iconst 0, 1) := by decide +kernel
theorem dL_law_869 : decode cL_law 869 = .ok (.ireturn, 1) := by decide +kernel
theorem dL_law_870 : decode cL_law 870 = .ok (.goto 321, 3) := by decide +kernel
theorem dL_law_873 : decode cL_law 873 = .ok (.aload_n 1, 1) := by decide +kernel
theorem dL_law_874 : decode cL_law 874 = .ok (.aload_n 0, 1) := by decide +kernel
theorem dL_law_875 : decode cL_law 875 = .ok (.iload 4, 2) := by decide +kernel
theorem dL_law_877 : decode cL_law 877 = .ok (.iconst 1, 1) := by decide +kernel
theorem dL_law_878 : decode cL_law 878 = .ok (.iadd, 1) := by decide +kernel
theorem dL_law_879 : decode cL_law 879 = .ok (.iaload, 1) := by decide +kernel
theorem dL_law_880 : decode cL_law 880 = .ok (.aload_n 3, 1) := by decide +kernel
theorem dL_law_881 : decode cL_law 881 = .ok (.invokestatic 115, 3) := by decide +kernel
theorem dL_law_884 : decode cL_law 884 = .ok (.istore 5, 2) := by decide +kernel
theorem dL_law_886 : decode cL_law 886 = .ok (.aload_n 2, 1) := by decide +kernel
theorem dL_law_887 : decode cL_law 887 = .ok (.aload_n 0, 1) := by decide +kernel
theorem dL_law_888 : decode cL_law 888 = .ok (.iload 4, 2) := by decide +kernel
theorem dL_law_890 : decode cL_law 890 = .ok (.iconst 1, 1) := by decide +kernel
theorem dL_law_891 : decode cL_law 891 = .ok (.iadd, 1) := by decide +kernel
theorem dL_law_892 : decode cL_law 892 = .ok (.iaload, 1) := by decide +kernel
theorem dL_law_893 : decode cL_law 893 = .ok (.invokevirtual 117, 3) := by decide +kernel
theorem dL_law_896 : decode cL_law 896 = .ok (.istore 6, 2) := by decide +kernel
theorem dL_law_898 : decode cL_law 898 = .ok (.aload_n 2, 1) := by decide +kernel
theorem dL_law_899 : decode cL_law 899 = .ok (.invokevirtual 72, 3) := by decide +kernel
theorem dL_law_902 : decode cL_law 902 = .ok (.iload 5, 2) := by decide +kernel
theorem dL_law_904 : decode cL_law 904 = .ok (.if_icmp .eq 5, 3) := by decide +kernel
theorem dL_law_907 : decode cL_law 907 = .ok (.iconst 0, 1) := by decide +kernel
theorem dL_law_908 : decode cL_law 908 = .ok (.ireturn, 1) := by decide +kernel
theorem dL_law_909 : decode cL_law 909 = .ok (.iload 5, 2) := by decide +kernel
theorem dL_law_911 : decode cL_law 911 = .ok (.ifCond .ne 15, 3) := by decide +kernel
theorem dL_law_914 : decode cL_law 914 = .ok (.aload_n 3, 1) := by decide +kernel
theorem dL_law_915 : decode cL_law 915 = .ok (.iconst 0, 1) := by decide +kernel
theorem dL_law_916 : decode cL_law 916 = .ok (.laload, 1) := by decide +kernel
theorem dL_law_917 : decode cL_law 917 = .ok (.iload 6, 2) := by decide +kernel
theorem dL_law_919 : decode cL_law 919 = .ok (.i2l, 1) := by decide +kernel
theorem dL_law_920 : decode cL_law 920 = .ok (.lcmp, 1) := by decide +kernel
theorem dL_law_921 : decode cL_law 921 = .ok (.ifCond .eq 5, 3) := by decide +kernel
theorem dL_law_924 : decode cL_law 924 = .ok (.iconst 0, 1) := by decide +kernel
theorem dL_law_925 : decode cL_law 925 = .ok (.ireturn, 1) := by decide +kernel
theorem dL_law_926 : decode cL_law 926 = .ok (.goto 265, 3) := by decide +kernel
theorem dL_law_929 : decode cL_law 929 = .ok (.aload_n 1, 1) := by decide +kernel
theorem dL_law_930 : decode cL_law 930 = .ok (.aload_n 0, 1) := by decide +kernel
theorem dL_law_931 : decode cL_law 931 = .ok (.iload 4, 2) := by decide +kernel
theorem dL_law_933 : decode cL_law 933 = .ok (.iconst 1, 1) := by decide +kernel
theorem dL_law_934 : decode cL_law 934 = .ok (.iadd, 1) := by decide +kernel
theorem dL_law_935 : decode cL_law 935 = .ok (.iaload, 1) := by decide +kernel
theorem dL_law_936 : decode cL_law 936 = .ok (.aload_n 3, 1) := by decide +kernel
theorem dL_law_937 : decode cL_law 937 = .ok (.invokestatic 118, 3) := by decide +kernel
theorem dL_law_940 : decode cL_law 940 = .ok (.istore 5, 2) := by decide +kernel
theorem dL_law_942 : decode cL_law 942 = .ok (.aload_n 2, 1) := by decide +kernel
theorem dL_law_943 : decode cL_law 943 = .ok (.aload_n 0, 1) := by decide +kernel
theorem dL_law_944 : decode cL_law 944 = .ok (.iload 4, 2) := by decide +kernel
theorem dL_law_946 : decode cL_law 946 = .ok (.iconst 1, 1) := by decide +kernel
theorem dL_law_947 : decode cL_law 947 = .ok (.iadd, 1) := by decide +kernel
theorem dL_law_948 : decode cL_law 948 = .ok (.iaload, 1) := by decide +kernel
theorem dL_law_949 : decode cL_law 949 = .ok (.invokevirtual 120, 3) := by decide +kernel
theorem dL_law_952 : decode cL_law 952 = .ok (.istore 6, 2) := by decide +kernel
theorem dL_law_954 : decode cL_law 954 = .ok (.aload_n 2, 1) := by decide +kernel
theorem dL_law_955 : decode cL_law 955 = .ok (.invokevirtual 72, 3) := by decide +kernel
theorem dL_law_958 : decode cL_law 958 = .ok (.iload 5, 2) := by decide +kernel
theorem dL_law_960 : decode cL_law 960 = .ok (.if_icmp .eq 5, 3) := by decide +kernel
theorem dL_law_963 : decode cL_law 963 = .ok (.iconst 0, 1) := by decide +kernel
theorem dL_law_964 : decode cL_law 964 = .ok (.ireturn, 1) := by decide +kernel
theorem dL_law_965 : decode cL_law 965 = .ok (.iload 5, 2) := by decide +kernel
theorem dL_law_967 : decode cL_law 967 = .ok (.ifCond .ne 15, 3) := by decide +kernel
theorem dL_law_970 : decode cL_law 970 = .ok (.aload_n 3, 1) := by decide +kernel
theorem dL_law_971 : decode cL_law 971 = .ok (.iconst 0, 1) := by decide +kernel
theorem dL_law_972 : decode cL_law 972 = .ok (.laload, 1) := by decide +kernel
theorem dL_law_973 : decode cL_law 973 = .ok (.iload 6, 2) := by decide +kernel
theorem dL_law_975 : decode cL_law 975 = .ok (.i2l, 1) := by decide +kernel
theorem dL_law_976 : decode cL_law 976 = .ok (.lcmp, 1) := by decide +kernel
theorem dL_law_977 : decode cL_law 977 = .ok (.ifCond .eq 5, 3) := by decide +kernel
theorem dL_law_980 : decode cL_law 980 = .ok (.iconst 0, 1) := by decide +kernel
theorem dL_law_981 : decode cL_law 981 = .ok (.ireturn, 1) := by decide +kernel
theorem dL_law_982 : decode cL_law 982 = .ok (.goto 209, 3) := by decide +kernel
theorem dL_law_985 : decode cL_law 985 = .ok (.aload_n 1, 1) := by decide +kernel
theorem dL_law_986 : decode cL_law 986 = .ok (.aload_n 0, 1) := by decide +kernel
theorem dL_law_987 : decode cL_law 987 = .ok (.iload 4, 2) := by decide +kernel
theorem dL_law_989 : decode cL_law 989 = .ok (.iconst 1, 1) := by decide +kernel
theorem dL_law_990 : decode cL_law 990 = .ok (.iadd, 1) := by decide +kernel
theorem dL_law_991 : decode cL_law 991 = .ok (.iaload, 1) := by decide +kernel
theorem dL_law_992 : decode cL_law 992 = .ok (.aload_n 3, 1) := by decide +kernel
theorem dL_law_993 : decode cL_law 993 = .ok (.invokestatic 121, 3) := by decide +kernel
theorem dL_law_996 : decode cL_law 996 = .ok (.istore 5, 2) := by decide +kernel
theorem dL_law_998 : decode cL_law 998 = .ok (.aload_n 2, 1) := by decide +kernel
theorem dL_law_999 : decode cL_law 999 = .ok (.aload_n 0, 1) := by decide +kernel
theorem dL_law_1000 : decode cL_law 1000 = .ok (.iload 4, 2) := by decide +kernel
theorem dL_law_1002 : decode cL_law 1002 = .ok (.iconst 1, 1) := by decide +kernel
theorem dL_law_1003 : decode cL_law 1003 = .ok (.iadd, 1) := by decide +kernel
theorem dL_law_1004 : decode cL_law 1004 = .ok (.iaload, 1) := by decide +kernel
theorem dL_law_1005 : decode cL_law 1005 = .ok (.invokevirtual 123, 3) := by decide +kernel
theorem dL_law_1008 : decode cL_law 1008 = .ok (.istore 6, 2) := by decide +kernel
theorem dL_law_1010 : decode cL_law 1010 = .ok (.aload_n 2, 1) := by decide +kernel
theorem dL_law_1011 : decode cL_law 1011 = .ok (.invokevirtual 72, 3) := by decide +kernel
theorem dL_law_1014 : decode cL_law 1014 = .ok (.iload 5, 2) := by decide +kernel
theorem dL_law_1016 : decode cL_law 1016 = .ok (.if_icmp .eq 5, 3) := by decide +kernel
theorem dL_law_1019 : decode cL_law 1019 = .ok (.iconst 0, 1) := by decide +kernel
theorem dL_law_1020 : decode cL_law 1020 = .ok (.ireturn, 1) := by decide +kernel
theorem dL_law_1021 : decode cL_law 1021 = .ok (.iload 5, 2) := by decide +kernel
theorem dL_law_1023 : decode cL_law 1023 = .ok (.ifCond .ne 15, 3) := by decide +kernel
theorem dL_law_1026 : decode cL_law 1026 = .ok (.aload_n 3, 1) := by decide +kernel
theorem dL_law_1027 : decode cL_law 1027 = .ok (.iconst 0, 1) := by decide +kernel
theorem dL_law_1028 : decode cL_law 1028 = .ok (.laload, 1) := by decide +kernel
theorem dL_law_1029 : decode cL_law 1029 = .ok (.iload 6, 2) := by decide +kernel
theorem dL_law_1031 : decode cL_law 1031 = .ok (.i2l, 1) := by decide +kernel
theorem dL_law_1032 : decode cL_law 1032 = .ok (.lcmp, 1) := by decide +kernel
theorem dL_law_1033 : decode cL_law 1033 = .ok (.ifCond .eq 5, 3) := by decide +kernel
theorem dL_law_1036 : decode cL_law 1036 = .ok (.iconst 0, 1) := by decide +kernel
theorem dL_law_1037 : decode cL_law 1037 = .ok (.ireturn, 1) := by decide +kernel
theorem dL_law_1038 : decode cL_law 1038 = .ok (.goto 153, 3) := by decide +kernel
theorem dL_law_1041 : decode cL_law 1041 = .ok (.aload_n 1, 1) := by decide +kernel
theorem dL_law_1042 : decode cL_law 1042 = .ok (.invokevirtual 124, 3) := by decide +kernel
theorem dL_law_1045 : decode cL_law 1045 = .ok (.aload_n 2, 1) := by decide +kernel
theorem dL_law_1046 : decode cL_law 1046 = .ok (.invokevirtual 127, 3) := by decide +kernel
theorem dL_law_1049 : decode cL_law 1049 = .ok (.if_icmp .eq 142, 3) := by decide +kernel
theorem dL_law_1052 : decode cL_law 1052 = .ok (.iconst 0, 1) := by decide +kernel
theorem dL_law_1053 : decode cL_law 1053 = .ok (.ireturn, 1) := by decide +kernel
theorem dL_law_1054 : decode cL_law 1054 = .ok (.aload_n 1, 1) := by decide +kernel
theorem dL_law_1055 : decode cL_law 1055 = .ok (.invokevirtual 128, 3) := by decide +kernel
theorem dL_law_1058 : decode cL_law 1058 = .ok (.aload_n 2, 1) := by decide +kernel
theorem dL_law_1059 : decode cL_law 1059 = .ok (.invokevirtual 131, 3) := by decide +kernel
theorem dL_law_1062 : decode cL_law 1062 = .ok (.if_icmp .eq 129, 3) := by decide +kernel
theorem dL_law_1065 : decode cL_law 1065 = .ok (.iconst 0, 1) := by decide +kernel
theorem dL_law_1066 : decode cL_law 1066 = .ok (.ireturn, 1) := by decide +kernel
theorem dL_law_1067 : decode cL_law 1067 = .ok (.aload_n 1, 1) := by decide +kernel
theorem dL_law_1068 : decode cL_law 1068 = .ok (.aload_n 0, 1) := by decide +kernel
theorem dL_law_1069 : decode cL_law 1069 = .ok (.iload 4, 2) := by decide +kernel
theorem dL_law_1071 : decode cL_law 1071 = .ok (.iconst 1, 1) := by decide +kernel
theorem dL_law_1072 : decode cL_law 1072 = .ok (.iadd, 1) := by decide +kernel
theorem dL_law_1073 : decode cL_law 1073 = .ok (.iaload, 1) := by decide +kernel
theorem dL_law_1074 : decode cL_law 1074 = .ok (.aload_n 3, 1) := by decide +kernel
theorem dL_law_1075 : decode cL_law 1075 = .ok (.invokestatic 132, 3) := by decide +kernel
theorem dL_law_1078 : decode cL_law 1078 = .ok (.istore 5, 2) := by decide +kernel
theorem dL_law_1080 : decode cL_law 1080 = .ok (.aload_n 2, 1) := by decide +kernel
theorem dL_law_1081 : decode cL_law 1081 = .ok (.aload_n 0, 1) := by decide +kernel
theorem dL_law_1082 : decode cL_law 1082 = .ok (.iload 4, 2) := by decide +kernel
theorem dL_law_1084 : decode cL_law 1084 = .ok (.iconst 1, 1) := by decide +kernel
theorem dL_law_1085 : decode cL_law 1085 = .ok (.iadd, 1) := by decide +kernel
theorem dL_law_1086 : decode cL_law 1086 = .ok (.iaload, 1) := by decide +kernel
theorem dL_law_1087 : decode cL_law 1087 = .ok (.invokevirtual 134, 3) := by decide +kernel
theorem dL_law_1090 : decode cL_law 1090 = .ok (.istore 6, 2) := by decide +kernel
theorem dL_law_1092 : decode cL_law 1092 = .ok (.aload_n 2, 1) := by decide +kernel
theorem dL_law_1093 : decode cL_law 1093 = .ok (.invokevirtual 72, 3) := by decide +kernel
theorem dL_law_1096 : decode cL_law 1096 = .ok (.iload 5, 2) := by decide +kernel
theorem dL_law_1098 : decode cL_law 1098 = .ok (.if_icmp .eq 5, 3) := by decide +kernel
theorem dL_law_1101 : decode cL_law 1101 = .ok (.iconst 0, 1) := by decide +kernel
theorem dL_law_1102 : decode cL_law 1102 = .ok (.ireturn, 1) := by decide +kernel
theorem dL_law_1103 : decode cL_law 1103 = .ok (.iload 5, 2) := by decide +kernel
theorem dL_law_1105 : decode cL_law 1105 = .ok (.ifCond .ne 15, 3) := by decide +kernel
theorem dL_law_1108 : decode cL_law 1108 = .ok (.aload_n 3, 1) := by decide +kernel
theorem dL_law_1109 : decode cL_law 1109 = .ok (.iconst 0, 1) := by decide +kernel
theorem dL_law_1110 : decode cL_law 1110 = .ok (.laload, 1) := by decide +kernel
theorem dL_law_1111 : decode cL_law 1111 = .ok (.iload 6, 2) := by decide +kernel
theorem dL_law_1113 : decode cL_law 1113 = .ok (.i2l, 1) := by decide +kernel
theorem dL_law_1114 : decode cL_law 1114 = .ok (.lcmp, 1) := by decide +kernel
theorem dL_law_1115 : decode cL_law 1115 = .ok (.ifCond .eq 5, 3) := by decide +kernel
theorem dL_law_1118 : decode cL_law 1118 = .ok (.iconst 0, 1) := by decide +kernel
theorem dL_law_1119 : decode cL_law 1119 = .ok (.ireturn, 1) := by decide +kernel
theorem dL_law_1120 : decode cL_law 1120 = .ok (.goto 71, 3) := by decide +kernel
theorem dL_law_1123 : decode cL_law 1123 = .ok (.aload_n 1, 1) := by decide +kernel
theorem dL_law_1124 : decode cL_law 1124 = .ok (.invokevirtual 135, 3) := by decide +kernel
theorem dL_law_1127 : decode cL_law 1127 = .ok (.aload_n 2, 1) := by decide +kernel
theorem dL_law_1128 : decode cL_law 1128 = .ok (.invokevirtual 138, 3) := by decide +kernel
theorem dL_law_1131 : decode cL_law 1131 = .ok (.if_icmp .eq 60, 3) := by decide +kernel
theorem dL_law_1134 : decode cL_law 1134 = .ok (.iconst 0, 1) := by decide +kernel
theorem dL_law_1135 : decode cL_law 1135 = .ok (.ireturn, 1) := by decide +kernel
theorem dL_law_1136 : decode cL_law 1136 = .ok (.aload_n 1, 1) := by decide +kernel
theorem dL_law_1137 : decode cL_law 1137 = .ok (.invokevirtual 139, 3) := by decide +kernel
theorem dL_law_1140 : decode cL_law 1140 = .ok (.dstore 5, 2) := by decide +kernel
theorem dL_law_1142 : decode cL_law 1142 = .ok (.aload_n 2, 1) := by decide +kernel
theorem dL_law_1143 : decode cL_law 1143 = .ok (.invokevirtual 143, 3) := by decide +kernel
theorem dL_law_1146 : decode cL_law 1146 = .ok (.dstore 7, 2) := by decide +kernel
theorem dL_law_1148 : decode cL_law 1148 = .ok (.dload 5, 2) := by decide +kernel
theorem dL_law_1150 : decode cL_law 1150 = .ok (.dload 7, 2) := by decide +kernel
theorem dL_law_1152 : decode cL_law 1152 = .ok (.dcmp .l, 1) := by decide +kernel
theorem dL_law_1153 : decode cL_law 1153 = .ok (.ifCond .eq 21, 3) := by decide +kernel
theorem dL_law_1156 : decode cL_law 1156 = .ok (.dload 5, 2) := by decide +kernel
theorem dL_law_1158 : decode cL_law 1158 = .ok (.dload 5, 2) := by decide +kernel
theorem dL_law_1160 : decode cL_law 1160 = .ok (.dcmp .l, 1) := by decide +kernel
theorem dL_law_1161 : decode cL_law 1161 = .ok (.ifCond .eq 11, 3) := by decide +kernel
theorem dL_law_1164 : decode cL_law 1164 = .ok (.dload 7, 2) := by decide +kernel
theorem dL_law_1166 : decode cL_law 1166 = .ok (.dload 7, 2) := by decide +kernel
theorem dL_law_1168 : decode cL_law 1168 = .ok (.dcmp .l, 1) := by decide +kernel
theorem dL_law_1169 : decode cL_law 1169 = .ok (.ifCond .ne 5, 3) := by decide +kernel
theorem dL_law_1172 : decode cL_law 1172 = .ok (.iconst 0, 1) := by decide +kernel
theorem dL_law_1173 : decode cL_law 1173 = .ok (.ireturn, 1) := by decide +kernel
theorem dL_law_1174 : decode cL_law 1174 = .ok (.goto 17, 3) := by decide +kernel
theorem dL_law_1177 : decode cL_law 1177 = .ok (.aload_n 1, 1) := by decide +kernel
theorem dL_law_1178 : decode cL_law 1178 = .ok (.invokevirtual 144, 3) := by decide +kernel
theorem dL_law_1181 : decode cL_law 1181 = .ok (.aload_n 2, 1) := by decide +kernel
theorem dL_law_1182 : decode cL_law 1182 = .ok (.invokevirtual 148, 3) := by decide +kernel
theorem dL_law_1185 : decode cL_law 1185 = .ok (.lcmp, 1) := by decide +kernel
theorem dL_law_1186 : decode cL_law 1186 = .ok (.ifCond .eq 5, 3) := by decide +kernel
theorem dL_law_1189 : decode cL_law 1189 = .ok (.iconst 0, 1) := by decide +kernel
theorem dL_law_1190 : decode cL_law 1190 = .ok (.ireturn, 1) := by decide +kernel
theorem dL_law_1191 : decode cL_law 1191 = .ok (.iinc 4 5, 3) := by decide +kernel
theorem dL_law_1194 : decode cL_law 1194 = .ok (.goto (-1171), 3) := by decide +kernel
theorem dL_law_1197 : decode cL_law 1197 = .ok (.iconst 1, 1) := by decide +kernel
theorem dL_law_1198 : decode cL_law 1198 = .ok (.ireturn, 1) := by decide +kernel
abbrev vwCl : List vw_C := [(RX0, TX0, 4), (RX1, TX1, 6), (RX2, TX2, 3), (RX3, TX3, 4), (RX4, TX4, 6), (RX5, TX5, 14), (RX6, TX6, 25)]
end
