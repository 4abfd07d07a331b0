-- ===== PART A: goes FIRST, ahead of the names: the tables' words, and 'selects' of the private methods out of them =====
/-- a private method of a class that the tables say can be made, by its rows of tables_1 -/
def lw_okq (q : MethodName × Nat) : Prop := (q.1.cls ≠ "java/lang/invoke/MethodHandle" ∧ q.1.cls ≠ "java/lang/invoke/VarHandle") ∧ Cond.instantiable q.1.cls q.2 ∈ tables_1 ∧ Cond.privateMethod q.1 ∈ tables_1 ∧ Cond.instanceMethod q.1 ∈ tables_1
theorem lw_p0 : lw_okq (⟨"WaysTold", "goesAlong", "(II)Z"⟩, 11) := ⟨⟨by decide +kernel, by decide +kernel⟩, List.mem_of_getElem? (i := 12) (by decide +kernel), List.mem_of_getElem? (i := 235) (by decide +kernel), List.mem_of_getElem? (i := 236) (by decide +kernel)⟩
theorem lw_p1 : lw_okq (⟨"WaysTold$Walker", "followSlipped", "(II)Z"⟩, 6) := ⟨⟨by decide +kernel, by decide +kernel⟩, List.mem_of_getElem? (i := 72) (by decide +kernel), List.mem_of_getElem? (i := 331) (by decide +kernel), List.mem_of_getElem? (i := 332) (by decide +kernel)⟩
theorem lw_p2 : lw_okq (⟨"WaysTold$Walker", "pass", "(I)Z"⟩, 6) := ⟨⟨by decide +kernel, by decide +kernel⟩, List.mem_of_getElem? (i := 72) (by decide +kernel), List.mem_of_getElem? (i := 342) (by decide +kernel), List.mem_of_getElem? (i := 343) (by decide +kernel)⟩
theorem lw_p3 : lw_okq (⟨"WaysTold$Walker", "turnAtNth", "(II)Z"⟩, 6) := ⟨⟨by decide +kernel, by decide +kernel⟩, List.mem_of_getElem? (i := 72) (by decide +kernel), List.mem_of_getElem? (i := 350) (by decide +kernel), List.mem_of_getElem? (i := 351) (by decide +kernel)⟩
theorem lw_p4 : lw_okq (⟨"WaysTold$Walker", "hasStreet", "(I)Z"⟩, 6) := ⟨⟨by decide +kernel, by decide +kernel⟩, List.mem_of_getElem? (i := 72) (by decide +kernel), List.mem_of_getElem? (i := 354) (by decide +kernel), List.mem_of_getElem? (i := 355) (by decide +kernel)⟩
theorem lw_p5 : lw_okq (⟨"WaysTold$Walker", "passUntil", "(II)Z"⟩, 6) := ⟨⟨by decide +kernel, by decide +kernel⟩, List.mem_of_getElem? (i := 72) (by decide +kernel), List.mem_of_getElem? (i := 358) (by decide +kernel), List.mem_of_getElem? (i := 359) (by decide +kernel)⟩
theorem lw_p6 : lw_okq (⟨"WaysTold$Walker", "passNamed", "(I)Z"⟩, 6) := ⟨⟨by decide +kernel, by decide +kernel⟩, List.mem_of_getElem? (i := 72) (by decide +kernel), List.mem_of_getElem? (i := 363) (by decide +kernel), List.mem_of_getElem? (i := 364) (by decide +kernel)⟩
theorem lw_p7 : lw_okq (⟨"WaysTold$Walker", "passToTheEnd", "()Z"⟩, 6) := ⟨⟨by decide +kernel, by decide +kernel⟩, List.mem_of_getElem? (i := 72) (by decide +kernel), List.mem_of_getElem? (i := 368) (by decide +kernel), List.mem_of_getElem? (i := 369) (by decide +kernel)⟩
theorem lw_p8 : lw_okq (⟨"WaysTold", "lastPlace", "()I"⟩, 11) := ⟨⟨by decide +kernel, by decide +kernel⟩, List.mem_of_getElem? (i := 12) (by decide +kernel), List.mem_of_getElem? (i := 395) (by decide +kernel), List.mem_of_getElem? (i := 396) (by decide +kernel)⟩
theorem lw_p9 : lw_okq (⟨"WaysTold", "placeAfter", "(II)I"⟩, 11) := ⟨⟨by decide +kernel, by decide +kernel⟩, List.mem_of_getElem? (i := 12) (by decide +kernel), List.mem_of_getElem? (i := 399) (by decide +kernel), List.mem_of_getElem? (i := 400) (by decide +kernel)⟩
theorem lw_p10 : lw_okq (⟨"WaysTold$Net", "reach", "(II)V"⟩, 7) := ⟨⟨by decide +kernel, by decide +kernel⟩, List.mem_of_getElem? (i := 20) (by decide +kernel), List.mem_of_getElem? (i := 412) (by decide +kernel), List.mem_of_getElem? (i := 413) (by decide +kernel)⟩
theorem lw_p11 : lw_okq (⟨"WaysTold$Net", "reachAround", "(I)V"⟩, 7) := ⟨⟨by decide +kernel, by decide +kernel⟩, List.mem_of_getElem? (i := 20) (by decide +kernel), List.mem_of_getElem? (i := 418) (by decide +kernel), List.mem_of_getElem? (i := 419) (by decide +kernel)⟩
theorem lw_p12 : lw_okq (⟨"WaysTold$Net", "knotAfter", "(II)I"⟩, 7) := ⟨⟨by decide +kernel, by decide +kernel⟩, List.mem_of_getElem? (i := 20) (by decide +kernel), List.mem_of_getElem? (i := 422) (by decide +kernel), List.mem_of_getElem? (i := 423) (by decide +kernel)⟩
theorem lw_p13 : lw_okq (⟨"WaysTold$Net", "exitNearer", "(I)I"⟩, 7) := ⟨⟨by decide +kernel, by decide +kernel⟩, List.mem_of_getElem? (i := 20) (by decide +kernel), List.mem_of_getElem? (i := 436) (by decide +kernel), List.mem_of_getElem? (i := 437) (by decide +kernel)⟩
theorem lw_p14 : lw_okq (⟨"WaysTold", "chartWay", "()V"⟩, 11) := ⟨⟨by decide +kernel, by decide +kernel⟩, List.mem_of_getElem? (i := 12) (by decide +kernel), List.mem_of_getElem? (i := 451) (by decide +kernel), List.mem_of_getElem? (i := 452) (by decide +kernel)⟩
theorem lw_p15 : lw_okq (⟨"WaysTold", "openChart", "(I)V"⟩, 11) := ⟨⟨by decide +kernel, by decide +kernel⟩, List.mem_of_getElem? (i := 12) (by decide +kernel), List.mem_of_getElem? (i := 455) (by decide +kernel), List.mem_of_getElem? (i := 456) (by decide +kernel)⟩
def lw_privs_1 : List (MethodName × Nat) := [(⟨"WaysTold", "goesAlong", "(II)Z"⟩, 11), (⟨"WaysTold$Walker", "followSlipped", "(II)Z"⟩, 6), (⟨"WaysTold$Walker", "pass", "(I)Z"⟩, 6), (⟨"WaysTold$Walker", "turnAtNth", "(II)Z"⟩, 6), (⟨"WaysTold$Walker", "hasStreet", "(I)Z"⟩, 6), (⟨"WaysTold$Walker", "passUntil", "(II)Z"⟩, 6), (⟨"WaysTold$Walker", "passNamed", "(I)Z"⟩, 6), (⟨"WaysTold$Walker", "passToTheEnd", "()Z"⟩, 6), (⟨"WaysTold", "lastPlace", "()I"⟩, 11), (⟨"WaysTold", "placeAfter", "(II)I"⟩, 11), (⟨"WaysTold$Net", "reach", "(II)V"⟩, 7), (⟨"WaysTold$Net", "reachAround", "(I)V"⟩, 7), (⟨"WaysTold$Net", "knotAfter", "(II)I"⟩, 7), (⟨"WaysTold$Net", "exitNearer", "(I)I"⟩, 7), (⟨"WaysTold", "chartWay", "()V"⟩, 11), (⟨"WaysTold", "openChart", "(I)V"⟩, 11)]
theorem lw_r1 : ∀ q ∈ lw_privs_1, lw_okq q := List.forall_mem_cons.mpr ⟨lw_p0, List.forall_mem_cons.mpr ⟨lw_p1, List.forall_mem_cons.mpr ⟨lw_p2, List.forall_mem_cons.mpr ⟨lw_p3, List.forall_mem_cons.mpr ⟨lw_p4, List.forall_mem_cons.mpr ⟨lw_p5, List.forall_mem_cons.mpr ⟨lw_p6, List.forall_mem_cons.mpr ⟨lw_p7, List.forall_mem_cons.mpr ⟨lw_p8, List.forall_mem_cons.mpr ⟨lw_p9, List.forall_mem_cons.mpr ⟨lw_p10, List.forall_mem_cons.mpr ⟨lw_p11, List.forall_mem_cons.mpr ⟨lw_p12, List.forall_mem_cons.mpr ⟨lw_p13, List.forall_mem_cons.mpr ⟨lw_p14, List.forall_mem_cons.mpr ⟨lw_p15, fun _ h => absurd h List.not_mem_nil⟩⟩⟩⟩⟩⟩⟩⟩⟩⟩⟩⟩⟩⟩⟩⟩
theorem lw_p16 : lw_okq (⟨"WaysTold", "priceOf", "(I)I"⟩, 11) := ⟨⟨by decide +kernel, by decide +kernel⟩, List.mem_of_getElem? (i := 12) (by decide +kernel), List.mem_of_getElem? (i := 470) (by decide +kernel), List.mem_of_getElem? (i := 471) (by decide +kernel)⟩
theorem lw_p17 : lw_okq (⟨"WaysTold$Chart", "isPlace", "(I)Z"⟩, 4) := ⟨⟨by decide +kernel, by decide +kernel⟩, List.mem_of_getElem? (i := 128) (by decide +kernel), List.mem_of_getElem? (i := 485) (by decide +kernel), List.mem_of_getElem? (i := 486) (by decide +kernel)⟩
theorem lw_p18 : lw_okq (⟨"WaysTold", "scoutFollows", "(II)Z"⟩, 11) := ⟨⟨by decide +kernel, by decide +kernel⟩, List.mem_of_getElem? (i := 12) (by decide +kernel), List.mem_of_getElem? (i := 489) (by decide +kernel), List.mem_of_getElem? (i := 490) (by decide +kernel)⟩
theorem lw_p19 : lw_okq (⟨"WaysTold", "isAllowed", "(I)Z"⟩, 11) := ⟨⟨by decide +kernel, by decide +kernel⟩, List.mem_of_getElem? (i := 12) (by decide +kernel), List.mem_of_getElem? (i := 493) (by decide +kernel), List.mem_of_getElem? (i := 494) (by decide +kernel)⟩
theorem lw_p20 : lw_okq (⟨"WaysTold$Chart", "improve", "(I)Z"⟩, 4) := ⟨⟨by decide +kernel, by decide +kernel⟩, List.mem_of_getElem? (i := 128) (by decide +kernel), List.mem_of_getElem? (i := 511) (by decide +kernel), List.mem_of_getElem? (i := 512) (by decide +kernel)⟩
theorem lw_p21 : lw_okq (⟨"WaysTold$Chart", "costBy", "(II)I"⟩, 4) := ⟨⟨by decide +kernel, by decide +kernel⟩, List.mem_of_getElem? (i := 128) (by decide +kernel), List.mem_of_getElem? (i := 515) (by decide +kernel), List.mem_of_getElem? (i := 516) (by decide +kernel)⟩
theorem lw_p22 : lw_okq (⟨"WaysTold$Chart", "leadOf", "(II)I"⟩, 4) := ⟨⟨by decide +kernel, by decide +kernel⟩, List.mem_of_getElem? (i := 128) (by decide +kernel), List.mem_of_getElem? (i := 519) (by decide +kernel), List.mem_of_getElem? (i := 520) (by decide +kernel)⟩
theorem lw_p23 : lw_okq (⟨"WaysTold$Chart", "leastCostFrom", "(I)I"⟩, 4) := ⟨⟨by decide +kernel, by decide +kernel⟩, List.mem_of_getElem? (i := 128) (by decide +kernel), List.mem_of_getElem? (i := 527) (by decide +kernel), List.mem_of_getElem? (i := 528) (by decide +kernel)⟩
theorem lw_p24 : lw_okq (⟨"WaysTold$Chart", "firstOnLeast", "(I)I"⟩, 4) := ⟨⟨by decide +kernel, by decide +kernel⟩, List.mem_of_getElem? (i := 128) (by decide +kernel), List.mem_of_getElem? (i := 532) (by decide +kernel), List.mem_of_getElem? (i := 533) (by decide +kernel)⟩
theorem lw_p25 : lw_okq (⟨"WaysTold", "isWalkedBy", "(LWaysTold$Way;LWaysTold$Row;)Z"⟩, 11) := ⟨⟨by decide +kernel, by decide +kernel⟩, List.mem_of_getElem? (i := 12) (by decide +kernel), List.mem_of_getElem? (i := 541) (by decide +kernel), List.mem_of_getElem? (i := 542) (by decide +kernel)⟩
theorem lw_p26 : lw_okq (⟨"WaysTold", "chartNet", "(I)V"⟩, 11) := ⟨⟨by decide +kernel, by decide +kernel⟩, List.mem_of_getElem? (i := 12) (by decide +kernel), List.mem_of_getElem? (i := 556) (by decide +kernel), List.mem_of_getElem? (i := 557) (by decide +kernel)⟩
theorem lw_p27 : lw_okq (⟨"WaysTold", "priceOfSaid", "()I"⟩, 11) := ⟨⟨by decide +kernel, by decide +kernel⟩, List.mem_of_getElem? (i := 12) (by decide +kernel), List.mem_of_getElem? (i := 602) (by decide +kernel), List.mem_of_getElem? (i := 603) (by decide +kernel)⟩
theorem lw_p28 : lw_okq (⟨"WaysToldModel", "isExit", "(II)Z"⟩, 38) := ⟨⟨by decide +kernel, by decide +kernel⟩, List.mem_of_getElem? (i := 606) (by decide +kernel), List.mem_of_getElem? (i := 738) (by decide +kernel), List.mem_of_getElem? (i := 739) (by decide +kernel)⟩
theorem lw_p29 : lw_okq (⟨"WaysToldModel", "isKnot", "(I)Z"⟩, 38) := ⟨⟨by decide +kernel, by decide +kernel⟩, List.mem_of_getElem? (i := 606) (by decide +kernel), List.mem_of_getElem? (i := 742) (by decide +kernel), List.mem_of_getElem? (i := 743) (by decide +kernel)⟩
theorem lw_p30 : lw_okq (⟨"WaysToldModel", "goesBy", "(I)Z"⟩, 38) := ⟨⟨by decide +kernel, by decide +kernel⟩, List.mem_of_getElem? (i := 606) (by decide +kernel), List.mem_of_getElem? (i := 750) (by decide +kernel), List.mem_of_getElem? (i := 751) (by decide +kernel)⟩
theorem lw_p31 : lw_okq (⟨"WaysToldModel", "does", "(III)Z"⟩, 38) := ⟨⟨by decide +kernel, by decide +kernel⟩, List.mem_of_getElem? (i := 606) (by decide +kernel), List.mem_of_getElem? (i := 792) (by decide +kernel), List.mem_of_getElem? (i := 793) (by decide +kernel)⟩
def lw_privs_2 : List (MethodName × Nat) := [(⟨"WaysTold", "priceOf", "(I)I"⟩, 11), (⟨"WaysTold$Chart", "isPlace", "(I)Z"⟩, 4), (⟨"WaysTold", "scoutFollows", "(II)Z"⟩, 11), (⟨"WaysTold", "isAllowed", "(I)Z"⟩, 11), (⟨"WaysTold$Chart", "improve", "(I)Z"⟩, 4), (⟨"WaysTold$Chart", "costBy", "(II)I"⟩, 4), (⟨"WaysTold$Chart", "leadOf", "(II)I"⟩, 4), (⟨"WaysTold$Chart", "leastCostFrom", "(I)I"⟩, 4), (⟨"WaysTold$Chart", "firstOnLeast", "(I)I"⟩, 4), (⟨"WaysTold", "isWalkedBy", "(LWaysTold$Way;LWaysTold$Row;)Z"⟩, 11), (⟨"WaysTold", "chartNet", "(I)V"⟩, 11), (⟨"WaysTold", "priceOfSaid", "()I"⟩, 11), (⟨"WaysToldModel", "isExit", "(II)Z"⟩, 38), (⟨"WaysToldModel", "isKnot", "(I)Z"⟩, 38), (⟨"WaysToldModel", "goesBy", "(I)Z"⟩, 38), (⟨"WaysToldModel", "does", "(III)Z"⟩, 38)]
theorem lw_r2 : ∀ q ∈ lw_privs_2, lw_okq q := List.forall_mem_cons.mpr ⟨lw_p16, List.forall_mem_cons.mpr ⟨lw_p17, List.forall_mem_cons.mpr ⟨lw_p18, List.forall_mem_cons.mpr ⟨lw_p19, List.forall_mem_cons.mpr ⟨lw_p20, List.forall_mem_cons.mpr ⟨lw_p21, List.forall_mem_cons.mpr ⟨lw_p22, List.forall_mem_cons.mpr ⟨lw_p23, List.forall_mem_cons.mpr ⟨lw_p24, List.forall_mem_cons.mpr ⟨lw_p25, List.forall_mem_cons.mpr ⟨lw_p26, List.forall_mem_cons.mpr ⟨lw_p27, List.forall_mem_cons.mpr ⟨lw_p28, List.forall_mem_cons.mpr ⟨lw_p29, List.forall_mem_cons.mpr ⟨lw_p30, List.forall_mem_cons.mpr ⟨lw_p31, fun _ h => absurd h List.not_mem_nil⟩⟩⟩⟩⟩⟩⟩⟩⟩⟩⟩⟩⟩⟩⟩⟩
theorem lw_p32 : lw_okq (⟨"WaysToldModel", "goBy", "(I)Z"⟩, 38) := ⟨⟨by decide +kernel, by decide +kernel⟩, List.mem_of_getElem? (i := 606) (by decide +kernel), List.mem_of_getElem? (i := 796) (by decide +kernel), List.mem_of_getElem? (i := 797) (by decide +kernel)⟩
theorem lw_p33 : lw_okq (⟨"WaysToldModel", "goNamed", "(I)Z"⟩, 38) := ⟨⟨by decide +kernel, by decide +kernel⟩, List.mem_of_getElem? (i := 606) (by decide +kernel), List.mem_of_getElem? (i := 800) (by decide +kernel), List.mem_of_getElem? (i := 801) (by decide +kernel)⟩
theorem lw_p34 : lw_okq (⟨"WaysToldModel", "has", "(I)Z"⟩, 38) := ⟨⟨by decide +kernel, by decide +kernel⟩, List.mem_of_getElem? (i := 606) (by decide +kernel), List.mem_of_getElem? (i := 804) (by decide +kernel), List.mem_of_getElem? (i := 805) (by decide +kernel)⟩
theorem lw_p35 : lw_okq (⟨"WaysToldModel", "follow", "(II[III)Z"⟩, 38) := ⟨⟨by decide +kernel, by decide +kernel⟩, List.mem_of_getElem? (i := 606) (by decide +kernel), List.mem_of_getElem? (i := 820) (by decide +kernel), List.mem_of_getElem? (i := 821) (by decide +kernel)⟩
theorem lw_p36 : lw_okq (⟨"WaysToldModel", "isAllowed", "(I)Z"⟩, 38) := ⟨⟨by decide +kernel, by decide +kernel⟩, List.mem_of_getElem? (i := 606) (by decide +kernel), List.mem_of_getElem? (i := 837) (by decide +kernel), List.mem_of_getElem? (i := 838) (by decide +kernel)⟩
theorem lw_p37 : lw_okq (⟨"WaysToldModel", "along", "(III)I"⟩, 38) := ⟨⟨by decide +kernel, by decide +kernel⟩, List.mem_of_getElem? (i := 606) (by decide +kernel), List.mem_of_getElem? (i := 841) (by decide +kernel), List.mem_of_getElem? (i := 842) (by decide +kernel)⟩
theorem lw_p38 : lw_okq (⟨"WaysToldModel", "offer", "(IIIII)V"⟩, 38) := ⟨⟨by decide +kernel, by decide +kernel⟩, List.mem_of_getElem? (i := 606) (by decide +kernel), List.mem_of_getElem? (i := 845) (by decide +kernel), List.mem_of_getElem? (i := 846) (by decide +kernel)⟩
theorem lw_p39 : lw_okq (⟨"WaysToldModel", "tells", "(II[III[I[III)Z"⟩, 38) := ⟨⟨by decide +kernel, by decide +kernel⟩, List.mem_of_getElem? (i := 606) (by decide +kernel), List.mem_of_getElem? (i := 853) (by decide +kernel), List.mem_of_getElem? (i := 854) (by decide +kernel)⟩
theorem lw_p40 : lw_okq (⟨"WaysToldModel", "offerAll", "(I)V"⟩, 38) := ⟨⟨by decide +kernel, by decide +kernel⟩, List.mem_of_getElem? (i := 606) (by decide +kernel), List.mem_of_getElem? (i := 865) (by decide +kernel), List.mem_of_getElem? (i := 866) (by decide +kernel)⟩
theorem lw_p41 : lw_okq (⟨"WaysToldModel", "from", "(III)I"⟩, 38) := ⟨⟨by decide +kernel, by decide +kernel⟩, List.mem_of_getElem? (i := 606) (by decide +kernel), List.mem_of_getElem? (i := 869) (by decide +kernel), List.mem_of_getElem? (i := 870) (by decide +kernel)⟩
theorem lw_p42 : lw_okq (⟨"WaysToldModel", "offerJust", "(III)V"⟩, 38) := ⟨⟨by decide +kernel, by decide +kernel⟩, List.mem_of_getElem? (i := 606) (by decide +kernel), List.mem_of_getElem? (i := 873) (by decide +kernel), List.mem_of_getElem? (i := 874) (by decide +kernel)⟩
def lw_privs_3 : List (MethodName × Nat) := [(⟨"WaysToldModel", "goBy", "(I)Z"⟩, 38), (⟨"WaysToldModel", "goNamed", "(I)Z"⟩, 38), (⟨"WaysToldModel", "has", "(I)Z"⟩, 38), (⟨"WaysToldModel", "follow", "(II[III)Z"⟩, 38), (⟨"WaysToldModel", "isAllowed", "(I)Z"⟩, 38), (⟨"WaysToldModel", "along", "(III)I"⟩, 38), (⟨"WaysToldModel", "offer", "(IIIII)V"⟩, 38), (⟨"WaysToldModel", "tells", "(II[III[I[III)Z"⟩, 38), (⟨"WaysToldModel", "offerAll", "(I)V"⟩, 38), (⟨"WaysToldModel", "from", "(III)I"⟩, 38), (⟨"WaysToldModel", "offerJust", "(III)V"⟩, 38)]
theorem lw_r3 : ∀ q ∈ lw_privs_3, lw_okq q := List.forall_mem_cons.mpr ⟨lw_p32, List.forall_mem_cons.mpr ⟨lw_p33, List.forall_mem_cons.mpr ⟨lw_p34, List.forall_mem_cons.mpr ⟨lw_p35, List.forall_mem_cons.mpr ⟨lw_p36, List.forall_mem_cons.mpr ⟨lw_p37, List.forall_mem_cons.mpr ⟨lw_p38, List.forall_mem_cons.mpr ⟨lw_p39, List.forall_mem_cons.mpr ⟨lw_p40, List.forall_mem_cons.mpr ⟨lw_p41, List.forall_mem_cons.mpr ⟨lw_p42, fun _ h => absurd h List.not_mem_nil⟩⟩⟩⟩⟩⟩⟩⟩⟩⟩⟩
def lw_privs : List (MethodName × Nat) := lw_privs_1 ++ (lw_privs_2 ++ (lw_privs_3))
def lw_tbl : List Cond := k2_sels lw_privs ++ tables_1
theorem lw_privs_ok : ∀ q ∈ lw_privs, lw_okq q := by
  show ∀ q ∈ lw_privs_1 ++ (lw_privs_2 ++ (lw_privs_3)), lw_okq q
  exact List.forall_mem_append.mpr ⟨lw_r1, List.forall_mem_append.mpr ⟨lw_r2, lw_r3⟩⟩
def RX0 : String := "WaysTold$Chart"
def TX0 : u_T := fun k => match k with
  | 0 => ("WaysTold$Chart", "places", "I", false)
  | 1 => ("WaysTold$Chart", "leads", "[I", true)
  | 2 => ("WaysTold$Chart", "leastCosts", "[I", true)
  | _ => ("WaysTold$Chart", "costs", "[I", true)
def tyX0 : Nat → FieldType := fun k => match k with
  | 0 => .int
  | 1 => .array .int
  | 2 => .array .int
  | _ => .array .int
abbrev wsX00 : List Cond := u_ws RX0 TX0 4
theorem nmX0 : ∀ a, a < 4 → ∀ b, b < 4 → a ≠ b → (TX0 a).2.1 ≠ (TX0 b).2.1 := by decide +kernel
theorem tyX0_ok : ∀ k, k < 4 → parseFieldDescriptor (TX0 k).2.2.1 = some (tyX0 k) := by decide +kernel
abbrev cX0_init : ByteArray := prog_2_method_1_code
def yX0_init : MethodName := ⟨RX0, "<init>", "()V"⟩
abbrev cX0_clear : ByteArray := prog_2_method_2_code
def yX0_clear : MethodName := ⟨RX0, "clear", "(I)V"⟩
abbrev cX0_setPrice : ByteArray := prog_2_method_3_code
def yX0_setPrice : MethodName := ⟨RX0, "setPrice", "(II)V"⟩
abbrev cX0_setGoal : ByteArray := prog_2_method_4_code
def yX0_setGoal : MethodName := ⟨RX0, "setGoal", "(I)V"⟩
abbrev cX0_setLead : ByteArray := prog_2_method_5_code
def yX0_setLead : MethodName := ⟨RX0, "setLead", "(III)V"⟩
abbrev cX0_settle : ByteArray := prog_2_method_6_code
def yX0_settle : MethodName := ⟨RX0, "settle", "()V"⟩
abbrev cX0_spell : ByteArray := prog_2_method_7_code
def yX0_spell : MethodName := ⟨RX0, "spell", "(ILWaysTold$Row;)I"⟩
abbrev cX0_improve : ByteArray := prog_2_method_8_code
def yX0_improve : MethodName := ⟨RX0, "improve", "(I)Z"⟩
abbrev cX0_firstOnLeast : ByteArray := prog_2_method_9_code
def yX0_firstOnLeast : MethodName := ⟨RX0, "firstOnLeast", "(I)I"⟩
abbrev cX0_costBy : ByteArray := prog_2_method_10_code
def yX0_costBy : MethodName := ⟨RX0, "costBy", "(II)I"⟩
abbrev cX0_leadOf : ByteArray := prog_2_method_11_code
def yX0_leadOf : MethodName := ⟨RX0, "leadOf", "(II)I"⟩
abbrev cX0_leastCostFrom : ByteArray := prog_2_method_12_code
def yX0_leastCostFrom : MethodName := ⟨RX0, "leastCostFrom", "(I)I"⟩
abbrev cX0_isPlace : ByteArray := prog_2_method_13_code
def yX0_isPlace : MethodName := ⟨RX0, "isPlace", "(I)Z"⟩
abbrev cX0_isSaying : ByteArray := prog_2_method_14_code
def yX0_isSaying : MethodName := ⟨RX0, "isSaying", "(I)Z"⟩
def RX1 : String := "WaysTold$Kept"
def TX1 : u_T := fun k => match k with
  | 0 => ("WaysTold$Kept", "way", "LWaysTold$Way;", true)
  | _ => ("WaysTold$Kept", "sayings", "LWaysTold$Row;", true)
def tyX1 : Nat → FieldType := fun k => match k with
  | 0 => .object "WaysTold$Way"
  | _ => .object "WaysTold$Row"
abbrev wsX10 : List Cond := u_ws RX1 TX1 2
theorem nmX1 : ∀ a, a < 2 → ∀ b, b < 2 → a ≠ b → (TX1 a).2.1 ≠ (TX1 b).2.1 := by decide +kernel
theorem tyX1_ok : ∀ k, k < 2 → parseFieldDescriptor (TX1 k).2.2.1 = some (tyX1 k) := by decide +kernel
abbrev cX1_init : ByteArray := prog_3_method_1_code
def yX1_init : MethodName := ⟨RX1, "<init>", "(LWaysTold$Way;LWaysTold$Row;)V"⟩
def RX2 : String := "WaysTold$Net"
def TX2 : u_T := fun k => match k with
  | 0 => ("WaysTold$Net", "knots", "I", false)
  | 1 => ("WaysTold$Net", "streets", "I", false)
  | 2 => ("WaysTold$Net", "sights", "[I", true)
  | 3 => ("WaysTold$Net", "acrossFrom", "[I", true)
  | 4 => ("WaysTold$Net", "names", "[I", true)
  | 5 => ("WaysTold$Net", "distances", "[I", true)
  | _ => ("WaysTold$Net", "reached", "LWaysTold$Row;", true)
def tyX2 : Nat → FieldType := fun k => match k with
  | 0 => .int
  | 1 => .int
  | 2 => .array .int
  | 3 => .array .int
  | 4 => .array .int
  | 5 => .array .int
  | _ => .object "WaysTold$Row"
abbrev wsX20 : List Cond := u_ws RX2 TX2 7
theorem nmX2 : ∀ a, a < 7 → ∀ b, b < 7 → a ≠ b → (TX2 a).2.1 ≠ (TX2 b).2.1 := by decide +kernel
theorem tyX2_ok : ∀ k, k < 7 → parseFieldDescriptor (TX2 k).2.2.1 = some (tyX2 k) := by decide +kernel
abbrev cX2_init : ByteArray := prog_4_method_1_code
def yX2_init : MethodName := ⟨RX2, "<init>", "()V"⟩
abbrev cX2_hasKnot : ByteArray := prog_4_method_2_code
def yX2_hasKnot : MethodName := ⟨RX2, "hasKnot", "(I)Z"⟩
abbrev cX2_addKnot : ByteArray := prog_4_method_3_code
def yX2_addKnot : MethodName := ⟨RX2, "addKnot", "(I)I"⟩
abbrev cX2_show : ByteArray := prog_4_method_4_code
def yX2_show : MethodName := ⟨RX2, "show", "(II)Z"⟩
abbrev cX2_sightOf : ByteArray := prog_4_method_5_code
def yX2_sightOf : MethodName := ⟨RX2, "sightOf", "(I)I"⟩
abbrev cX2_across : ByteArray := prog_4_method_6_code
def yX2_across : MethodName := ⟨RX2, "across", "(II)I"⟩
abbrev cX2_nameAt : ByteArray := prog_4_method_7_code
def yX2_nameAt : MethodName := ⟨RX2, "nameAt", "(II)I"⟩
abbrev cX2_isFree : ByteArray := prog_4_method_8_code
def yX2_isFree : MethodName := ⟨RX2, "isFree", "(II)Z"⟩
abbrev cX2_join : ByteArray := prog_4_method_9_code
def yX2_join : MethodName := ⟨RX2, "join", "(III)Z"⟩
abbrev cX2_part : ByteArray := prog_4_method_10_code
def yX2_part : MethodName := ⟨RX2, "part", "(II)V"⟩
abbrev cX2_distanceFrom : ByteArray := prog_4_method_11_code
def yX2_distanceFrom : MethodName := ⟨RX2, "distanceFrom", "(I)I"⟩
abbrev cX2_measureTo : ByteArray := prog_4_method_12_code
def yX2_measureTo : MethodName := ⟨RX2, "measureTo", "(I)V"⟩
abbrev cX2_addShortest : ByteArray := prog_4_method_13_code
def yX2_addShortest : MethodName := ⟨RX2, "addShortest", "(ILWaysTold$Row;)V"⟩
abbrev cX2_reachAround : ByteArray := prog_4_method_14_code
def yX2_reachAround : MethodName := ⟨RX2, "reachAround", "(I)V"⟩
abbrev cX2_reach : ByteArray := prog_4_method_15_code
def yX2_reach : MethodName := ⟨RX2, "reach", "(II)V"⟩
abbrev cX2_exitNearer : ByteArray := prog_4_method_16_code
def yX2_exitNearer : MethodName := ⟨RX2, "exitNearer", "(I)I"⟩
abbrev cX2_knotAfter : ByteArray := prog_4_method_17_code
def yX2_knotAfter : MethodName := ⟨RX2, "knotAfter", "(II)I"⟩
abbrev cX2_isEnd : ByteArray := prog_4_method_18_code
def yX2_isEnd : MethodName := ⟨RX2, "isEnd", "(I)Z"⟩
def RX3 : String := "WaysTold$Row"
def TX3 : u_T := fun k => match k with
  | 0 => ("WaysTold$Row", "items", "[I", true)
  | _ => ("WaysTold$Row", "size", "I", false)
def tyX3 : Nat → FieldType := fun k => match k with
  | 0 => .array .int
  | _ => .int
abbrev wsX30 : List Cond := u_ws RX3 TX3 2
theorem nmX3 : ∀ a, a < 2 → ∀ b, b < 2 → a ≠ b → (TX3 a).2.1 ≠ (TX3 b).2.1 := by decide +kernel
theorem tyX3_ok : ∀ k, k < 2 → parseFieldDescriptor (TX3 k).2.2.1 = some (tyX3 k) := by decide +kernel
abbrev cX3_init : ByteArray := prog_5_method_1_code
def yX3_init : MethodName := ⟨RX3, "<init>", "(I)V"⟩
abbrev cX3_at : ByteArray := prog_5_method_2_code
def yX3_at : MethodName := ⟨RX3, "at", "(I)I"⟩
abbrev cX3_add : ByteArray := prog_5_method_3_code
def yX3_add : MethodName := ⟨RX3, "add", "(I)Z"⟩
abbrev cX3_clear : ByteArray := prog_5_method_4_code
def yX3_clear : MethodName := ⟨RX3, "clear", "()V"⟩
abbrev cX3_copy : ByteArray := prog_5_method_5_code
def yX3_copy : MethodName := ⟨RX3, "copy", "(LWaysTold$Row;)V"⟩
def RX4 : String := "WaysTold$Walker"
def TX4 : u_T := fun k => match k with
  | 0 => ("WaysTold$Walker", "net", "LWaysTold$Net;", true)
  | 1 => ("WaysTold$Walker", "knot", "I", false)
  | 2 => ("WaysTold$Walker", "facing", "I", false)
  | 3 => ("WaysTold$Walker", "streets", "I", false)
  | 4 => ("WaysTold$Walker", "byThisSaying", "I", false)
  | _ => ("WaysTold$Walker", "exits", "LWaysTold$Row;", true)
def tyX4 : Nat → FieldType := fun k => match k with
  | 0 => .object "WaysTold$Net"
  | 1 => .int
  | 2 => .int
  | 3 => .int
  | 4 => .int
  | _ => .object "WaysTold$Row"
abbrev wsX40 : List Cond := u_ws RX4 TX4 6
theorem nmX4 : ∀ a, a < 6 → ∀ b, b < 6 → a ≠ b → (TX4 a).2.1 ≠ (TX4 b).2.1 := by decide +kernel
theorem tyX4_ok : ∀ k, k < 6 → parseFieldDescriptor (TX4 k).2.2.1 = some (tyX4 k) := by decide +kernel
abbrev cX4_init : ByteArray := prog_6_method_1_code
def yX4_init : MethodName := ⟨RX4, "<init>", "(LWaysTold$Net;)V"⟩
abbrev cX4_stand : ByteArray := prog_6_method_2_code
def yX4_stand : MethodName := ⟨RX4, "stand", "(II)V"⟩
abbrev cX4_followAll : ByteArray := prog_6_method_3_code
def yX4_followAll : MethodName := ⟨RX4, "followAll", "(LWaysTold$Row;I)I"⟩
abbrev cX4_follow : ByteArray := prog_6_method_4_code
def yX4_follow : MethodName := ⟨RX4, "follow", "(III)Z"⟩
abbrev cX4_wentAlong : ByteArray := prog_6_method_5_code
def yX4_wentAlong : MethodName := ⟨RX4, "wentAlong", "(LWaysTold$Row;I)Z"⟩
abbrev cX4_followSlipped : ByteArray := prog_6_method_6_code
def yX4_followSlipped : MethodName := ⟨RX4, "followSlipped", "(II)Z"⟩
abbrev cX4_pass : ByteArray := prog_6_method_7_code
def yX4_pass : MethodName := ⟨RX4, "pass", "(I)Z"⟩
abbrev cX4_hasStreet : ByteArray := prog_6_method_8_code
def yX4_hasStreet : MethodName := ⟨RX4, "hasStreet", "(I)Z"⟩
abbrev cX4_turnAtNth : ByteArray := prog_6_method_9_code
def yX4_turnAtNth : MethodName := ⟨RX4, "turnAtNth", "(II)Z"⟩
abbrev cX4_passUntil : ByteArray := prog_6_method_10_code
def yX4_passUntil : MethodName := ⟨RX4, "passUntil", "(II)Z"⟩
abbrev cX4_passNamed : ByteArray := prog_6_method_11_code
def yX4_passNamed : MethodName := ⟨RX4, "passNamed", "(I)Z"⟩
abbrev cX4_passToTheEnd : ByteArray := prog_6_method_12_code
def yX4_passToTheEnd : MethodName := ⟨RX4, "passToTheEnd", "()Z"⟩
def RX5 : String := "WaysTold$Way"
def TX5 : u_T := fun k => match k with
  | 0 => ("WaysTold$Way", "begun", "Z", false)
  | 1 => ("WaysTold$Way", "knot", "I", false)
  | 2 => ("WaysTold$Way", "facing", "I", false)
  | _ => ("WaysTold$Way", "exits", "LWaysTold$Row;", true)
def tyX5 : Nat → FieldType := fun k => match k with
  | 0 => .boolean
  | 1 => .int
  | 2 => .int
  | _ => .object "WaysTold$Row"
abbrev wsX50 : List Cond := u_ws RX5 TX5 4
theorem nmX5 : ∀ a, a < 4 → ∀ b, b < 4 → a ≠ b → (TX5 a).2.1 ≠ (TX5 b).2.1 := by decide +kernel
theorem tyX5_ok : ∀ k, k < 4 → parseFieldDescriptor (TX5 k).2.2.1 = some (tyX5 k) := by decide +kernel
abbrev cX5_init : ByteArray := prog_7_method_1_code
def yX5_init : MethodName := ⟨RX5, "<init>", "()V"⟩
abbrev cX5_begin : ByteArray := prog_7_method_2_code
def yX5_begin : MethodName := ⟨RX5, "begin", "(II)V"⟩
abbrev cX5_copy : ByteArray := prog_7_method_3_code
def yX5_copy : MethodName := ⟨RX5, "copy", "(LWaysTold$Way;)V"⟩
def RX6 : String := "WaysTold"
def TX6 : u_T := fun k => match k with
  | 0 => ("WaysTold", "net", "LWaysTold$Net;", true)
  | 1 => ("WaysTold", "prices", "[I", true)
  | 2 => ("WaysTold", "allowed", "I", false)
  | 3 => ("WaysTold", "sayings", "LWaysTold$Row;", true)
  | 4 => ("WaysTold", "latest", "LWaysTold$Walker;", true)
  | 5 => ("WaysTold", "hasLatest", "Z", false)
  | 6 => ("WaysTold", "scout", "LWaysTold$Walker;", true)
  | 7 => ("WaysTold", "way", "LWaysTold$Way;", true)
  | 8 => ("WaysTold", "chart", "LWaysTold$Chart;", true)
  | 9 => ("WaysTold", "keptOnes", "[LWaysTold$Kept;", true)
  | _ => ("WaysTold", "keptCount", "I", false)
def tyX6 : Nat → FieldType := fun k => match k with
  | 0 => .object "WaysTold$Net"
  | 1 => .array .int
  | 2 => .int
  | 3 => .object "WaysTold$Row"
  | 4 => .object "WaysTold$Walker"
  | 5 => .boolean
  | 6 => .object "WaysTold$Walker"
  | 7 => .object "WaysTold$Way"
  | 8 => .object "WaysTold$Chart"
  | 9 => .array (.object "WaysTold$Kept")
  | _ => .int
abbrev wsX60 : List Cond := u_ws RX6 TX6 11
theorem nmX6 : ∀ a, a < 11 → ∀ b, b < 11 → a ≠ b → (TX6 a).2.1 ≠ (TX6 b).2.1 := by decide +kernel
theorem tyX6_ok : ∀ k, k < 11 → parseFieldDescriptor (TX6 k).2.2.1 = some (tyX6 k) := by decide +kernel
abbrev cX6_init : ByteArray := prog_1_method_1_code
def yX6_init : MethodName := ⟨RX6, "<init>", "()V"⟩
abbrev cX6_knot : ByteArray := prog_1_method_2_code
def yX6_knot : MethodName := ⟨RX6, "knot", "(I)I"⟩
abbrev cX6_street : ByteArray := prog_1_method_3_code
def yX6_street : MethodName := ⟨RX6, "street", "(IIIII)Z"⟩
abbrev cX6_close : ByteArray := prog_1_method_4_code
def yX6_close : MethodName := ⟨RX6, "close", "(II)Z"⟩
abbrev cX6_sight : ByteArray := prog_1_method_5_code
def yX6_sight : MethodName := ⟨RX6, "sight", "(II)Z"⟩
abbrev cX6_look : ByteArray := prog_1_method_6_code
def yX6_look : MethodName := ⟨RX6, "look", "(III)I"⟩
abbrev cX6_price : ByteArray := prog_1_method_7_code
def yX6_price : MethodName := ⟨RX6, "price", "(II)I"⟩
abbrev cX6_allow : ByteArray := prog_1_method_8_code
def yX6_allow : MethodName := ⟨RX6, "allow", "(I)I"⟩
abbrev cX6_say : ByteArray := prog_1_method_9_code
def yX6_say : MethodName := ⟨RX6, "say", "(II)I"⟩
abbrev cX6_hush : ByteArray := prog_1_method_10_code
def yX6_hush : MethodName := ⟨RX6, "hush", "()I"⟩
abbrev cX6_said : ByteArray := prog_1_method_11_code
def yX6_said : MethodName := ⟨RX6, "said", "(I)I"⟩
abbrev cX6_walk : ByteArray := prog_1_method_12_code
def yX6_walk : MethodName := ⟨RX6, "walk", "(II)I"⟩
abbrev cX6_walked : ByteArray := prog_1_method_13_code
def yX6_walked : MethodName := ⟨RX6, "walked", "(I)I"⟩
abbrev cX6_start : ByteArray := prog_1_method_14_code
def yX6_start : MethodName := ⟨RX6, "start", "(II)Z"⟩
abbrev cX6_go : ByteArray := prog_1_method_15_code
def yX6_go : MethodName := ⟨RX6, "go", "(I)I"⟩
abbrev cX6_route : ByteArray := prog_1_method_16_code
def yX6_route : MethodName := ⟨RX6, "route", "(I)I"⟩
abbrev cX6_routed : ByteArray := prog_1_method_17_code
def yX6_routed : MethodName := ⟨RX6, "routed", "(I)I"⟩
abbrev cX6_tell : ByteArray := prog_1_method_18_code
def yX6_tell : MethodName := ⟨RX6, "tell", "()I"⟩
abbrev cX6_holds : ByteArray := prog_1_method_19_code
def yX6_holds : MethodName := ⟨RX6, "holds", "()I"⟩
abbrev cX6_slip : ByteArray := prog_1_method_20_code
def yX6_slip : MethodName := ⟨RX6, "slip", "(I)I"⟩
abbrev cX6_best : ByteArray := prog_1_method_21_code
def yX6_best : MethodName := ⟨RX6, "best", "(III)I"⟩
abbrev cX6_keep : ByteArray := prog_1_method_22_code
def yX6_keep : MethodName := ⟨RX6, "keep", "()I"⟩
abbrev cX6_still : ByteArray := prog_1_method_23_code
def yX6_still : MethodName := ⟨RX6, "still", "(I)I"⟩
abbrev cX6_count : ByteArray := prog_1_method_24_code
def yX6_count : MethodName := ⟨RX6, "count", "(I)I"⟩
abbrev cX6_isSight : ByteArray := prog_1_method_25_code
def yX6_isSight : MethodName := ⟨RX6, "isSight", "(I)Z"⟩
abbrev cX6_isExit : ByteArray := prog_1_method_26_code
def yX6_isExit : MethodName := ⟨RX6, "isExit", "(I)Z"⟩
abbrev cX6_isKind : ByteArray := prog_1_method_27_code
def yX6_isKind : MethodName := ⟨RX6, "isKind", "(I)Z"⟩
abbrev cX6_kindOf : ByteArray := prog_1_method_28_code
def yX6_kindOf : MethodName := ⟨RX6, "kindOf", "(I)I"⟩
abbrev cX6_numberOf : ByteArray := prog_1_method_29_code
def yX6_numberOf : MethodName := ⟨RX6, "numberOf", "(I)I"⟩
abbrev cX6_turned : ByteArray := prog_1_method_30_code
def yX6_turned : MethodName := ⟨RX6, "turned", "(II)I"⟩
abbrev cX6_placeOf : ByteArray := prog_1_method_31_code
def yX6_placeOf : MethodName := ⟨RX6, "placeOf", "(II)I"⟩
abbrev cX6_knotOf : ByteArray := prog_1_method_32_code
def yX6_knotOf : MethodName := ⟨RX6, "knotOf", "(I)I"⟩
abbrev cX6_exitOf : ByteArray := prog_1_method_33_code
def yX6_exitOf : MethodName := ⟨RX6, "exitOf", "(I)I"⟩
abbrev cX6_facingFrom : ByteArray := prog_1_method_34_code
def yX6_facingFrom : MethodName := ⟨RX6, "facingFrom", "(I)I"⟩
abbrev cX6_lostAnswer : ByteArray := prog_1_method_35_code
def yX6_lostAnswer : MethodName := ⟨RX6, "lostAnswer", "(I)I"⟩
abbrev cX6_exitAsked : ByteArray := prog_1_method_36_code
def yX6_exitAsked : MethodName := ⟨RX6, "exitAsked", "(LWaysTold$Row;I)I"⟩
abbrev cX6_canSlip : ByteArray := prog_1_method_37_code
def yX6_canSlip : MethodName := ⟨RX6, "canSlip", "(I)Z"⟩
abbrev cX6_isAllowed : ByteArray := prog_1_method_38_code
def yX6_isAllowed : MethodName := ⟨RX6, "isAllowed", "(I)Z"⟩
abbrev cX6_priceOf : ByteArray := prog_1_method_39_code
def yX6_priceOf : MethodName := ⟨RX6, "priceOf", "(I)I"⟩
abbrev cX6_priceOfSaid : ByteArray := prog_1_method_40_code
def yX6_priceOfSaid : MethodName := ⟨RX6, "priceOfSaid", "()I"⟩
abbrev cX6_goesAlong : ByteArray := prog_1_method_41_code
def yX6_goesAlong : MethodName := ⟨RX6, "goesAlong", "(II)Z"⟩
abbrev cX6_lastPlace : ByteArray := prog_1_method_42_code
def yX6_lastPlace : MethodName := ⟨RX6, "lastPlace", "()I"⟩
abbrev cX6_placeAfter : ByteArray := prog_1_method_43_code
def yX6_placeAfter : MethodName := ⟨RX6, "placeAfter", "(II)I"⟩
abbrev cX6_isWalkedBy : ByteArray := prog_1_method_44_code
def yX6_isWalkedBy : MethodName := ⟨RX6, "isWalkedBy", "(LWaysTold$Way;LWaysTold$Row;)Z"⟩
abbrev cX6_openChart : ByteArray := prog_1_method_45_code
def yX6_openChart : MethodName := ⟨RX6, "openChart", "(I)V"⟩
abbrev cX6_chartWay : ByteArray := prog_1_method_46_code
def yX6_chartWay : MethodName := ⟨RX6, "chartWay", "()V"⟩
abbrev cX6_chartNet : ByteArray := prog_1_method_47_code
def yX6_chartNet : MethodName := ⟨RX6, "chartNet", "(I)V"⟩
abbrev cX6_scoutFollows : ByteArray := prog_1_method_48_code
def yX6_scoutFollows : MethodName := ⟨RX6, "scoutFollows", "(II)Z"⟩
def RX7 : String := "WaysToldModel"
def TX7 : u_T := fun k => match k with
  | 0 => ("WaysToldModel", "sights", "[I", true)
  | 1 => ("WaysToldModel", "knots", "I", false)
  | 2 => ("WaysToldModel", "leads", "[I", true)
  | 3 => ("WaysToldModel", "names", "[I", true)
  | 4 => ("WaysToldModel", "prices", "[I", true)
  | 5 => ("WaysToldModel", "allowed", "I", false)
  | 6 => ("WaysToldModel", "saidKind", "[I", true)
  | 7 => ("WaysToldModel", "saidNumber", "[I", true)
  | 8 => ("WaysToldModel", "said", "I", false)
  | 9 => ("WaysToldModel", "isRoute", "Z", false)
  | 10 => ("WaysToldModel", "routeKnot", "I", false)
  | 11 => ("WaysToldModel", "routeFacing", "I", false)
  | 12 => ("WaysToldModel", "exits", "[I", true)
  | 13 => ("WaysToldModel", "exitMany", "I", false)
  | 14 => ("WaysToldModel", "wasWalk", "Z", false)
  | 15 => ("WaysToldModel", "walkKnot", "I", false)
  | 16 => ("WaysToldModel", "walkFacing", "I", false)
  | 17 => ("WaysToldModel", "walkMany", "I", false)
  | 18 => ("WaysToldModel", "walkExits", "[I", true)
  | 19 => ("WaysToldModel", "keptKnot", "[I", true)
  | 20 => ("WaysToldModel", "keptFacing", "[I", true)
  | 21 => ("WaysToldModel", "keptExits", "[I", true)
  | 22 => ("WaysToldModel", "keptExitMany", "[I", true)
  | 23 => ("WaysToldModel", "keptKind", "[I", true)
  | 24 => ("WaysToldModel", "keptNumber", "[I", true)
  | 25 => ("WaysToldModel", "keptSaid", "[I", true)
  | 26 => ("WaysToldModel", "kept", "I", false)
  | 27 => ("WaysToldModel", "atKnot", "I", false)
  | 28 => ("WaysToldModel", "atFacing", "I", false)
  | 29 => ("WaysToldModel", "path", "[I", true)
  | 30 => ("WaysToldModel", "pathMany", "I", false)
  | 31 => ("WaysToldModel", "placeKnot", "[I", true)
  | 32 => ("WaysToldModel", "placeFacing", "[I", true)
  | 33 => ("WaysToldModel", "far", "[I", true)
  | 34 => ("WaysToldModel", "restPrice", "[I", true)
  | 35 => ("WaysToldModel", "restMany", "[I", true)
  | 36 => ("WaysToldModel", "restKind", "[I", true)
  | _ => ("WaysToldModel", "restNumber", "[I", true)
def tyX7 : Nat → FieldType := fun k => match k with
  | 0 => .array .int
  | 1 => .int
  | 2 => .array .int
  | 3 => .array .int
  | 4 => .array .int
  | 5 => .int
  | 6 => .array .int
  | 7 => .array .int
  | 8 => .int
  | 9 => .boolean
  | 10 => .int
  | 11 => .int
  | 12 => .array .int
  | 13 => .int
  | 14 => .boolean
  | 15 => .int
  | 16 => .int
  | 17 => .int
  | 18 => .array .int
  | 19 => .array .int
  | 20 => .array .int
  | 21 => .array .int
  | 22 => .array .int
  | 23 => .array .int
  | 24 => .array .int
  | 25 => .array .int
  | 26 => .int
  | 27 => .int
  | 28 => .int
  | 29 => .array .int
  | 30 => .int
  | 31 => .array .int
  | 32 => .array .int
  | 33 => .array .int
  | 34 => .array .int
  | 35 => .array .int
  | 36 => .array .int
  | _ => .array .int
abbrev wsX70 : List Cond := u_ws RX7 TX7 38
theorem nmX7 : ∀ a, a < 38 → ∀ b, b < 38 → a ≠ b → (TX7 a).2.1 ≠ (TX7 b).2.1 := by decide +kernel
theorem tyX7_ok : ∀ k, k < 38 → parseFieldDescriptor (TX7 k).2.2.1 = some (tyX7 k) := by decide +kernel
abbrev cX7_init : ByteArray := prog_9_method_1_code
def yX7_init : MethodName := ⟨RX7, "<init>", "()V"⟩
abbrev cX7_in : ByteArray := prog_9_method_2_code
def yX7_in : MethodName := ⟨RX7, "in", "(III)Z"⟩
abbrev cX7_isKnot : ByteArray := prog_9_method_3_code
def yX7_isKnot : MethodName := ⟨RX7, "isKnot", "(I)Z"⟩
abbrev cX7_isExit : ByteArray := prog_9_method_4_code
def yX7_isExit : MethodName := ⟨RX7, "isExit", "(II)Z"⟩
abbrev cX7_knot : ByteArray := prog_9_method_5_code
def yX7_knot : MethodName := ⟨RX7, "knot", "(I)I"⟩
abbrev cX7_street : ByteArray := prog_9_method_6_code
def yX7_street : MethodName := ⟨RX7, "street", "(IIIII)Z"⟩
abbrev cX7_goesBy : ByteArray := prog_9_method_7_code
def yX7_goesBy : MethodName := ⟨RX7, "goesBy", "(I)Z"⟩
abbrev cX7_close : ByteArray := prog_9_method_8_code
def yX7_close : MethodName := ⟨RX7, "close", "(II)Z"⟩
abbrev cX7_sight : ByteArray := prog_9_method_9_code
def yX7_sight : MethodName := ⟨RX7, "sight", "(II)Z"⟩
abbrev cX7_look : ByteArray := prog_9_method_10_code
def yX7_look : MethodName := ⟨RX7, "look", "(III)I"⟩
abbrev cX7_price : ByteArray := prog_9_method_11_code
def yX7_price : MethodName := ⟨RX7, "price", "(II)I"⟩
abbrev cX7_allow : ByteArray := prog_9_method_12_code
def yX7_allow : MethodName := ⟨RX7, "allow", "(I)I"⟩
abbrev cX7_mostOf : ByteArray := prog_9_method_13_code
def yX7_mostOf : MethodName := ⟨RX7, "mostOf", "(I)I"⟩
abbrev cX7_isSaying : ByteArray := prog_9_method_14_code
def yX7_isSaying : MethodName := ⟨RX7, "isSaying", "(II)Z"⟩
abbrev cX7_goBy : ByteArray := prog_9_method_15_code
def yX7_goBy : MethodName := ⟨RX7, "goBy", "(I)Z"⟩
abbrev cX7_has : ByteArray := prog_9_method_16_code
def yX7_has : MethodName := ⟨RX7, "has", "(I)Z"⟩
abbrev cX7_goNamed : ByteArray := prog_9_method_17_code
def yX7_goNamed : MethodName := ⟨RX7, "goNamed", "(I)Z"⟩
abbrev cX7_does : ByteArray := prog_9_method_18_code
def yX7_does : MethodName := ⟨RX7, "does", "(III)Z"⟩
abbrev cX7_say : ByteArray := prog_9_method_19_code
def yX7_say : MethodName := ⟨RX7, "say", "(II)I"⟩
abbrev cX7_hush : ByteArray := prog_9_method_20_code
def yX7_hush : MethodName := ⟨RX7, "hush", "()I"⟩
abbrev cX7_said : ByteArray := prog_9_method_21_code
def yX7_said : MethodName := ⟨RX7, "said", "(I)I"⟩
abbrev cX7_walk : ByteArray := prog_9_method_22_code
def yX7_walk : MethodName := ⟨RX7, "walk", "(II)I"⟩
abbrev cX7_walked : ByteArray := prog_9_method_23_code
def yX7_walked : MethodName := ⟨RX7, "walked", "(I)I"⟩
abbrev cX7_start : ByteArray := prog_9_method_24_code
def yX7_start : MethodName := ⟨RX7, "start", "(II)Z"⟩
abbrev cX7_follow : ByteArray := prog_9_method_25_code
def yX7_follow : MethodName := ⟨RX7, "follow", "(II[III)Z"⟩
abbrev cX7_go : ByteArray := prog_9_method_26_code
def yX7_go : MethodName := ⟨RX7, "go", "(I)I"⟩
abbrev cX7_route : ByteArray := prog_9_method_27_code
def yX7_route : MethodName := ⟨RX7, "route", "(I)I"⟩
abbrev cX7_routed : ByteArray := prog_9_method_28_code
def yX7_routed : MethodName := ⟨RX7, "routed", "(I)I"⟩
abbrev cX7_along : ByteArray := prog_9_method_29_code
def yX7_along : MethodName := ⟨RX7, "along", "(III)I"⟩
abbrev cX7_isAllowed : ByteArray := prog_9_method_30_code
def yX7_isAllowed : MethodName := ⟨RX7, "isAllowed", "(I)Z"⟩
abbrev cX7_offer : ByteArray := prog_9_method_31_code
def yX7_offer : MethodName := ⟨RX7, "offer", "(IIIII)V"⟩
abbrev cX7_tell : ByteArray := prog_9_method_32_code
def yX7_tell : MethodName := ⟨RX7, "tell", "()I"⟩
abbrev cX7_tells : ByteArray := prog_9_method_33_code
def yX7_tells : MethodName := ⟨RX7, "tells", "(II[III[I[III)Z"⟩
abbrev cX7_holds : ByteArray := prog_9_method_34_code
def yX7_holds : MethodName := ⟨RX7, "holds", "()I"⟩
abbrev cX7_slip : ByteArray := prog_9_method_35_code
def yX7_slip : MethodName := ⟨RX7, "slip", "(I)I"⟩
abbrev cX7_from : ByteArray := prog_9_method_36_code
def yX7_from : MethodName := ⟨RX7, "from", "(III)I"⟩
abbrev cX7_best : ByteArray := prog_9_method_37_code
def yX7_best : MethodName := ⟨RX7, "best", "(III)I"⟩
abbrev cX7_offerAll : ByteArray := prog_9_method_38_code
def yX7_offerAll : MethodName := ⟨RX7, "offerAll", "(I)V"⟩
abbrev cX7_offerJust : ByteArray := prog_9_method_39_code
def yX7_offerJust : MethodName := ⟨RX7, "offerJust", "(III)V"⟩
abbrev cX7_keep : ByteArray := prog_9_method_40_code
def yX7_keep : MethodName := ⟨RX7, "keep", "()I"⟩
abbrev cX7_still : ByteArray := prog_9_method_41_code
def yX7_still : MethodName := ⟨RX7, "still", "(I)I"⟩
abbrev cX7_count : ByteArray := prog_9_method_42_code
def yX7_count : MethodName := ⟨RX7, "count", "(I)I"⟩
def RJ9 : String := "java/lang/Math"
def RJ10 : String := "java/lang/System"
def RL : String := "WaysToldLaw"
abbrev cL_law : ByteArray := code
def yL_law : MethodName := ⟨RL, "law", "([I)Z"⟩
abbrev vwCl : List vw_C := [(RX0, TX0, 4), (RX1, TX1, 2), (RX2, TX2, 7), (RX3, TX3, 2), (RX4, TX4, 6), (RX5, TX5, 4), (RX6, TX6, 11), (RX7, TX7, 38)]
